def f_X6_init (h : HP) (r0 : Nat) : Option XR :=
  x_na h 1 0 fun h2 a1 =>
  x_pR h2 r0 6 0 a1 fun h3 =>
  x_pI h3 r0 6 1 0 fun h4 =>
  x_pI h4 r0 6 2 0 fun h5 =>
  x_pI h5 r0 6 3 0 fun h6 =>
  x_pI h6 r0 6 4 0 fun h7 =>
  x_pZ h7 r0 6 5 0 fun h8 =>
  x_pI h8 r0 6 6 0 fun h9 =>
  x_na h9 0 65 fun h11 a10 =>
  x_pR h11 r0 6 7 a10 fun h12 =>
  x_na h12 0 5 fun h14 a13 =>
  x_pR h14 r0 6 8 a13 fun h15 =>
  x_pI h15 r0 6 9 0 fun h16 =>
  x_na h16 0 4 fun h18 a17 =>
  x_pR h18 r0 6 10 a17 fun h19 =>
  x_na h19 0 4 fun h21 a20 =>
  x_pR h21 r0 6 11 a20 fun h22 =>
  some (h22, xv)
set_option maxRecDepth 100000 in
set_option maxHeartbeats 4000000 in
theorem ct_X6_init (E : XE) (l : Launch) (hl0 : l.stackTraces = false) (h : HP) (r0 : Nat) : x_ct E l yX6_init (Cond.code yX6_init cX6_init 1 none) 8 130 5 78 [.ref (xa E r0)] h (f_X6_init h r0) := by
  refine x_ofW hl0 (by decide +kernel) ?_
  intro z hf p e s m args below meth c C0 hxt hargs hR
  subst hargs
  have C0 : x_C E p l s m meth c ([.ref (xa E r0)] : List Value).toArray cX6_init 1 "GridEngine$TrackText" "<init>" none := C0
  obtain ⟨hx, hb, -⟩ := id C0
  have hS : va_S (x_A E) s.heap s.heap [] := va_S.rf
  have hl := lv_entry ([.ref (xa E r0)]) (n := 1) (Nat.le_of_ble_eq_true rfl)
  rw [lg_entry_eq]
  generalize (lg_sl ([.ref (xa E r0)]) ++ List.replicate (1 - (lg_sl ([.ref (xa E r0)])).length) Slot.unset).toArray = ls at hl ⊢
  have hl : lv_has ls 1 [(0, .ref (xa E r0))] := hl
  unfold f_X6_init at hf
  have h0 : x_by cX6_init 0 [42, 183, 0, 3, 42, 3, 188, 5, 181, 0, 9, 42, 3, 181, 0, 15, 42, 3, 181, 0, 19, 42, 3, 181, 0, 22, 42, 3, 181, 0, 25, 42, 3, 181, 0, 28, 42, 3, 181, 0, 32, 42, 16, 65, 188, 10, 181, 0, 35, 42, 8, 188, 10, 181, 0, 39, 42, 3, 181, 0, 42, 42, 7, 188, 10, 181, 0, 45, 42, 7, 188, 10, 181, 0, 48, 177] := by unfold x_by; decide +kernel
  obtain ⟨d0, h0⟩ := de_aload_n0 h0
  obtain ⟨d1, h0⟩ := de_invokespecial 3 (by decide) h0
  obtain ⟨d4, h0⟩ := de_aload_n0 h0
  obtain ⟨d5, h0⟩ := de_iconst_0 h0
  obtain ⟨d6, h0⟩ := de_newarray_char h0
  obtain ⟨d8, h0⟩ := de_putfield 9 (by decide) h0
  obtain ⟨d11, h0⟩ := de_aload_n0 h0
  obtain ⟨d12, h0⟩ := de_iconst_0 h0
  obtain ⟨d13, h0⟩ := de_putfield 15 (by decide) h0
  obtain ⟨d16, h0⟩ := de_aload_n0 h0
  obtain ⟨d17, h0⟩ := de_iconst_0 h0
  obtain ⟨d18, h0⟩ := de_putfield 19 (by decide) h0
  obtain ⟨d21, h0⟩ := de_aload_n0 h0
  obtain ⟨d22, h0⟩ := de_iconst_0 h0
  obtain ⟨d23, h0⟩ := de_putfield 22 (by decide) h0
  obtain ⟨d26, h0⟩ := de_aload_n0 h0
  obtain ⟨d27, h0⟩ := de_iconst_0 h0
  obtain ⟨d28, h0⟩ := de_putfield 25 (by decide) h0
  obtain ⟨d31, h0⟩ := de_aload_n0 h0
  obtain ⟨d32, h0⟩ := de_iconst_0 h0
  obtain ⟨d33, h0⟩ := de_putfield 28 (by decide) h0
  obtain ⟨d36, h0⟩ := de_aload_n0 h0
  obtain ⟨d37, h0⟩ := de_iconst_0 h0
  obtain ⟨d38, h0⟩ := de_putfield 32 (by decide) h0
  obtain ⟨d41, h0⟩ := de_aload_n0 h0
  obtain ⟨d42, h0⟩ := de_bipush (65) (by decide) h0
  obtain ⟨d44, h0⟩ := de_newarray_int h0
  obtain ⟨d46, h0⟩ := de_putfield 35 (by decide) h0
  obtain ⟨d49, h0⟩ := de_aload_n0 h0
  obtain ⟨d50, h0⟩ := de_iconst_5 h0
  obtain ⟨d51, h0⟩ := de_newarray_int h0
  obtain ⟨d53, h0⟩ := de_putfield 39 (by decide) h0
  obtain ⟨d56, h0⟩ := de_aload_n0 h0
  obtain ⟨d57, h0⟩ := de_iconst_0 h0
  obtain ⟨d58, h0⟩ := de_putfield 42 (by decide) h0
  obtain ⟨d61, h0⟩ := de_aload_n0 h0
  obtain ⟨d62, h0⟩ := de_iconst_4 h0
  obtain ⟨d63, h0⟩ := de_newarray_int h0
  obtain ⟨d65, h0⟩ := de_putfield 45 (by decide) h0
  obtain ⟨d68, h0⟩ := de_aload_n0 h0
  obtain ⟨d69, h0⟩ := de_iconst_4 h0
  obtain ⟨d70, h0⟩ := de_newarray_int h0
  obtain ⟨d72, h0⟩ := de_putfield 48 (by decide) h0
  obtain ⟨d75, h0⟩ := de_return h0
  refine lv_aload_n hx hb d0 rfl (lv_at hl 0 rfl) ?_
  refine x_oinit C0 hl.1 ml_X6_3 lib_oinit (Nat.le_of_ble_eq_true rfl) (Nat.le_of_ble_eq_true rfl) d1 ?_
  refine lv_aload_n hx hb d4 rfl (lv_at hl 0 rfl) ?_
  refine lv_iconst (v := 0) hx hb d5 (by decide) ?_
  refine x_newa (t := 1) C0 hR hS hf rfl (by decide) ac_1 (N := 0) (by decide) (Nat.le_of_ble_eq_true rfl) (Nat.le_of_ble_eq_true rfl) d6 (fun H a1 hR hS hf => ?_)
  refine x_putR C0 hR hS hf xcl_6 (Nat.le_of_ble_eq_true rfl) rfl fl_X6_9 (Or.inl rfl) d8 (fun H locs hR hS hf => ?_)
  refine lv_aload_n hx hb d11 rfl (lv_at hl 0 rfl) ?_
  refine lv_iconst (v := 0) hx hb d12 (by decide) ?_
  refine x_putI C0 hR hS hf xcl_6 (Nat.le_of_ble_eq_true rfl) rfl fl_X6_15 (Or.inl rfl) d13 (fun H locs hR hS hf => ?_)
  refine lv_aload_n hx hb d16 rfl (lv_at hl 0 rfl) ?_
  refine lv_iconst (v := 0) hx hb d17 (by decide) ?_
  refine x_putI C0 hR hS hf xcl_6 (Nat.le_of_ble_eq_true rfl) rfl fl_X6_19 (Or.inl rfl) d18 (fun H locs hR hS hf => ?_)
  refine lv_aload_n hx hb d21 rfl (lv_at hl 0 rfl) ?_
  refine lv_iconst (v := 0) hx hb d22 (by decide) ?_
  refine x_putI C0 hR hS hf xcl_6 (Nat.le_of_ble_eq_true rfl) rfl fl_X6_22 (Or.inl rfl) d23 (fun H locs hR hS hf => ?_)
  refine lv_aload_n hx hb d26 rfl (lv_at hl 0 rfl) ?_
  refine lv_iconst (v := 0) hx hb d27 (by decide) ?_
  refine x_putI C0 hR hS hf xcl_6 (Nat.le_of_ble_eq_true rfl) rfl fl_X6_25 (Or.inl rfl) d28 (fun H locs hR hS hf => ?_)
  refine lv_aload_n hx hb d31 rfl (lv_at hl 0 rfl) ?_
  refine lv_iconst (v := 0) hx hb d32 (by decide) ?_
  refine x_putZ C0 hR hS hf xcl_6 (Nat.le_of_ble_eq_true rfl) rfl fl_X6_28 (Or.inl rfl) d33 (fun H locs hR hS hf => ?_)
  refine lv_aload_n hx hb d36 rfl (lv_at hl 0 rfl) ?_
  refine lv_iconst (v := 0) hx hb d37 (by decide) ?_
  refine x_putI C0 hR hS hf xcl_6 (Nat.le_of_ble_eq_true rfl) rfl fl_X6_32 (Or.inl rfl) d38 (fun H locs hR hS hf => ?_)
  refine lv_aload_n hx hb d41 rfl (lv_at hl 0 rfl) ?_
  refine lv_bipush (v := 65) hx hb d42 (by decide) ?_
  refine x_newa (t := 0) C0 hR hS hf rfl (by decide) ac_0 (N := 65) (by decide) (Nat.le_of_ble_eq_true rfl) (Nat.le_of_ble_eq_true rfl) d44 (fun H a10 hR hS hf => ?_)
  refine x_putR C0 hR hS hf xcl_6 (Nat.le_of_ble_eq_true rfl) rfl fl_X6_35 (Or.inr ⟨rfl, rfl, fm_X6_35⟩) d46 (fun H locs hR hS hf => ?_)
  refine lv_aload_n hx hb d49 rfl (lv_at hl 0 rfl) ?_
  refine lv_iconst (v := 5) hx hb d50 (by decide) ?_
  refine x_newa (t := 0) C0 hR hS hf rfl (by decide) ac_0 (N := 5) (by decide) (Nat.le_of_ble_eq_true rfl) (Nat.le_of_ble_eq_true rfl) d51 (fun H a13 hR hS hf => ?_)
  refine x_putR C0 hR hS hf xcl_6 (Nat.le_of_ble_eq_true rfl) rfl fl_X6_39 (Or.inr ⟨rfl, rfl, fm_X6_39⟩) d53 (fun H locs hR hS hf => ?_)
  refine lv_aload_n hx hb d56 rfl (lv_at hl 0 rfl) ?_
  refine lv_iconst (v := 0) hx hb d57 (by decide) ?_
  refine x_putI C0 hR hS hf xcl_6 (Nat.le_of_ble_eq_true rfl) rfl fl_X6_42 (Or.inl rfl) d58 (fun H locs hR hS hf => ?_)
  refine lv_aload_n hx hb d61 rfl (lv_at hl 0 rfl) ?_
  refine lv_iconst (v := 4) hx hb d62 (by decide) ?_
  refine x_newa (t := 0) C0 hR hS hf rfl (by decide) ac_0 (N := 4) (by decide) (Nat.le_of_ble_eq_true rfl) (Nat.le_of_ble_eq_true rfl) d63 (fun H a17 hR hS hf => ?_)
  refine x_putR C0 hR hS hf xcl_6 (Nat.le_of_ble_eq_true rfl) rfl fl_X6_45 (Or.inr ⟨rfl, rfl, fm_X6_45⟩) d65 (fun H locs hR hS hf => ?_)
  refine lv_aload_n hx hb d68 rfl (lv_at hl 0 rfl) ?_
  refine lv_iconst (v := 4) hx hb d69 (by decide) ?_
  refine x_newa (t := 0) C0 hR hS hf rfl (by decide) ac_0 (N := 4) (by decide) (Nat.le_of_ble_eq_true rfl) (Nat.le_of_ble_eq_true rfl) d70 (fun H a20 hR hS hf => ?_)
  refine x_putR C0 hR hS hf xcl_6 (Nat.le_of_ble_eq_true rfl) rfl fl_X6_48 (Or.inr ⟨rfl, rfl, fm_X6_48⟩) d72 (fun H locs hR hS hf => ?_)
  exact x_vret C0 hR hS hf (Nat.le_of_ble_eq_true rfl) (Nat.le_of_ble_eq_true rfl) d75
def f_X6_addTrack_b45  (h : HP)  : Option XR :=
  some (h, xv)
def f_X6_addTrack (h : HP) (r0 : Nat) : Option XR :=
  x_gI h r0 6 6 fun i1 =>
  if i1 < 0 then
    (
      f_X6_addTrack_b45 h
    )
  else
    (
      x_gI h r0 6 6 fun i2 =>
      if 13 ≤ i2 then
        (
          f_X6_addTrack_b45 h
        )
      else
        (
          x_gR h r0 6 8 fun a3 =>
          x_gR h r0 6 7 fun a4 =>
          x_gI h r0 6 6 fun i5 =>
          x_cp h a3 0 a4 (i5 * 5) 5 fun h6 =>
          x_gI h6 r0 6 6 fun i7 =>
          x_pI h6 r0 6 6 (i7 + 1) fun h8 =>
          f_X6_addTrack_b45 h8
        )
    )
set_option maxRecDepth 100000 in
set_option maxHeartbeats 4000000 in
theorem s_X6_addTrack_b45 {p : Program} {l : Launch} {e : Env} {s : State} {m : MethodId} {args : Array Value} {below : List Frame} {meth : Method} {c : Code} {E : XE} {z : XR} (C0 : x_C E p l s m meth c args cX6_addTrack 1 "GridEngine$TrackText" "addTrack" none) (hxt : ∀ x ∈ c.exceptionTable.toList, False)  : ∀ (h : HP)  (H : Heap) (locs : List Loc) (ls : Array Slot), x_Rep E h H → va_S (x_A E) s.heap H locs → lv_has ls 1 [] → f_X6_addTrack_b45 h  = some z → W p l e ({ frames := 8, cells := 0, slots := 0, locals := 130 } : Room) s m args below meth c H locs 0 0 (x_Q E below args s 0 0 z) (F0 m 45 ls []) := by
  intro h  H locs ls hR hS hl hf
  obtain ⟨hx, hb, -⟩ := id C0
  unfold f_X6_addTrack_b45 at hf
  have h0 : x_by cX6_addTrack 45 [177] := by unfold x_by; decide +kernel
  obtain ⟨d45, h0⟩ := de_return h0
  exact x_vret C0 hR hS hf (Nat.le_of_ble_eq_true rfl) (Nat.le_of_ble_eq_true rfl) d45
set_option maxRecDepth 100000 in
set_option maxHeartbeats 4000000 in
theorem ct_X6_addTrack (E : XE) (l : Launch) (hl0 : l.stackTraces = false) (h : HP) (r0 : Nat) : x_ct E l yX6_addTrack (Cond.code yX6_addTrack cX6_addTrack 1 none) 8 130 0 0 [.ref (xa E r0)] h (f_X6_addTrack h r0) := by
  refine x_ofW hl0 (by decide +kernel) ?_
  intro z hf p e s m args below meth c C0 hxt hargs hR
  subst hargs
  have C0 : x_C E p l s m meth c ([.ref (xa E r0)] : List Value).toArray cX6_addTrack 1 "GridEngine$TrackText" "addTrack" none := C0
  obtain ⟨hx, hb, -⟩ := id C0
  have hS : va_S (x_A E) s.heap s.heap [] := va_S.rf
  have hl := lv_entry ([.ref (xa E r0)]) (n := 1) (Nat.le_of_ble_eq_true rfl)
  rw [lg_entry_eq]
  generalize (lg_sl ([.ref (xa E r0)]) ++ List.replicate (1 - (lg_sl ([.ref (xa E r0)])).length) Slot.unset).toArray = ls at hl ⊢
  have hl : lv_has ls 1 [(0, .ref (xa E r0))] := hl
  unfold f_X6_addTrack at hf
  have h0 : x_by cX6_addTrack 0 [42, 180, 0, 32, 155, 0, 41] := by unfold x_by; decide +kernel
  obtain ⟨d0, h0⟩ := de_aload_n0 h0
  obtain ⟨d1, h0⟩ := de_getfield 32 (by decide) h0
  obtain ⟨d4, h0⟩ := de_if_lt (41) (by decide) h0
  refine lv_aload_n hx hb d0 rfl (lv_at hl 0 rfl) ?_
  refine x_getI C0 hR hf xcl_6 (Nat.le_of_ble_eq_true rfl) rfl fl_X6_32 d1 (fun i1 hf => ?_)
  refine lv_if_lt (tgt := 45) hx hb d4 (by decide) (fun q => ?_) (fun q => ?_)
  · have hf := x_pos q hf
    exact s_X6_addTrack_b45 C0 hxt _ _ _ _ hR hS (lv_sub hl [] rfl) hf
  · have hf := x_neg q hf
    have h0 : x_by cX6_addTrack 7 [42, 180, 0, 32, 16, 13, 162, 0, 32] := by unfold x_by; decide +kernel
    obtain ⟨d7, h0⟩ := de_aload_n0 h0
    obtain ⟨d8, h0⟩ := de_getfield 32 (by decide) h0
    obtain ⟨d11, h0⟩ := de_bipush (13) (by decide) h0
    obtain ⟨d13, h0⟩ := de_icmp_ge (32) (by decide) h0
    refine lv_aload_n hx hb d7 rfl (lv_at hl 0 rfl) ?_
    refine x_getI C0 hR hf xcl_6 (Nat.le_of_ble_eq_true rfl) rfl fl_X6_32 d8 (fun i2 hf => ?_)
    refine lv_bipush (v := 13) hx hb d11 (by decide) ?_
    refine lv_icmp_ge (tgt := 45) hx hb d13 (by decide) (fun q => ?_) (fun q => ?_)
    · have hf := x_pos q hf
      exact s_X6_addTrack_b45 C0 hxt _ _ _ _ hR hS (lv_sub hl [] rfl) hf
    · have hf := x_neg q hf
      have h0 : x_by cX6_addTrack 16 [42, 180, 0, 39, 3, 42, 180, 0, 35, 42, 180, 0, 32, 8, 104, 8, 184, 0, 111, 42, 89, 180, 0, 32, 4, 96, 181, 0, 32] := by unfold x_by; decide +kernel
      obtain ⟨d16, h0⟩ := de_aload_n0 h0
      obtain ⟨d17, h0⟩ := de_getfield 39 (by decide) h0
      obtain ⟨d20, h0⟩ := de_iconst_0 h0
      obtain ⟨d21, h0⟩ := de_aload_n0 h0
      obtain ⟨d22, h0⟩ := de_getfield 35 (by decide) h0
      obtain ⟨d25, h0⟩ := de_aload_n0 h0
      obtain ⟨d26, h0⟩ := de_getfield 32 (by decide) h0
      obtain ⟨d29, h0⟩ := de_iconst_5 h0
      obtain ⟨d30, h0⟩ := de_imul h0
      obtain ⟨d31, h0⟩ := de_iconst_5 h0
      obtain ⟨d32, h0⟩ := de_invokestatic 111 (by decide) h0
      obtain ⟨d35, h0⟩ := de_aload_n0 h0
      obtain ⟨d36, h0⟩ := de_dup h0
      obtain ⟨d37, h0⟩ := de_getfield 32 (by decide) h0
      obtain ⟨d40, h0⟩ := de_iconst_1 h0
      obtain ⟨d41, h0⟩ := de_iadd h0
      obtain ⟨d42, h0⟩ := de_putfield 32 (by decide) h0
      refine lv_aload_n hx hb d16 rfl (lv_at hl 0 rfl) ?_
      refine x_getR C0 hR hf xcl_6 (Nat.le_of_ble_eq_true rfl) rfl fl_X6_39 d17 (fun a3 hf => ?_)
      refine lv_iconst (v := 0) hx hb d20 (by decide) ?_
      refine lv_aload_n hx hb d21 rfl (lv_at hl 0 rfl) ?_
      refine x_getR C0 hR hf xcl_6 (Nat.le_of_ble_eq_true rfl) rfl fl_X6_35 d22 (fun a4 hf => ?_)
      refine lv_aload_n hx hb d25 rfl (lv_at hl 0 rfl) ?_
      refine x_getI C0 hR hf xcl_6 (Nat.le_of_ble_eq_true rfl) rfl fl_X6_32 d26 (fun i5 hf => ?_)
      refine lv_iconst (v := 5) hx hb d29 (by decide) ?_
      refine lv_imul hx hb d30 ?_
      refine lv_iconst (v := 5) hx hb d31 (by decide) ?_
      refine x_acopy C0 hR hS hl.1 hf ml_X6_111 lib_acopy (Nat.le_of_ble_eq_true rfl) (Nat.le_of_ble_eq_true rfl) d32 (fun H locs hR hS hf => ?_)
      refine lv_aload_n hx hb d35 rfl (lv_at hl 0 rfl) ?_
      refine lv_dup hx hb d36 rfl ?_
      refine x_getI C0 hR hf xcl_6 (Nat.le_of_ble_eq_true rfl) rfl fl_X6_32 d37 (fun i7 hf => ?_)
      refine lv_iconst (v := 1) hx hb d40 (by decide) ?_
      refine lv_iadd hx hb d41 ?_
      refine x_putI C0 hR hS hf xcl_6 (Nat.le_of_ble_eq_true rfl) rfl fl_X6_32 (Or.inl rfl) d42 (fun H locs hR hS hf => ?_)
      exact s_X6_addTrack_b45 C0 hxt _ _ _ _ hR hS (lv_sub hl [] rfl) hf
def f_X6_copyTrack_b38  (h : HP)  : Option XR :=
  some (h, xv)
def f_X6_copyTrack (h : HP) (r0 : Nat) (x1 : Int32) (x2 : Int32) : Option XR :=
  if x1 < 0 then
    (
      f_X6_copyTrack_b38 h
    )
  else
    (
      if 13 ≤ x1 then
        (
          f_X6_copyTrack_b38 h
        )
      else
        (
          if x2 < 0 then
            (
              f_X6_copyTrack_b38 h
            )
          else
            (
              if 13 ≤ x2 then
                (
                  f_X6_copyTrack_b38 h
                )
              else
                (
                  x_gR h r0 6 7 fun a1 =>
                  x_gR h r0 6 7 fun a2 =>
                  x_cp h a1 (x1 * 5) a2 (x2 * 5) 5 fun h3 =>
                  f_X6_copyTrack_b38 h3
                )
            )
        )
    )
set_option maxRecDepth 100000 in
set_option maxHeartbeats 4000000 in
theorem s_X6_copyTrack_b38 {p : Program} {l : Launch} {e : Env} {s : State} {m : MethodId} {args : Array Value} {below : List Frame} {meth : Method} {c : Code} {E : XE} {z : XR} (C0 : x_C E p l s m meth c args cX6_copyTrack 3 "GridEngine$TrackText" "copyTrack" none) (hxt : ∀ x ∈ c.exceptionTable.toList, False)  : ∀ (h : HP)  (H : Heap) (locs : List Loc) (ls : Array Slot), x_Rep E h H → va_S (x_A E) s.heap H locs → lv_has ls 3 [] → f_X6_copyTrack_b38 h  = some z → W p l e ({ frames := 8, cells := 0, slots := 0, locals := 130 } : Room) s m args below meth c H locs 0 0 (x_Q E below args s 0 0 z) (F0 m 38 ls []) := by
  intro h  H locs ls hR hS hl hf
  obtain ⟨hx, hb, -⟩ := id C0
  unfold f_X6_copyTrack_b38 at hf
  have h0 : x_by cX6_copyTrack 38 [177] := by unfold x_by; decide +kernel
  obtain ⟨d38, h0⟩ := de_return h0
  exact x_vret C0 hR hS hf (Nat.le_of_ble_eq_true rfl) (Nat.le_of_ble_eq_true rfl) d38
set_option maxRecDepth 100000 in
set_option maxHeartbeats 4000000 in
theorem ct_X6_copyTrack (E : XE) (l : Launch) (hl0 : l.stackTraces = false) (h : HP) (r0 : Nat) (x1 : Int32) (x2 : Int32) : x_ct E l yX6_copyTrack (Cond.code yX6_copyTrack cX6_copyTrack 3 none) 8 130 0 0 [.ref (xa E r0), .int x1, .int x2] h (f_X6_copyTrack h r0 x1 x2) := by
  refine x_ofW hl0 (by decide +kernel) ?_
  intro z hf p e s m args below meth c C0 hxt hargs hR
  subst hargs
  have C0 : x_C E p l s m meth c ([.ref (xa E r0), .int x1, .int x2] : List Value).toArray cX6_copyTrack 3 "GridEngine$TrackText" "copyTrack" none := C0
  obtain ⟨hx, hb, -⟩ := id C0
  have hS : va_S (x_A E) s.heap s.heap [] := va_S.rf
  have hl := lv_entry ([.ref (xa E r0), .int x1, .int x2]) (n := 3) (Nat.le_of_ble_eq_true rfl)
  rw [lg_entry_eq]
  generalize (lg_sl ([.ref (xa E r0), .int x1, .int x2]) ++ List.replicate (3 - (lg_sl ([.ref (xa E r0), .int x1, .int x2])).length) Slot.unset).toArray = ls at hl ⊢
  have hl : lv_has ls 3 [(0, .ref (xa E r0)), (1, .int x1), (2, .int x2)] := hl
  unfold f_X6_copyTrack at hf
  have h0 : x_by cX6_copyTrack 0 [27, 155, 0, 37] := by unfold x_by; decide +kernel
  obtain ⟨d0, h0⟩ := de_iload_n1 h0
  obtain ⟨d1, h0⟩ := de_if_lt (37) (by decide) h0
  refine lv_iload_n hx hb d0 rfl (lv_at hl 1 rfl) ?_
  refine lv_if_lt (tgt := 38) hx hb d1 (by decide) (fun q => ?_) (fun q => ?_)
  · have hf := x_pos q hf
    exact s_X6_copyTrack_b38 C0 hxt _ _ _ _ hR hS (lv_sub hl [] rfl) hf
  · have hf := x_neg q hf
    have h0 : x_by cX6_copyTrack 4 [27, 16, 13, 162, 0, 31] := by unfold x_by; decide +kernel
    obtain ⟨d4, h0⟩ := de_iload_n1 h0
    obtain ⟨d5, h0⟩ := de_bipush (13) (by decide) h0
    obtain ⟨d7, h0⟩ := de_icmp_ge (31) (by decide) h0
    refine lv_iload_n hx hb d4 rfl (lv_at hl 1 rfl) ?_
    refine lv_bipush (v := 13) hx hb d5 (by decide) ?_
    refine lv_icmp_ge (tgt := 38) hx hb d7 (by decide) (fun q => ?_) (fun q => ?_)
    · have hf := x_pos q hf
      exact s_X6_copyTrack_b38 C0 hxt _ _ _ _ hR hS (lv_sub hl [] rfl) hf
    · have hf := x_neg q hf
      have h0 : x_by cX6_copyTrack 10 [28, 155, 0, 27] := by unfold x_by; decide +kernel
      obtain ⟨d10, h0⟩ := de_iload_n2 h0
      obtain ⟨d11, h0⟩ := de_if_lt (27) (by decide) h0
      refine lv_iload_n hx hb d10 rfl (lv_at hl 2 rfl) ?_
      refine lv_if_lt (tgt := 38) hx hb d11 (by decide) (fun q => ?_) (fun q => ?_)
      · have hf := x_pos q hf
        exact s_X6_copyTrack_b38 C0 hxt _ _ _ _ hR hS (lv_sub hl [] rfl) hf
      · have hf := x_neg q hf
        have h0 : x_by cX6_copyTrack 14 [28, 16, 13, 162, 0, 21] := by unfold x_by; decide +kernel
        obtain ⟨d14, h0⟩ := de_iload_n2 h0
        obtain ⟨d15, h0⟩ := de_bipush (13) (by decide) h0
        obtain ⟨d17, h0⟩ := de_icmp_ge (21) (by decide) h0
        refine lv_iload_n hx hb d14 rfl (lv_at hl 2 rfl) ?_
        refine lv_bipush (v := 13) hx hb d15 (by decide) ?_
        refine lv_icmp_ge (tgt := 38) hx hb d17 (by decide) (fun q => ?_) (fun q => ?_)
        · have hf := x_pos q hf
          exact s_X6_copyTrack_b38 C0 hxt _ _ _ _ hR hS (lv_sub hl [] rfl) hf
        · have hf := x_neg q hf
          have h0 : x_by cX6_copyTrack 20 [42, 180, 0, 35, 27, 8, 104, 42, 180, 0, 35, 28, 8, 104, 8, 184, 0, 111] := by unfold x_by; decide +kernel
          obtain ⟨d20, h0⟩ := de_aload_n0 h0
          obtain ⟨d21, h0⟩ := de_getfield 35 (by decide) h0
          obtain ⟨d24, h0⟩ := de_iload_n1 h0
          obtain ⟨d25, h0⟩ := de_iconst_5 h0
          obtain ⟨d26, h0⟩ := de_imul h0
          obtain ⟨d27, h0⟩ := de_aload_n0 h0
          obtain ⟨d28, h0⟩ := de_getfield 35 (by decide) h0
          obtain ⟨d31, h0⟩ := de_iload_n2 h0
          obtain ⟨d32, h0⟩ := de_iconst_5 h0
          obtain ⟨d33, h0⟩ := de_imul h0
          obtain ⟨d34, h0⟩ := de_iconst_5 h0
          obtain ⟨d35, h0⟩ := de_invokestatic 111 (by decide) h0
          refine lv_aload_n hx hb d20 rfl (lv_at hl 0 rfl) ?_
          refine x_getR C0 hR hf xcl_6 (Nat.le_of_ble_eq_true rfl) rfl fl_X6_35 d21 (fun a1 hf => ?_)
          refine lv_iload_n hx hb d24 rfl (lv_at hl 1 rfl) ?_
          refine lv_iconst (v := 5) hx hb d25 (by decide) ?_
          refine lv_imul hx hb d26 ?_
          refine lv_aload_n hx hb d27 rfl (lv_at hl 0 rfl) ?_
          refine x_getR C0 hR hf xcl_6 (Nat.le_of_ble_eq_true rfl) rfl fl_X6_35 d28 (fun a2 hf => ?_)
          refine lv_iload_n hx hb d31 rfl (lv_at hl 2 rfl) ?_
          refine lv_iconst (v := 5) hx hb d32 (by decide) ?_
          refine lv_imul hx hb d33 ?_
          refine lv_iconst (v := 5) hx hb d34 (by decide) ?_
          refine x_acopy C0 hR hS hl.1 hf ml_X6_111 lib_acopy (Nat.le_of_ble_eq_true rfl) (Nat.le_of_ble_eq_true rfl) d35 (fun H locs hR hS hf => ?_)
          exact s_X6_copyTrack_b38 C0 hxt _ _ _ _ hR hS (lv_sub hl [] rfl) hf
def f_X6_copyTracks_b70  (h : HP)  : Option XR :=
  some (h, xv)
def f_X6_copyTracks_b41 (k41 : HP → Nat → Int32 → Int32 → Int32 → Option XR) (h : HP) (r0 : Nat) (x3 : Int32) (x4 : Int32) (x5 : Int32) : Option XR :=
  if x4 ≤ x5 then
    (
      x_pI h r0 6 6 x4 fun h1 =>
      f_X6_copyTracks_b70 h1
    )
  else
    (
      x_rc h r0 6 <| x_cV (f_X6_copyTrack h r0 (x5 - x3) x5) fun h2 =>
      k41 h2 r0 x3 x4 (x5 + 1)
    )
def f_X6_copyTracks_L41  : Nat → HP → Nat → Int32 → Int32 → Int32 → Option XR
  | 0 => fun _ _ _ _ _ => none
  | n + 1 => f_X6_copyTracks_b41 (f_X6_copyTracks_L41 n)
def f_X6_copyTracks (h : HP) (r0 : Nat) (x1 : Int32) (x2 : Int32) : Option XR :=
  x_gI h r0 6 6 fun i1 =>
  x_lI (i1 - x1) fun i2 =>
  if x2 = 0 then
    (
      x_pI h r0 6 6 x1 fun h5 =>
      f_X6_copyTracks_b70 h5
    )
  else
    (
      if i2 ≤ 0 then
        (
          f_X6_copyTracks_b70 h
        )
      else
        (
          x_lI (if (x1 + (x2 * i2)) < 13 then (x1 + (x2 * i2)) else 13) fun i3 =>
          x_gI h r0 6 6 fun i4 =>
          f_X6_copyTracks_L41 FU h r0 i2 i3 i4
        )
    )
set_option maxRecDepth 100000 in
set_option maxHeartbeats 4000000 in
theorem s_X6_copyTracks_b70 {p : Program} {l : Launch} {e : Env} {s : State} {m : MethodId} {args : Array Value} {below : List Frame} {meth : Method} {c : Code} {E : XE} {z : XR} (C0 : x_C E p l s m meth c args cX6_copyTracks 6 "GridEngine$TrackText" "copyTracks" none) (hxt : ∀ x ∈ c.exceptionTable.toList, False)  : ∀ (h : HP)  (H : Heap) (locs : List Loc) (ls : Array Slot), x_Rep E h H → va_S (x_A E) s.heap H locs → lv_has ls 6 [] → f_X6_copyTracks_b70 h  = some z → W p l e ({ frames := 9, cells := 0, slots := 0, locals := 152 } : Room) s m args below meth c H locs 0 0 (x_Q E below args s 0 0 z) (F0 m 70 ls []) := by
  intro h  H locs ls hR hS hl hf
  obtain ⟨hx, hb, -⟩ := id C0
  unfold f_X6_copyTracks_b70 at hf
  have h0 : x_by cX6_copyTracks 70 [177] := by unfold x_by; decide +kernel
  obtain ⟨d70, h0⟩ := de_return h0
  exact x_vret C0 hR hS hf (Nat.le_of_ble_eq_true rfl) (Nat.le_of_ble_eq_true rfl) d70
set_option maxRecDepth 100000 in
set_option maxHeartbeats 4000000 in
theorem s_X6_copyTracks_b41 {p : Program} {l : Launch} {e : Env} {s : State} {m : MethodId} {args : Array Value} {below : List Frame} {meth : Method} {c : Code} {E : XE} {z : XR} (C0 : x_C E p l s m meth c args cX6_copyTracks 6 "GridEngine$TrackText" "copyTracks" none) (hxt : ∀ x ∈ c.exceptionTable.toList, False) {k41 : HP → Nat → Int32 → Int32 → Int32 → Option XR} (hk41 : ∀ (h : HP) (r0 : Nat) (x3 : Int32) (x4 : Int32) (x5 : Int32) (H : Heap) (locs : List Loc) (ls : Array Slot), x_Rep E h H → va_S (x_A E) s.heap H locs → lv_has ls 6 [(0, .ref (xa E r0)), (3, .int x3), (4, .int x4), (5, .int x5)] → k41 h r0 x3 x4 x5 = some z → W p l e ({ frames := 9, cells := 0, slots := 0, locals := 152 } : Room) s m args below meth c H locs 0 0 (x_Q E below args s 0 0 z) (F0 m 41 ls [])) : ∀ (h : HP) (r0 : Nat) (x3 : Int32) (x4 : Int32) (x5 : Int32) (H : Heap) (locs : List Loc) (ls : Array Slot), x_Rep E h H → va_S (x_A E) s.heap H locs → lv_has ls 6 [(0, .ref (xa E r0)), (3, .int x3), (4, .int x4), (5, .int x5)] → f_X6_copyTracks_b41 k41 h r0 x3 x4 x5 = some z → W p l e ({ frames := 9, cells := 0, slots := 0, locals := 152 } : Room) s m args below meth c H locs 0 0 (x_Q E below args s 0 0 z) (F0 m 41 ls []) := by
  intro h r0 x3 x4 x5 H locs ls hR hS hl hf
  obtain ⟨hx, hb, -⟩ := id C0
  unfold f_X6_copyTracks_b41 at hf
  have h0 : x_by cX6_copyTracks 41 [21, 5, 21, 4, 162, 0, 19] := by unfold x_by; decide +kernel
  obtain ⟨d41, h0⟩ := de_iload h0
  obtain ⟨d43, h0⟩ := de_iload h0
  obtain ⟨d45, h0⟩ := de_icmp_ge (19) (by decide) h0
  refine lv_iload hx hb d41 (lv_at hl 3 rfl) ?_
  refine lv_iload hx hb d43 (lv_at hl 2 rfl) ?_
  refine lv_icmp_ge (tgt := 64) hx hb d45 (by decide) (fun q => ?_) (fun q => ?_)
  · have hf := x_pos q hf
    have h0 : x_by cX6_copyTracks 64 [42, 21, 4, 181, 0, 32] := by unfold x_by; decide +kernel
    obtain ⟨d64, h0⟩ := de_aload_n0 h0
    obtain ⟨d65, h0⟩ := de_iload h0
    obtain ⟨d67, h0⟩ := de_putfield 32 (by decide) h0
    refine lv_aload_n hx hb d64 rfl (lv_at hl 0 rfl) ?_
    refine lv_iload hx hb d65 (lv_at hl 2 rfl) ?_
    refine x_putI C0 hR hS hf xcl_6 (Nat.le_of_ble_eq_true rfl) rfl fl_X6_32 (Or.inl rfl) d67 (fun H locs hR hS hf => ?_)
    exact s_X6_copyTracks_b70 C0 hxt _ _ _ _ hR hS (lv_sub hl [] rfl) hf
  · have hf := x_neg q hf
    have h0 : x_by cX6_copyTracks 48 [42, 21, 5, 29, 100, 21, 5, 182, 0, 108, 132, 5, 1, 167, 255, 236] := by unfold x_by; decide +kernel
    obtain ⟨d48, h0⟩ := de_aload_n0 h0
    obtain ⟨d49, h0⟩ := de_iload h0
    obtain ⟨d51, h0⟩ := de_iload_n3 h0
    obtain ⟨d52, h0⟩ := de_isub h0
    obtain ⟨d53, h0⟩ := de_iload h0
    obtain ⟨d55, h0⟩ := de_invokevirtual 108 (by decide) h0
    obtain ⟨d58, h0⟩ := de_iinc (1) (by decide) h0
    obtain ⟨d61, h0⟩ := de_goto (-20) (by decide) h0
    refine lv_aload_n hx hb d48 rfl (lv_at hl 0 rfl) ?_
    refine lv_iload hx hb d49 (lv_at hl 3 rfl) ?_
    refine lv_iload_n hx hb d51 rfl (lv_at hl 1 rfl) ?_
    refine lv_isub hx hb d52 ?_
    refine lv_iload hx hb d53 (lv_at hl 3 rfl) ?_
    obtain ⟨hs9, hf⟩ := x_if hf
    refine x_thenV C0 hxt hS hf (fun z0 e0 => x_runV C0 hR hS me_X6_copyTrack wi_X6_copyTrack wl_X6_copyTrack ml_X6_108 hs9 xcl_6 (As := [.int (x5 - x3), .int x5]) (ct_X6_copyTrack E l C0.2.2.2.2.2.2.2.1 _ r0 (x5 - x3) x5) rfl rfl hl.1 (Nat.le_of_ble_eq_true rfl) d55 ⟨(Nat.le_of_ble_eq_true rfl), (Nat.le_of_ble_eq_true rfl)⟩ ⟨(Nat.le_of_ble_eq_true rfl), (Nat.le_of_ble_eq_true rfl)⟩ e0) (Nat.le_of_ble_eq_true rfl) (Nat.le_of_ble_eq_true rfl) (fun h9 H locs hR hS hf => ?_)
    refine lv_iinc (v := (x5 + 1)) (lv' := [(5, .int (x5 + 1)), (0, .ref (xa E r0)), (3, .int x3), (4, .int x4)]) hx hb d58 hl (k := 3) rfl rfl (by decide) rfl (fun ls hl => ?_)
    refine lv_goto (tgt := 41) hx hb d61 (by decide) ?_
    exact hk41 _ _ _ _ _ _ _ _ hR hS (lv_sub hl [1, 2, 3, 0] rfl) hf
theorem s_X6_copyTracks_L41 {p : Program} {l : Launch} {e : Env} {s : State} {m : MethodId} {args : Array Value} {below : List Frame} {meth : Method} {c : Code} {E : XE} {z : XR} (C0 : x_C E p l s m meth c args cX6_copyTracks 6 "GridEngine$TrackText" "copyTracks" none) (hxt : ∀ x ∈ c.exceptionTable.toList, False)  : ∀ n : Nat, ∀ (h : HP) (r0 : Nat) (x3 : Int32) (x4 : Int32) (x5 : Int32) (H : Heap) (locs : List Loc) (ls : Array Slot), x_Rep E h H → va_S (x_A E) s.heap H locs → lv_has ls 6 [(0, .ref (xa E r0)), (3, .int x3), (4, .int x4), (5, .int x5)] → f_X6_copyTracks_L41 n h r0 x3 x4 x5 = some z → W p l e ({ frames := 9, cells := 0, slots := 0, locals := 152 } : Room) s m args below meth c H locs 0 0 (x_Q E below args s 0 0 z) (F0 m 41 ls []) := by
  intro n
  induction n with
  | zero => intro h r0 x3 x4 x5 H locs ls hR hS hl hf; cases (show (none : Option XR) = some z from hf)
  | succ n ih => intro h r0 x3 x4 x5 H locs ls hR hS hl hf; exact s_X6_copyTracks_b41 C0 hxt ih h r0 x3 x4 x5 H locs ls hR hS hl (show f_X6_copyTracks_b41 (f_X6_copyTracks_L41 n) h r0 x3 x4 x5 = some z from hf)
set_option maxRecDepth 100000 in
set_option maxHeartbeats 4000000 in
theorem ct_X6_copyTracks (E : XE) (l : Launch) (hl0 : l.stackTraces = false) (h : HP) (r0 : Nat) (x1 : Int32) (x2 : Int32) : x_ct E l yX6_copyTracks (Cond.code yX6_copyTracks cX6_copyTracks 6 none) 9 152 0 0 [.ref (xa E r0), .int x1, .int x2] h (f_X6_copyTracks h r0 x1 x2) := by
  refine x_ofW hl0 (by decide +kernel) ?_
  intro z hf p e s m args below meth c C0 hxt hargs hR
  subst hargs
  have C0 : x_C E p l s m meth c ([.ref (xa E r0), .int x1, .int x2] : List Value).toArray cX6_copyTracks 6 "GridEngine$TrackText" "copyTracks" none := C0
  obtain ⟨hx, hb, -⟩ := id C0
  have hS : va_S (x_A E) s.heap s.heap [] := va_S.rf
  have hl := lv_entry ([.ref (xa E r0), .int x1, .int x2]) (n := 6) (Nat.le_of_ble_eq_true rfl)
  rw [lg_entry_eq]
  generalize (lg_sl ([.ref (xa E r0), .int x1, .int x2]) ++ List.replicate (6 - (lg_sl ([.ref (xa E r0), .int x1, .int x2])).length) Slot.unset).toArray = ls at hl ⊢
  have hl : lv_has ls 6 [(0, .ref (xa E r0)), (1, .int x1), (2, .int x2)] := hl
  unfold f_X6_copyTracks at hf
  have h0 : x_by cX6_copyTracks 0 [42, 180, 0, 32, 27, 100, 62, 28, 154, 0, 11] := by unfold x_by; decide +kernel
  obtain ⟨d0, h0⟩ := de_aload_n0 h0
  obtain ⟨d1, h0⟩ := de_getfield 32 (by decide) h0
  obtain ⟨d4, h0⟩ := de_iload_n1 h0
  obtain ⟨d5, h0⟩ := de_isub h0
  obtain ⟨d6, h0⟩ := de_istore_n3 h0
  obtain ⟨d7, h0⟩ := de_iload_n2 h0
  obtain ⟨d8, h0⟩ := de_if_ne (11) (by decide) h0
  refine lv_aload_n hx hb d0 rfl (lv_at hl 0 rfl) ?_
  refine x_getI C0 hR hf xcl_6 (Nat.le_of_ble_eq_true rfl) rfl fl_X6_32 d1 (fun i1 hf => ?_)
  refine lv_iload_n hx hb d4 rfl (lv_at hl 1 rfl) ?_
  refine lv_isub hx hb d5 ?_
  refine lv_topi (fun i2 ei2 => ?_)
  have hf := x_lI_el ei2 hf
  refine lv_istore_n (lv' := [(3, .int i2), (0, .ref (xa E r0)), (1, .int x1), (2, .int x2)]) hx hb d6 rfl hl (by decide) rfl (fun ls hl => ?_)
  refine lv_iload_n hx hb d7 rfl (lv_at hl 3 rfl) ?_
  refine lv_if_ne (tgt := 19) hx hb d8 (by decide) (fun q => ?_) (fun q => ?_)
  · have hf := x_neg q hf
    have h0 : x_by cX6_copyTracks 19 [29, 158, 0, 50] := by unfold x_by; decide +kernel
    obtain ⟨d19, h0⟩ := de_iload_n3 h0
    obtain ⟨d20, h0⟩ := de_if_le (50) (by decide) h0
    refine lv_iload_n hx hb d19 rfl (lv_at hl 0 rfl) ?_
    refine lv_if_le (tgt := 70) hx hb d20 (by decide) (fun q => ?_) (fun q => ?_)
    · have hf := x_pos q hf
      exact s_X6_copyTracks_b70 C0 hxt _ _ _ _ hR hS (lv_sub hl [] rfl) hf
    · have hf := x_neg q hf
      have h0 : x_by cX6_copyTracks 23 [16, 13, 27, 28, 29, 104, 96, 184, 0, 51, 54, 4, 42, 180, 0, 32, 54, 5] := by unfold x_by; decide +kernel
      obtain ⟨d23, h0⟩ := de_bipush (13) (by decide) h0
      obtain ⟨d25, h0⟩ := de_iload_n1 h0
      obtain ⟨d26, h0⟩ := de_iload_n2 h0
      obtain ⟨d27, h0⟩ := de_iload_n3 h0
      obtain ⟨d28, h0⟩ := de_imul h0
      obtain ⟨d29, h0⟩ := de_iadd h0
      obtain ⟨d30, h0⟩ := de_invokestatic 51 (by decide) h0
      obtain ⟨d33, h0⟩ := de_istore h0
      obtain ⟨d35, h0⟩ := de_aload_n0 h0
      obtain ⟨d36, h0⟩ := de_getfield 32 (by decide) h0
      obtain ⟨d39, h0⟩ := de_istore h0
      refine lv_bipush (v := 13) hx hb d23 (by decide) ?_
      refine lv_iload_n hx hb d25 rfl (lv_at hl 2 rfl) ?_
      refine lv_iload_n hx hb d26 rfl (lv_at hl 3 rfl) ?_
      refine lv_iload_n hx hb d27 rfl (lv_at hl 0 rfl) ?_
      refine lv_imul hx hb d28 ?_
      refine lv_iadd hx hb d29 ?_
      refine x_mmin C0 hl.1 ml_X6_51 lib_min (Nat.le_of_ble_eq_true rfl) (Nat.le_of_ble_eq_true rfl) (Nat.le_of_ble_eq_true rfl) (Nat.le_of_ble_eq_true rfl) d30 ?_
      refine lv_topi (fun i3 ei3 => ?_)
      have hf := x_lI_el ei3 hf
      refine lv_istore (lv' := [(4, .int i3), (3, .int i2), (0, .ref (xa E r0)), (1, .int x1), (2, .int x2)]) hx hb d33 hl (by decide) rfl (fun ls hl => ?_)
      refine lv_aload_n hx hb d35 rfl (lv_at hl 2 rfl) ?_
      refine x_getI C0 hR hf xcl_6 (Nat.le_of_ble_eq_true rfl) rfl fl_X6_32 d36 (fun i4 hf => ?_)
      refine lv_istore (lv' := [(5, .int i4), (4, .int i3), (3, .int i2), (0, .ref (xa E r0)), (1, .int x1), (2, .int x2)]) hx hb d39 hl (by decide) rfl (fun ls hl => ?_)
      exact s_X6_copyTracks_L41 C0 hxt FU _ _ _ _ _ _ _ _ hR hS (lv_sub hl [3, 2, 1, 0] rfl) hf
  · have hf := x_pos q hf
    have h0 : x_by cX6_copyTracks 11 [42, 27, 181, 0, 32, 167, 0, 54] := by unfold x_by; decide +kernel
    obtain ⟨d11, h0⟩ := de_aload_n0 h0
    obtain ⟨d12, h0⟩ := de_iload_n1 h0
    obtain ⟨d13, h0⟩ := de_putfield 32 (by decide) h0
    obtain ⟨d16, h0⟩ := de_goto (54) (by decide) h0
    refine lv_aload_n hx hb d11 rfl (lv_at hl 1 rfl) ?_
    refine lv_iload_n hx hb d12 rfl (lv_at hl 2 rfl) ?_
    refine x_putI C0 hR hS hf xcl_6 (Nat.le_of_ble_eq_true rfl) rfl fl_X6_32 (Or.inl rfl) d13 (fun H locs hR hS hf => ?_)
    refine lv_goto (tgt := 70) hx hb d16 (by decide) ?_
    exact s_X6_copyTracks_b70 C0 hxt _ _ _ _ hR hS (lv_sub hl [] rfl) hf
def f_X6_isNext_b48  (h : HP) (t0 : Int32) : Option XR :=
  x_rZ h t0
def f_X6_isNext_b47  (h : HP)  : Option XR :=
  f_X6_isNext_b48 h 0
def f_X6_isNext (h : HP) (r0 : Nat) (x1 : Int32) : Option XR :=
  x_gI h r0 6 2 fun i1 =>
  if i1 < 0 then
    (
      f_X6_isNext_b47 h
    )
  else
    (
      x_gI h r0 6 2 fun i2 =>
      x_gI h r0 6 1 fun i3 =>
      if i3 ≤ i2 then
        (
          f_X6_isNext_b47 h
        )
      else
        (
          x_gI h r0 6 2 fun i4 =>
          x_gR h r0 6 0 fun a5 =>
          x_ln h a5 fun i6 =>
          if i6 ≤ i4 then
            (
              f_X6_isNext_b47 h
            )
          else
            (
              x_gR h r0 6 0 fun a7 =>
              x_gI h r0 6 2 fun i8 =>
              x_aI h 101 a7 i8 fun i9 =>
              if i9 = x1 then
                (
                  f_X6_isNext_b48 h 1
                )
              else
                (
                  f_X6_isNext_b47 h
                )
            )
        )
    )
set_option maxRecDepth 100000 in
set_option maxHeartbeats 4000000 in
theorem s_X6_isNext_b48 {p : Program} {l : Launch} {e : Env} {s : State} {m : MethodId} {args : Array Value} {below : List Frame} {meth : Method} {c : Code} {E : XE} {z : XR} (C0 : x_C E p l s m meth c args cX6_isNext 2 "GridEngine$TrackText" "isNext" (some .boolean)) (hxt : ∀ x ∈ c.exceptionTable.toList, False)  : ∀ (h : HP) (t0 : Int32) (H : Heap) (locs : List Loc) (ls : Array Slot), x_Rep E h H → va_S (x_A E) s.heap H locs → lv_has ls 2 [] → f_X6_isNext_b48 h t0 = some z → W p l e ({ frames := 8, cells := 0, slots := 0, locals := 130 } : Room) s m args below meth c H locs 0 0 (x_Q E below args s 0 0 z) (F0 m 48 ls [.int t0]) := by
  intro h t0 H locs ls hR hS hl hf
  obtain ⟨hx, hb, -⟩ := id C0
  unfold f_X6_isNext_b48 at hf
  have h0 : x_by cX6_isNext 48 [172] := by unfold x_by; decide +kernel
  obtain ⟨d48, h0⟩ := de_ireturn h0
  exact x_zret C0 hR hS hf (Nat.le_of_ble_eq_true rfl) (Nat.le_of_ble_eq_true rfl) d48
set_option maxRecDepth 100000 in
set_option maxHeartbeats 4000000 in
theorem s_X6_isNext_b47 {p : Program} {l : Launch} {e : Env} {s : State} {m : MethodId} {args : Array Value} {below : List Frame} {meth : Method} {c : Code} {E : XE} {z : XR} (C0 : x_C E p l s m meth c args cX6_isNext 2 "GridEngine$TrackText" "isNext" (some .boolean)) (hxt : ∀ x ∈ c.exceptionTable.toList, False)  : ∀ (h : HP)  (H : Heap) (locs : List Loc) (ls : Array Slot), x_Rep E h H → va_S (x_A E) s.heap H locs → lv_has ls 2 [] → f_X6_isNext_b47 h  = some z → W p l e ({ frames := 8, cells := 0, slots := 0, locals := 130 } : Room) s m args below meth c H locs 0 0 (x_Q E below args s 0 0 z) (F0 m 47 ls []) := by
  intro h  H locs ls hR hS hl hf
  obtain ⟨hx, hb, -⟩ := id C0
  unfold f_X6_isNext_b47 at hf
  have h0 : x_by cX6_isNext 47 [3] := by unfold x_by; decide +kernel
  obtain ⟨d47, h0⟩ := de_iconst_0 h0
  refine lv_iconst (v := 0) hx hb d47 (by decide) ?_
  exact s_X6_isNext_b48 C0 hxt _ _ _ _ _ hR hS (lv_sub hl [] rfl) hf
set_option maxRecDepth 100000 in
set_option maxHeartbeats 4000000 in
theorem ct_X6_isNext (E : XE) (l : Launch) (hl0 : l.stackTraces = false) (h : HP) (r0 : Nat) (x1 : Int32) : x_ct E l yX6_isNext (Cond.code yX6_isNext cX6_isNext 2 (some .boolean)) 8 130 0 0 [.ref (xa E r0), .int x1] h (f_X6_isNext h r0 x1) := by
  refine x_ofW hl0 (by decide +kernel) ?_
  intro z hf p e s m args below meth c C0 hxt hargs hR
  subst hargs
  have C0 : x_C E p l s m meth c ([.ref (xa E r0), .int x1] : List Value).toArray cX6_isNext 2 "GridEngine$TrackText" "isNext" (some .boolean) := C0
  obtain ⟨hx, hb, -⟩ := id C0
  have hS : va_S (x_A E) s.heap s.heap [] := va_S.rf
  have hl := lv_entry ([.ref (xa E r0), .int x1]) (n := 2) (Nat.le_of_ble_eq_true rfl)
  rw [lg_entry_eq]
  generalize (lg_sl ([.ref (xa E r0), .int x1]) ++ List.replicate (2 - (lg_sl ([.ref (xa E r0), .int x1])).length) Slot.unset).toArray = ls at hl ⊢
  have hl : lv_has ls 2 [(0, .ref (xa E r0)), (1, .int x1)] := hl
  unfold f_X6_isNext at hf
  have h0 : x_by cX6_isNext 0 [42, 180, 0, 19, 155, 0, 43] := by unfold x_by; decide +kernel
  obtain ⟨d0, h0⟩ := de_aload_n0 h0
  obtain ⟨d1, h0⟩ := de_getfield 19 (by decide) h0
  obtain ⟨d4, h0⟩ := de_if_lt (43) (by decide) h0
  refine lv_aload_n hx hb d0 rfl (lv_at hl 0 rfl) ?_
  refine x_getI C0 hR hf xcl_6 (Nat.le_of_ble_eq_true rfl) rfl fl_X6_19 d1 (fun i1 hf => ?_)
  refine lv_if_lt (tgt := 47) hx hb d4 (by decide) (fun q => ?_) (fun q => ?_)
  · have hf := x_pos q hf
    exact s_X6_isNext_b47 C0 hxt _ _ _ _ hR hS (lv_sub hl [] rfl) hf
  · have hf := x_neg q hf
    have h0 : x_by cX6_isNext 7 [42, 180, 0, 19, 42, 180, 0, 15, 162, 0, 32] := by unfold x_by; decide +kernel
    obtain ⟨d7, h0⟩ := de_aload_n0 h0
    obtain ⟨d8, h0⟩ := de_getfield 19 (by decide) h0
    obtain ⟨d11, h0⟩ := de_aload_n0 h0
    obtain ⟨d12, h0⟩ := de_getfield 15 (by decide) h0
    obtain ⟨d15, h0⟩ := de_icmp_ge (32) (by decide) h0
    refine lv_aload_n hx hb d7 rfl (lv_at hl 0 rfl) ?_
    refine x_getI C0 hR hf xcl_6 (Nat.le_of_ble_eq_true rfl) rfl fl_X6_19 d8 (fun i2 hf => ?_)
    refine lv_aload_n hx hb d11 rfl (lv_at hl 0 rfl) ?_
    refine x_getI C0 hR hf xcl_6 (Nat.le_of_ble_eq_true rfl) rfl fl_X6_15 d12 (fun i3 hf => ?_)
    refine lv_icmp_ge (tgt := 47) hx hb d15 (by decide) (fun q => ?_) (fun q => ?_)
    · have hf := x_pos q hf
      exact s_X6_isNext_b47 C0 hxt _ _ _ _ hR hS (lv_sub hl [] rfl) hf
    · have hf := x_neg q hf
      have h0 : x_by cX6_isNext 18 [42, 180, 0, 19, 42, 180, 0, 9, 190, 162, 0, 20] := by unfold x_by; decide +kernel
      obtain ⟨d18, h0⟩ := de_aload_n0 h0
      obtain ⟨d19, h0⟩ := de_getfield 19 (by decide) h0
      obtain ⟨d22, h0⟩ := de_aload_n0 h0
      obtain ⟨d23, h0⟩ := de_getfield 9 (by decide) h0
      obtain ⟨d26, h0⟩ := de_arraylength h0
      obtain ⟨d27, h0⟩ := de_icmp_ge (20) (by decide) h0
      refine lv_aload_n hx hb d18 rfl (lv_at hl 0 rfl) ?_
      refine x_getI C0 hR hf xcl_6 (Nat.le_of_ble_eq_true rfl) rfl fl_X6_19 d19 (fun i4 hf => ?_)
      refine lv_aload_n hx hb d22 rfl (lv_at hl 0 rfl) ?_
      refine x_getR C0 hR hf xcl_6 (Nat.le_of_ble_eq_true rfl) rfl fl_X6_9 d23 (fun a5 hf => ?_)
      refine x_alen C0 hR hf d26 (fun i6 hf => ?_)
      refine lv_icmp_ge (tgt := 47) hx hb d27 (by decide) (fun q => ?_) (fun q => ?_)
      · have hf := x_pos q hf
        exact s_X6_isNext_b47 C0 hxt _ _ _ _ hR hS (lv_sub hl [] rfl) hf
      · have hf := x_neg q hf
        have h0 : x_by cX6_isNext 30 [42, 180, 0, 9, 42, 180, 0, 19, 52, 27, 160, 0, 7] := by unfold x_by; decide +kernel
        obtain ⟨d30, h0⟩ := de_aload_n0 h0
        obtain ⟨d31, h0⟩ := de_getfield 9 (by decide) h0
        obtain ⟨d34, h0⟩ := de_aload_n0 h0
        obtain ⟨d35, h0⟩ := de_getfield 19 (by decide) h0
        obtain ⟨d38, h0⟩ := de_caload h0
        obtain ⟨d39, h0⟩ := de_iload_n1 h0
        obtain ⟨d40, h0⟩ := de_icmp_ne (7) (by decide) h0
        refine lv_aload_n hx hb d30 rfl (lv_at hl 0 rfl) ?_
        refine x_getR C0 hR hf xcl_6 (Nat.le_of_ble_eq_true rfl) rfl fl_X6_9 d31 (fun a7 hf => ?_)
        refine lv_aload_n hx hb d34 rfl (lv_at hl 0 rfl) ?_
        refine x_getI C0 hR hf xcl_6 (Nat.le_of_ble_eq_true rfl) rfl fl_X6_19 d35 (fun i8 hf => ?_)
        refine x_cald C0 hR hf d38 (fun i9 hf => ?_)
        refine lv_iload_n hx hb d39 rfl (lv_at hl 1 rfl) ?_
        refine lv_icmp_ne (tgt := 47) hx hb d40 (by decide) (fun q => ?_) (fun q => ?_)
        · have hf := x_neg q hf
          exact s_X6_isNext_b47 C0 hxt _ _ _ _ hR hS (lv_sub hl [] rfl) hf
        · have hf := x_pos q hf
          have h0 : x_by cX6_isNext 43 [4, 167, 0, 4] := by unfold x_by; decide +kernel
          obtain ⟨d43, h0⟩ := de_iconst_1 h0
          obtain ⟨d44, h0⟩ := de_goto (4) (by decide) h0
          refine lv_iconst (v := 1) hx hb d43 (by decide) ?_
          refine lv_goto (tgt := 48) hx hb d44 (by decide) ?_
          exact s_X6_isNext_b48 C0 hxt _ _ _ _ _ hR hS (lv_sub hl [] rfl) hf
def f_X6_closeRepeats_b69  (h : HP)  : Option XR :=
  some (h, xv)
def f_X6_closeRepeats_b0 (k0 : HP → Nat → Option XR) (h : HP) (r0 : Nat) : Option XR :=
  x_gI h r0 6 9 fun i1 =>
  if i1 ≤ 0 then
    (
      f_X6_closeRepeats_b69 h
    )
  else
    (
      x_gI h r0 6 9 fun i2 =>
      if 4 < i2 then
        (
          f_X6_closeRepeats_b69 h
        )
      else
        (
          x_rc h r0 6 <| x_cI (f_X6_isNext h r0 41) fun h4 i3 =>
          if i3 = 0 then
            (
              f_X6_closeRepeats_b69 h4
            )
          else
            (
              x_gI h4 r0 6 2 fun i5 =>
              x_pI h4 r0 6 2 (i5 + 1) fun h6 =>
              x_gI h6 r0 6 9 fun i7 =>
              x_pI h6 r0 6 9 (i7 - 1) fun h8 =>
              x_gR h8 r0 6 10 fun a9 =>
              x_gI h8 r0 6 9 fun i10 =>
              x_aI h8 100 a9 i10 fun i11 =>
              x_gR h8 r0 6 11 fun a12 =>
              x_gI h8 r0 6 9 fun i13 =>
              x_aI h8 100 a12 i13 fun i14 =>
              x_rc h8 r0 6 <| x_cV (f_X6_copyTracks h8 r0 i11 i14) fun h15 =>
              k0 h15 r0
            )
        )
    )
def f_X6_closeRepeats_L0  : Nat → HP → Nat → Option XR
  | 0 => fun _ _ => none
  | n + 1 => f_X6_closeRepeats_b0 (f_X6_closeRepeats_L0 n)
def f_X6_closeRepeats (h : HP) (r0 : Nat) : Option XR :=
  f_X6_closeRepeats_L0 FU h r0
set_option maxRecDepth 100000 in
set_option maxHeartbeats 4000000 in
theorem s_X6_closeRepeats_b69 {p : Program} {l : Launch} {e : Env} {s : State} {m : MethodId} {args : Array Value} {below : List Frame} {meth : Method} {c : Code} {E : XE} {z : XR} (C0 : x_C E p l s m meth c args cX6_closeRepeats 1 "GridEngine$TrackText" "closeRepeats" none) (hxt : ∀ x ∈ c.exceptionTable.toList, False)  : ∀ (h : HP)  (H : Heap) (locs : List Loc) (ls : Array Slot), x_Rep E h H → va_S (x_A E) s.heap H locs → lv_has ls 1 [] → f_X6_closeRepeats_b69 h  = some z → W p l e ({ frames := 10, cells := 0, slots := 0, locals := 177 } : Room) s m args below meth c H locs 0 0 (x_Q E below args s 0 0 z) (F0 m 69 ls []) := by
  intro h  H locs ls hR hS hl hf
  obtain ⟨hx, hb, -⟩ := id C0
  unfold f_X6_closeRepeats_b69 at hf
  have h0 : x_by cX6_closeRepeats 69 [177] := by unfold x_by; decide +kernel
  obtain ⟨d69, h0⟩ := de_return h0
  exact x_vret C0 hR hS hf (Nat.le_of_ble_eq_true rfl) (Nat.le_of_ble_eq_true rfl) d69
set_option maxRecDepth 100000 in
set_option maxHeartbeats 4000000 in
theorem s_X6_closeRepeats_b0 {p : Program} {l : Launch} {e : Env} {s : State} {m : MethodId} {args : Array Value} {below : List Frame} {meth : Method} {c : Code} {E : XE} {z : XR} (C0 : x_C E p l s m meth c args cX6_closeRepeats 1 "GridEngine$TrackText" "closeRepeats" none) (hxt : ∀ x ∈ c.exceptionTable.toList, False) {k0 : HP → Nat → Option XR} (hk0 : ∀ (h : HP) (r0 : Nat) (H : Heap) (locs : List Loc) (ls : Array Slot), x_Rep E h H → va_S (x_A E) s.heap H locs → lv_has ls 1 [(0, .ref (xa E r0))] → k0 h r0 = some z → W p l e ({ frames := 10, cells := 0, slots := 0, locals := 177 } : Room) s m args below meth c H locs 0 0 (x_Q E below args s 0 0 z) (F0 m 0 ls [])) : ∀ (h : HP) (r0 : Nat) (H : Heap) (locs : List Loc) (ls : Array Slot), x_Rep E h H → va_S (x_A E) s.heap H locs → lv_has ls 1 [(0, .ref (xa E r0))] → f_X6_closeRepeats_b0 k0 h r0 = some z → W p l e ({ frames := 10, cells := 0, slots := 0, locals := 177 } : Room) s m args below meth c H locs 0 0 (x_Q E below args s 0 0 z) (F0 m 0 ls []) := by
  intro h r0 H locs ls hR hS hl hf
  obtain ⟨hx, hb, -⟩ := id C0
  unfold f_X6_closeRepeats_b0 at hf
  have h0 : x_by cX6_closeRepeats 0 [42, 180, 0, 42, 158, 0, 65] := by unfold x_by; decide +kernel
  obtain ⟨d0, h0⟩ := de_aload_n0 h0
  obtain ⟨d1, h0⟩ := de_getfield 42 (by decide) h0
  obtain ⟨d4, h0⟩ := de_if_le (65) (by decide) h0
  refine lv_aload_n hx hb d0 rfl (lv_at hl 0 rfl) ?_
  refine x_getI C0 hR hf xcl_6 (Nat.le_of_ble_eq_true rfl) rfl fl_X6_42 d1 (fun i1 hf => ?_)
  refine lv_if_le (tgt := 69) hx hb d4 (by decide) (fun q => ?_) (fun q => ?_)
  · have hf := x_pos q hf
    exact s_X6_closeRepeats_b69 C0 hxt _ _ _ _ hR hS (lv_sub hl [] rfl) hf
  · have hf := x_neg q hf
    have h0 : x_by cX6_closeRepeats 7 [42, 180, 0, 42, 7, 163, 0, 57] := by unfold x_by; decide +kernel
    obtain ⟨d7, h0⟩ := de_aload_n0 h0
    obtain ⟨d8, h0⟩ := de_getfield 42 (by decide) h0
    obtain ⟨d11, h0⟩ := de_iconst_4 h0
    obtain ⟨d12, h0⟩ := de_icmp_gt (57) (by decide) h0
    refine lv_aload_n hx hb d7 rfl (lv_at hl 0 rfl) ?_
    refine x_getI C0 hR hf xcl_6 (Nat.le_of_ble_eq_true rfl) rfl fl_X6_42 d8 (fun i2 hf => ?_)
    refine lv_iconst (v := 4) hx hb d11 (by decide) ?_
    refine lv_icmp_gt (tgt := 69) hx hb d12 (by decide) (fun q => ?_) (fun q => ?_)
    · have hf := x_pos q hf
      exact s_X6_closeRepeats_b69 C0 hxt _ _ _ _ hR hS (lv_sub hl [] rfl) hf
    · have hf := x_neg q hf
      have h0 : x_by cX6_closeRepeats 15 [42, 16, 41, 182, 0, 60, 153, 0, 48] := by unfold x_by; decide +kernel
      obtain ⟨d15, h0⟩ := de_aload_n0 h0
      obtain ⟨d16, h0⟩ := de_bipush (41) (by decide) h0
      obtain ⟨d18, h0⟩ := de_invokevirtual 60 (by decide) h0
      obtain ⟨d21, h0⟩ := de_if_eq (48) (by decide) h0
      refine lv_aload_n hx hb d15 rfl (lv_at hl 0 rfl) ?_
      refine lv_bipush (v := 41) hx hb d16 (by decide) ?_
      obtain ⟨hs9, hf⟩ := x_if hf
      refine x_thenI C0 hxt hS hf (fun z0 e0 => x_runV C0 hR hS me_X6_isNext wi_X6_isNext wl_X6_isNext ml_X6_60 hs9 xcl_6 (As := [.int 41]) (ct_X6_isNext E l C0.2.2.2.2.2.2.2.1 _ r0 41) rfl rfl hl.1 (Nat.le_of_ble_eq_true rfl) d18 ⟨(Nat.le_of_ble_eq_true rfl), (Nat.le_of_ble_eq_true rfl)⟩ ⟨(Nat.le_of_ble_eq_true rfl), (Nat.le_of_ble_eq_true rfl)⟩ e0) (Nat.le_of_ble_eq_true rfl) (Nat.le_of_ble_eq_true rfl) (fun h9 i3 H locs hR hS hf => ?_)
      refine lv_if_eq (tgt := 69) hx hb d21 (by decide) (fun q => ?_) (fun q => ?_)
      · have hf := x_pos q hf
        exact s_X6_closeRepeats_b69 C0 hxt _ _ _ _ hR hS (lv_sub hl [] rfl) hf
      · have hf := x_neg q hf
        have h0 : x_by cX6_closeRepeats 24 [42, 89, 180, 0, 19, 4, 96, 181, 0, 19, 42, 89, 180, 0, 42, 4, 100, 181, 0, 42, 42, 42, 180, 0, 45, 42, 180, 0, 42, 46, 42, 180, 0, 48, 42, 180, 0, 42, 46, 182, 0, 104, 167, 255, 190] := by unfold x_by; decide +kernel
        obtain ⟨d24, h0⟩ := de_aload_n0 h0
        obtain ⟨d25, h0⟩ := de_dup h0
        obtain ⟨d26, h0⟩ := de_getfield 19 (by decide) h0
        obtain ⟨d29, h0⟩ := de_iconst_1 h0
        obtain ⟨d30, h0⟩ := de_iadd h0
        obtain ⟨d31, h0⟩ := de_putfield 19 (by decide) h0
        obtain ⟨d34, h0⟩ := de_aload_n0 h0
        obtain ⟨d35, h0⟩ := de_dup h0
        obtain ⟨d36, h0⟩ := de_getfield 42 (by decide) h0
        obtain ⟨d39, h0⟩ := de_iconst_1 h0
        obtain ⟨d40, h0⟩ := de_isub h0
        obtain ⟨d41, h0⟩ := de_putfield 42 (by decide) h0
        obtain ⟨d44, h0⟩ := de_aload_n0 h0
        obtain ⟨d45, h0⟩ := de_aload_n0 h0
        obtain ⟨d46, h0⟩ := de_getfield 45 (by decide) h0
        obtain ⟨d49, h0⟩ := de_aload_n0 h0
        obtain ⟨d50, h0⟩ := de_getfield 42 (by decide) h0
        obtain ⟨d53, h0⟩ := de_iaload h0
        obtain ⟨d54, h0⟩ := de_aload_n0 h0
        obtain ⟨d55, h0⟩ := de_getfield 48 (by decide) h0
        obtain ⟨d58, h0⟩ := de_aload_n0 h0
        obtain ⟨d59, h0⟩ := de_getfield 42 (by decide) h0
        obtain ⟨d62, h0⟩ := de_iaload h0
        obtain ⟨d63, h0⟩ := de_invokevirtual 104 (by decide) h0
        obtain ⟨d66, h0⟩ := de_goto (-66) (by decide) h0
        refine lv_aload_n hx hb d24 rfl (lv_at hl 0 rfl) ?_
        refine lv_dup hx hb d25 rfl ?_
        refine x_getI C0 hR hf xcl_6 (Nat.le_of_ble_eq_true rfl) rfl fl_X6_19 d26 (fun i5 hf => ?_)
        refine lv_iconst (v := 1) hx hb d29 (by decide) ?_
        refine lv_iadd hx hb d30 ?_
        refine x_putI C0 hR hS hf xcl_6 (Nat.le_of_ble_eq_true rfl) rfl fl_X6_19 (Or.inl rfl) d31 (fun H locs hR hS hf => ?_)
        refine lv_aload_n hx hb d34 rfl (lv_at hl 0 rfl) ?_
        refine lv_dup hx hb d35 rfl ?_
        refine x_getI C0 hR hf xcl_6 (Nat.le_of_ble_eq_true rfl) rfl fl_X6_42 d36 (fun i7 hf => ?_)
        refine lv_iconst (v := 1) hx hb d39 (by decide) ?_
        refine lv_isub hx hb d40 ?_
        refine x_putI C0 hR hS hf xcl_6 (Nat.le_of_ble_eq_true rfl) rfl fl_X6_42 (Or.inl rfl) d41 (fun H locs hR hS hf => ?_)
        refine lv_aload_n hx hb d44 rfl (lv_at hl 0 rfl) ?_
        refine lv_aload_n hx hb d45 rfl (lv_at hl 0 rfl) ?_
        refine x_getR C0 hR hf xcl_6 (Nat.le_of_ble_eq_true rfl) rfl fl_X6_45 d46 (fun a9 hf => ?_)
        refine lv_aload_n hx hb d49 rfl (lv_at hl 0 rfl) ?_
        refine x_getI C0 hR hf xcl_6 (Nat.le_of_ble_eq_true rfl) rfl fl_X6_42 d50 (fun i10 hf => ?_)
        refine x_iald C0 hR hf d53 (fun i11 hf => ?_)
        refine lv_aload_n hx hb d54 rfl (lv_at hl 0 rfl) ?_
        refine x_getR C0 hR hf xcl_6 (Nat.le_of_ble_eq_true rfl) rfl fl_X6_48 d55 (fun a12 hf => ?_)
        refine lv_aload_n hx hb d58 rfl (lv_at hl 0 rfl) ?_
        refine x_getI C0 hR hf xcl_6 (Nat.le_of_ble_eq_true rfl) rfl fl_X6_42 d59 (fun i13 hf => ?_)
        refine x_iald C0 hR hf d62 (fun i14 hf => ?_)
        obtain ⟨hs9, hf⟩ := x_if hf
        refine x_thenV C0 hxt hS hf (fun z0 e0 => x_runV C0 hR hS me_X6_copyTracks wi_X6_copyTracks wl_X6_copyTracks ml_X6_104 hs9 xcl_6 (As := [.int i11, .int i14]) (ct_X6_copyTracks E l C0.2.2.2.2.2.2.2.1 _ r0 i11 i14) rfl rfl hl.1 (Nat.le_of_ble_eq_true rfl) d63 ⟨(Nat.le_of_ble_eq_true rfl), (Nat.le_of_ble_eq_true rfl)⟩ ⟨(Nat.le_of_ble_eq_true rfl), (Nat.le_of_ble_eq_true rfl)⟩ e0) (Nat.le_of_ble_eq_true rfl) (Nat.le_of_ble_eq_true rfl) (fun h9 H locs hR hS hf => ?_)
        refine lv_goto (tgt := 0) hx hb d66 (by decide) ?_
        exact hk0 _ _ _ _ _ hR hS (lv_sub hl [0] rfl) hf
theorem s_X6_closeRepeats_L0 {p : Program} {l : Launch} {e : Env} {s : State} {m : MethodId} {args : Array Value} {below : List Frame} {meth : Method} {c : Code} {E : XE} {z : XR} (C0 : x_C E p l s m meth c args cX6_closeRepeats 1 "GridEngine$TrackText" "closeRepeats" none) (hxt : ∀ x ∈ c.exceptionTable.toList, False)  : ∀ n : Nat, ∀ (h : HP) (r0 : Nat) (H : Heap) (locs : List Loc) (ls : Array Slot), x_Rep E h H → va_S (x_A E) s.heap H locs → lv_has ls 1 [(0, .ref (xa E r0))] → f_X6_closeRepeats_L0 n h r0 = some z → W p l e ({ frames := 10, cells := 0, slots := 0, locals := 177 } : Room) s m args below meth c H locs 0 0 (x_Q E below args s 0 0 z) (F0 m 0 ls []) := by
  intro n
  induction n with
  | zero => intro h r0 H locs ls hR hS hl hf; cases (show (none : Option XR) = some z from hf)
  | succ n ih => intro h r0 H locs ls hR hS hl hf; exact s_X6_closeRepeats_b0 C0 hxt ih h r0 H locs ls hR hS hl (show f_X6_closeRepeats_b0 (f_X6_closeRepeats_L0 n) h r0 = some z from hf)
set_option maxRecDepth 100000 in
set_option maxHeartbeats 4000000 in
theorem ct_X6_closeRepeats (E : XE) (l : Launch) (hl0 : l.stackTraces = false) (h : HP) (r0 : Nat) : x_ct E l yX6_closeRepeats (Cond.code yX6_closeRepeats cX6_closeRepeats 1 none) 10 177 0 0 [.ref (xa E r0)] h (f_X6_closeRepeats h r0) := by
  refine x_ofW hl0 (by decide +kernel) ?_
  intro z hf p e s m args below meth c C0 hxt hargs hR
  subst hargs
  have C0 : x_C E p l s m meth c ([.ref (xa E r0)] : List Value).toArray cX6_closeRepeats 1 "GridEngine$TrackText" "closeRepeats" none := C0
  obtain ⟨hx, hb, -⟩ := id C0
  have hS : va_S (x_A E) s.heap s.heap [] := va_S.rf
  have hl := lv_entry ([.ref (xa E r0)]) (n := 1) (Nat.le_of_ble_eq_true rfl)
  rw [lg_entry_eq]
  generalize (lg_sl ([.ref (xa E r0)]) ++ List.replicate (1 - (lg_sl ([.ref (xa E r0)])).length) Slot.unset).toArray = ls at hl ⊢
  have hl : lv_has ls 1 [(0, .ref (xa E r0))] := hl
  unfold f_X6_closeRepeats at hf
  exact s_X6_closeRepeats_L0 C0 hxt FU _ _ _ _ _ hR hS (lv_sub hl [0] rfl) hf
def f_X6_isDigitNext_b63  (h : HP) (t0 : Int32) : Option XR :=
  x_rZ h t0
def f_X6_isDigitNext_b62  (h : HP)  : Option XR :=
  f_X6_isDigitNext_b63 h 0
def f_X6_isDigitNext (h : HP) (r0 : Nat) : Option XR :=
  x_gI h r0 6 2 fun i1 =>
  if i1 < 0 then
    (
      f_X6_isDigitNext_b62 h
    )
  else
    (
      x_gI h r0 6 2 fun i2 =>
      x_gI h r0 6 1 fun i3 =>
      if i3 ≤ i2 then
        (
          f_X6_isDigitNext_b62 h
        )
      else
        (
          x_gI h r0 6 2 fun i4 =>
          x_gR h r0 6 0 fun a5 =>
          x_ln h a5 fun i6 =>
          if i6 ≤ i4 then
            (
              f_X6_isDigitNext_b62 h
            )
          else
            (
              x_gR h r0 6 0 fun a7 =>
              x_gI h r0 6 2 fun i8 =>
              x_aI h 101 a7 i8 fun i9 =>
              if i9 < 48 then
                (
                  f_X6_isDigitNext_b62 h
                )
              else
                (
                  x_gR h r0 6 0 fun a10 =>
                  x_gI h r0 6 2 fun i11 =>
                  x_aI h 101 a10 i11 fun i12 =>
                  if 57 < i12 then
                    (
                      f_X6_isDigitNext_b62 h
                    )
                  else
                    (
                      f_X6_isDigitNext_b63 h 1
                    )
                )
            )
        )
    )
set_option maxRecDepth 100000 in
set_option maxHeartbeats 4000000 in
theorem s_X6_isDigitNext_b63 {p : Program} {l : Launch} {e : Env} {s : State} {m : MethodId} {args : Array Value} {below : List Frame} {meth : Method} {c : Code} {E : XE} {z : XR} (C0 : x_C E p l s m meth c args cX6_isDigitNext 1 "GridEngine$TrackText" "isDigitNext" (some .boolean)) (hxt : ∀ x ∈ c.exceptionTable.toList, False)  : ∀ (h : HP) (t0 : Int32) (H : Heap) (locs : List Loc) (ls : Array Slot), x_Rep E h H → va_S (x_A E) s.heap H locs → lv_has ls 1 [] → f_X6_isDigitNext_b63 h t0 = some z → W p l e ({ frames := 8, cells := 0, slots := 0, locals := 130 } : Room) s m args below meth c H locs 0 0 (x_Q E below args s 0 0 z) (F0 m 63 ls [.int t0]) := by
  intro h t0 H locs ls hR hS hl hf
  obtain ⟨hx, hb, -⟩ := id C0
  unfold f_X6_isDigitNext_b63 at hf
  have h0 : x_by cX6_isDigitNext 63 [172] := by unfold x_by; decide +kernel
  obtain ⟨d63, h0⟩ := de_ireturn h0
  exact x_zret C0 hR hS hf (Nat.le_of_ble_eq_true rfl) (Nat.le_of_ble_eq_true rfl) d63
set_option maxRecDepth 100000 in
set_option maxHeartbeats 4000000 in
theorem s_X6_isDigitNext_b62 {p : Program} {l : Launch} {e : Env} {s : State} {m : MethodId} {args : Array Value} {below : List Frame} {meth : Method} {c : Code} {E : XE} {z : XR} (C0 : x_C E p l s m meth c args cX6_isDigitNext 1 "GridEngine$TrackText" "isDigitNext" (some .boolean)) (hxt : ∀ x ∈ c.exceptionTable.toList, False)  : ∀ (h : HP)  (H : Heap) (locs : List Loc) (ls : Array Slot), x_Rep E h H → va_S (x_A E) s.heap H locs → lv_has ls 1 [] → f_X6_isDigitNext_b62 h  = some z → W p l e ({ frames := 8, cells := 0, slots := 0, locals := 130 } : Room) s m args below meth c H locs 0 0 (x_Q E below args s 0 0 z) (F0 m 62 ls []) := by
  intro h  H locs ls hR hS hl hf
  obtain ⟨hx, hb, -⟩ := id C0
  unfold f_X6_isDigitNext_b62 at hf
  have h0 : x_by cX6_isDigitNext 62 [3] := by unfold x_by; decide +kernel
  obtain ⟨d62, h0⟩ := de_iconst_0 h0
  refine lv_iconst (v := 0) hx hb d62 (by decide) ?_
  exact s_X6_isDigitNext_b63 C0 hxt _ _ _ _ _ hR hS (lv_sub hl [] rfl) hf
set_option maxRecDepth 100000 in
set_option maxHeartbeats 4000000 in
theorem ct_X6_isDigitNext (E : XE) (l : Launch) (hl0 : l.stackTraces = false) (h : HP) (r0 : Nat) : x_ct E l yX6_isDigitNext (Cond.code yX6_isDigitNext cX6_isDigitNext 1 (some .boolean)) 8 130 0 0 [.ref (xa E r0)] h (f_X6_isDigitNext h r0) := by
  refine x_ofW hl0 (by decide +kernel) ?_
  intro z hf p e s m args below meth c C0 hxt hargs hR
  subst hargs
  have C0 : x_C E p l s m meth c ([.ref (xa E r0)] : List Value).toArray cX6_isDigitNext 1 "GridEngine$TrackText" "isDigitNext" (some .boolean) := C0
  obtain ⟨hx, hb, -⟩ := id C0
  have hS : va_S (x_A E) s.heap s.heap [] := va_S.rf
  have hl := lv_entry ([.ref (xa E r0)]) (n := 1) (Nat.le_of_ble_eq_true rfl)
  rw [lg_entry_eq]
  generalize (lg_sl ([.ref (xa E r0)]) ++ List.replicate (1 - (lg_sl ([.ref (xa E r0)])).length) Slot.unset).toArray = ls at hl ⊢
  have hl : lv_has ls 1 [(0, .ref (xa E r0))] := hl
  unfold f_X6_isDigitNext at hf
  have h0 : x_by cX6_isDigitNext 0 [42, 180, 0, 19, 155, 0, 58] := by unfold x_by; decide +kernel
  obtain ⟨d0, h0⟩ := de_aload_n0 h0
  obtain ⟨d1, h0⟩ := de_getfield 19 (by decide) h0
  obtain ⟨d4, h0⟩ := de_if_lt (58) (by decide) h0
  refine lv_aload_n hx hb d0 rfl (lv_at hl 0 rfl) ?_
  refine x_getI C0 hR hf xcl_6 (Nat.le_of_ble_eq_true rfl) rfl fl_X6_19 d1 (fun i1 hf => ?_)
  refine lv_if_lt (tgt := 62) hx hb d4 (by decide) (fun q => ?_) (fun q => ?_)
  · have hf := x_pos q hf
    exact s_X6_isDigitNext_b62 C0 hxt _ _ _ _ hR hS (lv_sub hl [] rfl) hf
  · have hf := x_neg q hf
    have h0 : x_by cX6_isDigitNext 7 [42, 180, 0, 19, 42, 180, 0, 15, 162, 0, 47] := by unfold x_by; decide +kernel
    obtain ⟨d7, h0⟩ := de_aload_n0 h0
    obtain ⟨d8, h0⟩ := de_getfield 19 (by decide) h0
    obtain ⟨d11, h0⟩ := de_aload_n0 h0
    obtain ⟨d12, h0⟩ := de_getfield 15 (by decide) h0
    obtain ⟨d15, h0⟩ := de_icmp_ge (47) (by decide) h0
    refine lv_aload_n hx hb d7 rfl (lv_at hl 0 rfl) ?_
    refine x_getI C0 hR hf xcl_6 (Nat.le_of_ble_eq_true rfl) rfl fl_X6_19 d8 (fun i2 hf => ?_)
    refine lv_aload_n hx hb d11 rfl (lv_at hl 0 rfl) ?_
    refine x_getI C0 hR hf xcl_6 (Nat.le_of_ble_eq_true rfl) rfl fl_X6_15 d12 (fun i3 hf => ?_)
    refine lv_icmp_ge (tgt := 62) hx hb d15 (by decide) (fun q => ?_) (fun q => ?_)
    · have hf := x_pos q hf
      exact s_X6_isDigitNext_b62 C0 hxt _ _ _ _ hR hS (lv_sub hl [] rfl) hf
    · have hf := x_neg q hf
      have h0 : x_by cX6_isDigitNext 18 [42, 180, 0, 19, 42, 180, 0, 9, 190, 162, 0, 35] := by unfold x_by; decide +kernel
      obtain ⟨d18, h0⟩ := de_aload_n0 h0
      obtain ⟨d19, h0⟩ := de_getfield 19 (by decide) h0
      obtain ⟨d22, h0⟩ := de_aload_n0 h0
      obtain ⟨d23, h0⟩ := de_getfield 9 (by decide) h0
      obtain ⟨d26, h0⟩ := de_arraylength h0
      obtain ⟨d27, h0⟩ := de_icmp_ge (35) (by decide) h0
      refine lv_aload_n hx hb d18 rfl (lv_at hl 0 rfl) ?_
      refine x_getI C0 hR hf xcl_6 (Nat.le_of_ble_eq_true rfl) rfl fl_X6_19 d19 (fun i4 hf => ?_)
      refine lv_aload_n hx hb d22 rfl (lv_at hl 0 rfl) ?_
      refine x_getR C0 hR hf xcl_6 (Nat.le_of_ble_eq_true rfl) rfl fl_X6_9 d23 (fun a5 hf => ?_)
      refine x_alen C0 hR hf d26 (fun i6 hf => ?_)
      refine lv_icmp_ge (tgt := 62) hx hb d27 (by decide) (fun q => ?_) (fun q => ?_)
      · have hf := x_pos q hf
        exact s_X6_isDigitNext_b62 C0 hxt _ _ _ _ hR hS (lv_sub hl [] rfl) hf
      · have hf := x_neg q hf
        have h0 : x_by cX6_isDigitNext 30 [42, 180, 0, 9, 42, 180, 0, 19, 52, 16, 48, 161, 0, 21] := by unfold x_by; decide +kernel
        obtain ⟨d30, h0⟩ := de_aload_n0 h0
        obtain ⟨d31, h0⟩ := de_getfield 9 (by decide) h0
        obtain ⟨d34, h0⟩ := de_aload_n0 h0
        obtain ⟨d35, h0⟩ := de_getfield 19 (by decide) h0
        obtain ⟨d38, h0⟩ := de_caload h0
        obtain ⟨d39, h0⟩ := de_bipush (48) (by decide) h0
        obtain ⟨d41, h0⟩ := de_icmp_lt (21) (by decide) h0
        refine lv_aload_n hx hb d30 rfl (lv_at hl 0 rfl) ?_
        refine x_getR C0 hR hf xcl_6 (Nat.le_of_ble_eq_true rfl) rfl fl_X6_9 d31 (fun a7 hf => ?_)
        refine lv_aload_n hx hb d34 rfl (lv_at hl 0 rfl) ?_
        refine x_getI C0 hR hf xcl_6 (Nat.le_of_ble_eq_true rfl) rfl fl_X6_19 d35 (fun i8 hf => ?_)
        refine x_cald C0 hR hf d38 (fun i9 hf => ?_)
        refine lv_bipush (v := 48) hx hb d39 (by decide) ?_
        refine lv_icmp_lt (tgt := 62) hx hb d41 (by decide) (fun q => ?_) (fun q => ?_)
        · have hf := x_pos q hf
          exact s_X6_isDigitNext_b62 C0 hxt _ _ _ _ hR hS (lv_sub hl [] rfl) hf
        · have hf := x_neg q hf
          have h0 : x_by cX6_isDigitNext 44 [42, 180, 0, 9, 42, 180, 0, 19, 52, 16, 57, 163, 0, 7] := by unfold x_by; decide +kernel
          obtain ⟨d44, h0⟩ := de_aload_n0 h0
          obtain ⟨d45, h0⟩ := de_getfield 9 (by decide) h0
          obtain ⟨d48, h0⟩ := de_aload_n0 h0
          obtain ⟨d49, h0⟩ := de_getfield 19 (by decide) h0
          obtain ⟨d52, h0⟩ := de_caload h0
          obtain ⟨d53, h0⟩ := de_bipush (57) (by decide) h0
          obtain ⟨d55, h0⟩ := de_icmp_gt (7) (by decide) h0
          refine lv_aload_n hx hb d44 rfl (lv_at hl 0 rfl) ?_
          refine x_getR C0 hR hf xcl_6 (Nat.le_of_ble_eq_true rfl) rfl fl_X6_9 d45 (fun a10 hf => ?_)
          refine lv_aload_n hx hb d48 rfl (lv_at hl 0 rfl) ?_
          refine x_getI C0 hR hf xcl_6 (Nat.le_of_ble_eq_true rfl) rfl fl_X6_19 d49 (fun i11 hf => ?_)
          refine x_cald C0 hR hf d52 (fun i12 hf => ?_)
          refine lv_bipush (v := 57) hx hb d53 (by decide) ?_
          refine lv_icmp_gt (tgt := 62) hx hb d55 (by decide) (fun q => ?_) (fun q => ?_)
          · have hf := x_pos q hf
            exact s_X6_isDigitNext_b62 C0 hxt _ _ _ _ hR hS (lv_sub hl [] rfl) hf
          · have hf := x_neg q hf
            have h0 : x_by cX6_isDigitNext 58 [4, 167, 0, 4] := by unfold x_by; decide +kernel
            obtain ⟨d58, h0⟩ := de_iconst_1 h0
            obtain ⟨d59, h0⟩ := de_goto (4) (by decide) h0
            refine lv_iconst (v := 1) hx hb d58 (by decide) ?_
            refine lv_goto (tgt := 63) hx hb d59 (by decide) ?_
            exact s_X6_isDigitNext_b63 C0 hxt _ _ _ _ _ hR hS (lv_sub hl [] rfl) hf
def f_X6_takeNumber_b68  (h : HP)  : Option XR :=
  x_rZ h 1
def f_X6_takeNumber_b16 (k16 : HP → Nat → Int32 → Option XR) (h : HP) (r0 : Nat) (x1 : Int32) : Option XR :=
  if 3 ≤ x1 then
    (
      f_X6_takeNumber_b68 h
    )
  else
    (
      x_rc h r0 6 <| x_cI (f_X6_isDigitNext h r0) fun h2 i1 =>
      if i1 = 0 then
        (
          f_X6_takeNumber_b68 h2
        )
      else
        (
          x_gI h2 r0 6 3 fun i3 =>
          x_gR h2 r0 6 0 fun a4 =>
          x_gI h2 r0 6 2 fun i5 =>
          x_aI h2 101 a4 i5 fun i6 =>
          x_pI h2 r0 6 3 ((10 * i3) + (i6 - 48)) fun h7 =>
          x_gI h7 r0 6 2 fun i8 =>
          x_pI h7 r0 6 2 (i8 + 1) fun h9 =>
          k16 h9 r0 (x1 + 1)
        )
    )
def f_X6_takeNumber_L16  : Nat → HP → Nat → Int32 → Option XR
  | 0 => fun _ _ _ => none
  | n + 1 => f_X6_takeNumber_b16 (f_X6_takeNumber_L16 n)
def f_X6_takeNumber (h : HP) (r0 : Nat) : Option XR :=
  x_rc h r0 6 <| x_cI (f_X6_isDigitNext h r0) fun h2 i1 =>
  if i1 = 0 then
    (
      x_rZ h2 0
    )
  else
    (
      x_pI h2 r0 6 3 0 fun h3 =>
      f_X6_takeNumber_L16 FU h3 r0 0
    )
set_option maxRecDepth 100000 in
set_option maxHeartbeats 4000000 in
theorem s_X6_takeNumber_b68 {p : Program} {l : Launch} {e : Env} {s : State} {m : MethodId} {args : Array Value} {below : List Frame} {meth : Method} {c : Code} {E : XE} {z : XR} (C0 : x_C E p l s m meth c args cX6_takeNumber 2 "GridEngine$TrackText" "takeNumber" (some .boolean)) (hxt : ∀ x ∈ c.exceptionTable.toList, False)  : ∀ (h : HP)  (H : Heap) (locs : List Loc) (ls : Array Slot), x_Rep E h H → va_S (x_A E) s.heap H locs → lv_has ls 2 [] → f_X6_takeNumber_b68 h  = some z → W p l e ({ frames := 9, cells := 0, slots := 0, locals := 150 } : Room) s m args below meth c H locs 0 0 (x_Q E below args s 0 0 z) (F0 m 68 ls []) := by
  intro h  H locs ls hR hS hl hf
  obtain ⟨hx, hb, -⟩ := id C0
  unfold f_X6_takeNumber_b68 at hf
  have h0 : x_by cX6_takeNumber 68 [4, 172] := by unfold x_by; decide +kernel
  obtain ⟨d68, h0⟩ := de_iconst_1 h0
  obtain ⟨d69, h0⟩ := de_ireturn h0
  refine lv_iconst (v := 1) hx hb d68 (by decide) ?_
  exact x_zret C0 hR hS hf (Nat.le_of_ble_eq_true rfl) (Nat.le_of_ble_eq_true rfl) d69
set_option maxRecDepth 100000 in
set_option maxHeartbeats 4000000 in
theorem s_X6_takeNumber_b16 {p : Program} {l : Launch} {e : Env} {s : State} {m : MethodId} {args : Array Value} {below : List Frame} {meth : Method} {c : Code} {E : XE} {z : XR} (C0 : x_C E p l s m meth c args cX6_takeNumber 2 "GridEngine$TrackText" "takeNumber" (some .boolean)) (hxt : ∀ x ∈ c.exceptionTable.toList, False) {k16 : HP → Nat → Int32 → Option XR} (hk16 : ∀ (h : HP) (r0 : Nat) (x1 : Int32) (H : Heap) (locs : List Loc) (ls : Array Slot), x_Rep E h H → va_S (x_A E) s.heap H locs → lv_has ls 2 [(0, .ref (xa E r0)), (1, .int x1)] → k16 h r0 x1 = some z → W p l e ({ frames := 9, cells := 0, slots := 0, locals := 150 } : Room) s m args below meth c H locs 0 0 (x_Q E below args s 0 0 z) (F0 m 16 ls [])) : ∀ (h : HP) (r0 : Nat) (x1 : Int32) (H : Heap) (locs : List Loc) (ls : Array Slot), x_Rep E h H → va_S (x_A E) s.heap H locs → lv_has ls 2 [(0, .ref (xa E r0)), (1, .int x1)] → f_X6_takeNumber_b16 k16 h r0 x1 = some z → W p l e ({ frames := 9, cells := 0, slots := 0, locals := 150 } : Room) s m args below meth c H locs 0 0 (x_Q E below args s 0 0 z) (F0 m 16 ls []) := by
  intro h r0 x1 H locs ls hR hS hl hf
  obtain ⟨hx, hb, -⟩ := id C0
  unfold f_X6_takeNumber_b16 at hf
  have h0 : x_by cX6_takeNumber 16 [27, 6, 162, 0, 50] := by unfold x_by; decide +kernel
  obtain ⟨d16, h0⟩ := de_iload_n1 h0
  obtain ⟨d17, h0⟩ := de_iconst_3 h0
  obtain ⟨d18, h0⟩ := de_icmp_ge (50) (by decide) h0
  refine lv_iload_n hx hb d16 rfl (lv_at hl 1 rfl) ?_
  refine lv_iconst (v := 3) hx hb d17 (by decide) ?_
  refine lv_icmp_ge (tgt := 68) hx hb d18 (by decide) (fun q => ?_) (fun q => ?_)
  · have hf := x_pos q hf
    exact s_X6_takeNumber_b68 C0 hxt _ _ _ _ hR hS (lv_sub hl [] rfl) hf
  · have hf := x_neg q hf
    have h0 : x_by cX6_takeNumber 21 [42, 182, 0, 92, 153, 0, 43] := by unfold x_by; decide +kernel
    obtain ⟨d21, h0⟩ := de_aload_n0 h0
    obtain ⟨d22, h0⟩ := de_invokevirtual 92 (by decide) h0
    obtain ⟨d25, h0⟩ := de_if_eq (43) (by decide) h0
    refine lv_aload_n hx hb d21 rfl (lv_at hl 0 rfl) ?_
    obtain ⟨hs9, hf⟩ := x_if hf
    refine x_thenI C0 hxt hS hf (fun z0 e0 => x_runV C0 hR hS me_X6_isDigitNext wi_X6_isDigitNext wl_X6_isDigitNext ml_X6_92 hs9 xcl_6 (As := []) (ct_X6_isDigitNext E l C0.2.2.2.2.2.2.2.1 _ r0) rfl rfl hl.1 (Nat.le_of_ble_eq_true rfl) d22 ⟨(Nat.le_of_ble_eq_true rfl), (Nat.le_of_ble_eq_true rfl)⟩ ⟨(Nat.le_of_ble_eq_true rfl), (Nat.le_of_ble_eq_true rfl)⟩ e0) (Nat.le_of_ble_eq_true rfl) (Nat.le_of_ble_eq_true rfl) (fun h9 i1 H locs hR hS hf => ?_)
    refine lv_if_eq (tgt := 68) hx hb d25 (by decide) (fun q => ?_) (fun q => ?_)
    · have hf := x_pos q hf
      exact s_X6_takeNumber_b68 C0 hxt _ _ _ _ hR hS (lv_sub hl [] rfl) hf
    · have hf := x_neg q hf
      have h0 : x_by cX6_takeNumber 28 [42, 16, 10, 42, 180, 0, 22, 104, 42, 180, 0, 9, 42, 180, 0, 19, 52, 16, 48, 100, 96, 181, 0, 22, 42, 89, 180, 0, 19, 4, 96, 181, 0, 19, 132, 1, 1, 167, 255, 207] := by unfold x_by; decide +kernel
      obtain ⟨d28, h0⟩ := de_aload_n0 h0
      obtain ⟨d29, h0⟩ := de_bipush (10) (by decide) h0
      obtain ⟨d31, h0⟩ := de_aload_n0 h0
      obtain ⟨d32, h0⟩ := de_getfield 22 (by decide) h0
      obtain ⟨d35, h0⟩ := de_imul h0
      obtain ⟨d36, h0⟩ := de_aload_n0 h0
      obtain ⟨d37, h0⟩ := de_getfield 9 (by decide) h0
      obtain ⟨d40, h0⟩ := de_aload_n0 h0
      obtain ⟨d41, h0⟩ := de_getfield 19 (by decide) h0
      obtain ⟨d44, h0⟩ := de_caload h0
      obtain ⟨d45, h0⟩ := de_bipush (48) (by decide) h0
      obtain ⟨d47, h0⟩ := de_isub h0
      obtain ⟨d48, h0⟩ := de_iadd h0
      obtain ⟨d49, h0⟩ := de_putfield 22 (by decide) h0
      obtain ⟨d52, h0⟩ := de_aload_n0 h0
      obtain ⟨d53, h0⟩ := de_dup h0
      obtain ⟨d54, h0⟩ := de_getfield 19 (by decide) h0
      obtain ⟨d57, h0⟩ := de_iconst_1 h0
      obtain ⟨d58, h0⟩ := de_iadd h0
      obtain ⟨d59, h0⟩ := de_putfield 19 (by decide) h0
      obtain ⟨d62, h0⟩ := de_iinc (1) (by decide) h0
      obtain ⟨d65, h0⟩ := de_goto (-49) (by decide) h0
      refine lv_aload_n hx hb d28 rfl (lv_at hl 0 rfl) ?_
      refine lv_bipush (v := 10) hx hb d29 (by decide) ?_
      refine lv_aload_n hx hb d31 rfl (lv_at hl 0 rfl) ?_
      refine x_getI C0 hR hf xcl_6 (Nat.le_of_ble_eq_true rfl) rfl fl_X6_22 d32 (fun i3 hf => ?_)
      refine lv_imul hx hb d35 ?_
      refine lv_aload_n hx hb d36 rfl (lv_at hl 0 rfl) ?_
      refine x_getR C0 hR hf xcl_6 (Nat.le_of_ble_eq_true rfl) rfl fl_X6_9 d37 (fun a4 hf => ?_)
      refine lv_aload_n hx hb d40 rfl (lv_at hl 0 rfl) ?_
      refine x_getI C0 hR hf xcl_6 (Nat.le_of_ble_eq_true rfl) rfl fl_X6_19 d41 (fun i5 hf => ?_)
      refine x_cald C0 hR hf d44 (fun i6 hf => ?_)
      refine lv_bipush (v := 48) hx hb d45 (by decide) ?_
      refine lv_isub hx hb d47 ?_
      refine lv_iadd hx hb d48 ?_
      refine x_putI C0 hR hS hf xcl_6 (Nat.le_of_ble_eq_true rfl) rfl fl_X6_22 (Or.inl rfl) d49 (fun H locs hR hS hf => ?_)
      refine lv_aload_n hx hb d52 rfl (lv_at hl 0 rfl) ?_
      refine lv_dup hx hb d53 rfl ?_
      refine x_getI C0 hR hf xcl_6 (Nat.le_of_ble_eq_true rfl) rfl fl_X6_19 d54 (fun i8 hf => ?_)
      refine lv_iconst (v := 1) hx hb d57 (by decide) ?_
      refine lv_iadd hx hb d58 ?_
      refine x_putI C0 hR hS hf xcl_6 (Nat.le_of_ble_eq_true rfl) rfl fl_X6_19 (Or.inl rfl) d59 (fun H locs hR hS hf => ?_)
      refine lv_iinc (v := (x1 + 1)) (lv' := [(1, .int (x1 + 1)), (0, .ref (xa E r0))]) hx hb d62 hl (k := 1) rfl rfl (by decide) rfl (fun ls hl => ?_)
      refine lv_goto (tgt := 16) hx hb d65 (by decide) ?_
      exact hk16 _ _ _ _ _ _ hR hS (lv_sub hl [1, 0] rfl) hf
theorem s_X6_takeNumber_L16 {p : Program} {l : Launch} {e : Env} {s : State} {m : MethodId} {args : Array Value} {below : List Frame} {meth : Method} {c : Code} {E : XE} {z : XR} (C0 : x_C E p l s m meth c args cX6_takeNumber 2 "GridEngine$TrackText" "takeNumber" (some .boolean)) (hxt : ∀ x ∈ c.exceptionTable.toList, False)  : ∀ n : Nat, ∀ (h : HP) (r0 : Nat) (x1 : Int32) (H : Heap) (locs : List Loc) (ls : Array Slot), x_Rep E h H → va_S (x_A E) s.heap H locs → lv_has ls 2 [(0, .ref (xa E r0)), (1, .int x1)] → f_X6_takeNumber_L16 n h r0 x1 = some z → W p l e ({ frames := 9, cells := 0, slots := 0, locals := 150 } : Room) s m args below meth c H locs 0 0 (x_Q E below args s 0 0 z) (F0 m 16 ls []) := by
  intro n
  induction n with
  | zero => intro h r0 x1 H locs ls hR hS hl hf; cases (show (none : Option XR) = some z from hf)
  | succ n ih => intro h r0 x1 H locs ls hR hS hl hf; exact s_X6_takeNumber_b16 C0 hxt ih h r0 x1 H locs ls hR hS hl (show f_X6_takeNumber_b16 (f_X6_takeNumber_L16 n) h r0 x1 = some z from hf)
set_option maxRecDepth 100000 in
set_option maxHeartbeats 4000000 in
theorem ct_X6_takeNumber (E : XE) (l : Launch) (hl0 : l.stackTraces = false) (h : HP) (r0 : Nat) : x_ct E l yX6_takeNumber (Cond.code yX6_takeNumber cX6_takeNumber 2 (some .boolean)) 9 150 0 0 [.ref (xa E r0)] h (f_X6_takeNumber h r0) := by
  refine x_ofW hl0 (by decide +kernel) ?_
  intro z hf p e s m args below meth c C0 hxt hargs hR
  subst hargs
  have C0 : x_C E p l s m meth c ([.ref (xa E r0)] : List Value).toArray cX6_takeNumber 2 "GridEngine$TrackText" "takeNumber" (some .boolean) := C0
  obtain ⟨hx, hb, -⟩ := id C0
  have hS : va_S (x_A E) s.heap s.heap [] := va_S.rf
  have hl := lv_entry ([.ref (xa E r0)]) (n := 2) (Nat.le_of_ble_eq_true rfl)
  rw [lg_entry_eq]
  generalize (lg_sl ([.ref (xa E r0)]) ++ List.replicate (2 - (lg_sl ([.ref (xa E r0)])).length) Slot.unset).toArray = ls at hl ⊢
  have hl : lv_has ls 2 [(0, .ref (xa E r0))] := hl
  unfold f_X6_takeNumber at hf
  have h0 : x_by cX6_takeNumber 0 [42, 182, 0, 92, 154, 0, 5] := by unfold x_by; decide +kernel
  obtain ⟨d0, h0⟩ := de_aload_n0 h0
  obtain ⟨d1, h0⟩ := de_invokevirtual 92 (by decide) h0
  obtain ⟨d4, h0⟩ := de_if_ne (5) (by decide) h0
  refine lv_aload_n hx hb d0 rfl (lv_at hl 0 rfl) ?_
  obtain ⟨hs9, hf⟩ := x_if hf
  refine x_thenI C0 hxt hS hf (fun z0 e0 => x_runV C0 hR hS me_X6_isDigitNext wi_X6_isDigitNext wl_X6_isDigitNext ml_X6_92 hs9 xcl_6 (As := []) (ct_X6_isDigitNext E l C0.2.2.2.2.2.2.2.1 _ r0) rfl rfl hl.1 (Nat.le_of_ble_eq_true rfl) d1 ⟨(Nat.le_of_ble_eq_true rfl), (Nat.le_of_ble_eq_true rfl)⟩ ⟨(Nat.le_of_ble_eq_true rfl), (Nat.le_of_ble_eq_true rfl)⟩ e0) (Nat.le_of_ble_eq_true rfl) (Nat.le_of_ble_eq_true rfl) (fun h9 i1 H locs hR hS hf => ?_)
  refine lv_if_ne (tgt := 9) hx hb d4 (by decide) (fun q => ?_) (fun q => ?_)
  · have hf := x_neg q hf
    have h0 : x_by cX6_takeNumber 9 [42, 3, 181, 0, 22, 3, 60] := by unfold x_by; decide +kernel
    obtain ⟨d9, h0⟩ := de_aload_n0 h0
    obtain ⟨d10, h0⟩ := de_iconst_0 h0
    obtain ⟨d11, h0⟩ := de_putfield 22 (by decide) h0
    obtain ⟨d14, h0⟩ := de_iconst_0 h0
    obtain ⟨d15, h0⟩ := de_istore_n1 h0
    refine lv_aload_n hx hb d9 rfl (lv_at hl 0 rfl) ?_
    refine lv_iconst (v := 0) hx hb d10 (by decide) ?_
    refine x_putI C0 hR hS hf xcl_6 (Nat.le_of_ble_eq_true rfl) rfl fl_X6_22 (Or.inl rfl) d11 (fun H locs hR hS hf => ?_)
    refine lv_iconst (v := 0) hx hb d14 (by decide) ?_
    refine lv_istore_n (lv' := [(1, .int 0), (0, .ref (xa E r0))]) hx hb d15 rfl hl (by decide) rfl (fun ls hl => ?_)
    exact s_X6_takeNumber_L16 C0 hxt FU _ _ _ _ _ _ hR hS (lv_sub hl [1, 0] rfl) hf
  · have hf := x_pos q hf
    have h0 : x_by cX6_takeNumber 7 [3, 172] := by unfold x_by; decide +kernel
    obtain ⟨d7, h0⟩ := de_iconst_0 h0
    obtain ⟨d8, h0⟩ := de_ireturn h0
    refine lv_iconst (v := 0) hx hb d7 (by decide) ?_
    exact x_zret C0 hR hS hf (Nat.le_of_ble_eq_true rfl) (Nat.le_of_ble_eq_true rfl) d8
def f_X6_takeWord_b2 (k2 : HP → Nat → Nat → Int32 → Option XR) (h : HP) (r0 : Nat) (r1 : Nat) (x2 : Int32) : Option XR :=
  x_cI (f_J0_length_8abf5 h r1) fun h2 i1 =>
  if i1 ≤ x2 then
    (
      x_rZ h2 1
    )
  else
    (
      x_cI (f_J0_charAt_5068e h2 r1 x2) fun h4 i3 =>
      x_rc h4 r0 6 <| x_cI (f_X6_isNext h4 r0 i3) fun h6 i5 =>
      if i5 = 0 then
        (
          x_rZ h6 0
        )
      else
        (
          x_gI h6 r0 6 2 fun i7 =>
          x_pI h6 r0 6 2 (i7 + 1) fun h8 =>
          k2 h8 r0 r1 (x2 + 1)
        )
    )
def f_X6_takeWord_L2  : Nat → HP → Nat → Nat → Int32 → Option XR
  | 0 => fun _ _ _ _ => none
  | n + 1 => f_X6_takeWord_b2 (f_X6_takeWord_L2 n)
def f_X6_takeWord (h : HP) (r0 : Nat) (r1 : Nat) : Option XR :=
  f_X6_takeWord_L2 FU h r0 r1 0
set_option maxRecDepth 100000 in
set_option maxHeartbeats 4000000 in
theorem s_X6_takeWord_b2 {p : Program} {l : Launch} {e : Env} {s : State} {m : MethodId} {args : Array Value} {below : List Frame} {meth : Method} {c : Code} {E : XE} {z : XR} (C0 : x_C E p l s m meth c args cX6_takeWord 3 "GridEngine$TrackText" "takeWord" (some .boolean)) (hxt : ∀ x ∈ c.exceptionTable.toList, False) {k2 : HP → Nat → Nat → Int32 → Option XR} (hk2 : ∀ (h : HP) (r0 : Nat) (r1 : Nat) (x2 : Int32) (H : Heap) (locs : List Loc) (ls : Array Slot), x_Rep E h H → va_S (x_A E) s.heap H locs → lv_has ls 3 [(0, .ref (xa E r0)), (1, .ref (xa E r1)), (2, .int x2)] → k2 h r0 r1 x2 = some z → W p l e ({ frames := 12, cells := 0, slots := 0, locals := 217 } : Room) s m args below meth c H locs 0 0 (x_Q E below args s 0 0 z) (F0 m 2 ls [])) : ∀ (h : HP) (r0 : Nat) (r1 : Nat) (x2 : Int32) (H : Heap) (locs : List Loc) (ls : Array Slot), x_Rep E h H → va_S (x_A E) s.heap H locs → lv_has ls 3 [(0, .ref (xa E r0)), (1, .ref (xa E r1)), (2, .int x2)] → f_X6_takeWord_b2 k2 h r0 r1 x2 = some z → W p l e ({ frames := 12, cells := 0, slots := 0, locals := 217 } : Room) s m args below meth c H locs 0 0 (x_Q E below args s 0 0 z) (F0 m 2 ls []) := by
  intro h r0 r1 x2 H locs ls hR hS hl hf
  obtain ⟨hx, hb, -⟩ := id C0
  unfold f_X6_takeWord_b2 at hf
  have h0 : x_by cX6_takeWord 2 [28, 43, 182, 0, 83, 162, 0, 33] := by unfold x_by; decide +kernel
  obtain ⟨d2, h0⟩ := de_iload_n2 h0
  obtain ⟨d3, h0⟩ := de_aload_n1 h0
  obtain ⟨d4, h0⟩ := de_invokevirtual 83 (by decide) h0
  obtain ⟨d7, h0⟩ := de_icmp_ge (33) (by decide) h0
  refine lv_iload_n hx hb d2 rfl (lv_at hl 2 rfl) ?_
  refine lv_aload_n hx hb d3 rfl (lv_at hl 1 rfl) ?_
  refine x_thenI C0 hxt hS hf (fun z0 e0 => x_runLen C0 hR hS me_J0_length_8abf5 wi_J0_length_8abf5 wl_J0_length_8abf5 ml_X6_83 rfl (As := []) (ct_J0_length_8abf5 E l C0.2.2.2.2.2.2.2.1 _ r1) rfl rfl hl.1 (Nat.le_of_ble_eq_true rfl) d4 ⟨(Nat.le_of_ble_eq_true rfl), (Nat.le_of_ble_eq_true rfl)⟩ ⟨(Nat.le_of_ble_eq_true rfl), (Nat.le_of_ble_eq_true rfl)⟩ e0) (Nat.le_of_ble_eq_true rfl) (Nat.le_of_ble_eq_true rfl) (fun h9 i1 H locs hR hS hf => ?_)
  refine lv_icmp_ge (tgt := 40) hx hb d7 (by decide) (fun q => ?_) (fun q => ?_)
  · have hf := x_pos q hf
    have h0 : x_by cX6_takeWord 40 [4, 172] := by unfold x_by; decide +kernel
    obtain ⟨d40, h0⟩ := de_iconst_1 h0
    obtain ⟨d41, h0⟩ := de_ireturn h0
    refine lv_iconst (v := 1) hx hb d40 (by decide) ?_
    exact x_zret C0 hR hS hf (Nat.le_of_ble_eq_true rfl) (Nat.le_of_ble_eq_true rfl) d41
  · have hf := x_neg q hf
    have h0 : x_by cX6_takeWord 10 [42, 43, 28, 182, 0, 88, 182, 0, 60, 154, 0, 5] := by unfold x_by; decide +kernel
    obtain ⟨d10, h0⟩ := de_aload_n0 h0
    obtain ⟨d11, h0⟩ := de_aload_n1 h0
    obtain ⟨d12, h0⟩ := de_iload_n2 h0
    obtain ⟨d13, h0⟩ := de_invokevirtual 88 (by decide) h0
    obtain ⟨d16, h0⟩ := de_invokevirtual 60 (by decide) h0
    obtain ⟨d19, h0⟩ := de_if_ne (5) (by decide) h0
    refine lv_aload_n hx hb d10 rfl (lv_at hl 0 rfl) ?_
    refine lv_aload_n hx hb d11 rfl (lv_at hl 1 rfl) ?_
    refine lv_iload_n hx hb d12 rfl (lv_at hl 2 rfl) ?_
    refine x_thenI C0 hxt hS hf (fun z0 e0 => x_runCh C0 hR hS me_J0_charAt_5068e wi_J0_charAt_5068e wl_J0_charAt_5068e ml_X6_88 rfl (As := [.int x2]) (ct_J0_charAt_5068e E l C0.2.2.2.2.2.2.2.1 _ r1 x2) rfl rfl hl.1 (Nat.le_of_ble_eq_true rfl) d13 ⟨(Nat.le_of_ble_eq_true rfl), (Nat.le_of_ble_eq_true rfl)⟩ ⟨(Nat.le_of_ble_eq_true rfl), (Nat.le_of_ble_eq_true rfl)⟩ e0) (Nat.le_of_ble_eq_true rfl) (Nat.le_of_ble_eq_true rfl) (fun h9 i3 H locs hR hS hf => ?_)
    obtain ⟨hs9, hf⟩ := x_if hf
    refine x_thenI C0 hxt hS hf (fun z0 e0 => x_runV C0 hR hS me_X6_isNext wi_X6_isNext wl_X6_isNext ml_X6_60 hs9 xcl_6 (As := [.int i3]) (ct_X6_isNext E l C0.2.2.2.2.2.2.2.1 _ r0 i3) rfl rfl hl.1 (Nat.le_of_ble_eq_true rfl) d16 ⟨(Nat.le_of_ble_eq_true rfl), (Nat.le_of_ble_eq_true rfl)⟩ ⟨(Nat.le_of_ble_eq_true rfl), (Nat.le_of_ble_eq_true rfl)⟩ e0) (Nat.le_of_ble_eq_true rfl) (Nat.le_of_ble_eq_true rfl) (fun h9 i5 H locs hR hS hf => ?_)
    refine lv_if_ne (tgt := 24) hx hb d19 (by decide) (fun q => ?_) (fun q => ?_)
    · have hf := x_neg q hf
      have h0 : x_by cX6_takeWord 24 [42, 89, 180, 0, 19, 4, 96, 181, 0, 19, 132, 2, 1, 167, 255, 221] := by unfold x_by; decide +kernel
      obtain ⟨d24, h0⟩ := de_aload_n0 h0
      obtain ⟨d25, h0⟩ := de_dup h0
      obtain ⟨d26, h0⟩ := de_getfield 19 (by decide) h0
      obtain ⟨d29, h0⟩ := de_iconst_1 h0
      obtain ⟨d30, h0⟩ := de_iadd h0
      obtain ⟨d31, h0⟩ := de_putfield 19 (by decide) h0
      obtain ⟨d34, h0⟩ := de_iinc (1) (by decide) h0
      obtain ⟨d37, h0⟩ := de_goto (-35) (by decide) h0
      refine lv_aload_n hx hb d24 rfl (lv_at hl 0 rfl) ?_
      refine lv_dup hx hb d25 rfl ?_
      refine x_getI C0 hR hf xcl_6 (Nat.le_of_ble_eq_true rfl) rfl fl_X6_19 d26 (fun i7 hf => ?_)
      refine lv_iconst (v := 1) hx hb d29 (by decide) ?_
      refine lv_iadd hx hb d30 ?_
      refine x_putI C0 hR hS hf xcl_6 (Nat.le_of_ble_eq_true rfl) rfl fl_X6_19 (Or.inl rfl) d31 (fun H locs hR hS hf => ?_)
      refine lv_iinc (v := (x2 + 1)) (lv' := [(2, .int (x2 + 1)), (0, .ref (xa E r0)), (1, .ref (xa E r1))]) hx hb d34 hl (k := 2) rfl rfl (by decide) rfl (fun ls hl => ?_)
      refine lv_goto (tgt := 2) hx hb d37 (by decide) ?_
      exact hk2 _ _ _ _ _ _ _ hR hS (lv_sub hl [1, 2, 0] rfl) hf
    · have hf := x_pos q hf
      have h0 : x_by cX6_takeWord 22 [3, 172] := by unfold x_by; decide +kernel
      obtain ⟨d22, h0⟩ := de_iconst_0 h0
      obtain ⟨d23, h0⟩ := de_ireturn h0
      refine lv_iconst (v := 0) hx hb d22 (by decide) ?_
      exact x_zret C0 hR hS hf (Nat.le_of_ble_eq_true rfl) (Nat.le_of_ble_eq_true rfl) d23
theorem s_X6_takeWord_L2 {p : Program} {l : Launch} {e : Env} {s : State} {m : MethodId} {args : Array Value} {below : List Frame} {meth : Method} {c : Code} {E : XE} {z : XR} (C0 : x_C E p l s m meth c args cX6_takeWord 3 "GridEngine$TrackText" "takeWord" (some .boolean)) (hxt : ∀ x ∈ c.exceptionTable.toList, False)  : ∀ n : Nat, ∀ (h : HP) (r0 : Nat) (r1 : Nat) (x2 : Int32) (H : Heap) (locs : List Loc) (ls : Array Slot), x_Rep E h H → va_S (x_A E) s.heap H locs → lv_has ls 3 [(0, .ref (xa E r0)), (1, .ref (xa E r1)), (2, .int x2)] → f_X6_takeWord_L2 n h r0 r1 x2 = some z → W p l e ({ frames := 12, cells := 0, slots := 0, locals := 217 } : Room) s m args below meth c H locs 0 0 (x_Q E below args s 0 0 z) (F0 m 2 ls []) := by
  intro n
  induction n with
  | zero => intro h r0 r1 x2 H locs ls hR hS hl hf; cases (show (none : Option XR) = some z from hf)
  | succ n ih => intro h r0 r1 x2 H locs ls hR hS hl hf; exact s_X6_takeWord_b2 C0 hxt ih h r0 r1 x2 H locs ls hR hS hl (show f_X6_takeWord_b2 (f_X6_takeWord_L2 n) h r0 r1 x2 = some z from hf)
set_option maxRecDepth 100000 in
set_option maxHeartbeats 4000000 in
theorem ct_X6_takeWord (E : XE) (l : Launch) (hl0 : l.stackTraces = false) (h : HP) (r0 : Nat) (r1 : Nat) : x_ct E l yX6_takeWord (Cond.code yX6_takeWord cX6_takeWord 3 (some .boolean)) 12 217 0 0 [.ref (xa E r0), .ref (xa E r1)] h (f_X6_takeWord h r0 r1) := by
  refine x_ofW hl0 (by decide +kernel) ?_
  intro z hf p e s m args below meth c C0 hxt hargs hR
  subst hargs
  have C0 : x_C E p l s m meth c ([.ref (xa E r0), .ref (xa E r1)] : List Value).toArray cX6_takeWord 3 "GridEngine$TrackText" "takeWord" (some .boolean) := C0
  obtain ⟨hx, hb, -⟩ := id C0
  have hS : va_S (x_A E) s.heap s.heap [] := va_S.rf
  have hl := lv_entry ([.ref (xa E r0), .ref (xa E r1)]) (n := 3) (Nat.le_of_ble_eq_true rfl)
  rw [lg_entry_eq]
  generalize (lg_sl ([.ref (xa E r0), .ref (xa E r1)]) ++ List.replicate (3 - (lg_sl ([.ref (xa E r0), .ref (xa E r1)])).length) Slot.unset).toArray = ls at hl ⊢
  have hl : lv_has ls 3 [(0, .ref (xa E r0)), (1, .ref (xa E r1))] := hl
  unfold f_X6_takeWord at hf
  have h0 : x_by cX6_takeWord 0 [3, 61] := by unfold x_by; decide +kernel
  obtain ⟨d0, h0⟩ := de_iconst_0 h0
  obtain ⟨d1, h0⟩ := de_istore_n2 h0
  refine lv_iconst (v := 0) hx hb d0 (by decide) ?_
  refine lv_istore_n (lv' := [(2, .int 0), (0, .ref (xa E r0)), (1, .ref (xa E r1))]) hx hb d1 rfl hl (by decide) rfl (fun ls hl => ?_)
  exact s_X6_takeWord_L2 C0 hxt FU _ _ _ _ _ _ _ hR hS (lv_sub hl [1, 2, 0] rfl) hf
def f_X6_openRepeat_b17  (h : HP)  : Option XR :=
  x_rZ h 0
def f_X6_openRepeat_b44  (h : HP)  : Option XR :=
  x_rZ h 0
def f_X6_openRepeat (h : HP) (r0 : Nat) : Option XR :=
  x_rc h r0 6 <| x_cI (f_X6_takeWord h r0 1000002) fun h2 i1 =>
  if i1 = 0 then
    (
      f_X6_openRepeat_b17 h2
    )
  else
    (
      x_gI h2 r0 6 9 fun i3 =>
      if i3 < 4 then
        (
          x_rc h2 r0 6 <| x_cI (f_X6_takeWord h2 r0 1000003) fun h5 i4 =>
          if i4 = 0 then
            (
              f_X6_openRepeat_b44 h5
            )
          else
            (
              x_rc h5 r0 6 <| x_cI (f_X6_takeNumber h5 r0) fun h7 i6 =>
              if i6 = 0 then
                (
                  f_X6_openRepeat_b44 h7
                )
              else
                (
                  x_rc h7 r0 6 <| x_cI (f_X6_takeWord h7 r0 1000004) fun h9 i8 =>
                  if i8 = 0 then
                    (
                      f_X6_openRepeat_b44 h9
                    )
                  else
                    (
                      x_gR h9 r0 6 10 fun a10 =>
                      x_gI h9 r0 6 9 fun i11 =>
                      x_gI h9 r0 6 6 fun i12 =>
                      x_sI h9 a10 i11 i12 fun h13 =>
                      x_gR h13 r0 6 11 fun a14 =>
                      x_gI h13 r0 6 9 fun i15 =>
                      x_gI h13 r0 6 3 fun i16 =>
                      x_sI h13 a14 i15 i16 fun h17 =>
                      x_gI h17 r0 6 9 fun i18 =>
                      x_pI h17 r0 6 9 (i18 + 1) fun h19 =>
                      x_rZ h19 1
                    )
                )
            )
        )
      else
        (
          f_X6_openRepeat_b17 h2
        )
    )
set_option maxRecDepth 100000 in
set_option maxHeartbeats 4000000 in
theorem s_X6_openRepeat_b17 {p : Program} {l : Launch} {e : Env} {s : State} {m : MethodId} {args : Array Value} {below : List Frame} {meth : Method} {c : Code} {E : XE} {z : XR} (C0 : x_C E p l s m meth c args cX6_openRepeat 1 "GridEngine$TrackText" "openRepeat" (some .boolean)) (hxt : ∀ x ∈ c.exceptionTable.toList, False)  : ∀ (h : HP)  (H : Heap) (locs : List Loc) (ls : Array Slot), x_Rep E h H → va_S (x_A E) s.heap H locs → lv_has ls 1 [] → f_X6_openRepeat_b17 h  = some z → W p l e ({ frames := 13, cells := 0, slots := 0, locals := 239 } : Room) s m args below meth c H locs 0 0 (x_Q E below args s 0 0 z) (F0 m 17 ls []) := by
  intro h  H locs ls hR hS hl hf
  obtain ⟨hx, hb, -⟩ := id C0
  unfold f_X6_openRepeat_b17 at hf
  have h0 : x_by cX6_openRepeat 17 [3, 172] := by unfold x_by; decide +kernel
  obtain ⟨d17, h0⟩ := de_iconst_0 h0
  obtain ⟨d18, h0⟩ := de_ireturn h0
  refine lv_iconst (v := 0) hx hb d17 (by decide) ?_
  exact x_zret C0 hR hS hf (Nat.le_of_ble_eq_true rfl) (Nat.le_of_ble_eq_true rfl) d18
set_option maxRecDepth 100000 in
set_option maxHeartbeats 4000000 in
theorem s_X6_openRepeat_b44 {p : Program} {l : Launch} {e : Env} {s : State} {m : MethodId} {args : Array Value} {below : List Frame} {meth : Method} {c : Code} {E : XE} {z : XR} (C0 : x_C E p l s m meth c args cX6_openRepeat 1 "GridEngine$TrackText" "openRepeat" (some .boolean)) (hxt : ∀ x ∈ c.exceptionTable.toList, False)  : ∀ (h : HP)  (H : Heap) (locs : List Loc) (ls : Array Slot), x_Rep E h H → va_S (x_A E) s.heap H locs → lv_has ls 1 [] → f_X6_openRepeat_b44 h  = some z → W p l e ({ frames := 13, cells := 0, slots := 0, locals := 239 } : Room) s m args below meth c H locs 0 0 (x_Q E below args s 0 0 z) (F0 m 44 ls []) := by
  intro h  H locs ls hR hS hl hf
  obtain ⟨hx, hb, -⟩ := id C0
  unfold f_X6_openRepeat_b44 at hf
  have h0 : x_by cX6_openRepeat 44 [3, 172] := by unfold x_by; decide +kernel
  obtain ⟨d44, h0⟩ := de_iconst_0 h0
  obtain ⟨d45, h0⟩ := de_ireturn h0
  refine lv_iconst (v := 0) hx hb d44 (by decide) ?_
  exact x_zret C0 hR hS hf (Nat.le_of_ble_eq_true rfl) (Nat.le_of_ble_eq_true rfl) d45
set_option maxRecDepth 100000 in
set_option maxHeartbeats 4000000 in
theorem ct_X6_openRepeat (E : XE) (l : Launch) (hl0 : l.stackTraces = false) (h : HP) (r0 : Nat) : x_ct E l yX6_openRepeat (Cond.code yX6_openRepeat cX6_openRepeat 1 (some .boolean)) 13 239 0 0 [.ref (xa E r0)] h (f_X6_openRepeat h r0) := by
  refine x_ofW hl0 (by decide +kernel) ?_
  intro z hf p e s m args below meth c C0 hxt hargs hR
  subst hargs
  have C0 : x_C E p l s m meth c ([.ref (xa E r0)] : List Value).toArray cX6_openRepeat 1 "GridEngine$TrackText" "openRepeat" (some .boolean) := C0
  obtain ⟨hx, hb, -⟩ := id C0
  have hS : va_S (x_A E) s.heap s.heap [] := va_S.rf
  have hl := lv_entry ([.ref (xa E r0)]) (n := 1) (Nat.le_of_ble_eq_true rfl)
  rw [lg_entry_eq]
  generalize (lg_sl ([.ref (xa E r0)]) ++ List.replicate (1 - (lg_sl ([.ref (xa E r0)])).length) Slot.unset).toArray = ls at hl ⊢
  have hl : lv_has ls 1 [(0, .ref (xa E r0))] := hl
  unfold f_X6_openRepeat at hf
  have h0 : x_by cX6_openRepeat 0 [42, 18, 95, 182, 0, 79, 153, 0, 11] := by unfold x_by; decide +kernel
  obtain ⟨d0, h0⟩ := de_aload_n0 h0
  obtain ⟨d1, h0⟩ := de_ldc h0
  obtain ⟨d3, h0⟩ := de_invokevirtual 79 (by decide) h0
  obtain ⟨d6, h0⟩ := de_if_eq (11) (by decide) h0
  refine lv_aload_n hx hb d0 rfl (lv_at hl 0 rfl) ?_
  refine x_ldcS C0 (i := 1) rfl d1 ?_
  obtain ⟨hs9, hf⟩ := x_if hf
  refine x_thenI C0 hxt hS hf (fun z0 e0 => x_runV C0 hR hS me_X6_takeWord wi_X6_takeWord wl_X6_takeWord ml_X6_79 hs9 xcl_6 (As := [.ref (xa E 1000002)]) (ct_X6_takeWord E l C0.2.2.2.2.2.2.2.1 _ r0 1000002) rfl rfl hl.1 (Nat.le_of_ble_eq_true rfl) d3 ⟨(Nat.le_of_ble_eq_true rfl), (Nat.le_of_ble_eq_true rfl)⟩ ⟨(Nat.le_of_ble_eq_true rfl), (Nat.le_of_ble_eq_true rfl)⟩ e0) (Nat.le_of_ble_eq_true rfl) (Nat.le_of_ble_eq_true rfl) (fun h9 i1 H locs hR hS hf => ?_)
  refine lv_if_eq (tgt := 17) hx hb d6 (by decide) (fun q => ?_) (fun q => ?_)
  · have hf := x_pos q hf
    exact s_X6_openRepeat_b17 C0 hxt _ _ _ _ hR hS (lv_sub hl [] rfl) hf
  · have hf := x_neg q hf
    have h0 : x_by cX6_openRepeat 9 [42, 180, 0, 42, 7, 161, 0, 5] := by unfold x_by; decide +kernel
    obtain ⟨d9, h0⟩ := de_aload_n0 h0
    obtain ⟨d10, h0⟩ := de_getfield 42 (by decide) h0
    obtain ⟨d13, h0⟩ := de_iconst_4 h0
    obtain ⟨d14, h0⟩ := de_icmp_lt (5) (by decide) h0
    refine lv_aload_n hx hb d9 rfl (lv_at hl 0 rfl) ?_
    refine x_getI C0 hR hf xcl_6 (Nat.le_of_ble_eq_true rfl) rfl fl_X6_42 d10 (fun i3 hf => ?_)
    refine lv_iconst (v := 4) hx hb d13 (by decide) ?_
    refine lv_icmp_lt (tgt := 19) hx hb d14 (by decide) (fun q => ?_) (fun q => ?_)
    · have hf := x_pos q hf
      have h0 : x_by cX6_openRepeat 19 [42, 18, 97, 182, 0, 79, 153, 0, 19] := by unfold x_by; decide +kernel
      obtain ⟨d19, h0⟩ := de_aload_n0 h0
      obtain ⟨d20, h0⟩ := de_ldc h0
      obtain ⟨d22, h0⟩ := de_invokevirtual 79 (by decide) h0
      obtain ⟨d25, h0⟩ := de_if_eq (19) (by decide) h0
      refine lv_aload_n hx hb d19 rfl (lv_at hl 0 rfl) ?_
      refine x_ldcS C0 (i := 2) rfl d20 ?_
      obtain ⟨hs9, hf⟩ := x_if hf
      refine x_thenI C0 hxt hS hf (fun z0 e0 => x_runV C0 hR hS me_X6_takeWord wi_X6_takeWord wl_X6_takeWord ml_X6_79 hs9 xcl_6 (As := [.ref (xa E 1000003)]) (ct_X6_takeWord E l C0.2.2.2.2.2.2.2.1 _ r0 1000003) rfl rfl hl.1 (Nat.le_of_ble_eq_true rfl) d22 ⟨(Nat.le_of_ble_eq_true rfl), (Nat.le_of_ble_eq_true rfl)⟩ ⟨(Nat.le_of_ble_eq_true rfl), (Nat.le_of_ble_eq_true rfl)⟩ e0) (Nat.le_of_ble_eq_true rfl) (Nat.le_of_ble_eq_true rfl) (fun h9 i4 H locs hR hS hf => ?_)
      refine lv_if_eq (tgt := 44) hx hb d25 (by decide) (fun q => ?_) (fun q => ?_)
      · have hf := x_pos q hf
        exact s_X6_openRepeat_b44 C0 hxt _ _ _ _ hR hS (lv_sub hl [] rfl) hf
      · have hf := x_neg q hf
        have h0 : x_by cX6_openRepeat 28 [42, 182, 0, 99, 153, 0, 12] := by unfold x_by; decide +kernel
        obtain ⟨d28, h0⟩ := de_aload_n0 h0
        obtain ⟨d29, h0⟩ := de_invokevirtual 99 (by decide) h0
        obtain ⟨d32, h0⟩ := de_if_eq (12) (by decide) h0
        refine lv_aload_n hx hb d28 rfl (lv_at hl 0 rfl) ?_
        obtain ⟨hs9, hf⟩ := x_if hf
        refine x_thenI C0 hxt hS hf (fun z0 e0 => x_runV C0 hR hS me_X6_takeNumber wi_X6_takeNumber wl_X6_takeNumber ml_X6_99 hs9 xcl_6 (As := []) (ct_X6_takeNumber E l C0.2.2.2.2.2.2.2.1 _ r0) rfl rfl hl.1 (Nat.le_of_ble_eq_true rfl) d29 ⟨(Nat.le_of_ble_eq_true rfl), (Nat.le_of_ble_eq_true rfl)⟩ ⟨(Nat.le_of_ble_eq_true rfl), (Nat.le_of_ble_eq_true rfl)⟩ e0) (Nat.le_of_ble_eq_true rfl) (Nat.le_of_ble_eq_true rfl) (fun h9 i6 H locs hR hS hf => ?_)
        refine lv_if_eq (tgt := 44) hx hb d32 (by decide) (fun q => ?_) (fun q => ?_)
        · have hf := x_pos q hf
          exact s_X6_openRepeat_b44 C0 hxt _ _ _ _ hR hS (lv_sub hl [] rfl) hf
        · have hf := x_neg q hf
          have h0 : x_by cX6_openRepeat 35 [42, 18, 102, 182, 0, 79, 154, 0, 5] := by unfold x_by; decide +kernel
          obtain ⟨d35, h0⟩ := de_aload_n0 h0
          obtain ⟨d36, h0⟩ := de_ldc h0
          obtain ⟨d38, h0⟩ := de_invokevirtual 79 (by decide) h0
          obtain ⟨d41, h0⟩ := de_if_ne (5) (by decide) h0
          refine lv_aload_n hx hb d35 rfl (lv_at hl 0 rfl) ?_
          refine x_ldcS C0 (i := 3) rfl d36 ?_
          obtain ⟨hs9, hf⟩ := x_if hf
          refine x_thenI C0 hxt hS hf (fun z0 e0 => x_runV C0 hR hS me_X6_takeWord wi_X6_takeWord wl_X6_takeWord ml_X6_79 hs9 xcl_6 (As := [.ref (xa E 1000004)]) (ct_X6_takeWord E l C0.2.2.2.2.2.2.2.1 _ r0 1000004) rfl rfl hl.1 (Nat.le_of_ble_eq_true rfl) d38 ⟨(Nat.le_of_ble_eq_true rfl), (Nat.le_of_ble_eq_true rfl)⟩ ⟨(Nat.le_of_ble_eq_true rfl), (Nat.le_of_ble_eq_true rfl)⟩ e0) (Nat.le_of_ble_eq_true rfl) (Nat.le_of_ble_eq_true rfl) (fun h9 i8 H locs hR hS hf => ?_)
          refine lv_if_ne (tgt := 46) hx hb d41 (by decide) (fun q => ?_) (fun q => ?_)
          · have hf := x_neg q hf
            have h0 : x_by cX6_openRepeat 46 [42, 180, 0, 45, 42, 180, 0, 42, 42, 180, 0, 32, 79, 42, 180, 0, 48, 42, 180, 0, 42, 42, 180, 0, 22, 79, 42, 89, 180, 0, 42, 4, 96, 181, 0, 42, 4, 172] := by unfold x_by; decide +kernel
            obtain ⟨d46, h0⟩ := de_aload_n0 h0
            obtain ⟨d47, h0⟩ := de_getfield 45 (by decide) h0
            obtain ⟨d50, h0⟩ := de_aload_n0 h0
            obtain ⟨d51, h0⟩ := de_getfield 42 (by decide) h0
            obtain ⟨d54, h0⟩ := de_aload_n0 h0
            obtain ⟨d55, h0⟩ := de_getfield 32 (by decide) h0
            obtain ⟨d58, h0⟩ := de_iastore h0
            obtain ⟨d59, h0⟩ := de_aload_n0 h0
            obtain ⟨d60, h0⟩ := de_getfield 48 (by decide) h0
            obtain ⟨d63, h0⟩ := de_aload_n0 h0
            obtain ⟨d64, h0⟩ := de_getfield 42 (by decide) h0
            obtain ⟨d67, h0⟩ := de_aload_n0 h0
            obtain ⟨d68, h0⟩ := de_getfield 22 (by decide) h0
            obtain ⟨d71, h0⟩ := de_iastore h0
            obtain ⟨d72, h0⟩ := de_aload_n0 h0
            obtain ⟨d73, h0⟩ := de_dup h0
            obtain ⟨d74, h0⟩ := de_getfield 42 (by decide) h0
            obtain ⟨d77, h0⟩ := de_iconst_1 h0
            obtain ⟨d78, h0⟩ := de_iadd h0
            obtain ⟨d79, h0⟩ := de_putfield 42 (by decide) h0
            obtain ⟨d82, h0⟩ := de_iconst_1 h0
            obtain ⟨d83, h0⟩ := de_ireturn h0
            refine lv_aload_n hx hb d46 rfl (lv_at hl 0 rfl) ?_
            refine x_getR C0 hR hf xcl_6 (Nat.le_of_ble_eq_true rfl) rfl fl_X6_45 d47 (fun a10 hf => ?_)
            refine lv_aload_n hx hb d50 rfl (lv_at hl 0 rfl) ?_
            refine x_getI C0 hR hf xcl_6 (Nat.le_of_ble_eq_true rfl) rfl fl_X6_42 d51 (fun i11 hf => ?_)
            refine lv_aload_n hx hb d54 rfl (lv_at hl 0 rfl) ?_
            refine x_getI C0 hR hf xcl_6 (Nat.le_of_ble_eq_true rfl) rfl fl_X6_32 d55 (fun i12 hf => ?_)
            refine x_iast C0 hR hS hf d58 (fun H locs hR hS hf => ?_)
            refine lv_aload_n hx hb d59 rfl (lv_at hl 0 rfl) ?_
            refine x_getR C0 hR hf xcl_6 (Nat.le_of_ble_eq_true rfl) rfl fl_X6_48 d60 (fun a14 hf => ?_)
            refine lv_aload_n hx hb d63 rfl (lv_at hl 0 rfl) ?_
            refine x_getI C0 hR hf xcl_6 (Nat.le_of_ble_eq_true rfl) rfl fl_X6_42 d64 (fun i15 hf => ?_)
            refine lv_aload_n hx hb d67 rfl (lv_at hl 0 rfl) ?_
            refine x_getI C0 hR hf xcl_6 (Nat.le_of_ble_eq_true rfl) rfl fl_X6_22 d68 (fun i16 hf => ?_)
            refine x_iast C0 hR hS hf d71 (fun H locs hR hS hf => ?_)
            refine lv_aload_n hx hb d72 rfl (lv_at hl 0 rfl) ?_
            refine lv_dup hx hb d73 rfl ?_
            refine x_getI C0 hR hf xcl_6 (Nat.le_of_ble_eq_true rfl) rfl fl_X6_42 d74 (fun i18 hf => ?_)
            refine lv_iconst (v := 1) hx hb d77 (by decide) ?_
            refine lv_iadd hx hb d78 ?_
            refine x_putI C0 hR hS hf xcl_6 (Nat.le_of_ble_eq_true rfl) rfl fl_X6_42 (Or.inl rfl) d79 (fun H locs hR hS hf => ?_)
            refine lv_iconst (v := 1) hx hb d82 (by decide) ?_
            exact x_zret C0 hR hS hf (Nat.le_of_ble_eq_true rfl) (Nat.le_of_ble_eq_true rfl) d83
          · have hf := x_pos q hf
            exact s_X6_openRepeat_b44 C0 hxt _ _ _ _ hR hS (lv_sub hl [] rfl) hf
    · have hf := x_neg q hf
      exact s_X6_openRepeat_b17 C0 hxt _ _ _ _ hR hS (lv_sub hl [] rfl) hf
def f_X6_defineMaximum (h : HP) (r0 : Nat) (x1 : Int32) (x2 : Int32) : Option XR :=
  x_gR h r0 6 8 fun a1 =>
  x_sI h a1 2 x1 fun h2 =>
  x_gR h2 r0 6 8 fun a3 =>
  x_sI h2 a3 3 x2 fun h4 =>
  some (h4, xv)
set_option maxRecDepth 100000 in
set_option maxHeartbeats 4000000 in
theorem ct_X6_defineMaximum (E : XE) (l : Launch) (hl0 : l.stackTraces = false) (h : HP) (r0 : Nat) (x1 : Int32) (x2 : Int32) : x_ct E l yX6_defineMaximum (Cond.code yX6_defineMaximum cX6_defineMaximum 3 none) 8 130 0 0 [.ref (xa E r0), .int x1, .int x2] h (f_X6_defineMaximum h r0 x1 x2) := by
  refine x_ofW hl0 (by decide +kernel) ?_
  intro z hf p e s m args below meth c C0 hxt hargs hR
  subst hargs
  have C0 : x_C E p l s m meth c ([.ref (xa E r0), .int x1, .int x2] : List Value).toArray cX6_defineMaximum 3 "GridEngine$TrackText" "defineMaximum" none := C0
  obtain ⟨hx, hb, -⟩ := id C0
  have hS : va_S (x_A E) s.heap s.heap [] := va_S.rf
  have hl := lv_entry ([.ref (xa E r0), .int x1, .int x2]) (n := 3) (Nat.le_of_ble_eq_true rfl)
  rw [lg_entry_eq]
  generalize (lg_sl ([.ref (xa E r0), .int x1, .int x2]) ++ List.replicate (3 - (lg_sl ([.ref (xa E r0), .int x1, .int x2])).length) Slot.unset).toArray = ls at hl ⊢
  have hl : lv_has ls 3 [(0, .ref (xa E r0)), (1, .int x1), (2, .int x2)] := hl
  unfold f_X6_defineMaximum at hf
  have h0 : x_by cX6_defineMaximum 0 [42, 180, 0, 39, 5, 27, 79, 42, 180, 0, 39, 6, 28, 79, 177] := by unfold x_by; decide +kernel
  obtain ⟨d0, h0⟩ := de_aload_n0 h0
  obtain ⟨d1, h0⟩ := de_getfield 39 (by decide) h0
  obtain ⟨d4, h0⟩ := de_iconst_2 h0
  obtain ⟨d5, h0⟩ := de_iload_n1 h0
  obtain ⟨d6, h0⟩ := de_iastore h0
  obtain ⟨d7, h0⟩ := de_aload_n0 h0
  obtain ⟨d8, h0⟩ := de_getfield 39 (by decide) h0
  obtain ⟨d11, h0⟩ := de_iconst_3 h0
  obtain ⟨d12, h0⟩ := de_iload_n2 h0
  obtain ⟨d13, h0⟩ := de_iastore h0
  obtain ⟨d14, h0⟩ := de_return h0
  refine lv_aload_n hx hb d0 rfl (lv_at hl 0 rfl) ?_
  refine x_getR C0 hR hf xcl_6 (Nat.le_of_ble_eq_true rfl) rfl fl_X6_39 d1 (fun a1 hf => ?_)
  refine lv_iconst (v := 2) hx hb d4 (by decide) ?_
  refine lv_iload_n hx hb d5 rfl (lv_at hl 1 rfl) ?_
  refine x_iast C0 hR hS hf d6 (fun H locs hR hS hf => ?_)
  refine lv_aload_n hx hb d7 rfl (lv_at hl 0 rfl) ?_
  refine x_getR C0 hR hf xcl_6 (Nat.le_of_ble_eq_true rfl) rfl fl_X6_39 d8 (fun a3 hf => ?_)
  refine lv_iconst (v := 3) hx hb d11 (by decide) ?_
  refine lv_iload_n hx hb d12 rfl (lv_at hl 2 rfl) ?_
  refine x_iast C0 hR hS hf d13 (fun H locs hR hS hf => ?_)
  exact x_vret C0 hR hS hf (Nat.le_of_ble_eq_true rfl) (Nat.le_of_ble_eq_true rfl) d14
def f_X6_defineMinimum (h : HP) (r0 : Nat) (x1 : Int32) (x2 : Int32) : Option XR :=
  x_gR h r0 6 8 fun a1 =>
  x_sI h a1 0 x1 fun h2 =>
  x_gR h2 r0 6 8 fun a3 =>
  x_sI h2 a3 1 x2 fun h4 =>
  some (h4, xv)
set_option maxRecDepth 100000 in
set_option maxHeartbeats 4000000 in
theorem ct_X6_defineMinimum (E : XE) (l : Launch) (hl0 : l.stackTraces = false) (h : HP) (r0 : Nat) (x1 : Int32) (x2 : Int32) : x_ct E l yX6_defineMinimum (Cond.code yX6_defineMinimum cX6_defineMinimum 3 none) 8 130 0 0 [.ref (xa E r0), .int x1, .int x2] h (f_X6_defineMinimum h r0 x1 x2) := by
  refine x_ofW hl0 (by decide +kernel) ?_
  intro z hf p e s m args below meth c C0 hxt hargs hR
  subst hargs
  have C0 : x_C E p l s m meth c ([.ref (xa E r0), .int x1, .int x2] : List Value).toArray cX6_defineMinimum 3 "GridEngine$TrackText" "defineMinimum" none := C0
  obtain ⟨hx, hb, -⟩ := id C0
  have hS : va_S (x_A E) s.heap s.heap [] := va_S.rf
  have hl := lv_entry ([.ref (xa E r0), .int x1, .int x2]) (n := 3) (Nat.le_of_ble_eq_true rfl)
  rw [lg_entry_eq]
  generalize (lg_sl ([.ref (xa E r0), .int x1, .int x2]) ++ List.replicate (3 - (lg_sl ([.ref (xa E r0), .int x1, .int x2])).length) Slot.unset).toArray = ls at hl ⊢
  have hl : lv_has ls 3 [(0, .ref (xa E r0)), (1, .int x1), (2, .int x2)] := hl
  unfold f_X6_defineMinimum at hf
  have h0 : x_by cX6_defineMinimum 0 [42, 180, 0, 39, 3, 27, 79, 42, 180, 0, 39, 4, 28, 79, 177] := by unfold x_by; decide +kernel
  obtain ⟨d0, h0⟩ := de_aload_n0 h0
  obtain ⟨d1, h0⟩ := de_getfield 39 (by decide) h0
  obtain ⟨d4, h0⟩ := de_iconst_0 h0
  obtain ⟨d5, h0⟩ := de_iload_n1 h0
  obtain ⟨d6, h0⟩ := de_iastore h0
  obtain ⟨d7, h0⟩ := de_aload_n0 h0
  obtain ⟨d8, h0⟩ := de_getfield 39 (by decide) h0
  obtain ⟨d11, h0⟩ := de_iconst_1 h0
  obtain ⟨d12, h0⟩ := de_iload_n2 h0
  obtain ⟨d13, h0⟩ := de_iastore h0
  obtain ⟨d14, h0⟩ := de_return h0
  refine lv_aload_n hx hb d0 rfl (lv_at hl 0 rfl) ?_
  refine x_getR C0 hR hf xcl_6 (Nat.le_of_ble_eq_true rfl) rfl fl_X6_39 d1 (fun a1 hf => ?_)
  refine lv_iconst (v := 0) hx hb d4 (by decide) ?_
  refine lv_iload_n hx hb d5 rfl (lv_at hl 1 rfl) ?_
  refine x_iast C0 hR hS hf d6 (fun H locs hR hS hf => ?_)
  refine lv_aload_n hx hb d7 rfl (lv_at hl 0 rfl) ?_
  refine x_getR C0 hR hf xcl_6 (Nat.le_of_ble_eq_true rfl) rfl fl_X6_39 d8 (fun a3 hf => ?_)
  refine lv_iconst (v := 1) hx hb d11 (by decide) ?_
  refine lv_iload_n hx hb d12 rfl (lv_at hl 2 rfl) ?_
  refine x_iast C0 hR hS hf d13 (fun H locs hR hS hf => ?_)
  exact x_vret C0 hR hS hf (Nat.le_of_ble_eq_true rfl) (Nat.le_of_ble_eq_true rfl) d14
def f_X6_parseFitting_b30  (h : HP) (t0 : Int32) (r0 : Nat) : Option XR :=
  x_rc h r0 6 <| x_cV (f_X6_defineMinimum h r0 1 0) fun h1 =>
  x_gI h1 r0 6 3 fun i2 =>
  x_rc h1 r0 6 <| x_cV (f_X6_defineMaximum h1 r0 4 i2) fun h3 =>
  x_rZ h3 t0
def f_X6_parseFitting_b29  (h : HP) (r0 : Nat) : Option XR :=
  f_X6_parseFitting_b30 h 0 r0
def f_X6_parseFitting (h : HP) (r0 : Nat) : Option XR :=
  x_rc h r0 6 <| x_cI (f_X6_takeWord h r0 1000006) fun h2 i1 =>
  if i1 = 0 then
    (
      f_X6_parseFitting_b29 h2 r0
    )
  else
    (
      x_rc h2 r0 6 <| x_cI (f_X6_takeNumber h2 r0) fun h4 i3 =>
      if i3 = 0 then
        (
          f_X6_parseFitting_b29 h4 r0
        )
      else
        (
          x_rc h4 r0 6 <| x_cI (f_X6_takeWord h4 r0 1000007) fun h6 i5 =>
          if i5 = 0 then
            (
              f_X6_parseFitting_b29 h6 r0
            )
          else
            (
              f_X6_parseFitting_b30 h6 1 r0
            )
        )
    )
set_option maxRecDepth 100000 in
set_option maxHeartbeats 4000000 in
theorem s_X6_parseFitting_b30 {p : Program} {l : Launch} {e : Env} {s : State} {m : MethodId} {args : Array Value} {below : List Frame} {meth : Method} {c : Code} {E : XE} {z : XR} (C0 : x_C E p l s m meth c args cX6_parseFitting 2 "GridEngine$TrackText" "parseFitting" (some .boolean)) (hxt : ∀ x ∈ c.exceptionTable.toList, False)  : ∀ (h : HP) (t0 : Int32) (r0 : Nat) (H : Heap) (locs : List Loc) (ls : Array Slot), x_Rep E h H → va_S (x_A E) s.heap H locs → lv_has ls 2 [(0, .ref (xa E r0))] → f_X6_parseFitting_b30 h t0 r0 = some z → W p l e ({ frames := 13, cells := 0, slots := 0, locals := 239 } : Room) s m args below meth c H locs 0 0 (x_Q E below args s 0 0 z) (F0 m 30 ls [.int t0]) := by
  intro h t0 r0 H locs ls hR hS hl hf
  obtain ⟨hx, hb, -⟩ := id C0
  unfold f_X6_parseFitting_b30 at hf
  have h0 : x_by cX6_parseFitting 30 [60, 42, 4, 3, 182, 0, 126, 42, 7, 42, 180, 0, 22, 182, 0, 129, 27, 172] := by unfold x_by; decide +kernel
  obtain ⟨d30, h0⟩ := de_istore_n1 h0
  obtain ⟨d31, h0⟩ := de_aload_n0 h0
  obtain ⟨d32, h0⟩ := de_iconst_1 h0
  obtain ⟨d33, h0⟩ := de_iconst_0 h0
  obtain ⟨d34, h0⟩ := de_invokevirtual 126 (by decide) h0
  obtain ⟨d37, h0⟩ := de_aload_n0 h0
  obtain ⟨d38, h0⟩ := de_iconst_4 h0
  obtain ⟨d39, h0⟩ := de_aload_n0 h0
  obtain ⟨d40, h0⟩ := de_getfield 22 (by decide) h0
  obtain ⟨d43, h0⟩ := de_invokevirtual 129 (by decide) h0
  obtain ⟨d46, h0⟩ := de_iload_n1 h0
  obtain ⟨d47, h0⟩ := de_ireturn h0
  refine lv_istore_n (lv' := [(1, .int t0), (0, .ref (xa E r0))]) hx hb d30 rfl hl (by decide) rfl (fun ls hl => ?_)
  refine lv_aload_n hx hb d31 rfl (lv_at hl 1 rfl) ?_
  refine lv_iconst (v := 1) hx hb d32 (by decide) ?_
  refine lv_iconst (v := 0) hx hb d33 (by decide) ?_
  obtain ⟨hs9, hf⟩ := x_if hf
  refine x_thenV C0 hxt hS hf (fun z0 e0 => x_runV C0 hR hS me_X6_defineMinimum wi_X6_defineMinimum wl_X6_defineMinimum ml_X6_126 hs9 xcl_6 (As := [.int 1, .int 0]) (ct_X6_defineMinimum E l C0.2.2.2.2.2.2.2.1 _ r0 1 0) rfl rfl hl.1 (Nat.le_of_ble_eq_true rfl) d34 ⟨(Nat.le_of_ble_eq_true rfl), (Nat.le_of_ble_eq_true rfl)⟩ ⟨(Nat.le_of_ble_eq_true rfl), (Nat.le_of_ble_eq_true rfl)⟩ e0) (Nat.le_of_ble_eq_true rfl) (Nat.le_of_ble_eq_true rfl) (fun h9 H locs hR hS hf => ?_)
  refine lv_aload_n hx hb d37 rfl (lv_at hl 1 rfl) ?_
  refine lv_iconst (v := 4) hx hb d38 (by decide) ?_
  refine lv_aload_n hx hb d39 rfl (lv_at hl 1 rfl) ?_
  refine x_getI C0 hR hf xcl_6 (Nat.le_of_ble_eq_true rfl) rfl fl_X6_22 d40 (fun i2 hf => ?_)
  obtain ⟨hs9, hf⟩ := x_if hf
  refine x_thenV C0 hxt hS hf (fun z0 e0 => x_runV C0 hR hS me_X6_defineMaximum wi_X6_defineMaximum wl_X6_defineMaximum ml_X6_129 hs9 xcl_6 (As := [.int 4, .int i2]) (ct_X6_defineMaximum E l C0.2.2.2.2.2.2.2.1 _ r0 4 i2) rfl rfl hl.1 (Nat.le_of_ble_eq_true rfl) d43 ⟨(Nat.le_of_ble_eq_true rfl), (Nat.le_of_ble_eq_true rfl)⟩ ⟨(Nat.le_of_ble_eq_true rfl), (Nat.le_of_ble_eq_true rfl)⟩ e0) (Nat.le_of_ble_eq_true rfl) (Nat.le_of_ble_eq_true rfl) (fun h9 H locs hR hS hf => ?_)
  refine lv_iload_n hx hb d46 rfl (lv_at hl 0 rfl) ?_
  exact x_zret C0 hR hS hf (Nat.le_of_ble_eq_true rfl) (Nat.le_of_ble_eq_true rfl) d47
set_option maxRecDepth 100000 in
set_option maxHeartbeats 4000000 in
theorem s_X6_parseFitting_b29 {p : Program} {l : Launch} {e : Env} {s : State} {m : MethodId} {args : Array Value} {below : List Frame} {meth : Method} {c : Code} {E : XE} {z : XR} (C0 : x_C E p l s m meth c args cX6_parseFitting 2 "GridEngine$TrackText" "parseFitting" (some .boolean)) (hxt : ∀ x ∈ c.exceptionTable.toList, False)  : ∀ (h : HP) (r0 : Nat) (H : Heap) (locs : List Loc) (ls : Array Slot), x_Rep E h H → va_S (x_A E) s.heap H locs → lv_has ls 2 [(0, .ref (xa E r0))] → f_X6_parseFitting_b29 h r0 = some z → W p l e ({ frames := 13, cells := 0, slots := 0, locals := 239 } : Room) s m args below meth c H locs 0 0 (x_Q E below args s 0 0 z) (F0 m 29 ls []) := by
  intro h r0 H locs ls hR hS hl hf
  obtain ⟨hx, hb, -⟩ := id C0
  unfold f_X6_parseFitting_b29 at hf
  have h0 : x_by cX6_parseFitting 29 [3] := by unfold x_by; decide +kernel
  obtain ⟨d29, h0⟩ := de_iconst_0 h0
  refine lv_iconst (v := 0) hx hb d29 (by decide) ?_
  exact s_X6_parseFitting_b30 C0 hxt _ _ _ _ _ _ hR hS (lv_sub hl [0] rfl) hf
set_option maxRecDepth 100000 in
set_option maxHeartbeats 4000000 in
theorem ct_X6_parseFitting (E : XE) (l : Launch) (hl0 : l.stackTraces = false) (h : HP) (r0 : Nat) : x_ct E l yX6_parseFitting (Cond.code yX6_parseFitting cX6_parseFitting 2 (some .boolean)) 13 239 0 0 [.ref (xa E r0)] h (f_X6_parseFitting h r0) := by
  refine x_ofW hl0 (by decide +kernel) ?_
  intro z hf p e s m args below meth c C0 hxt hargs hR
  subst hargs
  have C0 : x_C E p l s m meth c ([.ref (xa E r0)] : List Value).toArray cX6_parseFitting 2 "GridEngine$TrackText" "parseFitting" (some .boolean) := C0
  obtain ⟨hx, hb, -⟩ := id C0
  have hS : va_S (x_A E) s.heap s.heap [] := va_S.rf
  have hl := lv_entry ([.ref (xa E r0)]) (n := 2) (Nat.le_of_ble_eq_true rfl)
  rw [lg_entry_eq]
  generalize (lg_sl ([.ref (xa E r0)]) ++ List.replicate (2 - (lg_sl ([.ref (xa E r0)])).length) Slot.unset).toArray = ls at hl ⊢
  have hl : lv_has ls 2 [(0, .ref (xa E r0))] := hl
  unfold f_X6_parseFitting at hf
  have h0 : x_by cX6_parseFitting 0 [42, 18, 140, 182, 0, 79, 153, 0, 23] := by unfold x_by; decide +kernel
  obtain ⟨d0, h0⟩ := de_aload_n0 h0
  obtain ⟨d1, h0⟩ := de_ldc h0
  obtain ⟨d3, h0⟩ := de_invokevirtual 79 (by decide) h0
  obtain ⟨d6, h0⟩ := de_if_eq (23) (by decide) h0
  refine lv_aload_n hx hb d0 rfl (lv_at hl 0 rfl) ?_
  refine x_ldcS C0 (i := 5) rfl d1 ?_
  obtain ⟨hs9, hf⟩ := x_if hf
  refine x_thenI C0 hxt hS hf (fun z0 e0 => x_runV C0 hR hS me_X6_takeWord wi_X6_takeWord wl_X6_takeWord ml_X6_79 hs9 xcl_6 (As := [.ref (xa E 1000006)]) (ct_X6_takeWord E l C0.2.2.2.2.2.2.2.1 _ r0 1000006) rfl rfl hl.1 (Nat.le_of_ble_eq_true rfl) d3 ⟨(Nat.le_of_ble_eq_true rfl), (Nat.le_of_ble_eq_true rfl)⟩ ⟨(Nat.le_of_ble_eq_true rfl), (Nat.le_of_ble_eq_true rfl)⟩ e0) (Nat.le_of_ble_eq_true rfl) (Nat.le_of_ble_eq_true rfl) (fun h9 i1 H locs hR hS hf => ?_)
  refine lv_if_eq (tgt := 29) hx hb d6 (by decide) (fun q => ?_) (fun q => ?_)
  · have hf := x_pos q hf
    exact s_X6_parseFitting_b29 C0 hxt _ _ _ _ _ hR hS (lv_sub hl [0] rfl) hf
  · have hf := x_neg q hf
    have h0 : x_by cX6_parseFitting 9 [42, 182, 0, 99, 153, 0, 16] := by unfold x_by; decide +kernel
    obtain ⟨d9, h0⟩ := de_aload_n0 h0
    obtain ⟨d10, h0⟩ := de_invokevirtual 99 (by decide) h0
    obtain ⟨d13, h0⟩ := de_if_eq (16) (by decide) h0
    refine lv_aload_n hx hb d9 rfl (lv_at hl 0 rfl) ?_
    obtain ⟨hs9, hf⟩ := x_if hf
    refine x_thenI C0 hxt hS hf (fun z0 e0 => x_runV C0 hR hS me_X6_takeNumber wi_X6_takeNumber wl_X6_takeNumber ml_X6_99 hs9 xcl_6 (As := []) (ct_X6_takeNumber E l C0.2.2.2.2.2.2.2.1 _ r0) rfl rfl hl.1 (Nat.le_of_ble_eq_true rfl) d10 ⟨(Nat.le_of_ble_eq_true rfl), (Nat.le_of_ble_eq_true rfl)⟩ ⟨(Nat.le_of_ble_eq_true rfl), (Nat.le_of_ble_eq_true rfl)⟩ e0) (Nat.le_of_ble_eq_true rfl) (Nat.le_of_ble_eq_true rfl) (fun h9 i3 H locs hR hS hf => ?_)
    refine lv_if_eq (tgt := 29) hx hb d13 (by decide) (fun q => ?_) (fun q => ?_)
    · have hf := x_pos q hf
      exact s_X6_parseFitting_b29 C0 hxt _ _ _ _ _ hR hS (lv_sub hl [0] rfl) hf
    · have hf := x_neg q hf
      have h0 : x_by cX6_parseFitting 16 [42, 18, 142, 182, 0, 79, 153, 0, 7] := by unfold x_by; decide +kernel
      obtain ⟨d16, h0⟩ := de_aload_n0 h0
      obtain ⟨d17, h0⟩ := de_ldc h0
      obtain ⟨d19, h0⟩ := de_invokevirtual 79 (by decide) h0
      obtain ⟨d22, h0⟩ := de_if_eq (7) (by decide) h0
      refine lv_aload_n hx hb d16 rfl (lv_at hl 0 rfl) ?_
      refine x_ldcS C0 (i := 6) rfl d17 ?_
      obtain ⟨hs9, hf⟩ := x_if hf
      refine x_thenI C0 hxt hS hf (fun z0 e0 => x_runV C0 hR hS me_X6_takeWord wi_X6_takeWord wl_X6_takeWord ml_X6_79 hs9 xcl_6 (As := [.ref (xa E 1000007)]) (ct_X6_takeWord E l C0.2.2.2.2.2.2.2.1 _ r0 1000007) rfl rfl hl.1 (Nat.le_of_ble_eq_true rfl) d19 ⟨(Nat.le_of_ble_eq_true rfl), (Nat.le_of_ble_eq_true rfl)⟩ ⟨(Nat.le_of_ble_eq_true rfl), (Nat.le_of_ble_eq_true rfl)⟩ e0) (Nat.le_of_ble_eq_true rfl) (Nat.le_of_ble_eq_true rfl) (fun h9 i5 H locs hR hS hf => ?_)
      refine lv_if_eq (tgt := 29) hx hb d22 (by decide) (fun q => ?_) (fun q => ?_)
      · have hf := x_pos q hf
        exact s_X6_parseFitting_b29 C0 hxt _ _ _ _ _ hR hS (lv_sub hl [0] rfl) hf
      · have hf := x_neg q hf
        have h0 : x_by cX6_parseFitting 25 [4, 167, 0, 4] := by unfold x_by; decide +kernel
        obtain ⟨d25, h0⟩ := de_iconst_1 h0
        obtain ⟨d26, h0⟩ := de_goto (4) (by decide) h0
        refine lv_iconst (v := 1) hx hb d25 (by decide) ?_
        refine lv_goto (tgt := 30) hx hb d26 (by decide) ?_
        exact s_X6_parseFitting_b30 C0 hxt _ _ _ _ _ _ hR hS (lv_sub hl [0] rfl) hf
def f_X6_parseFactor_b17  (h : HP) (t0 : Int32) (t1 : Int32) (t2 : Nat) (r0 : Nat) : Option XR :=
  x_pZ h t2 6 5 (t1 ||| t0) fun h1 =>
  x_gI h1 r0 6 3 fun i2 =>
  x_rc h1 r0 6 <| x_cV (f_X6_defineMaximum h1 r0 5 i2) fun h3 =>
  x_rc h3 r0 6 <| x_cI (f_X6_takeWord h3 r0 1000008) fun h5 i4 =>
  x_rZ h5 i4
def f_X6_parseFactor (h : HP) (r0 : Nat) : Option XR :=
  x_gI h r0 6 5 fun i1 =>
  x_gI h r0 6 3 fun i2 =>
  if i2 = 0 then
    (
      f_X6_parseFactor_b17 h 1 i1 r0 r0
    )
  else
    (
      f_X6_parseFactor_b17 h 0 i1 r0 r0
    )
set_option maxRecDepth 100000 in
set_option maxHeartbeats 4000000 in
theorem s_X6_parseFactor_b17 {p : Program} {l : Launch} {e : Env} {s : State} {m : MethodId} {args : Array Value} {below : List Frame} {meth : Method} {c : Code} {E : XE} {z : XR} (C0 : x_C E p l s m meth c args cX6_parseFactor 1 "GridEngine$TrackText" "parseFactor" (some .boolean)) (hxt : ∀ x ∈ c.exceptionTable.toList, False)  : ∀ (h : HP) (t0 : Int32) (t1 : Int32) (t2 : Nat) (r0 : Nat) (H : Heap) (locs : List Loc) (ls : Array Slot), x_Rep E h H → va_S (x_A E) s.heap H locs → lv_has ls 1 [(0, .ref (xa E r0))] → f_X6_parseFactor_b17 h t0 t1 t2 r0 = some z → W p l e ({ frames := 13, cells := 0, slots := 0, locals := 239 } : Room) s m args below meth c H locs 0 0 (x_Q E below args s 0 0 z) (F0 m 17 ls [.int t0, .int t1, .ref (xa E t2)]) := by
  intro h t0 t1 t2 r0 H locs ls hR hS hl hf
  obtain ⟨hx, hb, -⟩ := id C0
  unfold f_X6_parseFactor_b17 at hf
  have h0 : x_by cX6_parseFactor 17 [128, 181, 0, 28, 42, 8, 42, 180, 0, 22, 182, 0, 129, 42, 18, 147, 182, 0, 79, 172] := by unfold x_by; decide +kernel
  obtain ⟨d17, h0⟩ := de_ior h0
  obtain ⟨d18, h0⟩ := de_putfield 28 (by decide) h0
  obtain ⟨d21, h0⟩ := de_aload_n0 h0
  obtain ⟨d22, h0⟩ := de_iconst_5 h0
  obtain ⟨d23, h0⟩ := de_aload_n0 h0
  obtain ⟨d24, h0⟩ := de_getfield 22 (by decide) h0
  obtain ⟨d27, h0⟩ := de_invokevirtual 129 (by decide) h0
  obtain ⟨d30, h0⟩ := de_aload_n0 h0
  obtain ⟨d31, h0⟩ := de_ldc h0
  obtain ⟨d33, h0⟩ := de_invokevirtual 79 (by decide) h0
  obtain ⟨d36, h0⟩ := de_ireturn h0
  refine lv_ior hx hb d17 ?_
  refine x_putZ C0 hR hS hf xcl_6 (Nat.le_of_ble_eq_true rfl) rfl fl_X6_28 (Or.inl rfl) d18 (fun H locs hR hS hf => ?_)
  refine lv_aload_n hx hb d21 rfl (lv_at hl 0 rfl) ?_
  refine lv_iconst (v := 5) hx hb d22 (by decide) ?_
  refine lv_aload_n hx hb d23 rfl (lv_at hl 0 rfl) ?_
  refine x_getI C0 hR hf xcl_6 (Nat.le_of_ble_eq_true rfl) rfl fl_X6_22 d24 (fun i2 hf => ?_)
  obtain ⟨hs9, hf⟩ := x_if hf
  refine x_thenV C0 hxt hS hf (fun z0 e0 => x_runV C0 hR hS me_X6_defineMaximum wi_X6_defineMaximum wl_X6_defineMaximum ml_X6_129 hs9 xcl_6 (As := [.int 5, .int i2]) (ct_X6_defineMaximum E l C0.2.2.2.2.2.2.2.1 _ r0 5 i2) rfl rfl hl.1 (Nat.le_of_ble_eq_true rfl) d27 ⟨(Nat.le_of_ble_eq_true rfl), (Nat.le_of_ble_eq_true rfl)⟩ ⟨(Nat.le_of_ble_eq_true rfl), (Nat.le_of_ble_eq_true rfl)⟩ e0) (Nat.le_of_ble_eq_true rfl) (Nat.le_of_ble_eq_true rfl) (fun h9 H locs hR hS hf => ?_)
  refine lv_aload_n hx hb d30 rfl (lv_at hl 0 rfl) ?_
  refine x_ldcS C0 (i := 7) rfl d31 ?_
  obtain ⟨hs9, hf⟩ := x_if hf
  refine x_thenI C0 hxt hS hf (fun z0 e0 => x_runV C0 hR hS me_X6_takeWord wi_X6_takeWord wl_X6_takeWord ml_X6_79 hs9 xcl_6 (As := [.ref (xa E 1000008)]) (ct_X6_takeWord E l C0.2.2.2.2.2.2.2.1 _ r0 1000008) rfl rfl hl.1 (Nat.le_of_ble_eq_true rfl) d33 ⟨(Nat.le_of_ble_eq_true rfl), (Nat.le_of_ble_eq_true rfl)⟩ ⟨(Nat.le_of_ble_eq_true rfl), (Nat.le_of_ble_eq_true rfl)⟩ e0) (Nat.le_of_ble_eq_true rfl) (Nat.le_of_ble_eq_true rfl) (fun h9 i4 H locs hR hS hf => ?_)
  exact x_zret C0 hR hS hf (Nat.le_of_ble_eq_true rfl) (Nat.le_of_ble_eq_true rfl) d36
set_option maxRecDepth 100000 in
set_option maxHeartbeats 4000000 in
theorem ct_X6_parseFactor (E : XE) (l : Launch) (hl0 : l.stackTraces = false) (h : HP) (r0 : Nat) : x_ct E l yX6_parseFactor (Cond.code yX6_parseFactor cX6_parseFactor 1 (some .boolean)) 13 239 0 0 [.ref (xa E r0)] h (f_X6_parseFactor h r0) := by
  refine x_ofW hl0 (by decide +kernel) ?_
  intro z hf p e s m args below meth c C0 hxt hargs hR
  subst hargs
  have C0 : x_C E p l s m meth c ([.ref (xa E r0)] : List Value).toArray cX6_parseFactor 1 "GridEngine$TrackText" "parseFactor" (some .boolean) := C0
  obtain ⟨hx, hb, -⟩ := id C0
  have hS : va_S (x_A E) s.heap s.heap [] := va_S.rf
  have hl := lv_entry ([.ref (xa E r0)]) (n := 1) (Nat.le_of_ble_eq_true rfl)
  rw [lg_entry_eq]
  generalize (lg_sl ([.ref (xa E r0)]) ++ List.replicate (1 - (lg_sl ([.ref (xa E r0)])).length) Slot.unset).toArray = ls at hl ⊢
  have hl : lv_has ls 1 [(0, .ref (xa E r0))] := hl
  unfold f_X6_parseFactor at hf
  have h0 : x_by cX6_parseFactor 0 [42, 89, 180, 0, 28, 42, 180, 0, 22, 154, 0, 7] := by unfold x_by; decide +kernel
  obtain ⟨d0, h0⟩ := de_aload_n0 h0
  obtain ⟨d1, h0⟩ := de_dup h0
  obtain ⟨d2, h0⟩ := de_getfield 28 (by decide) h0
  obtain ⟨d5, h0⟩ := de_aload_n0 h0
  obtain ⟨d6, h0⟩ := de_getfield 22 (by decide) h0
  obtain ⟨d9, h0⟩ := de_if_ne (7) (by decide) h0
  refine lv_aload_n hx hb d0 rfl (lv_at hl 0 rfl) ?_
  refine lv_dup hx hb d1 rfl ?_
  refine x_getI C0 hR hf xcl_6 (Nat.le_of_ble_eq_true rfl) rfl fl_X6_28 d2 (fun i1 hf => ?_)
  refine lv_aload_n hx hb d5 rfl (lv_at hl 0 rfl) ?_
  refine x_getI C0 hR hf xcl_6 (Nat.le_of_ble_eq_true rfl) rfl fl_X6_22 d6 (fun i2 hf => ?_)
  refine lv_if_ne (tgt := 16) hx hb d9 (by decide) (fun q => ?_) (fun q => ?_)
  · have hf := x_neg q hf
    have h0 : x_by cX6_parseFactor 16 [3] := by unfold x_by; decide +kernel
    obtain ⟨d16, h0⟩ := de_iconst_0 h0
    refine lv_iconst (v := 0) hx hb d16 (by decide) ?_
    exact s_X6_parseFactor_b17 C0 hxt _ _ _ _ _ _ _ _ hR hS (lv_sub hl [0] rfl) hf
  · have hf := x_pos q hf
    have h0 : x_by cX6_parseFactor 12 [4, 167, 0, 4] := by unfold x_by; decide +kernel
    obtain ⟨d12, h0⟩ := de_iconst_1 h0
    obtain ⟨d13, h0⟩ := de_goto (4) (by decide) h0
    refine lv_iconst (v := 1) hx hb d12 (by decide) ?_
    refine lv_goto (tgt := 17) hx hb d13 (by decide) ?_
    exact s_X6_parseFactor_b17 C0 hxt _ _ _ _ _ _ _ _ hR hS (lv_sub hl [0] rfl) hf
def f_X6_takeSmallOrLarge_b43  (h : HP) (t0 : Nat) (t1 : Nat) : Option XR :=
  x_rc h t1 6 <| x_cI (f_X6_takeWord h t1 t0) fun h2 i1 =>
  x_rZ h2 i1
def f_X6_takeSmallOrLarge_b28  (h : HP) (t0 : Int32) (t1 : Nat) (r0 : Nat) (x1 : Int32) : Option XR :=
  x_pI h t1 6 4 t0 fun h1 =>
  if x1 = 0 then
    (
      f_X6_takeSmallOrLarge_b43 h1 1000012 r0
    )
  else
    (
      f_X6_takeSmallOrLarge_b43 h1 1000011 r0
    )
def f_X6_takeSmallOrLarge (h : HP) (r0 : Nat) : Option XR :=
  x_rc h r0 6 <| x_cI (f_X6_takeWord h r0 1000010) fun h2 i1 =>
  if i1 = 0 then
    (
      x_rZ h2 0
    )
  else
    (
      x_rc h2 r0 6 <| x_cI (f_X6_isNext h2 r0 105) fun h4 i3 =>
      if i3 = 0 then
        (
          f_X6_takeSmallOrLarge_b28 h4 2 r0 r0 i3
        )
      else
        (
          f_X6_takeSmallOrLarge_b28 h4 1 r0 r0 i3
        )
    )
set_option maxRecDepth 100000 in
set_option maxHeartbeats 4000000 in
theorem s_X6_takeSmallOrLarge_b43 {p : Program} {l : Launch} {e : Env} {s : State} {m : MethodId} {args : Array Value} {below : List Frame} {meth : Method} {c : Code} {E : XE} {z : XR} (C0 : x_C E p l s m meth c args cX6_takeSmallOrLarge 2 "GridEngine$TrackText" "takeSmallOrLarge" (some .boolean)) (hxt : ∀ x ∈ c.exceptionTable.toList, False)  : ∀ (h : HP) (t0 : Nat) (t1 : Nat) (H : Heap) (locs : List Loc) (ls : Array Slot), x_Rep E h H → va_S (x_A E) s.heap H locs → lv_has ls 2 [] → f_X6_takeSmallOrLarge_b43 h t0 t1 = some z → W p l e ({ frames := 13, cells := 0, slots := 0, locals := 239 } : Room) s m args below meth c H locs 0 0 (x_Q E below args s 0 0 z) (F0 m 43 ls [.ref (xa E t0), .ref (xa E t1)]) := by
  intro h t0 t1 H locs ls hR hS hl hf
  obtain ⟨hx, hb, -⟩ := id C0
  unfold f_X6_takeSmallOrLarge_b43 at hf
  have h0 : x_by cX6_takeSmallOrLarge 43 [182, 0, 79, 172] := by unfold x_by; decide +kernel
  obtain ⟨d43, h0⟩ := de_invokevirtual 79 (by decide) h0
  obtain ⟨d46, h0⟩ := de_ireturn h0
  obtain ⟨hs9, hf⟩ := x_if hf
  refine x_thenI C0 hxt hS hf (fun z0 e0 => x_runV C0 hR hS me_X6_takeWord wi_X6_takeWord wl_X6_takeWord ml_X6_79 hs9 xcl_6 (As := [.ref (xa E t0)]) (ct_X6_takeWord E l C0.2.2.2.2.2.2.2.1 _ t1 t0) rfl rfl hl.1 (Nat.le_of_ble_eq_true rfl) d43 ⟨(Nat.le_of_ble_eq_true rfl), (Nat.le_of_ble_eq_true rfl)⟩ ⟨(Nat.le_of_ble_eq_true rfl), (Nat.le_of_ble_eq_true rfl)⟩ e0) (Nat.le_of_ble_eq_true rfl) (Nat.le_of_ble_eq_true rfl) (fun h9 i1 H locs hR hS hf => ?_)
  exact x_zret C0 hR hS hf (Nat.le_of_ble_eq_true rfl) (Nat.le_of_ble_eq_true rfl) d46
set_option maxRecDepth 100000 in
set_option maxHeartbeats 4000000 in
theorem s_X6_takeSmallOrLarge_b28 {p : Program} {l : Launch} {e : Env} {s : State} {m : MethodId} {args : Array Value} {below : List Frame} {meth : Method} {c : Code} {E : XE} {z : XR} (C0 : x_C E p l s m meth c args cX6_takeSmallOrLarge 2 "GridEngine$TrackText" "takeSmallOrLarge" (some .boolean)) (hxt : ∀ x ∈ c.exceptionTable.toList, False)  : ∀ (h : HP) (t0 : Int32) (t1 : Nat) (r0 : Nat) (x1 : Int32) (H : Heap) (locs : List Loc) (ls : Array Slot), x_Rep E h H → va_S (x_A E) s.heap H locs → lv_has ls 2 [(0, .ref (xa E r0)), (1, .int x1)] → f_X6_takeSmallOrLarge_b28 h t0 t1 r0 x1 = some z → W p l e ({ frames := 13, cells := 0, slots := 0, locals := 239 } : Room) s m args below meth c H locs 0 0 (x_Q E below args s 0 0 z) (F0 m 28 ls [.int t0, .ref (xa E t1)]) := by
  intro h t0 t1 r0 x1 H locs ls hR hS hl hf
  obtain ⟨hx, hb, -⟩ := id C0
  unfold f_X6_takeSmallOrLarge_b28 at hf
  have h0 : x_by cX6_takeSmallOrLarge 28 [181, 0, 25, 42, 27, 153, 0, 8] := by unfold x_by; decide +kernel
  obtain ⟨d28, h0⟩ := de_putfield 25 (by decide) h0
  obtain ⟨d31, h0⟩ := de_aload_n0 h0
  obtain ⟨d32, h0⟩ := de_iload_n1 h0
  obtain ⟨d33, h0⟩ := de_if_eq (8) (by decide) h0
  refine x_putI C0 hR hS hf xcl_6 (Nat.le_of_ble_eq_true rfl) rfl fl_X6_25 (Or.inl rfl) d28 (fun H locs hR hS hf => ?_)
  refine lv_aload_n hx hb d31 rfl (lv_at hl 0 rfl) ?_
  refine lv_iload_n hx hb d32 rfl (lv_at hl 1 rfl) ?_
  refine lv_if_eq (tgt := 41) hx hb d33 (by decide) (fun q => ?_) (fun q => ?_)
  · have hf := x_pos q hf
    have h0 : x_by cX6_takeSmallOrLarge 41 [18, 164] := by unfold x_by; decide +kernel
    obtain ⟨d41, h0⟩ := de_ldc h0
    refine x_ldcS C0 (i := 11) rfl d41 ?_
    exact s_X6_takeSmallOrLarge_b43 C0 hxt _ _ _ _ _ _ hR hS (lv_sub hl [] rfl) hf
  · have hf := x_neg q hf
    have h0 : x_by cX6_takeSmallOrLarge 36 [18, 162, 167, 0, 5] := by unfold x_by; decide +kernel
    obtain ⟨d36, h0⟩ := de_ldc h0
    obtain ⟨d38, h0⟩ := de_goto (5) (by decide) h0
    refine x_ldcS C0 (i := 10) rfl d36 ?_
    refine lv_goto (tgt := 43) hx hb d38 (by decide) ?_
    exact s_X6_takeSmallOrLarge_b43 C0 hxt _ _ _ _ _ _ hR hS (lv_sub hl [] rfl) hf
set_option maxRecDepth 100000 in
set_option maxHeartbeats 4000000 in
theorem ct_X6_takeSmallOrLarge (E : XE) (l : Launch) (hl0 : l.stackTraces = false) (h : HP) (r0 : Nat) : x_ct E l yX6_takeSmallOrLarge (Cond.code yX6_takeSmallOrLarge cX6_takeSmallOrLarge 2 (some .boolean)) 13 239 0 0 [.ref (xa E r0)] h (f_X6_takeSmallOrLarge h r0) := by
  refine x_ofW hl0 (by decide +kernel) ?_
  intro z hf p e s m args below meth c C0 hxt hargs hR
  subst hargs
  have C0 : x_C E p l s m meth c ([.ref (xa E r0)] : List Value).toArray cX6_takeSmallOrLarge 2 "GridEngine$TrackText" "takeSmallOrLarge" (some .boolean) := C0
  obtain ⟨hx, hb, -⟩ := id C0
  have hS : va_S (x_A E) s.heap s.heap [] := va_S.rf
  have hl := lv_entry ([.ref (xa E r0)]) (n := 2) (Nat.le_of_ble_eq_true rfl)
  rw [lg_entry_eq]
  generalize (lg_sl ([.ref (xa E r0)]) ++ List.replicate (2 - (lg_sl ([.ref (xa E r0)])).length) Slot.unset).toArray = ls at hl ⊢
  have hl : lv_has ls 2 [(0, .ref (xa E r0))] := hl
  unfold f_X6_takeSmallOrLarge at hf
  have h0 : x_by cX6_takeSmallOrLarge 0 [42, 18, 160, 182, 0, 79, 154, 0, 5] := by unfold x_by; decide +kernel
  obtain ⟨d0, h0⟩ := de_aload_n0 h0
  obtain ⟨d1, h0⟩ := de_ldc h0
  obtain ⟨d3, h0⟩ := de_invokevirtual 79 (by decide) h0
  obtain ⟨d6, h0⟩ := de_if_ne (5) (by decide) h0
  refine lv_aload_n hx hb d0 rfl (lv_at hl 0 rfl) ?_
  refine x_ldcS C0 (i := 9) rfl d1 ?_
  obtain ⟨hs9, hf⟩ := x_if hf
  refine x_thenI C0 hxt hS hf (fun z0 e0 => x_runV C0 hR hS me_X6_takeWord wi_X6_takeWord wl_X6_takeWord ml_X6_79 hs9 xcl_6 (As := [.ref (xa E 1000010)]) (ct_X6_takeWord E l C0.2.2.2.2.2.2.2.1 _ r0 1000010) rfl rfl hl.1 (Nat.le_of_ble_eq_true rfl) d3 ⟨(Nat.le_of_ble_eq_true rfl), (Nat.le_of_ble_eq_true rfl)⟩ ⟨(Nat.le_of_ble_eq_true rfl), (Nat.le_of_ble_eq_true rfl)⟩ e0) (Nat.le_of_ble_eq_true rfl) (Nat.le_of_ble_eq_true rfl) (fun h9 i1 H locs hR hS hf => ?_)
  refine lv_if_ne (tgt := 11) hx hb d6 (by decide) (fun q => ?_) (fun q => ?_)
  · have hf := x_neg q hf
    have h0 : x_by cX6_takeSmallOrLarge 11 [42, 16, 105, 182, 0, 60, 60, 42, 27, 153, 0, 7] := by unfold x_by; decide +kernel
    obtain ⟨d11, h0⟩ := de_aload_n0 h0
    obtain ⟨d12, h0⟩ := de_bipush (105) (by decide) h0
    obtain ⟨d14, h0⟩ := de_invokevirtual 60 (by decide) h0
    obtain ⟨d17, h0⟩ := de_istore_n1 h0
    obtain ⟨d18, h0⟩ := de_aload_n0 h0
    obtain ⟨d19, h0⟩ := de_iload_n1 h0
    obtain ⟨d20, h0⟩ := de_if_eq (7) (by decide) h0
    refine lv_aload_n hx hb d11 rfl (lv_at hl 0 rfl) ?_
    refine lv_bipush (v := 105) hx hb d12 (by decide) ?_
    obtain ⟨hs9, hf⟩ := x_if hf
    refine x_thenI C0 hxt hS hf (fun z0 e0 => x_runV C0 hR hS me_X6_isNext wi_X6_isNext wl_X6_isNext ml_X6_60 hs9 xcl_6 (As := [.int 105]) (ct_X6_isNext E l C0.2.2.2.2.2.2.2.1 _ r0 105) rfl rfl hl.1 (Nat.le_of_ble_eq_true rfl) d14 ⟨(Nat.le_of_ble_eq_true rfl), (Nat.le_of_ble_eq_true rfl)⟩ ⟨(Nat.le_of_ble_eq_true rfl), (Nat.le_of_ble_eq_true rfl)⟩ e0) (Nat.le_of_ble_eq_true rfl) (Nat.le_of_ble_eq_true rfl) (fun h9 i3 H locs hR hS hf => ?_)
    refine lv_istore_n (lv' := [(1, .int i3), (0, .ref (xa E r0))]) hx hb d17 rfl hl (by decide) rfl (fun ls hl => ?_)
    refine lv_aload_n hx hb d18 rfl (lv_at hl 1 rfl) ?_
    refine lv_iload_n hx hb d19 rfl (lv_at hl 0 rfl) ?_
    refine lv_if_eq (tgt := 27) hx hb d20 (by decide) (fun q => ?_) (fun q => ?_)
    · have hf := x_pos q hf
      have h0 : x_by cX6_takeSmallOrLarge 27 [5] := by unfold x_by; decide +kernel
      obtain ⟨d27, h0⟩ := de_iconst_2 h0
      refine lv_iconst (v := 2) hx hb d27 (by decide) ?_
      exact s_X6_takeSmallOrLarge_b28 C0 hxt _ _ _ _ _ _ _ _ hR hS (lv_sub hl [1, 0] rfl) hf
    · have hf := x_neg q hf
      have h0 : x_by cX6_takeSmallOrLarge 23 [4, 167, 0, 4] := by unfold x_by; decide +kernel
      obtain ⟨d23, h0⟩ := de_iconst_1 h0
      obtain ⟨d24, h0⟩ := de_goto (4) (by decide) h0
      refine lv_iconst (v := 1) hx hb d23 (by decide) ?_
      refine lv_goto (tgt := 28) hx hb d24 (by decide) ?_
      exact s_X6_takeSmallOrLarge_b28 C0 hxt _ _ _ _ _ _ _ _ hR hS (lv_sub hl [1, 0] rfl) hf
  · have hf := x_pos q hf
    have h0 : x_by cX6_takeSmallOrLarge 9 [3, 172] := by unfold x_by; decide +kernel
    obtain ⟨d9, h0⟩ := de_iconst_0 h0
    obtain ⟨d10, h0⟩ := de_ireturn h0
    refine lv_iconst (v := 0) hx hb d9 (by decide) ?_
    exact x_zret C0 hR hS hf (Nat.le_of_ble_eq_true rfl) (Nat.le_of_ble_eq_true rfl) d10
def f_X6_parseMaximum_b38  (h : HP) (t0 : Int32) : Option XR :=
  x_rZ h t0
def f_X6_parseMaximum (h : HP) (r0 : Nat) : Option XR :=
  x_rc h r0 6 <| x_cI (f_X6_isDigitNext h r0) fun h2 i1 =>
  if i1 = 0 then
    (
      x_rc h2 r0 6 <| x_cI (f_X6_isNext h2 r0 97) fun h4 i3 =>
      if i3 = 0 then
        (
          x_rc h4 r0 6 <| x_cI (f_X6_takeSmallOrLarge h4 r0) fun h6 i5 =>
          x_gI h6 r0 6 4 fun i7 =>
          x_rc h6 r0 6 <| x_cV (f_X6_defineMaximum h6 r0 i7 0) fun h8 =>
          x_rZ h8 i5
        )
      else
        (
          x_rc h4 r0 6 <| x_cV (f_X6_defineMaximum h4 r0 3 0) fun h9 =>
          x_rc h9 r0 6 <| x_cI (f_X6_takeWord h9 r0 1000005) fun h11 i10 =>
          x_rZ h11 i10
        )
    )
  else
    (
      x_rc h2 r0 6 <| x_cI (f_X6_takeNumber h2 r0) fun h13 i12 =>
      x_gI h13 r0 6 3 fun i14 =>
      x_rc h13 r0 6 <| x_cV (f_X6_defineMaximum h13 r0 0 i14) fun h15 =>
      x_rc h15 r0 6 <| x_cI (f_X6_isNext h15 r0 102) fun h17 i16 =>
      if i16 = 0 then
        (
          f_X6_parseMaximum_b38 h17 i12
        )
      else
        (
          x_rc h17 r0 6 <| x_cI (f_X6_parseFactor h17 r0) fun h19 i18 =>
          f_X6_parseMaximum_b38 h19 i18
        )
    )
set_option maxRecDepth 100000 in
set_option maxHeartbeats 4000000 in
theorem s_X6_parseMaximum_b38 {p : Program} {l : Launch} {e : Env} {s : State} {m : MethodId} {args : Array Value} {below : List Frame} {meth : Method} {c : Code} {E : XE} {z : XR} (C0 : x_C E p l s m meth c args cX6_parseMaximum 2 "GridEngine$TrackText" "parseMaximum" (some .boolean)) (hxt : ∀ x ∈ c.exceptionTable.toList, False)  : ∀ (h : HP) (t0 : Int32) (H : Heap) (locs : List Loc) (ls : Array Slot), x_Rep E h H → va_S (x_A E) s.heap H locs → lv_has ls 2 [] → f_X6_parseMaximum_b38 h t0 = some z → W p l e ({ frames := 14, cells := 0, slots := 0, locals := 260 } : Room) s m args below meth c H locs 0 0 (x_Q E below args s 0 0 z) (F0 m 38 ls [.int t0]) := by
  intro h t0 H locs ls hR hS hl hf
  obtain ⟨hx, hb, -⟩ := id C0
  unfold f_X6_parseMaximum_b38 at hf
  have h0 : x_by cX6_parseMaximum 38 [172] := by unfold x_by; decide +kernel
  obtain ⟨d38, h0⟩ := de_ireturn h0
  exact x_zret C0 hR hS hf (Nat.le_of_ble_eq_true rfl) (Nat.le_of_ble_eq_true rfl) d38
set_option maxRecDepth 100000 in
set_option maxHeartbeats 4000000 in
theorem ct_X6_parseMaximum (E : XE) (l : Launch) (hl0 : l.stackTraces = false) (h : HP) (r0 : Nat) : x_ct E l yX6_parseMaximum (Cond.code yX6_parseMaximum cX6_parseMaximum 2 (some .boolean)) 14 260 0 0 [.ref (xa E r0)] h (f_X6_parseMaximum h r0) := by
  refine x_ofW hl0 (by decide +kernel) ?_
  intro z hf p e s m args below meth c C0 hxt hargs hR
  subst hargs
  have C0 : x_C E p l s m meth c ([.ref (xa E r0)] : List Value).toArray cX6_parseMaximum 2 "GridEngine$TrackText" "parseMaximum" (some .boolean) := C0
  obtain ⟨hx, hb, -⟩ := id C0
  have hS : va_S (x_A E) s.heap s.heap [] := va_S.rf
  have hl := lv_entry ([.ref (xa E r0)]) (n := 2) (Nat.le_of_ble_eq_true rfl)
  rw [lg_entry_eq]
  generalize (lg_sl ([.ref (xa E r0)]) ++ List.replicate (2 - (lg_sl ([.ref (xa E r0)])).length) Slot.unset).toArray = ls at hl ⊢
  have hl : lv_has ls 2 [(0, .ref (xa E r0))] := hl
  unfold f_X6_parseMaximum at hf
  have h0 : x_by cX6_parseMaximum 0 [42, 182, 0, 92, 153, 0, 35] := by unfold x_by; decide +kernel
  obtain ⟨d0, h0⟩ := de_aload_n0 h0
  obtain ⟨d1, h0⟩ := de_invokevirtual 92 (by decide) h0
  obtain ⟨d4, h0⟩ := de_if_eq (35) (by decide) h0
  refine lv_aload_n hx hb d0 rfl (lv_at hl 0 rfl) ?_
  obtain ⟨hs9, hf⟩ := x_if hf
  refine x_thenI C0 hxt hS hf (fun z0 e0 => x_runV C0 hR hS me_X6_isDigitNext wi_X6_isDigitNext wl_X6_isDigitNext ml_X6_92 hs9 xcl_6 (As := []) (ct_X6_isDigitNext E l C0.2.2.2.2.2.2.2.1 _ r0) rfl rfl hl.1 (Nat.le_of_ble_eq_true rfl) d1 ⟨(Nat.le_of_ble_eq_true rfl), (Nat.le_of_ble_eq_true rfl)⟩ ⟨(Nat.le_of_ble_eq_true rfl), (Nat.le_of_ble_eq_true rfl)⟩ e0) (Nat.le_of_ble_eq_true rfl) (Nat.le_of_ble_eq_true rfl) (fun h9 i1 H locs hR hS hf => ?_)
  refine lv_if_eq (tgt := 39) hx hb d4 (by decide) (fun q => ?_) (fun q => ?_)
  · have hf := x_pos q hf
    have h0 : x_by cX6_parseMaximum 39 [42, 16, 97, 182, 0, 60, 153, 0, 16] := by unfold x_by; decide +kernel
    obtain ⟨d39, h0⟩ := de_aload_n0 h0
    obtain ⟨d40, h0⟩ := de_bipush (97) (by decide) h0
    obtain ⟨d42, h0⟩ := de_invokevirtual 60 (by decide) h0
    obtain ⟨d45, h0⟩ := de_if_eq (16) (by decide) h0
    refine lv_aload_n hx hb d39 rfl (lv_at hl 0 rfl) ?_
    refine lv_bipush (v := 97) hx hb d40 (by decide) ?_
    obtain ⟨hs9, hf⟩ := x_if hf
    refine x_thenI C0 hxt hS hf (fun z0 e0 => x_runV C0 hR hS me_X6_isNext wi_X6_isNext wl_X6_isNext ml_X6_60 hs9 xcl_6 (As := [.int 97]) (ct_X6_isNext E l C0.2.2.2.2.2.2.2.1 _ r0 97) rfl rfl hl.1 (Nat.le_of_ble_eq_true rfl) d42 ⟨(Nat.le_of_ble_eq_true rfl), (Nat.le_of_ble_eq_true rfl)⟩ ⟨(Nat.le_of_ble_eq_true rfl), (Nat.le_of_ble_eq_true rfl)⟩ e0) (Nat.le_of_ble_eq_true rfl) (Nat.le_of_ble_eq_true rfl) (fun h9 i3 H locs hR hS hf => ?_)
    refine lv_if_eq (tgt := 61) hx hb d45 (by decide) (fun q => ?_) (fun q => ?_)
    · have hf := x_pos q hf
      have h0 : x_by cX6_parseMaximum 61 [42, 182, 0, 149, 60, 42, 42, 180, 0, 25, 3, 182, 0, 129, 27, 172] := by unfold x_by; decide +kernel
      obtain ⟨d61, h0⟩ := de_aload_n0 h0
      obtain ⟨d62, h0⟩ := de_invokevirtual 149 (by decide) h0
      obtain ⟨d65, h0⟩ := de_istore_n1 h0
      obtain ⟨d66, h0⟩ := de_aload_n0 h0
      obtain ⟨d67, h0⟩ := de_aload_n0 h0
      obtain ⟨d68, h0⟩ := de_getfield 25 (by decide) h0
      obtain ⟨d71, h0⟩ := de_iconst_0 h0
      obtain ⟨d72, h0⟩ := de_invokevirtual 129 (by decide) h0
      obtain ⟨d75, h0⟩ := de_iload_n1 h0
      obtain ⟨d76, h0⟩ := de_ireturn h0
      refine lv_aload_n hx hb d61 rfl (lv_at hl 0 rfl) ?_
      obtain ⟨hs9, hf⟩ := x_if hf
      refine x_thenI C0 hxt hS hf (fun z0 e0 => x_runV C0 hR hS me_X6_takeSmallOrLarge wi_X6_takeSmallOrLarge wl_X6_takeSmallOrLarge ml_X6_149 hs9 xcl_6 (As := []) (ct_X6_takeSmallOrLarge E l C0.2.2.2.2.2.2.2.1 _ r0) rfl rfl hl.1 (Nat.le_of_ble_eq_true rfl) d62 ⟨(Nat.le_of_ble_eq_true rfl), (Nat.le_of_ble_eq_true rfl)⟩ ⟨(Nat.le_of_ble_eq_true rfl), (Nat.le_of_ble_eq_true rfl)⟩ e0) (Nat.le_of_ble_eq_true rfl) (Nat.le_of_ble_eq_true rfl) (fun h9 i5 H locs hR hS hf => ?_)
      refine lv_istore_n (lv' := [(1, .int i5), (0, .ref (xa E r0))]) hx hb d65 rfl hl (by decide) rfl (fun ls hl => ?_)
      refine lv_aload_n hx hb d66 rfl (lv_at hl 1 rfl) ?_
      refine lv_aload_n hx hb d67 rfl (lv_at hl 1 rfl) ?_
      refine x_getI C0 hR hf xcl_6 (Nat.le_of_ble_eq_true rfl) rfl fl_X6_25 d68 (fun i7 hf => ?_)
      refine lv_iconst (v := 0) hx hb d71 (by decide) ?_
      obtain ⟨hs9, hf⟩ := x_if hf
      refine x_thenV C0 hxt hS hf (fun z0 e0 => x_runV C0 hR hS me_X6_defineMaximum wi_X6_defineMaximum wl_X6_defineMaximum ml_X6_129 hs9 xcl_6 (As := [.int i7, .int 0]) (ct_X6_defineMaximum E l C0.2.2.2.2.2.2.2.1 _ r0 i7 0) rfl rfl hl.1 (Nat.le_of_ble_eq_true rfl) d72 ⟨(Nat.le_of_ble_eq_true rfl), (Nat.le_of_ble_eq_true rfl)⟩ ⟨(Nat.le_of_ble_eq_true rfl), (Nat.le_of_ble_eq_true rfl)⟩ e0) (Nat.le_of_ble_eq_true rfl) (Nat.le_of_ble_eq_true rfl) (fun h9 H locs hR hS hf => ?_)
      refine lv_iload_n hx hb d75 rfl (lv_at hl 0 rfl) ?_
      exact x_zret C0 hR hS hf (Nat.le_of_ble_eq_true rfl) (Nat.le_of_ble_eq_true rfl) d76
    · have hf := x_neg q hf
      have h0 : x_by cX6_parseMaximum 48 [42, 6, 3, 182, 0, 129, 42, 18, 132, 182, 0, 79, 172] := by unfold x_by; decide +kernel
      obtain ⟨d48, h0⟩ := de_aload_n0 h0
      obtain ⟨d49, h0⟩ := de_iconst_3 h0
      obtain ⟨d50, h0⟩ := de_iconst_0 h0
      obtain ⟨d51, h0⟩ := de_invokevirtual 129 (by decide) h0
      obtain ⟨d54, h0⟩ := de_aload_n0 h0
      obtain ⟨d55, h0⟩ := de_ldc h0
      obtain ⟨d57, h0⟩ := de_invokevirtual 79 (by decide) h0
      obtain ⟨d60, h0⟩ := de_ireturn h0
      refine lv_aload_n hx hb d48 rfl (lv_at hl 0 rfl) ?_
      refine lv_iconst (v := 3) hx hb d49 (by decide) ?_
      refine lv_iconst (v := 0) hx hb d50 (by decide) ?_
      obtain ⟨hs9, hf⟩ := x_if hf
      refine x_thenV C0 hxt hS hf (fun z0 e0 => x_runV C0 hR hS me_X6_defineMaximum wi_X6_defineMaximum wl_X6_defineMaximum ml_X6_129 hs9 xcl_6 (As := [.int 3, .int 0]) (ct_X6_defineMaximum E l C0.2.2.2.2.2.2.2.1 _ r0 3 0) rfl rfl hl.1 (Nat.le_of_ble_eq_true rfl) d51 ⟨(Nat.le_of_ble_eq_true rfl), (Nat.le_of_ble_eq_true rfl)⟩ ⟨(Nat.le_of_ble_eq_true rfl), (Nat.le_of_ble_eq_true rfl)⟩ e0) (Nat.le_of_ble_eq_true rfl) (Nat.le_of_ble_eq_true rfl) (fun h9 H locs hR hS hf => ?_)
      refine lv_aload_n hx hb d54 rfl (lv_at hl 0 rfl) ?_
      refine x_ldcS C0 (i := 4) rfl d55 ?_
      obtain ⟨hs9, hf⟩ := x_if hf
      refine x_thenI C0 hxt hS hf (fun z0 e0 => x_runV C0 hR hS me_X6_takeWord wi_X6_takeWord wl_X6_takeWord ml_X6_79 hs9 xcl_6 (As := [.ref (xa E 1000005)]) (ct_X6_takeWord E l C0.2.2.2.2.2.2.2.1 _ r0 1000005) rfl rfl hl.1 (Nat.le_of_ble_eq_true rfl) d57 ⟨(Nat.le_of_ble_eq_true rfl), (Nat.le_of_ble_eq_true rfl)⟩ ⟨(Nat.le_of_ble_eq_true rfl), (Nat.le_of_ble_eq_true rfl)⟩ e0) (Nat.le_of_ble_eq_true rfl) (Nat.le_of_ble_eq_true rfl) (fun h9 i10 H locs hR hS hf => ?_)
      exact x_zret C0 hR hS hf (Nat.le_of_ble_eq_true rfl) (Nat.le_of_ble_eq_true rfl) d60
  · have hf := x_neg q hf
    have h0 : x_by cX6_parseMaximum 7 [42, 182, 0, 99, 60, 42, 3, 42, 180, 0, 22, 182, 0, 129, 42, 16, 102, 182, 0, 60, 153, 0, 10] := by unfold x_by; decide +kernel
    obtain ⟨d7, h0⟩ := de_aload_n0 h0
    obtain ⟨d8, h0⟩ := de_invokevirtual 99 (by decide) h0
    obtain ⟨d11, h0⟩ := de_istore_n1 h0
    obtain ⟨d12, h0⟩ := de_aload_n0 h0
    obtain ⟨d13, h0⟩ := de_iconst_0 h0
    obtain ⟨d14, h0⟩ := de_aload_n0 h0
    obtain ⟨d15, h0⟩ := de_getfield 22 (by decide) h0
    obtain ⟨d18, h0⟩ := de_invokevirtual 129 (by decide) h0
    obtain ⟨d21, h0⟩ := de_aload_n0 h0
    obtain ⟨d22, h0⟩ := de_bipush (102) (by decide) h0
    obtain ⟨d24, h0⟩ := de_invokevirtual 60 (by decide) h0
    obtain ⟨d27, h0⟩ := de_if_eq (10) (by decide) h0
    refine lv_aload_n hx hb d7 rfl (lv_at hl 0 rfl) ?_
    obtain ⟨hs9, hf⟩ := x_if hf
    refine x_thenI C0 hxt hS hf (fun z0 e0 => x_runV C0 hR hS me_X6_takeNumber wi_X6_takeNumber wl_X6_takeNumber ml_X6_99 hs9 xcl_6 (As := []) (ct_X6_takeNumber E l C0.2.2.2.2.2.2.2.1 _ r0) rfl rfl hl.1 (Nat.le_of_ble_eq_true rfl) d8 ⟨(Nat.le_of_ble_eq_true rfl), (Nat.le_of_ble_eq_true rfl)⟩ ⟨(Nat.le_of_ble_eq_true rfl), (Nat.le_of_ble_eq_true rfl)⟩ e0) (Nat.le_of_ble_eq_true rfl) (Nat.le_of_ble_eq_true rfl) (fun h9 i12 H locs hR hS hf => ?_)
    refine lv_istore_n (lv' := [(1, .int i12), (0, .ref (xa E r0))]) hx hb d11 rfl hl (by decide) rfl (fun ls hl => ?_)
    refine lv_aload_n hx hb d12 rfl (lv_at hl 1 rfl) ?_
    refine lv_iconst (v := 0) hx hb d13 (by decide) ?_
    refine lv_aload_n hx hb d14 rfl (lv_at hl 1 rfl) ?_
    refine x_getI C0 hR hf xcl_6 (Nat.le_of_ble_eq_true rfl) rfl fl_X6_22 d15 (fun i14 hf => ?_)
    obtain ⟨hs9, hf⟩ := x_if hf
    refine x_thenV C0 hxt hS hf (fun z0 e0 => x_runV C0 hR hS me_X6_defineMaximum wi_X6_defineMaximum wl_X6_defineMaximum ml_X6_129 hs9 xcl_6 (As := [.int 0, .int i14]) (ct_X6_defineMaximum E l C0.2.2.2.2.2.2.2.1 _ r0 0 i14) rfl rfl hl.1 (Nat.le_of_ble_eq_true rfl) d18 ⟨(Nat.le_of_ble_eq_true rfl), (Nat.le_of_ble_eq_true rfl)⟩ ⟨(Nat.le_of_ble_eq_true rfl), (Nat.le_of_ble_eq_true rfl)⟩ e0) (Nat.le_of_ble_eq_true rfl) (Nat.le_of_ble_eq_true rfl) (fun h9 H locs hR hS hf => ?_)
    refine lv_aload_n hx hb d21 rfl (lv_at hl 1 rfl) ?_
    refine lv_bipush (v := 102) hx hb d22 (by decide) ?_
    obtain ⟨hs9, hf⟩ := x_if hf
    refine x_thenI C0 hxt hS hf (fun z0 e0 => x_runV C0 hR hS me_X6_isNext wi_X6_isNext wl_X6_isNext ml_X6_60 hs9 xcl_6 (As := [.int 102]) (ct_X6_isNext E l C0.2.2.2.2.2.2.2.1 _ r0 102) rfl rfl hl.1 (Nat.le_of_ble_eq_true rfl) d24 ⟨(Nat.le_of_ble_eq_true rfl), (Nat.le_of_ble_eq_true rfl)⟩ ⟨(Nat.le_of_ble_eq_true rfl), (Nat.le_of_ble_eq_true rfl)⟩ e0) (Nat.le_of_ble_eq_true rfl) (Nat.le_of_ble_eq_true rfl) (fun h9 i16 H locs hR hS hf => ?_)
    refine lv_if_eq (tgt := 37) hx hb d27 (by decide) (fun q => ?_) (fun q => ?_)
    · have hf := x_pos q hf
      have h0 : x_by cX6_parseMaximum 37 [27] := by unfold x_by; decide +kernel
      obtain ⟨d37, h0⟩ := de_iload_n1 h0
      refine lv_iload_n hx hb d37 rfl (lv_at hl 0 rfl) ?_
      exact s_X6_parseMaximum_b38 C0 hxt _ _ _ _ _ hR hS (lv_sub hl [] rfl) hf
    · have hf := x_neg q hf
      have h0 : x_by cX6_parseMaximum 30 [42, 182, 0, 144, 167, 0, 4] := by unfold x_by; decide +kernel
      obtain ⟨d30, h0⟩ := de_aload_n0 h0
      obtain ⟨d31, h0⟩ := de_invokevirtual 144 (by decide) h0
      obtain ⟨d34, h0⟩ := de_goto (4) (by decide) h0
      refine lv_aload_n hx hb d30 rfl (lv_at hl 1 rfl) ?_
      obtain ⟨hs9, hf⟩ := x_if hf
      refine x_thenI C0 hxt hS hf (fun z0 e0 => x_runV C0 hR hS me_X6_parseFactor wi_X6_parseFactor wl_X6_parseFactor ml_X6_144 hs9 xcl_6 (As := []) (ct_X6_parseFactor E l C0.2.2.2.2.2.2.2.1 _ r0) rfl rfl hl.1 (Nat.le_of_ble_eq_true rfl) d31 ⟨(Nat.le_of_ble_eq_true rfl), (Nat.le_of_ble_eq_true rfl)⟩ ⟨(Nat.le_of_ble_eq_true rfl), (Nat.le_of_ble_eq_true rfl)⟩ e0) (Nat.le_of_ble_eq_true rfl) (Nat.le_of_ble_eq_true rfl) (fun h9 i18 H locs hR hS hf => ?_)
      refine lv_goto (tgt := 38) hx hb d34 (by decide) ?_
      exact s_X6_parseMaximum_b38 C0 hxt _ _ _ _ _ hR hS (lv_sub hl [] rfl) hf
def f_X6_parseMinimum (h : HP) (r0 : Nat) : Option XR :=
  x_rc h r0 6 <| x_cI (f_X6_isDigitNext h r0) fun h2 i1 =>
  if i1 = 0 then
    (
      x_rc h2 r0 6 <| x_cI (f_X6_isNext h2 r0 97) fun h4 i3 =>
      if i3 = 0 then
        (
          x_rc h4 r0 6 <| x_cI (f_X6_takeSmallOrLarge h4 r0) fun h6 i5 =>
          x_gI h6 r0 6 4 fun i7 =>
          x_rc h6 r0 6 <| x_cV (f_X6_defineMinimum h6 r0 i7 0) fun h8 =>
          x_rZ h8 i5
        )
      else
        (
          x_rc h4 r0 6 <| x_cV (f_X6_defineMinimum h4 r0 1 0) fun h9 =>
          x_rc h9 r0 6 <| x_cI (f_X6_takeWord h9 r0 1000005) fun h11 i10 =>
          x_rZ h11 i10
        )
    )
  else
    (
      x_rc h2 r0 6 <| x_cI (f_X6_takeNumber h2 r0) fun h13 i12 =>
      x_gI h13 r0 6 3 fun i14 =>
      x_rc h13 r0 6 <| x_cV (f_X6_defineMinimum h13 r0 0 i14) fun h15 =>
      x_rZ h15 i12
    )
set_option maxRecDepth 100000 in
set_option maxHeartbeats 4000000 in
theorem ct_X6_parseMinimum (E : XE) (l : Launch) (hl0 : l.stackTraces = false) (h : HP) (r0 : Nat) : x_ct E l yX6_parseMinimum (Cond.code yX6_parseMinimum cX6_parseMinimum 2 (some .boolean)) 14 260 0 0 [.ref (xa E r0)] h (f_X6_parseMinimum h r0) := by
  refine x_ofW hl0 (by decide +kernel) ?_
  intro z hf p e s m args below meth c C0 hxt hargs hR
  subst hargs
  have C0 : x_C E p l s m meth c ([.ref (xa E r0)] : List Value).toArray cX6_parseMinimum 2 "GridEngine$TrackText" "parseMinimum" (some .boolean) := C0
  obtain ⟨hx, hb, -⟩ := id C0
  have hS : va_S (x_A E) s.heap s.heap [] := va_S.rf
  have hl := lv_entry ([.ref (xa E r0)]) (n := 2) (Nat.le_of_ble_eq_true rfl)
  rw [lg_entry_eq]
  generalize (lg_sl ([.ref (xa E r0)]) ++ List.replicate (2 - (lg_sl ([.ref (xa E r0)])).length) Slot.unset).toArray = ls at hl ⊢
  have hl : lv_has ls 2 [(0, .ref (xa E r0))] := hl
  unfold f_X6_parseMinimum at hf
  have h0 : x_by cX6_parseMinimum 0 [42, 182, 0, 92, 153, 0, 19] := by unfold x_by; decide +kernel
  obtain ⟨d0, h0⟩ := de_aload_n0 h0
  obtain ⟨d1, h0⟩ := de_invokevirtual 92 (by decide) h0
  obtain ⟨d4, h0⟩ := de_if_eq (19) (by decide) h0
  refine lv_aload_n hx hb d0 rfl (lv_at hl 0 rfl) ?_
  obtain ⟨hs9, hf⟩ := x_if hf
  refine x_thenI C0 hxt hS hf (fun z0 e0 => x_runV C0 hR hS me_X6_isDigitNext wi_X6_isDigitNext wl_X6_isDigitNext ml_X6_92 hs9 xcl_6 (As := []) (ct_X6_isDigitNext E l C0.2.2.2.2.2.2.2.1 _ r0) rfl rfl hl.1 (Nat.le_of_ble_eq_true rfl) d1 ⟨(Nat.le_of_ble_eq_true rfl), (Nat.le_of_ble_eq_true rfl)⟩ ⟨(Nat.le_of_ble_eq_true rfl), (Nat.le_of_ble_eq_true rfl)⟩ e0) (Nat.le_of_ble_eq_true rfl) (Nat.le_of_ble_eq_true rfl) (fun h9 i1 H locs hR hS hf => ?_)
  refine lv_if_eq (tgt := 23) hx hb d4 (by decide) (fun q => ?_) (fun q => ?_)
  · have hf := x_pos q hf
    have h0 : x_by cX6_parseMinimum 23 [42, 16, 97, 182, 0, 60, 153, 0, 16] := by unfold x_by; decide +kernel
    obtain ⟨d23, h0⟩ := de_aload_n0 h0
    obtain ⟨d24, h0⟩ := de_bipush (97) (by decide) h0
    obtain ⟨d26, h0⟩ := de_invokevirtual 60 (by decide) h0
    obtain ⟨d29, h0⟩ := de_if_eq (16) (by decide) h0
    refine lv_aload_n hx hb d23 rfl (lv_at hl 0 rfl) ?_
    refine lv_bipush (v := 97) hx hb d24 (by decide) ?_
    obtain ⟨hs9, hf⟩ := x_if hf
    refine x_thenI C0 hxt hS hf (fun z0 e0 => x_runV C0 hR hS me_X6_isNext wi_X6_isNext wl_X6_isNext ml_X6_60 hs9 xcl_6 (As := [.int 97]) (ct_X6_isNext E l C0.2.2.2.2.2.2.2.1 _ r0 97) rfl rfl hl.1 (Nat.le_of_ble_eq_true rfl) d26 ⟨(Nat.le_of_ble_eq_true rfl), (Nat.le_of_ble_eq_true rfl)⟩ ⟨(Nat.le_of_ble_eq_true rfl), (Nat.le_of_ble_eq_true rfl)⟩ e0) (Nat.le_of_ble_eq_true rfl) (Nat.le_of_ble_eq_true rfl) (fun h9 i3 H locs hR hS hf => ?_)
    refine lv_if_eq (tgt := 45) hx hb d29 (by decide) (fun q => ?_) (fun q => ?_)
    · have hf := x_pos q hf
      have h0 : x_by cX6_parseMinimum 45 [42, 182, 0, 149, 60, 42, 42, 180, 0, 25, 3, 182, 0, 126, 27, 172] := by unfold x_by; decide +kernel
      obtain ⟨d45, h0⟩ := de_aload_n0 h0
      obtain ⟨d46, h0⟩ := de_invokevirtual 149 (by decide) h0
      obtain ⟨d49, h0⟩ := de_istore_n1 h0
      obtain ⟨d50, h0⟩ := de_aload_n0 h0
      obtain ⟨d51, h0⟩ := de_aload_n0 h0
      obtain ⟨d52, h0⟩ := de_getfield 25 (by decide) h0
      obtain ⟨d55, h0⟩ := de_iconst_0 h0
      obtain ⟨d56, h0⟩ := de_invokevirtual 126 (by decide) h0
      obtain ⟨d59, h0⟩ := de_iload_n1 h0
      obtain ⟨d60, h0⟩ := de_ireturn h0
      refine lv_aload_n hx hb d45 rfl (lv_at hl 0 rfl) ?_
      obtain ⟨hs9, hf⟩ := x_if hf
      refine x_thenI C0 hxt hS hf (fun z0 e0 => x_runV C0 hR hS me_X6_takeSmallOrLarge wi_X6_takeSmallOrLarge wl_X6_takeSmallOrLarge ml_X6_149 hs9 xcl_6 (As := []) (ct_X6_takeSmallOrLarge E l C0.2.2.2.2.2.2.2.1 _ r0) rfl rfl hl.1 (Nat.le_of_ble_eq_true rfl) d46 ⟨(Nat.le_of_ble_eq_true rfl), (Nat.le_of_ble_eq_true rfl)⟩ ⟨(Nat.le_of_ble_eq_true rfl), (Nat.le_of_ble_eq_true rfl)⟩ e0) (Nat.le_of_ble_eq_true rfl) (Nat.le_of_ble_eq_true rfl) (fun h9 i5 H locs hR hS hf => ?_)
      refine lv_istore_n (lv' := [(1, .int i5), (0, .ref (xa E r0))]) hx hb d49 rfl hl (by decide) rfl (fun ls hl => ?_)
      refine lv_aload_n hx hb d50 rfl (lv_at hl 1 rfl) ?_
      refine lv_aload_n hx hb d51 rfl (lv_at hl 1 rfl) ?_
      refine x_getI C0 hR hf xcl_6 (Nat.le_of_ble_eq_true rfl) rfl fl_X6_25 d52 (fun i7 hf => ?_)
      refine lv_iconst (v := 0) hx hb d55 (by decide) ?_
      obtain ⟨hs9, hf⟩ := x_if hf
      refine x_thenV C0 hxt hS hf (fun z0 e0 => x_runV C0 hR hS me_X6_defineMinimum wi_X6_defineMinimum wl_X6_defineMinimum ml_X6_126 hs9 xcl_6 (As := [.int i7, .int 0]) (ct_X6_defineMinimum E l C0.2.2.2.2.2.2.2.1 _ r0 i7 0) rfl rfl hl.1 (Nat.le_of_ble_eq_true rfl) d56 ⟨(Nat.le_of_ble_eq_true rfl), (Nat.le_of_ble_eq_true rfl)⟩ ⟨(Nat.le_of_ble_eq_true rfl), (Nat.le_of_ble_eq_true rfl)⟩ e0) (Nat.le_of_ble_eq_true rfl) (Nat.le_of_ble_eq_true rfl) (fun h9 H locs hR hS hf => ?_)
      refine lv_iload_n hx hb d59 rfl (lv_at hl 0 rfl) ?_
      exact x_zret C0 hR hS hf (Nat.le_of_ble_eq_true rfl) (Nat.le_of_ble_eq_true rfl) d60
    · have hf := x_neg q hf
      have h0 : x_by cX6_parseMinimum 32 [42, 4, 3, 182, 0, 126, 42, 18, 132, 182, 0, 79, 172] := by unfold x_by; decide +kernel
      obtain ⟨d32, h0⟩ := de_aload_n0 h0
      obtain ⟨d33, h0⟩ := de_iconst_1 h0
      obtain ⟨d34, h0⟩ := de_iconst_0 h0
      obtain ⟨d35, h0⟩ := de_invokevirtual 126 (by decide) h0
      obtain ⟨d38, h0⟩ := de_aload_n0 h0
      obtain ⟨d39, h0⟩ := de_ldc h0
      obtain ⟨d41, h0⟩ := de_invokevirtual 79 (by decide) h0
      obtain ⟨d44, h0⟩ := de_ireturn h0
      refine lv_aload_n hx hb d32 rfl (lv_at hl 0 rfl) ?_
      refine lv_iconst (v := 1) hx hb d33 (by decide) ?_
      refine lv_iconst (v := 0) hx hb d34 (by decide) ?_
      obtain ⟨hs9, hf⟩ := x_if hf
      refine x_thenV C0 hxt hS hf (fun z0 e0 => x_runV C0 hR hS me_X6_defineMinimum wi_X6_defineMinimum wl_X6_defineMinimum ml_X6_126 hs9 xcl_6 (As := [.int 1, .int 0]) (ct_X6_defineMinimum E l C0.2.2.2.2.2.2.2.1 _ r0 1 0) rfl rfl hl.1 (Nat.le_of_ble_eq_true rfl) d35 ⟨(Nat.le_of_ble_eq_true rfl), (Nat.le_of_ble_eq_true rfl)⟩ ⟨(Nat.le_of_ble_eq_true rfl), (Nat.le_of_ble_eq_true rfl)⟩ e0) (Nat.le_of_ble_eq_true rfl) (Nat.le_of_ble_eq_true rfl) (fun h9 H locs hR hS hf => ?_)
      refine lv_aload_n hx hb d38 rfl (lv_at hl 0 rfl) ?_
      refine x_ldcS C0 (i := 4) rfl d39 ?_
      obtain ⟨hs9, hf⟩ := x_if hf
      refine x_thenI C0 hxt hS hf (fun z0 e0 => x_runV C0 hR hS me_X6_takeWord wi_X6_takeWord wl_X6_takeWord ml_X6_79 hs9 xcl_6 (As := [.ref (xa E 1000005)]) (ct_X6_takeWord E l C0.2.2.2.2.2.2.2.1 _ r0 1000005) rfl rfl hl.1 (Nat.le_of_ble_eq_true rfl) d41 ⟨(Nat.le_of_ble_eq_true rfl), (Nat.le_of_ble_eq_true rfl)⟩ ⟨(Nat.le_of_ble_eq_true rfl), (Nat.le_of_ble_eq_true rfl)⟩ e0) (Nat.le_of_ble_eq_true rfl) (Nat.le_of_ble_eq_true rfl) (fun h9 i10 H locs hR hS hf => ?_)
      exact x_zret C0 hR hS hf (Nat.le_of_ble_eq_true rfl) (Nat.le_of_ble_eq_true rfl) d44
  · have hf := x_neg q hf
    have h0 : x_by cX6_parseMinimum 7 [42, 182, 0, 99, 60, 42, 3, 42, 180, 0, 22, 182, 0, 126, 27, 172] := by unfold x_by; decide +kernel
    obtain ⟨d7, h0⟩ := de_aload_n0 h0
    obtain ⟨d8, h0⟩ := de_invokevirtual 99 (by decide) h0
    obtain ⟨d11, h0⟩ := de_istore_n1 h0
    obtain ⟨d12, h0⟩ := de_aload_n0 h0
    obtain ⟨d13, h0⟩ := de_iconst_0 h0
    obtain ⟨d14, h0⟩ := de_aload_n0 h0
    obtain ⟨d15, h0⟩ := de_getfield 22 (by decide) h0
    obtain ⟨d18, h0⟩ := de_invokevirtual 126 (by decide) h0
    obtain ⟨d21, h0⟩ := de_iload_n1 h0
    obtain ⟨d22, h0⟩ := de_ireturn h0
    refine lv_aload_n hx hb d7 rfl (lv_at hl 0 rfl) ?_
    obtain ⟨hs9, hf⟩ := x_if hf
    refine x_thenI C0 hxt hS hf (fun z0 e0 => x_runV C0 hR hS me_X6_takeNumber wi_X6_takeNumber wl_X6_takeNumber ml_X6_99 hs9 xcl_6 (As := []) (ct_X6_takeNumber E l C0.2.2.2.2.2.2.2.1 _ r0) rfl rfl hl.1 (Nat.le_of_ble_eq_true rfl) d8 ⟨(Nat.le_of_ble_eq_true rfl), (Nat.le_of_ble_eq_true rfl)⟩ ⟨(Nat.le_of_ble_eq_true rfl), (Nat.le_of_ble_eq_true rfl)⟩ e0) (Nat.le_of_ble_eq_true rfl) (Nat.le_of_ble_eq_true rfl) (fun h9 i12 H locs hR hS hf => ?_)
    refine lv_istore_n (lv' := [(1, .int i12), (0, .ref (xa E r0))]) hx hb d11 rfl hl (by decide) rfl (fun ls hl => ?_)
    refine lv_aload_n hx hb d12 rfl (lv_at hl 1 rfl) ?_
    refine lv_iconst (v := 0) hx hb d13 (by decide) ?_
    refine lv_aload_n hx hb d14 rfl (lv_at hl 1 rfl) ?_
    refine x_getI C0 hR hf xcl_6 (Nat.le_of_ble_eq_true rfl) rfl fl_X6_22 d15 (fun i14 hf => ?_)
    obtain ⟨hs9, hf⟩ := x_if hf
    refine x_thenV C0 hxt hS hf (fun z0 e0 => x_runV C0 hR hS me_X6_defineMinimum wi_X6_defineMinimum wl_X6_defineMinimum ml_X6_126 hs9 xcl_6 (As := [.int 0, .int i14]) (ct_X6_defineMinimum E l C0.2.2.2.2.2.2.2.1 _ r0 0 i14) rfl rfl hl.1 (Nat.le_of_ble_eq_true rfl) d18 ⟨(Nat.le_of_ble_eq_true rfl), (Nat.le_of_ble_eq_true rfl)⟩ ⟨(Nat.le_of_ble_eq_true rfl), (Nat.le_of_ble_eq_true rfl)⟩ e0) (Nat.le_of_ble_eq_true rfl) (Nat.le_of_ble_eq_true rfl) (fun h9 H locs hR hS hf => ?_)
    refine lv_iload_n hx hb d21 rfl (lv_at hl 0 rfl) ?_
    exact x_zret C0 hR hS hf (Nat.le_of_ble_eq_true rfl) (Nat.le_of_ble_eq_true rfl) d22
def f_X6_parseMinOrMax_b72  (h : HP) (t0 : Int32) : Option XR :=
  x_rZ h t0
def f_X6_parseMinOrMax_b71  (h : HP)  : Option XR :=
  f_X6_parseMinOrMax_b72 h 0
def f_X6_parseMinOrMax_b73  (h : HP) (r0 : Nat) : Option XR :=
  x_gI h r0 6 4 fun i1 =>
  x_rc h r0 6 <| x_cV (f_X6_defineMinimum h r0 i1 0) fun h2 =>
  x_gI h2 r0 6 4 fun i3 =>
  x_rc h2 r0 6 <| x_cV (f_X6_defineMaximum h2 r0 i3 0) fun h4 =>
  x_rZ h4 1
def f_X6_parseMinOrMax (h : HP) (r0 : Nat) : Option XR :=
  x_rc h r0 6 <| x_cI (f_X6_takeSmallOrLarge h r0) fun h2 i1 =>
  if i1 = 0 then
    (
      x_rZ h2 0
    )
  else
    (
      x_gI h2 r0 6 4 fun i3 =>
      if i3 = 1 then
        (
          x_rc h2 r0 6 <| x_cI (f_X6_isNext h2 r0 109) fun h5 i4 =>
          if i4 = 0 then
            (
              f_X6_parseMinOrMax_b73 h5 r0
            )
          else
            (
              x_rc h5 r0 6 <| x_cI (f_X6_takeWord h5 r0 1000009) fun h7 i6 =>
              if i6 = 0 then
                (
                  f_X6_parseMinOrMax_b71 h7
                )
              else
                (
                  x_rc h7 r0 6 <| x_cI (f_X6_parseMinimum h7 r0) fun h9 i8 =>
                  if i8 = 0 then
                    (
                      f_X6_parseMinOrMax_b71 h9
                    )
                  else
                    (
                      x_rc h9 r0 6 <| x_cI (f_X6_takeWord h9 r0 1000004) fun h11 i10 =>
                      if i10 = 0 then
                        (
                          f_X6_parseMinOrMax_b71 h11
                        )
                      else
                        (
                          x_rc h11 r0 6 <| x_cI (f_X6_parseMaximum h11 r0) fun h13 i12 =>
                          if i12 = 0 then
                            (
                              f_X6_parseMinOrMax_b71 h13
                            )
                          else
                            (
                              x_rc h13 r0 6 <| x_cI (f_X6_takeWord h13 r0 1000007) fun h15 i14 =>
                              if i14 = 0 then
                                (
                                  f_X6_parseMinOrMax_b71 h15
                                )
                              else
                                (
                                  f_X6_parseMinOrMax_b72 h15 1
                                )
                            )
                        )
                    )
                )
            )
        )
      else
        (
          f_X6_parseMinOrMax_b73 h2 r0
        )
    )
set_option maxRecDepth 100000 in
set_option maxHeartbeats 4000000 in
theorem s_X6_parseMinOrMax_b72 {p : Program} {l : Launch} {e : Env} {s : State} {m : MethodId} {args : Array Value} {below : List Frame} {meth : Method} {c : Code} {E : XE} {z : XR} (C0 : x_C E p l s m meth c args cX6_parseMinOrMax 1 "GridEngine$TrackText" "parseMinOrMax" (some .boolean)) (hxt : ∀ x ∈ c.exceptionTable.toList, False)  : ∀ (h : HP) (t0 : Int32) (H : Heap) (locs : List Loc) (ls : Array Slot), x_Rep E h H → va_S (x_A E) s.heap H locs → lv_has ls 1 [] → f_X6_parseMinOrMax_b72 h t0 = some z → W p l e ({ frames := 15, cells := 0, slots := 0, locals := 281 } : Room) s m args below meth c H locs 0 0 (x_Q E below args s 0 0 z) (F0 m 72 ls [.int t0]) := by
  intro h t0 H locs ls hR hS hl hf
  obtain ⟨hx, hb, -⟩ := id C0
  unfold f_X6_parseMinOrMax_b72 at hf
  have h0 : x_by cX6_parseMinOrMax 72 [172] := by unfold x_by; decide +kernel
  obtain ⟨d72, h0⟩ := de_ireturn h0
  exact x_zret C0 hR hS hf (Nat.le_of_ble_eq_true rfl) (Nat.le_of_ble_eq_true rfl) d72
set_option maxRecDepth 100000 in
set_option maxHeartbeats 4000000 in
theorem s_X6_parseMinOrMax_b71 {p : Program} {l : Launch} {e : Env} {s : State} {m : MethodId} {args : Array Value} {below : List Frame} {meth : Method} {c : Code} {E : XE} {z : XR} (C0 : x_C E p l s m meth c args cX6_parseMinOrMax 1 "GridEngine$TrackText" "parseMinOrMax" (some .boolean)) (hxt : ∀ x ∈ c.exceptionTable.toList, False)  : ∀ (h : HP)  (H : Heap) (locs : List Loc) (ls : Array Slot), x_Rep E h H → va_S (x_A E) s.heap H locs → lv_has ls 1 [] → f_X6_parseMinOrMax_b71 h  = some z → W p l e ({ frames := 15, cells := 0, slots := 0, locals := 281 } : Room) s m args below meth c H locs 0 0 (x_Q E below args s 0 0 z) (F0 m 71 ls []) := by
  intro h  H locs ls hR hS hl hf
  obtain ⟨hx, hb, -⟩ := id C0
  unfold f_X6_parseMinOrMax_b71 at hf
  have h0 : x_by cX6_parseMinOrMax 71 [3] := by unfold x_by; decide +kernel
  obtain ⟨d71, h0⟩ := de_iconst_0 h0
  refine lv_iconst (v := 0) hx hb d71 (by decide) ?_
  exact s_X6_parseMinOrMax_b72 C0 hxt _ _ _ _ _ hR hS (lv_sub hl [] rfl) hf
set_option maxRecDepth 100000 in
set_option maxHeartbeats 4000000 in
theorem s_X6_parseMinOrMax_b73 {p : Program} {l : Launch} {e : Env} {s : State} {m : MethodId} {args : Array Value} {below : List Frame} {meth : Method} {c : Code} {E : XE} {z : XR} (C0 : x_C E p l s m meth c args cX6_parseMinOrMax 1 "GridEngine$TrackText" "parseMinOrMax" (some .boolean)) (hxt : ∀ x ∈ c.exceptionTable.toList, False)  : ∀ (h : HP) (r0 : Nat) (H : Heap) (locs : List Loc) (ls : Array Slot), x_Rep E h H → va_S (x_A E) s.heap H locs → lv_has ls 1 [(0, .ref (xa E r0))] → f_X6_parseMinOrMax_b73 h r0 = some z → W p l e ({ frames := 15, cells := 0, slots := 0, locals := 281 } : Room) s m args below meth c H locs 0 0 (x_Q E below args s 0 0 z) (F0 m 73 ls []) := by
  intro h r0 H locs ls hR hS hl hf
  obtain ⟨hx, hb, -⟩ := id C0
  unfold f_X6_parseMinOrMax_b73 at hf
  have h0 : x_by cX6_parseMinOrMax 73 [42, 42, 180, 0, 25, 3, 182, 0, 126, 42, 42, 180, 0, 25, 3, 182, 0, 129, 4, 172] := by unfold x_by; decide +kernel
  obtain ⟨d73, h0⟩ := de_aload_n0 h0
  obtain ⟨d74, h0⟩ := de_aload_n0 h0
  obtain ⟨d75, h0⟩ := de_getfield 25 (by decide) h0
  obtain ⟨d78, h0⟩ := de_iconst_0 h0
  obtain ⟨d79, h0⟩ := de_invokevirtual 126 (by decide) h0
  obtain ⟨d82, h0⟩ := de_aload_n0 h0
  obtain ⟨d83, h0⟩ := de_aload_n0 h0
  obtain ⟨d84, h0⟩ := de_getfield 25 (by decide) h0
  obtain ⟨d87, h0⟩ := de_iconst_0 h0
  obtain ⟨d88, h0⟩ := de_invokevirtual 129 (by decide) h0
  obtain ⟨d91, h0⟩ := de_iconst_1 h0
  obtain ⟨d92, h0⟩ := de_ireturn h0
  refine lv_aload_n hx hb d73 rfl (lv_at hl 0 rfl) ?_
  refine lv_aload_n hx hb d74 rfl (lv_at hl 0 rfl) ?_
  refine x_getI C0 hR hf xcl_6 (Nat.le_of_ble_eq_true rfl) rfl fl_X6_25 d75 (fun i1 hf => ?_)
  refine lv_iconst (v := 0) hx hb d78 (by decide) ?_
  obtain ⟨hs9, hf⟩ := x_if hf
  refine x_thenV C0 hxt hS hf (fun z0 e0 => x_runV C0 hR hS me_X6_defineMinimum wi_X6_defineMinimum wl_X6_defineMinimum ml_X6_126 hs9 xcl_6 (As := [.int i1, .int 0]) (ct_X6_defineMinimum E l C0.2.2.2.2.2.2.2.1 _ r0 i1 0) rfl rfl hl.1 (Nat.le_of_ble_eq_true rfl) d79 ⟨(Nat.le_of_ble_eq_true rfl), (Nat.le_of_ble_eq_true rfl)⟩ ⟨(Nat.le_of_ble_eq_true rfl), (Nat.le_of_ble_eq_true rfl)⟩ e0) (Nat.le_of_ble_eq_true rfl) (Nat.le_of_ble_eq_true rfl) (fun h9 H locs hR hS hf => ?_)
  refine lv_aload_n hx hb d82 rfl (lv_at hl 0 rfl) ?_
  refine lv_aload_n hx hb d83 rfl (lv_at hl 0 rfl) ?_
  refine x_getI C0 hR hf xcl_6 (Nat.le_of_ble_eq_true rfl) rfl fl_X6_25 d84 (fun i3 hf => ?_)
  refine lv_iconst (v := 0) hx hb d87 (by decide) ?_
  obtain ⟨hs9, hf⟩ := x_if hf
  refine x_thenV C0 hxt hS hf (fun z0 e0 => x_runV C0 hR hS me_X6_defineMaximum wi_X6_defineMaximum wl_X6_defineMaximum ml_X6_129 hs9 xcl_6 (As := [.int i3, .int 0]) (ct_X6_defineMaximum E l C0.2.2.2.2.2.2.2.1 _ r0 i3 0) rfl rfl hl.1 (Nat.le_of_ble_eq_true rfl) d88 ⟨(Nat.le_of_ble_eq_true rfl), (Nat.le_of_ble_eq_true rfl)⟩ ⟨(Nat.le_of_ble_eq_true rfl), (Nat.le_of_ble_eq_true rfl)⟩ e0) (Nat.le_of_ble_eq_true rfl) (Nat.le_of_ble_eq_true rfl) (fun h9 H locs hR hS hf => ?_)
  refine lv_iconst (v := 1) hx hb d91 (by decide) ?_
  exact x_zret C0 hR hS hf (Nat.le_of_ble_eq_true rfl) (Nat.le_of_ble_eq_true rfl) d92
set_option maxRecDepth 100000 in
set_option maxHeartbeats 4000000 in
theorem ct_X6_parseMinOrMax (E : XE) (l : Launch) (hl0 : l.stackTraces = false) (h : HP) (r0 : Nat) : x_ct E l yX6_parseMinOrMax (Cond.code yX6_parseMinOrMax cX6_parseMinOrMax 1 (some .boolean)) 15 281 0 0 [.ref (xa E r0)] h (f_X6_parseMinOrMax h r0) := by
  refine x_ofW hl0 (by decide +kernel) ?_
  intro z hf p e s m args below meth c C0 hxt hargs hR
  subst hargs
  have C0 : x_C E p l s m meth c ([.ref (xa E r0)] : List Value).toArray cX6_parseMinOrMax 1 "GridEngine$TrackText" "parseMinOrMax" (some .boolean) := C0
  obtain ⟨hx, hb, -⟩ := id C0
  have hS : va_S (x_A E) s.heap s.heap [] := va_S.rf
  have hl := lv_entry ([.ref (xa E r0)]) (n := 1) (Nat.le_of_ble_eq_true rfl)
  rw [lg_entry_eq]
  generalize (lg_sl ([.ref (xa E r0)]) ++ List.replicate (1 - (lg_sl ([.ref (xa E r0)])).length) Slot.unset).toArray = ls at hl ⊢
  have hl : lv_has ls 1 [(0, .ref (xa E r0))] := hl
  unfold f_X6_parseMinOrMax at hf
  have h0 : x_by cX6_parseMinOrMax 0 [42, 182, 0, 149, 154, 0, 5] := by unfold x_by; decide +kernel
  obtain ⟨d0, h0⟩ := de_aload_n0 h0
  obtain ⟨d1, h0⟩ := de_invokevirtual 149 (by decide) h0
  obtain ⟨d4, h0⟩ := de_if_ne (5) (by decide) h0
  refine lv_aload_n hx hb d0 rfl (lv_at hl 0 rfl) ?_
  obtain ⟨hs9, hf⟩ := x_if hf
  refine x_thenI C0 hxt hS hf (fun z0 e0 => x_runV C0 hR hS me_X6_takeSmallOrLarge wi_X6_takeSmallOrLarge wl_X6_takeSmallOrLarge ml_X6_149 hs9 xcl_6 (As := []) (ct_X6_takeSmallOrLarge E l C0.2.2.2.2.2.2.2.1 _ r0) rfl rfl hl.1 (Nat.le_of_ble_eq_true rfl) d1 ⟨(Nat.le_of_ble_eq_true rfl), (Nat.le_of_ble_eq_true rfl)⟩ ⟨(Nat.le_of_ble_eq_true rfl), (Nat.le_of_ble_eq_true rfl)⟩ e0) (Nat.le_of_ble_eq_true rfl) (Nat.le_of_ble_eq_true rfl) (fun h9 i1 H locs hR hS hf => ?_)
  refine lv_if_ne (tgt := 9) hx hb d4 (by decide) (fun q => ?_) (fun q => ?_)
  · have hf := x_neg q hf
    have h0 : x_by cX6_parseMinOrMax 9 [42, 180, 0, 25, 4, 160, 0, 59] := by unfold x_by; decide +kernel
    obtain ⟨d9, h0⟩ := de_aload_n0 h0
    obtain ⟨d10, h0⟩ := de_getfield 25 (by decide) h0
    obtain ⟨d13, h0⟩ := de_iconst_1 h0
    obtain ⟨d14, h0⟩ := de_icmp_ne (59) (by decide) h0
    refine lv_aload_n hx hb d9 rfl (lv_at hl 0 rfl) ?_
    refine x_getI C0 hR hf xcl_6 (Nat.le_of_ble_eq_true rfl) rfl fl_X6_25 d10 (fun i3 hf => ?_)
    refine lv_iconst (v := 1) hx hb d13 (by decide) ?_
    refine lv_icmp_ne (tgt := 73) hx hb d14 (by decide) (fun q => ?_) (fun q => ?_)
    · have hf := x_neg q hf
      exact s_X6_parseMinOrMax_b73 C0 hxt _ _ _ _ _ hR hS (lv_sub hl [0] rfl) hf
    · have hf := x_pos q hf
      have h0 : x_by cX6_parseMinOrMax 17 [42, 16, 109, 182, 0, 60, 153, 0, 50] := by unfold x_by; decide +kernel
      obtain ⟨d17, h0⟩ := de_aload_n0 h0
      obtain ⟨d18, h0⟩ := de_bipush (109) (by decide) h0
      obtain ⟨d20, h0⟩ := de_invokevirtual 60 (by decide) h0
      obtain ⟨d23, h0⟩ := de_if_eq (50) (by decide) h0
      refine lv_aload_n hx hb d17 rfl (lv_at hl 0 rfl) ?_
      refine lv_bipush (v := 109) hx hb d18 (by decide) ?_
      obtain ⟨hs9, hf⟩ := x_if hf
      refine x_thenI C0 hxt hS hf (fun z0 e0 => x_runV C0 hR hS me_X6_isNext wi_X6_isNext wl_X6_isNext ml_X6_60 hs9 xcl_6 (As := [.int 109]) (ct_X6_isNext E l C0.2.2.2.2.2.2.2.1 _ r0 109) rfl rfl hl.1 (Nat.le_of_ble_eq_true rfl) d20 ⟨(Nat.le_of_ble_eq_true rfl), (Nat.le_of_ble_eq_true rfl)⟩ ⟨(Nat.le_of_ble_eq_true rfl), (Nat.le_of_ble_eq_true rfl)⟩ e0) (Nat.le_of_ble_eq_true rfl) (Nat.le_of_ble_eq_true rfl) (fun h9 i4 H locs hR hS hf => ?_)
      refine lv_if_eq (tgt := 73) hx hb d23 (by decide) (fun q => ?_) (fun q => ?_)
      · have hf := x_pos q hf
        exact s_X6_parseMinOrMax_b73 C0 hxt _ _ _ _ _ hR hS (lv_sub hl [0] rfl) hf
      · have hf := x_neg q hf
        have h0 : x_by cX6_parseMinOrMax 26 [42, 18, 152, 182, 0, 79, 153, 0, 39] := by unfold x_by; decide +kernel
        obtain ⟨d26, h0⟩ := de_aload_n0 h0
        obtain ⟨d27, h0⟩ := de_ldc h0
        obtain ⟨d29, h0⟩ := de_invokevirtual 79 (by decide) h0
        obtain ⟨d32, h0⟩ := de_if_eq (39) (by decide) h0
        refine lv_aload_n hx hb d26 rfl (lv_at hl 0 rfl) ?_
        refine x_ldcS C0 (i := 8) rfl d27 ?_
        obtain ⟨hs9, hf⟩ := x_if hf
        refine x_thenI C0 hxt hS hf (fun z0 e0 => x_runV C0 hR hS me_X6_takeWord wi_X6_takeWord wl_X6_takeWord ml_X6_79 hs9 xcl_6 (As := [.ref (xa E 1000009)]) (ct_X6_takeWord E l C0.2.2.2.2.2.2.2.1 _ r0 1000009) rfl rfl hl.1 (Nat.le_of_ble_eq_true rfl) d29 ⟨(Nat.le_of_ble_eq_true rfl), (Nat.le_of_ble_eq_true rfl)⟩ ⟨(Nat.le_of_ble_eq_true rfl), (Nat.le_of_ble_eq_true rfl)⟩ e0) (Nat.le_of_ble_eq_true rfl) (Nat.le_of_ble_eq_true rfl) (fun h9 i6 H locs hR hS hf => ?_)
        refine lv_if_eq (tgt := 71) hx hb d32 (by decide) (fun q => ?_) (fun q => ?_)
        · have hf := x_pos q hf
          exact s_X6_parseMinOrMax_b71 C0 hxt _ _ _ _ hR hS (lv_sub hl [] rfl) hf
        · have hf := x_neg q hf
          have h0 : x_by cX6_parseMinOrMax 35 [42, 182, 0, 154, 153, 0, 32] := by unfold x_by; decide +kernel
          obtain ⟨d35, h0⟩ := de_aload_n0 h0
          obtain ⟨d36, h0⟩ := de_invokevirtual 154 (by decide) h0
          obtain ⟨d39, h0⟩ := de_if_eq (32) (by decide) h0
          refine lv_aload_n hx hb d35 rfl (lv_at hl 0 rfl) ?_
          obtain ⟨hs9, hf⟩ := x_if hf
          refine x_thenI C0 hxt hS hf (fun z0 e0 => x_runV C0 hR hS me_X6_parseMinimum wi_X6_parseMinimum wl_X6_parseMinimum ml_X6_154 hs9 xcl_6 (As := []) (ct_X6_parseMinimum E l C0.2.2.2.2.2.2.2.1 _ r0) rfl rfl hl.1 (Nat.le_of_ble_eq_true rfl) d36 ⟨(Nat.le_of_ble_eq_true rfl), (Nat.le_of_ble_eq_true rfl)⟩ ⟨(Nat.le_of_ble_eq_true rfl), (Nat.le_of_ble_eq_true rfl)⟩ e0) (Nat.le_of_ble_eq_true rfl) (Nat.le_of_ble_eq_true rfl) (fun h9 i8 H locs hR hS hf => ?_)
          refine lv_if_eq (tgt := 71) hx hb d39 (by decide) (fun q => ?_) (fun q => ?_)
          · have hf := x_pos q hf
            exact s_X6_parseMinOrMax_b71 C0 hxt _ _ _ _ hR hS (lv_sub hl [] rfl) hf
          · have hf := x_neg q hf
            have h0 : x_by cX6_parseMinOrMax 42 [42, 18, 102, 182, 0, 79, 153, 0, 23] := by unfold x_by; decide +kernel
            obtain ⟨d42, h0⟩ := de_aload_n0 h0
            obtain ⟨d43, h0⟩ := de_ldc h0
            obtain ⟨d45, h0⟩ := de_invokevirtual 79 (by decide) h0
            obtain ⟨d48, h0⟩ := de_if_eq (23) (by decide) h0
            refine lv_aload_n hx hb d42 rfl (lv_at hl 0 rfl) ?_
            refine x_ldcS C0 (i := 3) rfl d43 ?_
            obtain ⟨hs9, hf⟩ := x_if hf
            refine x_thenI C0 hxt hS hf (fun z0 e0 => x_runV C0 hR hS me_X6_takeWord wi_X6_takeWord wl_X6_takeWord ml_X6_79 hs9 xcl_6 (As := [.ref (xa E 1000004)]) (ct_X6_takeWord E l C0.2.2.2.2.2.2.2.1 _ r0 1000004) rfl rfl hl.1 (Nat.le_of_ble_eq_true rfl) d45 ⟨(Nat.le_of_ble_eq_true rfl), (Nat.le_of_ble_eq_true rfl)⟩ ⟨(Nat.le_of_ble_eq_true rfl), (Nat.le_of_ble_eq_true rfl)⟩ e0) (Nat.le_of_ble_eq_true rfl) (Nat.le_of_ble_eq_true rfl) (fun h9 i10 H locs hR hS hf => ?_)
            refine lv_if_eq (tgt := 71) hx hb d48 (by decide) (fun q => ?_) (fun q => ?_)
            · have hf := x_pos q hf
              exact s_X6_parseMinOrMax_b71 C0 hxt _ _ _ _ hR hS (lv_sub hl [] rfl) hf
            · have hf := x_neg q hf
              have h0 : x_by cX6_parseMinOrMax 51 [42, 182, 0, 157, 153, 0, 16] := by unfold x_by; decide +kernel
              obtain ⟨d51, h0⟩ := de_aload_n0 h0
              obtain ⟨d52, h0⟩ := de_invokevirtual 157 (by decide) h0
              obtain ⟨d55, h0⟩ := de_if_eq (16) (by decide) h0
              refine lv_aload_n hx hb d51 rfl (lv_at hl 0 rfl) ?_
              obtain ⟨hs9, hf⟩ := x_if hf
              refine x_thenI C0 hxt hS hf (fun z0 e0 => x_runV C0 hR hS me_X6_parseMaximum wi_X6_parseMaximum wl_X6_parseMaximum ml_X6_157 hs9 xcl_6 (As := []) (ct_X6_parseMaximum E l C0.2.2.2.2.2.2.2.1 _ r0) rfl rfl hl.1 (Nat.le_of_ble_eq_true rfl) d52 ⟨(Nat.le_of_ble_eq_true rfl), (Nat.le_of_ble_eq_true rfl)⟩ ⟨(Nat.le_of_ble_eq_true rfl), (Nat.le_of_ble_eq_true rfl)⟩ e0) (Nat.le_of_ble_eq_true rfl) (Nat.le_of_ble_eq_true rfl) (fun h9 i12 H locs hR hS hf => ?_)
              refine lv_if_eq (tgt := 71) hx hb d55 (by decide) (fun q => ?_) (fun q => ?_)
              · have hf := x_pos q hf
                exact s_X6_parseMinOrMax_b71 C0 hxt _ _ _ _ hR hS (lv_sub hl [] rfl) hf
              · have hf := x_neg q hf
                have h0 : x_by cX6_parseMinOrMax 58 [42, 18, 142, 182, 0, 79, 153, 0, 7] := by unfold x_by; decide +kernel
                obtain ⟨d58, h0⟩ := de_aload_n0 h0
                obtain ⟨d59, h0⟩ := de_ldc h0
                obtain ⟨d61, h0⟩ := de_invokevirtual 79 (by decide) h0
                obtain ⟨d64, h0⟩ := de_if_eq (7) (by decide) h0
                refine lv_aload_n hx hb d58 rfl (lv_at hl 0 rfl) ?_
                refine x_ldcS C0 (i := 6) rfl d59 ?_
                obtain ⟨hs9, hf⟩ := x_if hf
                refine x_thenI C0 hxt hS hf (fun z0 e0 => x_runV C0 hR hS me_X6_takeWord wi_X6_takeWord wl_X6_takeWord ml_X6_79 hs9 xcl_6 (As := [.ref (xa E 1000007)]) (ct_X6_takeWord E l C0.2.2.2.2.2.2.2.1 _ r0 1000007) rfl rfl hl.1 (Nat.le_of_ble_eq_true rfl) d61 ⟨(Nat.le_of_ble_eq_true rfl), (Nat.le_of_ble_eq_true rfl)⟩ ⟨(Nat.le_of_ble_eq_true rfl), (Nat.le_of_ble_eq_true rfl)⟩ e0) (Nat.le_of_ble_eq_true rfl) (Nat.le_of_ble_eq_true rfl) (fun h9 i14 H locs hR hS hf => ?_)
                refine lv_if_eq (tgt := 71) hx hb d64 (by decide) (fun q => ?_) (fun q => ?_)
                · have hf := x_pos q hf
                  exact s_X6_parseMinOrMax_b71 C0 hxt _ _ _ _ hR hS (lv_sub hl [] rfl) hf
                · have hf := x_neg q hf
                  have h0 : x_by cX6_parseMinOrMax 67 [4, 167, 0, 4] := by unfold x_by; decide +kernel
                  obtain ⟨d67, h0⟩ := de_iconst_1 h0
                  obtain ⟨d68, h0⟩ := de_goto (4) (by decide) h0
                  refine lv_iconst (v := 1) hx hb d67 (by decide) ?_
                  refine lv_goto (tgt := 72) hx hb d68 (by decide) ?_
                  exact s_X6_parseMinOrMax_b72 C0 hxt _ _ _ _ _ hR hS (lv_sub hl [] rfl) hf
  · have hf := x_pos q hf
    have h0 : x_by cX6_parseMinOrMax 7 [3, 172] := by unfold x_by; decide +kernel
    obtain ⟨d7, h0⟩ := de_iconst_0 h0
    obtain ⟨d8, h0⟩ := de_ireturn h0
    refine lv_iconst (v := 0) hx hb d7 (by decide) ?_
    exact x_zret C0 hR hS hf (Nat.le_of_ble_eq_true rfl) (Nat.le_of_ble_eq_true rfl) d8
def f_X6_parseNumber (h : HP) (r0 : Nat) : Option XR :=
  x_rc h r0 6 <| x_cI (f_X6_takeNumber h r0) fun h2 i1 =>
  if i1 = 0 then
    (
      x_rZ h2 0
    )
  else
    (
      x_rc h2 r0 6 <| x_cI (f_X6_isNext h2 r0 102) fun h4 i3 =>
      if i3 = 0 then
        (
          x_gI h4 r0 6 3 fun i5 =>
          x_rc h4 r0 6 <| x_cV (f_X6_defineMinimum h4 r0 0 i5) fun h6 =>
          x_gI h6 r0 6 3 fun i7 =>
          x_rc h6 r0 6 <| x_cV (f_X6_defineMaximum h6 r0 0 i7) fun h8 =>
          x_rZ h8 1
        )
      else
        (
          x_rc h4 r0 6 <| x_cV (f_X6_defineMinimum h4 r0 1 0) fun h9 =>
          x_rc h9 r0 6 <| x_cI (f_X6_parseFactor h9 r0) fun h11 i10 =>
          x_rZ h11 i10
        )
    )
set_option maxRecDepth 100000 in
set_option maxHeartbeats 4000000 in
theorem ct_X6_parseNumber (E : XE) (l : Launch) (hl0 : l.stackTraces = false) (h : HP) (r0 : Nat) : x_ct E l yX6_parseNumber (Cond.code yX6_parseNumber cX6_parseNumber 1 (some .boolean)) 14 259 0 0 [.ref (xa E r0)] h (f_X6_parseNumber h r0) := by
  refine x_ofW hl0 (by decide +kernel) ?_
  intro z hf p e s m args below meth c C0 hxt hargs hR
  subst hargs
  have C0 : x_C E p l s m meth c ([.ref (xa E r0)] : List Value).toArray cX6_parseNumber 1 "GridEngine$TrackText" "parseNumber" (some .boolean) := C0
  obtain ⟨hx, hb, -⟩ := id C0
  have hS : va_S (x_A E) s.heap s.heap [] := va_S.rf
  have hl := lv_entry ([.ref (xa E r0)]) (n := 1) (Nat.le_of_ble_eq_true rfl)
  rw [lg_entry_eq]
  generalize (lg_sl ([.ref (xa E r0)]) ++ List.replicate (1 - (lg_sl ([.ref (xa E r0)])).length) Slot.unset).toArray = ls at hl ⊢
  have hl : lv_has ls 1 [(0, .ref (xa E r0))] := hl
  unfold f_X6_parseNumber at hf
  have h0 : x_by cX6_parseNumber 0 [42, 182, 0, 99, 154, 0, 5] := by unfold x_by; decide +kernel
  obtain ⟨d0, h0⟩ := de_aload_n0 h0
  obtain ⟨d1, h0⟩ := de_invokevirtual 99 (by decide) h0
  obtain ⟨d4, h0⟩ := de_if_ne (5) (by decide) h0
  refine lv_aload_n hx hb d0 rfl (lv_at hl 0 rfl) ?_
  obtain ⟨hs9, hf⟩ := x_if hf
  refine x_thenI C0 hxt hS hf (fun z0 e0 => x_runV C0 hR hS me_X6_takeNumber wi_X6_takeNumber wl_X6_takeNumber ml_X6_99 hs9 xcl_6 (As := []) (ct_X6_takeNumber E l C0.2.2.2.2.2.2.2.1 _ r0) rfl rfl hl.1 (Nat.le_of_ble_eq_true rfl) d1 ⟨(Nat.le_of_ble_eq_true rfl), (Nat.le_of_ble_eq_true rfl)⟩ ⟨(Nat.le_of_ble_eq_true rfl), (Nat.le_of_ble_eq_true rfl)⟩ e0) (Nat.le_of_ble_eq_true rfl) (Nat.le_of_ble_eq_true rfl) (fun h9 i1 H locs hR hS hf => ?_)
  refine lv_if_ne (tgt := 9) hx hb d4 (by decide) (fun q => ?_) (fun q => ?_)
  · have hf := x_neg q hf
    have h0 : x_by cX6_parseNumber 9 [42, 16, 102, 182, 0, 60, 153, 0, 14] := by unfold x_by; decide +kernel
    obtain ⟨d9, h0⟩ := de_aload_n0 h0
    obtain ⟨d10, h0⟩ := de_bipush (102) (by decide) h0
    obtain ⟨d12, h0⟩ := de_invokevirtual 60 (by decide) h0
    obtain ⟨d15, h0⟩ := de_if_eq (14) (by decide) h0
    refine lv_aload_n hx hb d9 rfl (lv_at hl 0 rfl) ?_
    refine lv_bipush (v := 102) hx hb d10 (by decide) ?_
    obtain ⟨hs9, hf⟩ := x_if hf
    refine x_thenI C0 hxt hS hf (fun z0 e0 => x_runV C0 hR hS me_X6_isNext wi_X6_isNext wl_X6_isNext ml_X6_60 hs9 xcl_6 (As := [.int 102]) (ct_X6_isNext E l C0.2.2.2.2.2.2.2.1 _ r0 102) rfl rfl hl.1 (Nat.le_of_ble_eq_true rfl) d12 ⟨(Nat.le_of_ble_eq_true rfl), (Nat.le_of_ble_eq_true rfl)⟩ ⟨(Nat.le_of_ble_eq_true rfl), (Nat.le_of_ble_eq_true rfl)⟩ e0) (Nat.le_of_ble_eq_true rfl) (Nat.le_of_ble_eq_true rfl) (fun h9 i3 H locs hR hS hf => ?_)
    refine lv_if_eq (tgt := 29) hx hb d15 (by decide) (fun q => ?_) (fun q => ?_)
    · have hf := x_pos q hf
      have h0 : x_by cX6_parseNumber 29 [42, 3, 42, 180, 0, 22, 182, 0, 126, 42, 3, 42, 180, 0, 22, 182, 0, 129, 4, 172] := by unfold x_by; decide +kernel
      obtain ⟨d29, h0⟩ := de_aload_n0 h0
      obtain ⟨d30, h0⟩ := de_iconst_0 h0
      obtain ⟨d31, h0⟩ := de_aload_n0 h0
      obtain ⟨d32, h0⟩ := de_getfield 22 (by decide) h0
      obtain ⟨d35, h0⟩ := de_invokevirtual 126 (by decide) h0
      obtain ⟨d38, h0⟩ := de_aload_n0 h0
      obtain ⟨d39, h0⟩ := de_iconst_0 h0
      obtain ⟨d40, h0⟩ := de_aload_n0 h0
      obtain ⟨d41, h0⟩ := de_getfield 22 (by decide) h0
      obtain ⟨d44, h0⟩ := de_invokevirtual 129 (by decide) h0
      obtain ⟨d47, h0⟩ := de_iconst_1 h0
      obtain ⟨d48, h0⟩ := de_ireturn h0
      refine lv_aload_n hx hb d29 rfl (lv_at hl 0 rfl) ?_
      refine lv_iconst (v := 0) hx hb d30 (by decide) ?_
      refine lv_aload_n hx hb d31 rfl (lv_at hl 0 rfl) ?_
      refine x_getI C0 hR hf xcl_6 (Nat.le_of_ble_eq_true rfl) rfl fl_X6_22 d32 (fun i5 hf => ?_)
      obtain ⟨hs9, hf⟩ := x_if hf
      refine x_thenV C0 hxt hS hf (fun z0 e0 => x_runV C0 hR hS me_X6_defineMinimum wi_X6_defineMinimum wl_X6_defineMinimum ml_X6_126 hs9 xcl_6 (As := [.int 0, .int i5]) (ct_X6_defineMinimum E l C0.2.2.2.2.2.2.2.1 _ r0 0 i5) rfl rfl hl.1 (Nat.le_of_ble_eq_true rfl) d35 ⟨(Nat.le_of_ble_eq_true rfl), (Nat.le_of_ble_eq_true rfl)⟩ ⟨(Nat.le_of_ble_eq_true rfl), (Nat.le_of_ble_eq_true rfl)⟩ e0) (Nat.le_of_ble_eq_true rfl) (Nat.le_of_ble_eq_true rfl) (fun h9 H locs hR hS hf => ?_)
      refine lv_aload_n hx hb d38 rfl (lv_at hl 0 rfl) ?_
      refine lv_iconst (v := 0) hx hb d39 (by decide) ?_
      refine lv_aload_n hx hb d40 rfl (lv_at hl 0 rfl) ?_
      refine x_getI C0 hR hf xcl_6 (Nat.le_of_ble_eq_true rfl) rfl fl_X6_22 d41 (fun i7 hf => ?_)
      obtain ⟨hs9, hf⟩ := x_if hf
      refine x_thenV C0 hxt hS hf (fun z0 e0 => x_runV C0 hR hS me_X6_defineMaximum wi_X6_defineMaximum wl_X6_defineMaximum ml_X6_129 hs9 xcl_6 (As := [.int 0, .int i7]) (ct_X6_defineMaximum E l C0.2.2.2.2.2.2.2.1 _ r0 0 i7) rfl rfl hl.1 (Nat.le_of_ble_eq_true rfl) d44 ⟨(Nat.le_of_ble_eq_true rfl), (Nat.le_of_ble_eq_true rfl)⟩ ⟨(Nat.le_of_ble_eq_true rfl), (Nat.le_of_ble_eq_true rfl)⟩ e0) (Nat.le_of_ble_eq_true rfl) (Nat.le_of_ble_eq_true rfl) (fun h9 H locs hR hS hf => ?_)
      refine lv_iconst (v := 1) hx hb d47 (by decide) ?_
      exact x_zret C0 hR hS hf (Nat.le_of_ble_eq_true rfl) (Nat.le_of_ble_eq_true rfl) d48
    · have hf := x_neg q hf
      have h0 : x_by cX6_parseNumber 18 [42, 4, 3, 182, 0, 126, 42, 182, 0, 144, 172] := by unfold x_by; decide +kernel
      obtain ⟨d18, h0⟩ := de_aload_n0 h0
      obtain ⟨d19, h0⟩ := de_iconst_1 h0
      obtain ⟨d20, h0⟩ := de_iconst_0 h0
      obtain ⟨d21, h0⟩ := de_invokevirtual 126 (by decide) h0
      obtain ⟨d24, h0⟩ := de_aload_n0 h0
      obtain ⟨d25, h0⟩ := de_invokevirtual 144 (by decide) h0
      obtain ⟨d28, h0⟩ := de_ireturn h0
      refine lv_aload_n hx hb d18 rfl (lv_at hl 0 rfl) ?_
      refine lv_iconst (v := 1) hx hb d19 (by decide) ?_
      refine lv_iconst (v := 0) hx hb d20 (by decide) ?_
      obtain ⟨hs9, hf⟩ := x_if hf
      refine x_thenV C0 hxt hS hf (fun z0 e0 => x_runV C0 hR hS me_X6_defineMinimum wi_X6_defineMinimum wl_X6_defineMinimum ml_X6_126 hs9 xcl_6 (As := [.int 1, .int 0]) (ct_X6_defineMinimum E l C0.2.2.2.2.2.2.2.1 _ r0 1 0) rfl rfl hl.1 (Nat.le_of_ble_eq_true rfl) d21 ⟨(Nat.le_of_ble_eq_true rfl), (Nat.le_of_ble_eq_true rfl)⟩ ⟨(Nat.le_of_ble_eq_true rfl), (Nat.le_of_ble_eq_true rfl)⟩ e0) (Nat.le_of_ble_eq_true rfl) (Nat.le_of_ble_eq_true rfl) (fun h9 H locs hR hS hf => ?_)
      refine lv_aload_n hx hb d24 rfl (lv_at hl 0 rfl) ?_
      obtain ⟨hs9, hf⟩ := x_if hf
      refine x_thenI C0 hxt hS hf (fun z0 e0 => x_runV C0 hR hS me_X6_parseFactor wi_X6_parseFactor wl_X6_parseFactor ml_X6_144 hs9 xcl_6 (As := []) (ct_X6_parseFactor E l C0.2.2.2.2.2.2.2.1 _ r0) rfl rfl hl.1 (Nat.le_of_ble_eq_true rfl) d25 ⟨(Nat.le_of_ble_eq_true rfl), (Nat.le_of_ble_eq_true rfl)⟩ ⟨(Nat.le_of_ble_eq_true rfl), (Nat.le_of_ble_eq_true rfl)⟩ e0) (Nat.le_of_ble_eq_true rfl) (Nat.le_of_ble_eq_true rfl) (fun h9 i10 H locs hR hS hf => ?_)
      exact x_zret C0 hR hS hf (Nat.le_of_ble_eq_true rfl) (Nat.le_of_ble_eq_true rfl) d28
  · have hf := x_pos q hf
    have h0 : x_by cX6_parseNumber 7 [3, 172] := by unfold x_by; decide +kernel
    obtain ⟨d7, h0⟩ := de_iconst_0 h0
    obtain ⟨d8, h0⟩ := de_ireturn h0
    refine lv_iconst (v := 0) hx hb d7 (by decide) ?_
    exact x_zret C0 hR hS hf (Nat.le_of_ble_eq_true rfl) (Nat.le_of_ble_eq_true rfl) d8
def f_X6_parseSimple_b106  (h : HP) (x1 : Int32) : Option XR :=
  x_rZ h x1
def f_X6_parseSimple_b76  (h : HP) (r0 : Nat) (x1 : Int32) : Option XR :=
  if x1 = 0 then
    (
      f_X6_parseSimple_b106 h x1
    )
  else
    (
      x_rc h r0 6 <| x_cI (f_X6_isNext h r0 63) fun h2 i1 =>
      if i1 = 0 then
        (
          f_X6_parseSimple_b106 h2 x1
        )
      else
        (
          x_gI h2 r0 6 2 fun i3 =>
          x_pI h2 r0 6 2 (i3 + 1) fun h4 =>
          x_gR h4 r0 6 8 fun a5 =>
          x_sI h4 a5 4 1 fun h6 =>
          f_X6_parseSimple_b106 h6 x1
        )
    )
def f_X6_parseSimple (h : HP) (r0 : Nat) : Option XR :=
  x_gR h r0 6 8 fun a1 =>
  x_cV (f_J7_fill_53178 h a1 0) fun h2 =>
  x_rc h2 r0 6 <| x_cI (f_X6_isDigitNext h2 r0) fun h4 i3 =>
  if i3 = 0 then
    (
      x_rc h4 r0 6 <| x_cI (f_X6_isNext h4 r0 97) fun h6 i5 =>
      if i5 = 0 then
        (
          x_rc h6 r0 6 <| x_cI (f_X6_isNext h6 r0 102) fun h8 i7 =>
          if i7 = 0 then
            (
              x_rc h8 r0 6 <| x_cI (f_X6_parseMinOrMax h8 r0) fun h10 i9 =>
              f_X6_parseSimple_b76 h10 r0 i9
            )
          else
            (
              x_rc h8 r0 6 <| x_cI (f_X6_parseFitting h8 r0) fun h12 i11 =>
              f_X6_parseSimple_b76 h12 r0 i11
            )
        )
      else
        (
          x_rc h6 r0 6 <| x_cV (f_X6_defineMinimum h6 r0 1 0) fun h13 =>
          x_rc h13 r0 6 <| x_cV (f_X6_defineMaximum h13 r0 3 0) fun h14 =>
          x_rc h14 r0 6 <| x_cI (f_X6_takeWord h14 r0 1000005) fun h16 i15 =>
          f_X6_parseSimple_b76 h16 r0 i15
        )
    )
  else
    (
      x_rc h4 r0 6 <| x_cI (f_X6_parseNumber h4 r0) fun h18 i17 =>
      f_X6_parseSimple_b76 h18 r0 i17
    )
set_option maxRecDepth 100000 in
set_option maxHeartbeats 4000000 in
theorem s_X6_parseSimple_b106 {p : Program} {l : Launch} {e : Env} {s : State} {m : MethodId} {args : Array Value} {below : List Frame} {meth : Method} {c : Code} {E : XE} {z : XR} (C0 : x_C E p l s m meth c args cX6_parseSimple 2 "GridEngine$TrackText" "parseSimple" (some .boolean)) (hxt : ∀ x ∈ c.exceptionTable.toList, False)  : ∀ (h : HP) (x1 : Int32) (H : Heap) (locs : List Loc) (ls : Array Slot), x_Rep E h H → va_S (x_A E) s.heap H locs → lv_has ls 2 [(1, .int x1)] → f_X6_parseSimple_b106 h x1 = some z → W p l e ({ frames := 16, cells := 0, slots := 0, locals := 301 } : Room) s m args below meth c H locs 0 0 (x_Q E below args s 0 0 z) (F0 m 106 ls []) := by
  intro h x1 H locs ls hR hS hl hf
  obtain ⟨hx, hb, -⟩ := id C0
  unfold f_X6_parseSimple_b106 at hf
  have h0 : x_by cX6_parseSimple 106 [27, 172] := by unfold x_by; decide +kernel
  obtain ⟨d106, h0⟩ := de_iload_n1 h0
  obtain ⟨d107, h0⟩ := de_ireturn h0
  refine lv_iload_n hx hb d106 rfl (lv_at hl 0 rfl) ?_
  exact x_zret C0 hR hS hf (Nat.le_of_ble_eq_true rfl) (Nat.le_of_ble_eq_true rfl) d107
set_option maxRecDepth 100000 in
set_option maxHeartbeats 4000000 in
theorem s_X6_parseSimple_b76 {p : Program} {l : Launch} {e : Env} {s : State} {m : MethodId} {args : Array Value} {below : List Frame} {meth : Method} {c : Code} {E : XE} {z : XR} (C0 : x_C E p l s m meth c args cX6_parseSimple 2 "GridEngine$TrackText" "parseSimple" (some .boolean)) (hxt : ∀ x ∈ c.exceptionTable.toList, False)  : ∀ (h : HP) (r0 : Nat) (x1 : Int32) (H : Heap) (locs : List Loc) (ls : Array Slot), x_Rep E h H → va_S (x_A E) s.heap H locs → lv_has ls 2 [(0, .ref (xa E r0)), (1, .int x1)] → f_X6_parseSimple_b76 h r0 x1 = some z → W p l e ({ frames := 16, cells := 0, slots := 0, locals := 301 } : Room) s m args below meth c H locs 0 0 (x_Q E below args s 0 0 z) (F0 m 76 ls []) := by
  intro h r0 x1 H locs ls hR hS hl hf
  obtain ⟨hx, hb, -⟩ := id C0
  unfold f_X6_parseSimple_b76 at hf
  have h0 : x_by cX6_parseSimple 76 [27, 153, 0, 29] := by unfold x_by; decide +kernel
  obtain ⟨d76, h0⟩ := de_iload_n1 h0
  obtain ⟨d77, h0⟩ := de_if_eq (29) (by decide) h0
  refine lv_iload_n hx hb d76 rfl (lv_at hl 1 rfl) ?_
  refine lv_if_eq (tgt := 106) hx hb d77 (by decide) (fun q => ?_) (fun q => ?_)
  · have hf := x_pos q hf
    exact s_X6_parseSimple_b106 C0 hxt _ _ _ _ _ hR hS (lv_sub hl [1] rfl) hf
  · have hf := x_neg q hf
    have h0 : x_by cX6_parseSimple 80 [42, 16, 63, 182, 0, 60, 153, 0, 20] := by unfold x_by; decide +kernel
    obtain ⟨d80, h0⟩ := de_aload_n0 h0
    obtain ⟨d81, h0⟩ := de_bipush (63) (by decide) h0
    obtain ⟨d83, h0⟩ := de_invokevirtual 60 (by decide) h0
    obtain ⟨d86, h0⟩ := de_if_eq (20) (by decide) h0
    refine lv_aload_n hx hb d80 rfl (lv_at hl 0 rfl) ?_
    refine lv_bipush (v := 63) hx hb d81 (by decide) ?_
    obtain ⟨hs9, hf⟩ := x_if hf
    refine x_thenI C0 hxt hS hf (fun z0 e0 => x_runV C0 hR hS me_X6_isNext wi_X6_isNext wl_X6_isNext ml_X6_60 hs9 xcl_6 (As := [.int 63]) (ct_X6_isNext E l C0.2.2.2.2.2.2.2.1 _ r0 63) rfl rfl hl.1 (Nat.le_of_ble_eq_true rfl) d83 ⟨(Nat.le_of_ble_eq_true rfl), (Nat.le_of_ble_eq_true rfl)⟩ ⟨(Nat.le_of_ble_eq_true rfl), (Nat.le_of_ble_eq_true rfl)⟩ e0) (Nat.le_of_ble_eq_true rfl) (Nat.le_of_ble_eq_true rfl) (fun h9 i1 H locs hR hS hf => ?_)
    refine lv_if_eq (tgt := 106) hx hb d86 (by decide) (fun q => ?_) (fun q => ?_)
    · have hf := x_pos q hf
      exact s_X6_parseSimple_b106 C0 hxt _ _ _ _ _ hR hS (lv_sub hl [1] rfl) hf
    · have hf := x_neg q hf
      have h0 : x_by cX6_parseSimple 89 [42, 89, 180, 0, 19, 4, 96, 181, 0, 19, 42, 180, 0, 39, 7, 4, 79] := by unfold x_by; decide +kernel
      obtain ⟨d89, h0⟩ := de_aload_n0 h0
      obtain ⟨d90, h0⟩ := de_dup h0
      obtain ⟨d91, h0⟩ := de_getfield 19 (by decide) h0
      obtain ⟨d94, h0⟩ := de_iconst_1 h0
      obtain ⟨d95, h0⟩ := de_iadd h0
      obtain ⟨d96, h0⟩ := de_putfield 19 (by decide) h0
      obtain ⟨d99, h0⟩ := de_aload_n0 h0
      obtain ⟨d100, h0⟩ := de_getfield 39 (by decide) h0
      obtain ⟨d103, h0⟩ := de_iconst_4 h0
      obtain ⟨d104, h0⟩ := de_iconst_1 h0
      obtain ⟨d105, h0⟩ := de_iastore h0
      refine lv_aload_n hx hb d89 rfl (lv_at hl 0 rfl) ?_
      refine lv_dup hx hb d90 rfl ?_
      refine x_getI C0 hR hf xcl_6 (Nat.le_of_ble_eq_true rfl) rfl fl_X6_19 d91 (fun i3 hf => ?_)
      refine lv_iconst (v := 1) hx hb d94 (by decide) ?_
      refine lv_iadd hx hb d95 ?_
      refine x_putI C0 hR hS hf xcl_6 (Nat.le_of_ble_eq_true rfl) rfl fl_X6_19 (Or.inl rfl) d96 (fun H locs hR hS hf => ?_)
      refine lv_aload_n hx hb d99 rfl (lv_at hl 0 rfl) ?_
      refine x_getR C0 hR hf xcl_6 (Nat.le_of_ble_eq_true rfl) rfl fl_X6_39 d100 (fun a5 hf => ?_)
      refine lv_iconst (v := 4) hx hb d103 (by decide) ?_
      refine lv_iconst (v := 1) hx hb d104 (by decide) ?_
      refine x_iast C0 hR hS hf d105 (fun H locs hR hS hf => ?_)
      exact s_X6_parseSimple_b106 C0 hxt _ _ _ _ _ hR hS (lv_sub hl [1] rfl) hf
set_option maxRecDepth 100000 in
set_option maxHeartbeats 4000000 in
theorem ct_X6_parseSimple (E : XE) (l : Launch) (hl0 : l.stackTraces = false) (h : HP) (r0 : Nat) : x_ct E l yX6_parseSimple (Cond.code yX6_parseSimple cX6_parseSimple 2 (some .boolean)) 16 301 0 0 [.ref (xa E r0)] h (f_X6_parseSimple h r0) := by
  refine x_ofW hl0 (by decide +kernel) ?_
  intro z hf p e s m args below meth c C0 hxt hargs hR
  subst hargs
  have C0 : x_C E p l s m meth c ([.ref (xa E r0)] : List Value).toArray cX6_parseSimple 2 "GridEngine$TrackText" "parseSimple" (some .boolean) := C0
  obtain ⟨hx, hb, -⟩ := id C0
  have hS : va_S (x_A E) s.heap s.heap [] := va_S.rf
  have hl := lv_entry ([.ref (xa E r0)]) (n := 2) (Nat.le_of_ble_eq_true rfl)
  rw [lg_entry_eq]
  generalize (lg_sl ([.ref (xa E r0)]) ++ List.replicate (2 - (lg_sl ([.ref (xa E r0)])).length) Slot.unset).toArray = ls at hl ⊢
  have hl : lv_has ls 2 [(0, .ref (xa E r0))] := hl
  unfold f_X6_parseSimple at hf
  have h0 : x_by cX6_parseSimple 0 [42, 180, 0, 39, 3, 184, 0, 117, 42, 182, 0, 92, 153, 0, 11] := by unfold x_by; decide +kernel
  obtain ⟨d0, h0⟩ := de_aload_n0 h0
  obtain ⟨d1, h0⟩ := de_getfield 39 (by decide) h0
  obtain ⟨d4, h0⟩ := de_iconst_0 h0
  obtain ⟨d5, h0⟩ := de_invokestatic 117 (by decide) h0
  obtain ⟨d8, h0⟩ := de_aload_n0 h0
  obtain ⟨d9, h0⟩ := de_invokevirtual 92 (by decide) h0
  obtain ⟨d12, h0⟩ := de_if_eq (11) (by decide) h0
  refine lv_aload_n hx hb d0 rfl (lv_at hl 0 rfl) ?_
  refine x_getR C0 hR hf xcl_6 (Nat.le_of_ble_eq_true rfl) rfl fl_X6_39 d1 (fun a1 hf => ?_)
  refine lv_iconst (v := 0) hx hb d4 (by decide) ?_
  refine x_thenV C0 hxt hS hf (fun z0 e0 => x_runS C0 hR hS me_J7_fill_53178 wt_J7_fill_53178 ml_X6_117 (As := [.ref (xa E a1), .int 0]) (ct_J7_fill_53178 E l C0.2.2.2.2.2.2.2.1 _ a1 0) rfl rfl hl.1 (Nat.le_of_ble_eq_true rfl) d5 ⟨(Nat.le_of_ble_eq_true rfl), (Nat.le_of_ble_eq_true rfl)⟩ ⟨(Nat.le_of_ble_eq_true rfl), (Nat.le_of_ble_eq_true rfl)⟩ e0) (Nat.le_of_ble_eq_true rfl) (Nat.le_of_ble_eq_true rfl) (fun h9 H locs hR hS hf => ?_)
  refine lv_aload_n hx hb d8 rfl (lv_at hl 0 rfl) ?_
  obtain ⟨hs9, hf⟩ := x_if hf
  refine x_thenI C0 hxt hS hf (fun z0 e0 => x_runV C0 hR hS me_X6_isDigitNext wi_X6_isDigitNext wl_X6_isDigitNext ml_X6_92 hs9 xcl_6 (As := []) (ct_X6_isDigitNext E l C0.2.2.2.2.2.2.2.1 _ r0) rfl rfl hl.1 (Nat.le_of_ble_eq_true rfl) d9 ⟨(Nat.le_of_ble_eq_true rfl), (Nat.le_of_ble_eq_true rfl)⟩ ⟨(Nat.le_of_ble_eq_true rfl), (Nat.le_of_ble_eq_true rfl)⟩ e0) (Nat.le_of_ble_eq_true rfl) (Nat.le_of_ble_eq_true rfl) (fun h9 i3 H locs hR hS hf => ?_)
  refine lv_if_eq (tgt := 23) hx hb d12 (by decide) (fun q => ?_) (fun q => ?_)
  · have hf := x_pos q hf
    have h0 : x_by cX6_parseSimple 23 [42, 16, 97, 182, 0, 60, 153, 0, 25] := by unfold x_by; decide +kernel
    obtain ⟨d23, h0⟩ := de_aload_n0 h0
    obtain ⟨d24, h0⟩ := de_bipush (97) (by decide) h0
    obtain ⟨d26, h0⟩ := de_invokevirtual 60 (by decide) h0
    obtain ⟨d29, h0⟩ := de_if_eq (25) (by decide) h0
    refine lv_aload_n hx hb d23 rfl (lv_at hl 0 rfl) ?_
    refine lv_bipush (v := 97) hx hb d24 (by decide) ?_
    obtain ⟨hs9, hf⟩ := x_if hf
    refine x_thenI C0 hxt hS hf (fun z0 e0 => x_runV C0 hR hS me_X6_isNext wi_X6_isNext wl_X6_isNext ml_X6_60 hs9 xcl_6 (As := [.int 97]) (ct_X6_isNext E l C0.2.2.2.2.2.2.2.1 _ r0 97) rfl rfl hl.1 (Nat.le_of_ble_eq_true rfl) d26 ⟨(Nat.le_of_ble_eq_true rfl), (Nat.le_of_ble_eq_true rfl)⟩ ⟨(Nat.le_of_ble_eq_true rfl), (Nat.le_of_ble_eq_true rfl)⟩ e0) (Nat.le_of_ble_eq_true rfl) (Nat.le_of_ble_eq_true rfl) (fun h9 i5 H locs hR hS hf => ?_)
    refine lv_if_eq (tgt := 54) hx hb d29 (by decide) (fun q => ?_) (fun q => ?_)
    · have hf := x_pos q hf
      have h0 : x_by cX6_parseSimple 54 [42, 16, 102, 182, 0, 60, 153, 0, 11] := by unfold x_by; decide +kernel
      obtain ⟨d54, h0⟩ := de_aload_n0 h0
      obtain ⟨d55, h0⟩ := de_bipush (102) (by decide) h0
      obtain ⟨d57, h0⟩ := de_invokevirtual 60 (by decide) h0
      obtain ⟨d60, h0⟩ := de_if_eq (11) (by decide) h0
      refine lv_aload_n hx hb d54 rfl (lv_at hl 0 rfl) ?_
      refine lv_bipush (v := 102) hx hb d55 (by decide) ?_
      obtain ⟨hs9, hf⟩ := x_if hf
      refine x_thenI C0 hxt hS hf (fun z0 e0 => x_runV C0 hR hS me_X6_isNext wi_X6_isNext wl_X6_isNext ml_X6_60 hs9 xcl_6 (As := [.int 102]) (ct_X6_isNext E l C0.2.2.2.2.2.2.2.1 _ r0 102) rfl rfl hl.1 (Nat.le_of_ble_eq_true rfl) d57 ⟨(Nat.le_of_ble_eq_true rfl), (Nat.le_of_ble_eq_true rfl)⟩ ⟨(Nat.le_of_ble_eq_true rfl), (Nat.le_of_ble_eq_true rfl)⟩ e0) (Nat.le_of_ble_eq_true rfl) (Nat.le_of_ble_eq_true rfl) (fun h9 i7 H locs hR hS hf => ?_)
      refine lv_if_eq (tgt := 71) hx hb d60 (by decide) (fun q => ?_) (fun q => ?_)
      · have hf := x_pos q hf
        have h0 : x_by cX6_parseSimple 71 [42, 182, 0, 137, 60] := by unfold x_by; decide +kernel
        obtain ⟨d71, h0⟩ := de_aload_n0 h0
        obtain ⟨d72, h0⟩ := de_invokevirtual 137 (by decide) h0
        obtain ⟨d75, h0⟩ := de_istore_n1 h0
        refine lv_aload_n hx hb d71 rfl (lv_at hl 0 rfl) ?_
        obtain ⟨hs9, hf⟩ := x_if hf
        refine x_thenI C0 hxt hS hf (fun z0 e0 => x_runV C0 hR hS me_X6_parseMinOrMax wi_X6_parseMinOrMax wl_X6_parseMinOrMax ml_X6_137 hs9 xcl_6 (As := []) (ct_X6_parseMinOrMax E l C0.2.2.2.2.2.2.2.1 _ r0) rfl rfl hl.1 (Nat.le_of_ble_eq_true rfl) d72 ⟨(Nat.le_of_ble_eq_true rfl), (Nat.le_of_ble_eq_true rfl)⟩ ⟨(Nat.le_of_ble_eq_true rfl), (Nat.le_of_ble_eq_true rfl)⟩ e0) (Nat.le_of_ble_eq_true rfl) (Nat.le_of_ble_eq_true rfl) (fun h9 i9 H locs hR hS hf => ?_)
        refine lv_istore_n (lv' := [(1, .int i9), (0, .ref (xa E r0))]) hx hb d75 rfl hl (by decide) rfl (fun ls hl => ?_)
        exact s_X6_parseSimple_b76 C0 hxt _ _ _ _ _ _ hR hS (lv_sub hl [1, 0] rfl) hf
      · have hf := x_neg q hf
        have h0 : x_by cX6_parseSimple 63 [42, 182, 0, 134, 60, 167, 0, 8] := by unfold x_by; decide +kernel
        obtain ⟨d63, h0⟩ := de_aload_n0 h0
        obtain ⟨d64, h0⟩ := de_invokevirtual 134 (by decide) h0
        obtain ⟨d67, h0⟩ := de_istore_n1 h0
        obtain ⟨d68, h0⟩ := de_goto (8) (by decide) h0
        refine lv_aload_n hx hb d63 rfl (lv_at hl 0 rfl) ?_
        obtain ⟨hs9, hf⟩ := x_if hf
        refine x_thenI C0 hxt hS hf (fun z0 e0 => x_runV C0 hR hS me_X6_parseFitting wi_X6_parseFitting wl_X6_parseFitting ml_X6_134 hs9 xcl_6 (As := []) (ct_X6_parseFitting E l C0.2.2.2.2.2.2.2.1 _ r0) rfl rfl hl.1 (Nat.le_of_ble_eq_true rfl) d64 ⟨(Nat.le_of_ble_eq_true rfl), (Nat.le_of_ble_eq_true rfl)⟩ ⟨(Nat.le_of_ble_eq_true rfl), (Nat.le_of_ble_eq_true rfl)⟩ e0) (Nat.le_of_ble_eq_true rfl) (Nat.le_of_ble_eq_true rfl) (fun h9 i11 H locs hR hS hf => ?_)
        refine lv_istore_n (lv' := [(1, .int i11), (0, .ref (xa E r0))]) hx hb d67 rfl hl (by decide) rfl (fun ls hl => ?_)
        refine lv_goto (tgt := 76) hx hb d68 (by decide) ?_
        exact s_X6_parseSimple_b76 C0 hxt _ _ _ _ _ _ hR hS (lv_sub hl [1, 0] rfl) hf
    · have hf := x_neg q hf
      have h0 : x_by cX6_parseSimple 32 [42, 4, 3, 182, 0, 126, 42, 6, 3, 182, 0, 129, 42, 18, 132, 182, 0, 79, 60, 167, 0, 25] := by unfold x_by; decide +kernel
      obtain ⟨d32, h0⟩ := de_aload_n0 h0
      obtain ⟨d33, h0⟩ := de_iconst_1 h0
      obtain ⟨d34, h0⟩ := de_iconst_0 h0
      obtain ⟨d35, h0⟩ := de_invokevirtual 126 (by decide) h0
      obtain ⟨d38, h0⟩ := de_aload_n0 h0
      obtain ⟨d39, h0⟩ := de_iconst_3 h0
      obtain ⟨d40, h0⟩ := de_iconst_0 h0
      obtain ⟨d41, h0⟩ := de_invokevirtual 129 (by decide) h0
      obtain ⟨d44, h0⟩ := de_aload_n0 h0
      obtain ⟨d45, h0⟩ := de_ldc h0
      obtain ⟨d47, h0⟩ := de_invokevirtual 79 (by decide) h0
      obtain ⟨d50, h0⟩ := de_istore_n1 h0
      obtain ⟨d51, h0⟩ := de_goto (25) (by decide) h0
      refine lv_aload_n hx hb d32 rfl (lv_at hl 0 rfl) ?_
      refine lv_iconst (v := 1) hx hb d33 (by decide) ?_
      refine lv_iconst (v := 0) hx hb d34 (by decide) ?_
      obtain ⟨hs9, hf⟩ := x_if hf
      refine x_thenV C0 hxt hS hf (fun z0 e0 => x_runV C0 hR hS me_X6_defineMinimum wi_X6_defineMinimum wl_X6_defineMinimum ml_X6_126 hs9 xcl_6 (As := [.int 1, .int 0]) (ct_X6_defineMinimum E l C0.2.2.2.2.2.2.2.1 _ r0 1 0) rfl rfl hl.1 (Nat.le_of_ble_eq_true rfl) d35 ⟨(Nat.le_of_ble_eq_true rfl), (Nat.le_of_ble_eq_true rfl)⟩ ⟨(Nat.le_of_ble_eq_true rfl), (Nat.le_of_ble_eq_true rfl)⟩ e0) (Nat.le_of_ble_eq_true rfl) (Nat.le_of_ble_eq_true rfl) (fun h9 H locs hR hS hf => ?_)
      refine lv_aload_n hx hb d38 rfl (lv_at hl 0 rfl) ?_
      refine lv_iconst (v := 3) hx hb d39 (by decide) ?_
      refine lv_iconst (v := 0) hx hb d40 (by decide) ?_
      obtain ⟨hs9, hf⟩ := x_if hf
      refine x_thenV C0 hxt hS hf (fun z0 e0 => x_runV C0 hR hS me_X6_defineMaximum wi_X6_defineMaximum wl_X6_defineMaximum ml_X6_129 hs9 xcl_6 (As := [.int 3, .int 0]) (ct_X6_defineMaximum E l C0.2.2.2.2.2.2.2.1 _ r0 3 0) rfl rfl hl.1 (Nat.le_of_ble_eq_true rfl) d41 ⟨(Nat.le_of_ble_eq_true rfl), (Nat.le_of_ble_eq_true rfl)⟩ ⟨(Nat.le_of_ble_eq_true rfl), (Nat.le_of_ble_eq_true rfl)⟩ e0) (Nat.le_of_ble_eq_true rfl) (Nat.le_of_ble_eq_true rfl) (fun h9 H locs hR hS hf => ?_)
      refine lv_aload_n hx hb d44 rfl (lv_at hl 0 rfl) ?_
      refine x_ldcS C0 (i := 4) rfl d45 ?_
      obtain ⟨hs9, hf⟩ := x_if hf
      refine x_thenI C0 hxt hS hf (fun z0 e0 => x_runV C0 hR hS me_X6_takeWord wi_X6_takeWord wl_X6_takeWord ml_X6_79 hs9 xcl_6 (As := [.ref (xa E 1000005)]) (ct_X6_takeWord E l C0.2.2.2.2.2.2.2.1 _ r0 1000005) rfl rfl hl.1 (Nat.le_of_ble_eq_true rfl) d47 ⟨(Nat.le_of_ble_eq_true rfl), (Nat.le_of_ble_eq_true rfl)⟩ ⟨(Nat.le_of_ble_eq_true rfl), (Nat.le_of_ble_eq_true rfl)⟩ e0) (Nat.le_of_ble_eq_true rfl) (Nat.le_of_ble_eq_true rfl) (fun h9 i15 H locs hR hS hf => ?_)
      refine lv_istore_n (lv' := [(1, .int i15), (0, .ref (xa E r0))]) hx hb d50 rfl hl (by decide) rfl (fun ls hl => ?_)
      refine lv_goto (tgt := 76) hx hb d51 (by decide) ?_
      exact s_X6_parseSimple_b76 C0 hxt _ _ _ _ _ _ hR hS (lv_sub hl [1, 0] rfl) hf
  · have hf := x_neg q hf
    have h0 : x_by cX6_parseSimple 15 [42, 182, 0, 123, 60, 167, 0, 56] := by unfold x_by; decide +kernel
    obtain ⟨d15, h0⟩ := de_aload_n0 h0
    obtain ⟨d16, h0⟩ := de_invokevirtual 123 (by decide) h0
    obtain ⟨d19, h0⟩ := de_istore_n1 h0
    obtain ⟨d20, h0⟩ := de_goto (56) (by decide) h0
    refine lv_aload_n hx hb d15 rfl (lv_at hl 0 rfl) ?_
    obtain ⟨hs9, hf⟩ := x_if hf
    refine x_thenI C0 hxt hS hf (fun z0 e0 => x_runV C0 hR hS me_X6_parseNumber wi_X6_parseNumber wl_X6_parseNumber ml_X6_123 hs9 xcl_6 (As := []) (ct_X6_parseNumber E l C0.2.2.2.2.2.2.2.1 _ r0) rfl rfl hl.1 (Nat.le_of_ble_eq_true rfl) d16 ⟨(Nat.le_of_ble_eq_true rfl), (Nat.le_of_ble_eq_true rfl)⟩ ⟨(Nat.le_of_ble_eq_true rfl), (Nat.le_of_ble_eq_true rfl)⟩ e0) (Nat.le_of_ble_eq_true rfl) (Nat.le_of_ble_eq_true rfl) (fun h9 i17 H locs hR hS hf => ?_)
    refine lv_istore_n (lv' := [(1, .int i17), (0, .ref (xa E r0))]) hx hb d19 rfl hl (by decide) rfl (fun ls hl => ?_)
    refine lv_goto (tgt := 76) hx hb d20 (by decide) ?_
    exact s_X6_parseSimple_b76 C0 hxt _ _ _ _ _ _ hR hS (lv_sub hl [1, 0] rfl) hf
def f_X6_parse_b116  (h : HP) (t0 : Int32) : Option XR :=
  x_rZ h t0
def f_X6_parse_b128 (k50 : HP → Nat → Int32 → Option XR) (h : HP) (r0 : Nat) (x3 : Int32) : Option XR :=
  k50 h r0 (x3 + 1)
def f_X6_parse_b50 (k50 : HP → Nat → Int32 → Option XR) (h : HP) (r0 : Nat) (x3 : Int32) : Option XR :=
  x_gI h r0 6 1 fun i1 =>
  if i1 < x3 then
    (
      x_rZ h 0
    )
  else
    (
      x_rc h r0 6 <| x_cI (f_X6_isNext h r0 114) fun h3 i2 =>
      if i2 = 0 then
        (
          x_rc h3 r0 6 <| x_cI (f_X6_parseSimple h3 r0) fun h5 i4 =>
          if i4 = 0 then
            (
              x_rZ h5 0
            )
          else
            (
              x_rc h5 r0 6 <| x_cV (f_X6_addTrack h5 r0) fun h6 =>
              x_rc h6 r0 6 <| x_cV (f_X6_closeRepeats h6 r0) fun h7 =>
              x_gI h7 r0 6 2 fun i8 =>
              x_gI h7 r0 6 1 fun i9 =>
              if i8 < i9 then
                (
                  x_rc h7 r0 6 <| x_cI (f_X6_takeWord h7 r0 1000001) fun h11 i10 =>
                  if i10 = 0 then
                    (
                      x_rZ h11 0
                    )
                  else
                    (
                      f_X6_parse_b128 k50 h11 r0 x3
                    )
                )
              else
                (
                  x_gI h7 r0 6 9 fun i12 =>
                  if i12 = 0 then
                    (
                      f_X6_parse_b116 h7 1
                    )
                  else
                    (
                      f_X6_parse_b116 h7 0
                    )
                )
            )
        )
      else
        (
          x_rc h3 r0 6 <| x_cI (f_X6_openRepeat h3 r0) fun h14 i13 =>
          if i13 = 0 then
            (
              x_rZ h14 0
            )
          else
            (
              f_X6_parse_b128 k50 h14 r0 x3
            )
        )
    )
def f_X6_parse_L50  : Nat → HP → Nat → Int32 → Option XR
  | 0 => fun _ _ _ => none
  | n + 1 => f_X6_parse_b50 (f_X6_parse_L50 n)
def f_X6_parse (h : HP) (r0 : Nat) (r1 : Nat) (x2 : Int32) : Option XR :=
  x_pR h r0 6 0 r1 fun h1 =>
  x_ln h1 r1 fun i2 =>
  x_pI h1 r0 6 1 (if 0 < (if i2 < x2 then i2 else x2) then (if i2 < x2 then i2 else x2) else 0) fun h3 =>
  x_pI h3 r0 6 2 0 fun h4 =>
  x_pZ h4 r0 6 5 0 fun h5 =>
  x_pI h5 r0 6 6 0 fun h6 =>
  x_pI h6 r0 6 9 0 fun h7 =>
  x_gI h7 r0 6 1 fun i8 =>
  if i8 = 0 then
    (
      x_rZ h7 1
    )
  else
    (
      f_X6_parse_L50 FU h7 r0 0
    )
set_option maxRecDepth 100000 in
set_option maxHeartbeats 4000000 in
theorem s_X6_parse_b116 {p : Program} {l : Launch} {e : Env} {s : State} {m : MethodId} {args : Array Value} {below : List Frame} {meth : Method} {c : Code} {E : XE} {z : XR} (C0 : x_C E p l s m meth c args cX6_parse 4 "GridEngine$TrackText" "parse" (some .boolean)) (hxt : ∀ x ∈ c.exceptionTable.toList, False)  : ∀ (h : HP) (t0 : Int32) (H : Heap) (locs : List Loc) (ls : Array Slot), x_Rep E h H → va_S (x_A E) s.heap H locs → lv_has ls 4 [] → f_X6_parse_b116 h t0 = some z → W p l e ({ frames := 17, cells := 0, slots := 0, locals := 322 } : Room) s m args below meth c H locs 0 0 (x_Q E below args s 0 0 z) (F0 m 116 ls [.int t0]) := by
  intro h t0 H locs ls hR hS hl hf
  obtain ⟨hx, hb, -⟩ := id C0
  unfold f_X6_parse_b116 at hf
  have h0 : x_by cX6_parse 116 [172] := by unfold x_by; decide +kernel
  obtain ⟨d116, h0⟩ := de_ireturn h0
  exact x_zret C0 hR hS hf (Nat.le_of_ble_eq_true rfl) (Nat.le_of_ble_eq_true rfl) d116
set_option maxRecDepth 100000 in
set_option maxHeartbeats 4000000 in
theorem s_X6_parse_b128 {p : Program} {l : Launch} {e : Env} {s : State} {m : MethodId} {args : Array Value} {below : List Frame} {meth : Method} {c : Code} {E : XE} {z : XR} (C0 : x_C E p l s m meth c args cX6_parse 4 "GridEngine$TrackText" "parse" (some .boolean)) (hxt : ∀ x ∈ c.exceptionTable.toList, False) {k50 : HP → Nat → Int32 → Option XR} (hk50 : ∀ (h : HP) (r0 : Nat) (x3 : Int32) (H : Heap) (locs : List Loc) (ls : Array Slot), x_Rep E h H → va_S (x_A E) s.heap H locs → lv_has ls 4 [(0, .ref (xa E r0)), (3, .int x3)] → k50 h r0 x3 = some z → W p l e ({ frames := 17, cells := 0, slots := 0, locals := 322 } : Room) s m args below meth c H locs 0 0 (x_Q E below args s 0 0 z) (F0 m 50 ls [])) : ∀ (h : HP) (r0 : Nat) (x3 : Int32) (H : Heap) (locs : List Loc) (ls : Array Slot), x_Rep E h H → va_S (x_A E) s.heap H locs → lv_has ls 4 [(0, .ref (xa E r0)), (3, .int x3)] → f_X6_parse_b128 k50 h r0 x3 = some z → W p l e ({ frames := 17, cells := 0, slots := 0, locals := 322 } : Room) s m args below meth c H locs 0 0 (x_Q E below args s 0 0 z) (F0 m 128 ls []) := by
  intro h r0 x3 H locs ls hR hS hl hf
  obtain ⟨hx, hb, -⟩ := id C0
  unfold f_X6_parse_b128 at hf
  have h0 : x_by cX6_parse 128 [132, 3, 1, 167, 255, 175] := by unfold x_by; decide +kernel
  obtain ⟨d128, h0⟩ := de_iinc (1) (by decide) h0
  obtain ⟨d131, h0⟩ := de_goto (-81) (by decide) h0
  refine lv_iinc (v := (x3 + 1)) (lv' := [(3, .int (x3 + 1)), (0, .ref (xa E r0))]) hx hb d128 hl (k := 1) rfl rfl (by decide) rfl (fun ls hl => ?_)
  refine lv_goto (tgt := 50) hx hb d131 (by decide) ?_
  exact hk50 _ _ _ _ _ _ hR hS (lv_sub hl [1, 0] rfl) hf
set_option maxRecDepth 100000 in
set_option maxHeartbeats 4000000 in
theorem s_X6_parse_b50 {p : Program} {l : Launch} {e : Env} {s : State} {m : MethodId} {args : Array Value} {below : List Frame} {meth : Method} {c : Code} {E : XE} {z : XR} (C0 : x_C E p l s m meth c args cX6_parse 4 "GridEngine$TrackText" "parse" (some .boolean)) (hxt : ∀ x ∈ c.exceptionTable.toList, False) {k50 : HP → Nat → Int32 → Option XR} (hk50 : ∀ (h : HP) (r0 : Nat) (x3 : Int32) (H : Heap) (locs : List Loc) (ls : Array Slot), x_Rep E h H → va_S (x_A E) s.heap H locs → lv_has ls 4 [(0, .ref (xa E r0)), (3, .int x3)] → k50 h r0 x3 = some z → W p l e ({ frames := 17, cells := 0, slots := 0, locals := 322 } : Room) s m args below meth c H locs 0 0 (x_Q E below args s 0 0 z) (F0 m 50 ls [])) : ∀ (h : HP) (r0 : Nat) (x3 : Int32) (H : Heap) (locs : List Loc) (ls : Array Slot), x_Rep E h H → va_S (x_A E) s.heap H locs → lv_has ls 4 [(0, .ref (xa E r0)), (3, .int x3)] → f_X6_parse_b50 k50 h r0 x3 = some z → W p l e ({ frames := 17, cells := 0, slots := 0, locals := 322 } : Room) s m args below meth c H locs 0 0 (x_Q E below args s 0 0 z) (F0 m 50 ls []) := by
  intro h r0 x3 H locs ls hR hS hl hf
  obtain ⟨hx, hb, -⟩ := id C0
  unfold f_X6_parse_b50 at hf
  have h0 : x_by cX6_parse 50 [29, 42, 180, 0, 15, 163, 0, 79] := by unfold x_by; decide +kernel
  obtain ⟨d50, h0⟩ := de_iload_n3 h0
  obtain ⟨d51, h0⟩ := de_aload_n0 h0
  obtain ⟨d52, h0⟩ := de_getfield 15 (by decide) h0
  obtain ⟨d55, h0⟩ := de_icmp_gt (79) (by decide) h0
  refine lv_iload_n hx hb d50 rfl (lv_at hl 1 rfl) ?_
  refine lv_aload_n hx hb d51 rfl (lv_at hl 0 rfl) ?_
  refine x_getI C0 hR hf xcl_6 (Nat.le_of_ble_eq_true rfl) rfl fl_X6_15 d52 (fun i1 hf => ?_)
  refine lv_icmp_gt (tgt := 134) hx hb d55 (by decide) (fun q => ?_) (fun q => ?_)
  · have hf := x_pos q hf
    have h0 : x_by cX6_parse 134 [3, 172] := by unfold x_by; decide +kernel
    obtain ⟨d134, h0⟩ := de_iconst_0 h0
    obtain ⟨d135, h0⟩ := de_ireturn h0
    refine lv_iconst (v := 0) hx hb d134 (by decide) ?_
    exact x_zret C0 hR hS hf (Nat.le_of_ble_eq_true rfl) (Nat.le_of_ble_eq_true rfl) d135
  · have hf := x_neg q hf
    have h0 : x_by cX6_parse 58 [42, 16, 114, 182, 0, 60, 153, 0, 12] := by unfold x_by; decide +kernel
    obtain ⟨d58, h0⟩ := de_aload_n0 h0
    obtain ⟨d59, h0⟩ := de_bipush (114) (by decide) h0
    obtain ⟨d61, h0⟩ := de_invokevirtual 60 (by decide) h0
    obtain ⟨d64, h0⟩ := de_if_eq (12) (by decide) h0
    refine lv_aload_n hx hb d58 rfl (lv_at hl 0 rfl) ?_
    refine lv_bipush (v := 114) hx hb d59 (by decide) ?_
    obtain ⟨hs9, hf⟩ := x_if hf
    refine x_thenI C0 hxt hS hf (fun z0 e0 => x_runV C0 hR hS me_X6_isNext wi_X6_isNext wl_X6_isNext ml_X6_60 hs9 xcl_6 (As := [.int 114]) (ct_X6_isNext E l C0.2.2.2.2.2.2.2.1 _ r0 114) rfl rfl hl.1 (Nat.le_of_ble_eq_true rfl) d61 ⟨(Nat.le_of_ble_eq_true rfl), (Nat.le_of_ble_eq_true rfl)⟩ ⟨(Nat.le_of_ble_eq_true rfl), (Nat.le_of_ble_eq_true rfl)⟩ e0) (Nat.le_of_ble_eq_true rfl) (Nat.le_of_ble_eq_true rfl) (fun h9 i2 H locs hR hS hf => ?_)
    refine lv_if_eq (tgt := 76) hx hb d64 (by decide) (fun q => ?_) (fun q => ?_)
    · have hf := x_pos q hf
      have h0 : x_by cX6_parse 76 [42, 182, 0, 68, 154, 0, 5] := by unfold x_by; decide +kernel
      obtain ⟨d76, h0⟩ := de_aload_n0 h0
      obtain ⟨d77, h0⟩ := de_invokevirtual 68 (by decide) h0
      obtain ⟨d80, h0⟩ := de_if_ne (5) (by decide) h0
      refine lv_aload_n hx hb d76 rfl (lv_at hl 0 rfl) ?_
      obtain ⟨hs9, hf⟩ := x_if hf
      refine x_thenI C0 hxt hS hf (fun z0 e0 => x_runV C0 hR hS me_X6_parseSimple wi_X6_parseSimple wl_X6_parseSimple ml_X6_68 hs9 xcl_6 (As := []) (ct_X6_parseSimple E l C0.2.2.2.2.2.2.2.1 _ r0) rfl rfl hl.1 (Nat.le_of_ble_eq_true rfl) d77 ⟨(Nat.le_of_ble_eq_true rfl), (Nat.le_of_ble_eq_true rfl)⟩ ⟨(Nat.le_of_ble_eq_true rfl), (Nat.le_of_ble_eq_true rfl)⟩ e0) (Nat.le_of_ble_eq_true rfl) (Nat.le_of_ble_eq_true rfl) (fun h9 i4 H locs hR hS hf => ?_)
      refine lv_if_ne (tgt := 85) hx hb d80 (by decide) (fun q => ?_) (fun q => ?_)
      · have hf := x_neg q hf
        have h0 : x_by cX6_parse 85 [42, 182, 0, 71, 42, 182, 0, 74, 42, 180, 0, 19, 42, 180, 0, 15, 161, 0, 16] := by unfold x_by; decide +kernel
        obtain ⟨d85, h0⟩ := de_aload_n0 h0
        obtain ⟨d86, h0⟩ := de_invokevirtual 71 (by decide) h0
        obtain ⟨d89, h0⟩ := de_aload_n0 h0
        obtain ⟨d90, h0⟩ := de_invokevirtual 74 (by decide) h0
        obtain ⟨d93, h0⟩ := de_aload_n0 h0
        obtain ⟨d94, h0⟩ := de_getfield 19 (by decide) h0
        obtain ⟨d97, h0⟩ := de_aload_n0 h0
        obtain ⟨d98, h0⟩ := de_getfield 15 (by decide) h0
        obtain ⟨d101, h0⟩ := de_icmp_lt (16) (by decide) h0
        refine lv_aload_n hx hb d85 rfl (lv_at hl 0 rfl) ?_
        obtain ⟨hs9, hf⟩ := x_if hf
        refine x_thenV C0 hxt hS hf (fun z0 e0 => x_runV C0 hR hS me_X6_addTrack wi_X6_addTrack wl_X6_addTrack ml_X6_71 hs9 xcl_6 (As := []) (ct_X6_addTrack E l C0.2.2.2.2.2.2.2.1 _ r0) rfl rfl hl.1 (Nat.le_of_ble_eq_true rfl) d86 ⟨(Nat.le_of_ble_eq_true rfl), (Nat.le_of_ble_eq_true rfl)⟩ ⟨(Nat.le_of_ble_eq_true rfl), (Nat.le_of_ble_eq_true rfl)⟩ e0) (Nat.le_of_ble_eq_true rfl) (Nat.le_of_ble_eq_true rfl) (fun h9 H locs hR hS hf => ?_)
        refine lv_aload_n hx hb d89 rfl (lv_at hl 0 rfl) ?_
        obtain ⟨hs9, hf⟩ := x_if hf
        refine x_thenV C0 hxt hS hf (fun z0 e0 => x_runV C0 hR hS me_X6_closeRepeats wi_X6_closeRepeats wl_X6_closeRepeats ml_X6_74 hs9 xcl_6 (As := []) (ct_X6_closeRepeats E l C0.2.2.2.2.2.2.2.1 _ r0) rfl rfl hl.1 (Nat.le_of_ble_eq_true rfl) d90 ⟨(Nat.le_of_ble_eq_true rfl), (Nat.le_of_ble_eq_true rfl)⟩ ⟨(Nat.le_of_ble_eq_true rfl), (Nat.le_of_ble_eq_true rfl)⟩ e0) (Nat.le_of_ble_eq_true rfl) (Nat.le_of_ble_eq_true rfl) (fun h9 H locs hR hS hf => ?_)
        refine lv_aload_n hx hb d93 rfl (lv_at hl 0 rfl) ?_
        refine x_getI C0 hR hf xcl_6 (Nat.le_of_ble_eq_true rfl) rfl fl_X6_19 d94 (fun i8 hf => ?_)
        refine lv_aload_n hx hb d97 rfl (lv_at hl 0 rfl) ?_
        refine x_getI C0 hR hf xcl_6 (Nat.le_of_ble_eq_true rfl) rfl fl_X6_15 d98 (fun i9 hf => ?_)
        refine lv_icmp_lt (tgt := 117) hx hb d101 (by decide) (fun q => ?_) (fun q => ?_)
        · have hf := x_pos q hf
          have h0 : x_by cX6_parse 117 [42, 18, 77, 182, 0, 79, 154, 0, 5] := by unfold x_by; decide +kernel
          obtain ⟨d117, h0⟩ := de_aload_n0 h0
          obtain ⟨d118, h0⟩ := de_ldc h0
          obtain ⟨d120, h0⟩ := de_invokevirtual 79 (by decide) h0
          obtain ⟨d123, h0⟩ := de_if_ne (5) (by decide) h0
          refine lv_aload_n hx hb d117 rfl (lv_at hl 0 rfl) ?_
          refine x_ldcS C0 (i := 0) rfl d118 ?_
          obtain ⟨hs9, hf⟩ := x_if hf
          refine x_thenI C0 hxt hS hf (fun z0 e0 => x_runV C0 hR hS me_X6_takeWord wi_X6_takeWord wl_X6_takeWord ml_X6_79 hs9 xcl_6 (As := [.ref (xa E 1000001)]) (ct_X6_takeWord E l C0.2.2.2.2.2.2.2.1 _ r0 1000001) rfl rfl hl.1 (Nat.le_of_ble_eq_true rfl) d120 ⟨(Nat.le_of_ble_eq_true rfl), (Nat.le_of_ble_eq_true rfl)⟩ ⟨(Nat.le_of_ble_eq_true rfl), (Nat.le_of_ble_eq_true rfl)⟩ e0) (Nat.le_of_ble_eq_true rfl) (Nat.le_of_ble_eq_true rfl) (fun h9 i10 H locs hR hS hf => ?_)
          refine lv_if_ne (tgt := 128) hx hb d123 (by decide) (fun q => ?_) (fun q => ?_)
          · have hf := x_neg q hf
            exact s_X6_parse_b128 C0 hxt hk50 _ _ _ _ _ _ hR hS (lv_sub hl [0, 1] rfl) hf
          · have hf := x_pos q hf
            have h0 : x_by cX6_parse 126 [3, 172] := by unfold x_by; decide +kernel
            obtain ⟨d126, h0⟩ := de_iconst_0 h0
            obtain ⟨d127, h0⟩ := de_ireturn h0
            refine lv_iconst (v := 0) hx hb d126 (by decide) ?_
            exact x_zret C0 hR hS hf (Nat.le_of_ble_eq_true rfl) (Nat.le_of_ble_eq_true rfl) d127
        · have hf := x_neg q hf
          have h0 : x_by cX6_parse 104 [42, 180, 0, 42, 154, 0, 7] := by unfold x_by; decide +kernel
          obtain ⟨d104, h0⟩ := de_aload_n0 h0
          obtain ⟨d105, h0⟩ := de_getfield 42 (by decide) h0
          obtain ⟨d108, h0⟩ := de_if_ne (7) (by decide) h0
          refine lv_aload_n hx hb d104 rfl (lv_at hl 0 rfl) ?_
          refine x_getI C0 hR hf xcl_6 (Nat.le_of_ble_eq_true rfl) rfl fl_X6_42 d105 (fun i12 hf => ?_)
          refine lv_if_ne (tgt := 115) hx hb d108 (by decide) (fun q => ?_) (fun q => ?_)
          · have hf := x_neg q hf
            have h0 : x_by cX6_parse 115 [3] := by unfold x_by; decide +kernel
            obtain ⟨d115, h0⟩ := de_iconst_0 h0
            refine lv_iconst (v := 0) hx hb d115 (by decide) ?_
            exact s_X6_parse_b116 C0 hxt _ _ _ _ _ hR hS (lv_sub hl [] rfl) hf
          · have hf := x_pos q hf
            have h0 : x_by cX6_parse 111 [4, 167, 0, 4] := by unfold x_by; decide +kernel
            obtain ⟨d111, h0⟩ := de_iconst_1 h0
            obtain ⟨d112, h0⟩ := de_goto (4) (by decide) h0
            refine lv_iconst (v := 1) hx hb d111 (by decide) ?_
            refine lv_goto (tgt := 116) hx hb d112 (by decide) ?_
            exact s_X6_parse_b116 C0 hxt _ _ _ _ _ hR hS (lv_sub hl [] rfl) hf
      · have hf := x_pos q hf
        have h0 : x_by cX6_parse 83 [3, 172] := by unfold x_by; decide +kernel
        obtain ⟨d83, h0⟩ := de_iconst_0 h0
        obtain ⟨d84, h0⟩ := de_ireturn h0
        refine lv_iconst (v := 0) hx hb d83 (by decide) ?_
        exact x_zret C0 hR hS hf (Nat.le_of_ble_eq_true rfl) (Nat.le_of_ble_eq_true rfl) d84
    · have hf := x_neg q hf
      have h0 : x_by cX6_parse 67 [42, 182, 0, 64, 154, 0, 57] := by unfold x_by; decide +kernel
      obtain ⟨d67, h0⟩ := de_aload_n0 h0
      obtain ⟨d68, h0⟩ := de_invokevirtual 64 (by decide) h0
      obtain ⟨d71, h0⟩ := de_if_ne (57) (by decide) h0
      refine lv_aload_n hx hb d67 rfl (lv_at hl 0 rfl) ?_
      obtain ⟨hs9, hf⟩ := x_if hf
      refine x_thenI C0 hxt hS hf (fun z0 e0 => x_runV C0 hR hS me_X6_openRepeat wi_X6_openRepeat wl_X6_openRepeat ml_X6_64 hs9 xcl_6 (As := []) (ct_X6_openRepeat E l C0.2.2.2.2.2.2.2.1 _ r0) rfl rfl hl.1 (Nat.le_of_ble_eq_true rfl) d68 ⟨(Nat.le_of_ble_eq_true rfl), (Nat.le_of_ble_eq_true rfl)⟩ ⟨(Nat.le_of_ble_eq_true rfl), (Nat.le_of_ble_eq_true rfl)⟩ e0) (Nat.le_of_ble_eq_true rfl) (Nat.le_of_ble_eq_true rfl) (fun h9 i13 H locs hR hS hf => ?_)
      refine lv_if_ne (tgt := 128) hx hb d71 (by decide) (fun q => ?_) (fun q => ?_)
      · have hf := x_neg q hf
        exact s_X6_parse_b128 C0 hxt hk50 _ _ _ _ _ _ hR hS (lv_sub hl [0, 1] rfl) hf
      · have hf := x_pos q hf
        have h0 : x_by cX6_parse 74 [3, 172] := by unfold x_by; decide +kernel
        obtain ⟨d74, h0⟩ := de_iconst_0 h0
        obtain ⟨d75, h0⟩ := de_ireturn h0
        refine lv_iconst (v := 0) hx hb d74 (by decide) ?_
        exact x_zret C0 hR hS hf (Nat.le_of_ble_eq_true rfl) (Nat.le_of_ble_eq_true rfl) d75
theorem s_X6_parse_L50 {p : Program} {l : Launch} {e : Env} {s : State} {m : MethodId} {args : Array Value} {below : List Frame} {meth : Method} {c : Code} {E : XE} {z : XR} (C0 : x_C E p l s m meth c args cX6_parse 4 "GridEngine$TrackText" "parse" (some .boolean)) (hxt : ∀ x ∈ c.exceptionTable.toList, False)  : ∀ n : Nat, ∀ (h : HP) (r0 : Nat) (x3 : Int32) (H : Heap) (locs : List Loc) (ls : Array Slot), x_Rep E h H → va_S (x_A E) s.heap H locs → lv_has ls 4 [(0, .ref (xa E r0)), (3, .int x3)] → f_X6_parse_L50 n h r0 x3 = some z → W p l e ({ frames := 17, cells := 0, slots := 0, locals := 322 } : Room) s m args below meth c H locs 0 0 (x_Q E below args s 0 0 z) (F0 m 50 ls []) := by
  intro n
  induction n with
  | zero => intro h r0 x3 H locs ls hR hS hl hf; cases (show (none : Option XR) = some z from hf)
  | succ n ih => intro h r0 x3 H locs ls hR hS hl hf; exact s_X6_parse_b50 C0 hxt ih h r0 x3 H locs ls hR hS hl (show f_X6_parse_b50 (f_X6_parse_L50 n) h r0 x3 = some z from hf)
set_option maxRecDepth 100000 in
set_option maxHeartbeats 4000000 in
theorem ct_X6_parse (E : XE) (l : Launch) (hl0 : l.stackTraces = false) (h : HP) (r0 : Nat) (r1 : Nat) (x2 : Int32) : x_ct E l yX6_parse (Cond.code yX6_parse cX6_parse 4 (some .boolean)) 17 322 0 0 [.ref (xa E r0), .ref (xa E r1), .int x2] h (f_X6_parse h r0 r1 x2) := by
  refine x_ofW hl0 (by decide +kernel) ?_
  intro z hf p e s m args below meth c C0 hxt hargs hR
  subst hargs
  have C0 : x_C E p l s m meth c ([.ref (xa E r0), .ref (xa E r1), .int x2] : List Value).toArray cX6_parse 4 "GridEngine$TrackText" "parse" (some .boolean) := C0
  obtain ⟨hx, hb, -⟩ := id C0
  have hS : va_S (x_A E) s.heap s.heap [] := va_S.rf
  have hl := lv_entry ([.ref (xa E r0), .ref (xa E r1), .int x2]) (n := 4) (Nat.le_of_ble_eq_true rfl)
  rw [lg_entry_eq]
  generalize (lg_sl ([.ref (xa E r0), .ref (xa E r1), .int x2]) ++ List.replicate (4 - (lg_sl ([.ref (xa E r0), .ref (xa E r1), .int x2])).length) Slot.unset).toArray = ls at hl ⊢
  have hl : lv_has ls 4 [(0, .ref (xa E r0)), (1, .ref (xa E r1)), (2, .int x2)] := hl
  unfold f_X6_parse at hf
  have h0 : x_by cX6_parse 0 [42, 43, 181, 0, 9, 42, 3, 28, 43, 190, 184, 0, 51, 184, 0, 57, 181, 0, 15, 42, 3, 181, 0, 19, 42, 3, 181, 0, 28, 42, 3, 181, 0, 32, 42, 3, 181, 0, 42, 42, 180, 0, 15, 154, 0, 5] := by unfold x_by; decide +kernel
  obtain ⟨d0, h0⟩ := de_aload_n0 h0
  obtain ⟨d1, h0⟩ := de_aload_n1 h0
  obtain ⟨d2, h0⟩ := de_putfield 9 (by decide) h0
  obtain ⟨d5, h0⟩ := de_aload_n0 h0
  obtain ⟨d6, h0⟩ := de_iconst_0 h0
  obtain ⟨d7, h0⟩ := de_iload_n2 h0
  obtain ⟨d8, h0⟩ := de_aload_n1 h0
  obtain ⟨d9, h0⟩ := de_arraylength h0
  obtain ⟨d10, h0⟩ := de_invokestatic 51 (by decide) h0
  obtain ⟨d13, h0⟩ := de_invokestatic 57 (by decide) h0
  obtain ⟨d16, h0⟩ := de_putfield 15 (by decide) h0
  obtain ⟨d19, h0⟩ := de_aload_n0 h0
  obtain ⟨d20, h0⟩ := de_iconst_0 h0
  obtain ⟨d21, h0⟩ := de_putfield 19 (by decide) h0
  obtain ⟨d24, h0⟩ := de_aload_n0 h0
  obtain ⟨d25, h0⟩ := de_iconst_0 h0
  obtain ⟨d26, h0⟩ := de_putfield 28 (by decide) h0
  obtain ⟨d29, h0⟩ := de_aload_n0 h0
  obtain ⟨d30, h0⟩ := de_iconst_0 h0
  obtain ⟨d31, h0⟩ := de_putfield 32 (by decide) h0
  obtain ⟨d34, h0⟩ := de_aload_n0 h0
  obtain ⟨d35, h0⟩ := de_iconst_0 h0
  obtain ⟨d36, h0⟩ := de_putfield 42 (by decide) h0
  obtain ⟨d39, h0⟩ := de_aload_n0 h0
  obtain ⟨d40, h0⟩ := de_getfield 15 (by decide) h0
  obtain ⟨d43, h0⟩ := de_if_ne (5) (by decide) h0
  refine lv_aload_n hx hb d0 rfl (lv_at hl 0 rfl) ?_
  refine lv_aload_n hx hb d1 rfl (lv_at hl 1 rfl) ?_
  refine x_putR C0 hR hS hf xcl_6 (Nat.le_of_ble_eq_true rfl) rfl fl_X6_9 (Or.inl rfl) d2 (fun H locs hR hS hf => ?_)
  refine lv_aload_n hx hb d5 rfl (lv_at hl 0 rfl) ?_
  refine lv_iconst (v := 0) hx hb d6 (by decide) ?_
  refine lv_iload_n hx hb d7 rfl (lv_at hl 2 rfl) ?_
  refine lv_aload_n hx hb d8 rfl (lv_at hl 1 rfl) ?_
  refine x_alen C0 hR hf d9 (fun i2 hf => ?_)
  refine x_mmin C0 hl.1 ml_X6_51 lib_min (Nat.le_of_ble_eq_true rfl) (Nat.le_of_ble_eq_true rfl) (Nat.le_of_ble_eq_true rfl) (Nat.le_of_ble_eq_true rfl) d10 ?_
  refine x_mmax C0 hl.1 ml_X6_57 lib_max (Nat.le_of_ble_eq_true rfl) (Nat.le_of_ble_eq_true rfl) (Nat.le_of_ble_eq_true rfl) (Nat.le_of_ble_eq_true rfl) d13 ?_
  refine x_putI C0 hR hS hf xcl_6 (Nat.le_of_ble_eq_true rfl) rfl fl_X6_15 (Or.inl rfl) d16 (fun H locs hR hS hf => ?_)
  refine lv_aload_n hx hb d19 rfl (lv_at hl 0 rfl) ?_
  refine lv_iconst (v := 0) hx hb d20 (by decide) ?_
  refine x_putI C0 hR hS hf xcl_6 (Nat.le_of_ble_eq_true rfl) rfl fl_X6_19 (Or.inl rfl) d21 (fun H locs hR hS hf => ?_)
  refine lv_aload_n hx hb d24 rfl (lv_at hl 0 rfl) ?_
  refine lv_iconst (v := 0) hx hb d25 (by decide) ?_
  refine x_putZ C0 hR hS hf xcl_6 (Nat.le_of_ble_eq_true rfl) rfl fl_X6_28 (Or.inl rfl) d26 (fun H locs hR hS hf => ?_)
  refine lv_aload_n hx hb d29 rfl (lv_at hl 0 rfl) ?_
  refine lv_iconst (v := 0) hx hb d30 (by decide) ?_
  refine x_putI C0 hR hS hf xcl_6 (Nat.le_of_ble_eq_true rfl) rfl fl_X6_32 (Or.inl rfl) d31 (fun H locs hR hS hf => ?_)
  refine lv_aload_n hx hb d34 rfl (lv_at hl 0 rfl) ?_
  refine lv_iconst (v := 0) hx hb d35 (by decide) ?_
  refine x_putI C0 hR hS hf xcl_6 (Nat.le_of_ble_eq_true rfl) rfl fl_X6_42 (Or.inl rfl) d36 (fun H locs hR hS hf => ?_)
  refine lv_aload_n hx hb d39 rfl (lv_at hl 0 rfl) ?_
  refine x_getI C0 hR hf xcl_6 (Nat.le_of_ble_eq_true rfl) rfl fl_X6_15 d40 (fun i8 hf => ?_)
  refine lv_if_ne (tgt := 48) hx hb d43 (by decide) (fun q => ?_) (fun q => ?_)
  · have hf := x_neg q hf
    have h0 : x_by cX6_parse 48 [3, 62] := by unfold x_by; decide +kernel
    obtain ⟨d48, h0⟩ := de_iconst_0 h0
    obtain ⟨d49, h0⟩ := de_istore_n3 h0
    refine lv_iconst (v := 0) hx hb d48 (by decide) ?_
    refine lv_istore_n (lv' := [(3, .int 0), (0, .ref (xa E r0)), (1, .ref (xa E r1)), (2, .int x2)]) hx hb d49 rfl hl (by decide) rfl (fun ls hl => ?_)
    exact s_X6_parse_L50 C0 hxt FU _ _ _ _ _ _ hR hS (lv_sub hl [1, 0] rfl) hf
  · have hf := x_pos q hf
    have h0 : x_by cX6_parse 46 [4, 172] := by unfold x_by; decide +kernel
    obtain ⟨d46, h0⟩ := de_iconst_1 h0
    obtain ⟨d47, h0⟩ := de_ireturn h0
    refine lv_iconst (v := 1) hx hb d46 (by decide) ?_
    exact x_zret C0 hR hS hf (Nat.le_of_ble_eq_true rfl) (Nat.le_of_ble_eq_true rfl) d47

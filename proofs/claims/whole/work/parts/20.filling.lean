def f_X2_init (h : HP) (r0 : Nat) : Option XR :=
  x_na h 0 64 fun h2 a1 =>
  x_pR h2 r0 2 0 a1 fun h3 =>
  x_na h3 0 64 fun h5 a4 =>
  x_pR h5 r0 2 1 a4 fun h6 =>
  x_na h6 0 64 fun h8 a7 =>
  x_pR h8 r0 2 2 a7 fun h9 =>
  x_na h9 0 64 fun h11 a10 =>
  x_pR h11 r0 2 3 a10 fun h12 =>
  x_pI h12 r0 2 4 0 fun h13 =>
  some (h13, xv)
set_option maxRecDepth 100000 in
set_option maxHeartbeats 4000000 in
theorem ct_X2_init (E : XE) (l : Launch) (hl0 : l.stackTraces = false) (h : HP) (r0 : Nat) : x_ct E l yX2_init (Cond.code yX2_init cX2_init 1 none) 8 130 4 256 [.ref (xa E r0)] h (f_X2_init h r0) := by
  refine x_ofW hl0 (by decide +kernel) ?_
  intro z hf p e s m args below meth c C0 hxt hargs hR
  subst hargs
  have C0 : x_C E p l s m meth c ([.ref (xa E r0)] : List Value).toArray cX2_init 1 "GridEngine$Filling" "<init>" none := C0
  obtain ⟨hx, hb, -⟩ := id C0
  have hS : va_S (x_A E) s.heap s.heap [] := va_S.rf
  have hl := lv_entry ([.ref (xa E r0)]) (n := 1) (Nat.le_of_ble_eq_true rfl)
  rw [lg_entry_eq]
  generalize (lg_sl ([.ref (xa E r0)]) ++ List.replicate (1 - (lg_sl ([.ref (xa E r0)])).length) Slot.unset).toArray = ls at hl ⊢
  have hl : lv_has ls 1 [(0, .ref (xa E r0))] := hl
  unfold f_X2_init at hf
  have h0 : x_by cX2_init 0 [42, 183, 0, 3, 42, 16, 64, 188, 10, 181, 0, 9, 42, 16, 64, 188, 10, 181, 0, 15, 42, 16, 64, 188, 10, 181, 0, 18, 42, 16, 64, 188, 10, 181, 0, 21, 42, 3, 181, 0, 24, 177] := by unfold x_by; decide +kernel
  obtain ⟨d0, h0⟩ := de_aload_n0 h0
  obtain ⟨d1, h0⟩ := de_invokespecial 3 (by decide) h0
  obtain ⟨d4, h0⟩ := de_aload_n0 h0
  obtain ⟨d5, h0⟩ := de_bipush (64) (by decide) h0
  obtain ⟨d7, h0⟩ := de_newarray_int h0
  obtain ⟨d9, h0⟩ := de_putfield 9 (by decide) h0
  obtain ⟨d12, h0⟩ := de_aload_n0 h0
  obtain ⟨d13, h0⟩ := de_bipush (64) (by decide) h0
  obtain ⟨d15, h0⟩ := de_newarray_int h0
  obtain ⟨d17, h0⟩ := de_putfield 15 (by decide) h0
  obtain ⟨d20, h0⟩ := de_aload_n0 h0
  obtain ⟨d21, h0⟩ := de_bipush (64) (by decide) h0
  obtain ⟨d23, h0⟩ := de_newarray_int h0
  obtain ⟨d25, h0⟩ := de_putfield 18 (by decide) h0
  obtain ⟨d28, h0⟩ := de_aload_n0 h0
  obtain ⟨d29, h0⟩ := de_bipush (64) (by decide) h0
  obtain ⟨d31, h0⟩ := de_newarray_int h0
  obtain ⟨d33, h0⟩ := de_putfield 21 (by decide) h0
  obtain ⟨d36, h0⟩ := de_aload_n0 h0
  obtain ⟨d37, h0⟩ := de_iconst_0 h0
  obtain ⟨d38, h0⟩ := de_putfield 24 (by decide) h0
  obtain ⟨d41, h0⟩ := de_return h0
  refine lv_aload_n hx hb d0 rfl (lv_at hl 0 rfl) ?_
  refine x_oinit C0 hl.1 ml_X2_3 lib_oinit (Nat.le_of_ble_eq_true rfl) (Nat.le_of_ble_eq_true rfl) d1 ?_
  refine lv_aload_n hx hb d4 rfl (lv_at hl 0 rfl) ?_
  refine lv_bipush (v := 64) hx hb d5 (by decide) ?_
  refine x_newa (t := 0) C0 hR hS hf rfl (by decide) ac_0 (N := 64) (by decide) (Nat.le_of_ble_eq_true rfl) (Nat.le_of_ble_eq_true rfl) d7 (fun H a1 hR hS hf => ?_)
  refine x_putR C0 hR hS hf xcl_2 (Nat.le_of_ble_eq_true rfl) rfl fl_X2_9 (Or.inr ⟨rfl, rfl, fm_X2_9⟩) d9 (fun H locs hR hS hf => ?_)
  refine lv_aload_n hx hb d12 rfl (lv_at hl 0 rfl) ?_
  refine lv_bipush (v := 64) hx hb d13 (by decide) ?_
  refine x_newa (t := 0) C0 hR hS hf rfl (by decide) ac_0 (N := 64) (by decide) (Nat.le_of_ble_eq_true rfl) (Nat.le_of_ble_eq_true rfl) d15 (fun H a4 hR hS hf => ?_)
  refine x_putR C0 hR hS hf xcl_2 (Nat.le_of_ble_eq_true rfl) rfl fl_X2_15 (Or.inr ⟨rfl, rfl, fm_X2_15⟩) d17 (fun H locs hR hS hf => ?_)
  refine lv_aload_n hx hb d20 rfl (lv_at hl 0 rfl) ?_
  refine lv_bipush (v := 64) hx hb d21 (by decide) ?_
  refine x_newa (t := 0) C0 hR hS hf rfl (by decide) ac_0 (N := 64) (by decide) (Nat.le_of_ble_eq_true rfl) (Nat.le_of_ble_eq_true rfl) d23 (fun H a7 hR hS hf => ?_)
  refine x_putR C0 hR hS hf xcl_2 (Nat.le_of_ble_eq_true rfl) rfl fl_X2_18 (Or.inr ⟨rfl, rfl, fm_X2_18⟩) d25 (fun H locs hR hS hf => ?_)
  refine lv_aload_n hx hb d28 rfl (lv_at hl 0 rfl) ?_
  refine lv_bipush (v := 64) hx hb d29 (by decide) ?_
  refine x_newa (t := 0) C0 hR hS hf rfl (by decide) ac_0 (N := 64) (by decide) (Nat.le_of_ble_eq_true rfl) (Nat.le_of_ble_eq_true rfl) d31 (fun H a10 hR hS hf => ?_)
  refine x_putR C0 hR hS hf xcl_2 (Nat.le_of_ble_eq_true rfl) rfl fl_X2_21 (Or.inr ⟨rfl, rfl, fm_X2_21⟩) d33 (fun H locs hR hS hf => ?_)
  refine lv_aload_n hx hb d36 rfl (lv_at hl 0 rfl) ?_
  refine lv_iconst (v := 0) hx hb d37 (by decide) ?_
  refine x_putI C0 hR hS hf xcl_2 (Nat.le_of_ble_eq_true rfl) rfl fl_X2_24 (Or.inl rfl) d38 (fun H locs hR hS hf => ?_)
  exact x_vret C0 hR hS hf (Nat.le_of_ble_eq_true rfl) (Nat.le_of_ble_eq_true rfl) d41
def f_X2_startAnew (h : HP) (r0 : Nat) : Option XR :=
  x_pI h r0 2 4 0 fun h1 =>
  some (h1, xv)
set_option maxRecDepth 100000 in
set_option maxHeartbeats 4000000 in
theorem ct_X2_startAnew (E : XE) (l : Launch) (hl0 : l.stackTraces = false) (h : HP) (r0 : Nat) : x_ct E l yX2_startAnew (Cond.code yX2_startAnew cX2_startAnew 1 none) 8 130 0 0 [.ref (xa E r0)] h (f_X2_startAnew h r0) := by
  refine x_ofW hl0 (by decide +kernel) ?_
  intro z hf p e s m args below meth c C0 hxt hargs hR
  subst hargs
  have C0 : x_C E p l s m meth c ([.ref (xa E r0)] : List Value).toArray cX2_startAnew 1 "GridEngine$Filling" "startAnew" none := C0
  obtain ⟨hx, hb, -⟩ := id C0
  have hS : va_S (x_A E) s.heap s.heap [] := va_S.rf
  have hl := lv_entry ([.ref (xa E r0)]) (n := 1) (Nat.le_of_ble_eq_true rfl)
  rw [lg_entry_eq]
  generalize (lg_sl ([.ref (xa E r0)]) ++ List.replicate (1 - (lg_sl ([.ref (xa E r0)])).length) Slot.unset).toArray = ls at hl ⊢
  have hl : lv_has ls 1 [(0, .ref (xa E r0))] := hl
  unfold f_X2_startAnew at hf
  have h0 : x_by cX2_startAnew 0 [42, 3, 181, 0, 24, 177] := by unfold x_by; decide +kernel
  obtain ⟨d0, h0⟩ := de_aload_n0 h0
  obtain ⟨d1, h0⟩ := de_iconst_0 h0
  obtain ⟨d2, h0⟩ := de_putfield 24 (by decide) h0
  obtain ⟨d5, h0⟩ := de_return h0
  refine lv_aload_n hx hb d0 rfl (lv_at hl 0 rfl) ?_
  refine lv_iconst (v := 0) hx hb d1 (by decide) ?_
  refine x_putI C0 hR hS hf xcl_2 (Nat.le_of_ble_eq_true rfl) rfl fl_X2_24 (Or.inl rfl) d2 (fun H locs hR hS hf => ?_)
  exact x_vret C0 hR hS hf (Nat.le_of_ble_eq_true rfl) (Nat.le_of_ble_eq_true rfl) d5
def f_X2_admit_b67  (h : HP)  : Option XR :=
  some (h, xv)
def f_X2_admit (h : HP) (r0 : Nat) (x1 : Int32) (x2 : Int32) (x3 : Int32) : Option XR :=
  x_gI h r0 2 4 fun i1 =>
  if 64 ≤ i1 then
    (
      f_X2_admit_b67 h
    )
  else
    (
      if x2 ≤ 0 then
        (
          f_X2_admit_b67 h
        )
      else
        (
          x_gR h r0 2 0 fun a2 =>
          x_gI h r0 2 4 fun i3 =>
          x_sI h a2 i3 x1 fun h4 =>
          x_gR h4 r0 2 1 fun a5 =>
          x_gI h4 r0 2 4 fun i6 =>
          x_sI h4 a5 i6 x2 fun h7 =>
          x_gR h7 r0 2 2 fun a8 =>
          x_gI h7 r0 2 4 fun i9 =>
          x_sI h7 a8 i9 (if 0 < x3 then x3 else 0) fun h10 =>
          x_gR h10 r0 2 3 fun a11 =>
          x_gI h10 r0 2 4 fun i12 =>
          x_sI h10 a11 i12 0 fun h13 =>
          x_gI h13 r0 2 4 fun i14 =>
          x_pI h13 r0 2 4 (i14 + 1) fun h15 =>
          f_X2_admit_b67 h15
        )
    )
set_option maxRecDepth 100000 in
set_option maxHeartbeats 4000000 in
theorem s_X2_admit_b67 {p : Program} {l : Launch} {e : Env} {s : State} {m : MethodId} {args : Array Value} {below : List Frame} {meth : Method} {c : Code} {E : XE} {z : XR} (C0 : x_C E p l s m meth c args cX2_admit 4 "GridEngine$Filling" "adm\x69t" none) (hxt : ∀ x ∈ c.exceptionTable.toList, False)  : ∀ (h : HP)  (H : Heap) (locs : List Loc) (ls : Array Slot), x_Rep E h H → va_S (x_A E) s.heap H locs → lv_has ls 4 [] → f_X2_admit_b67 h  = some z → W p l e ({ frames := 8, cells := 0, slots := 0, locals := 130 } : Room) s m args below meth c H locs 0 0 (x_Q E below args s 0 0 z) (F0 m 67 ls []) := by
  intro h  H locs ls hR hS hl hf
  obtain ⟨hx, hb, -⟩ := id C0
  unfold f_X2_admit_b67 at hf
  have h0 : x_by cX2_admit 67 [177] := by unfold x_by; decide +kernel
  obtain ⟨d67, h0⟩ := de_return h0
  exact x_vret C0 hR hS hf (Nat.le_of_ble_eq_true rfl) (Nat.le_of_ble_eq_true rfl) d67
set_option maxRecDepth 100000 in
set_option maxHeartbeats 4000000 in
theorem ct_X2_admit (E : XE) (l : Launch) (hl0 : l.stackTraces = false) (h : HP) (r0 : Nat) (x1 : Int32) (x2 : Int32) (x3 : Int32) : x_ct E l yX2_admit (Cond.code yX2_admit cX2_admit 4 none) 8 130 0 0 [.ref (xa E r0), .int x1, .int x2, .int x3] h (f_X2_admit h r0 x1 x2 x3) := by
  refine x_ofW hl0 (by decide +kernel) ?_
  intro z hf p e s m args below meth c C0 hxt hargs hR
  subst hargs
  have C0 : x_C E p l s m meth c ([.ref (xa E r0), .int x1, .int x2, .int x3] : List Value).toArray cX2_admit 4 "GridEngine$Filling" "adm\x69t" none := C0
  obtain ⟨hx, hb, -⟩ := id C0
  have hS : va_S (x_A E) s.heap s.heap [] := va_S.rf
  have hl := lv_entry ([.ref (xa E r0), .int x1, .int x2, .int x3]) (n := 4) (Nat.le_of_ble_eq_true rfl)
  rw [lg_entry_eq]
  generalize (lg_sl ([.ref (xa E r0), .int x1, .int x2, .int x3]) ++ List.replicate (4 - (lg_sl ([.ref (xa E r0), .int x1, .int x2, .int x3])).length) Slot.unset).toArray = ls at hl ⊢
  have hl : lv_has ls 4 [(0, .ref (xa E r0)), (1, .int x1), (2, .int x2), (3, .int x3)] := hl
  unfold f_X2_admit at hf
  have h0 : x_by cX2_admit 0 [42, 180, 0, 24, 16, 64, 162, 0, 61] := by unfold x_by; decide +kernel
  obtain ⟨d0, h0⟩ := de_aload_n0 h0
  obtain ⟨d1, h0⟩ := de_getfield 24 (by decide) h0
  obtain ⟨d4, h0⟩ := de_bipush (64) (by decide) h0
  obtain ⟨d6, h0⟩ := de_icmp_ge (61) (by decide) h0
  refine lv_aload_n hx hb d0 rfl (lv_at hl 0 rfl) ?_
  refine x_getI C0 hR hf xcl_2 (Nat.le_of_ble_eq_true rfl) rfl fl_X2_24 d1 (fun i1 hf => ?_)
  refine lv_bipush (v := 64) hx hb d4 (by decide) ?_
  refine lv_icmp_ge (tgt := 67) hx hb d6 (by decide) (fun q => ?_) (fun q => ?_)
  · have hf := x_pos q hf
    exact s_X2_admit_b67 C0 hxt _ _ _ _ hR hS (lv_sub hl [] rfl) hf
  · have hf := x_neg q hf
    have h0 : x_by cX2_admit 9 [28, 158, 0, 57] := by unfold x_by; decide +kernel
    obtain ⟨d9, h0⟩ := de_iload_n2 h0
    obtain ⟨d10, h0⟩ := de_if_le (57) (by decide) h0
    refine lv_iload_n hx hb d9 rfl (lv_at hl 2 rfl) ?_
    refine lv_if_le (tgt := 67) hx hb d10 (by decide) (fun q => ?_) (fun q => ?_)
    · have hf := x_pos q hf
      exact s_X2_admit_b67 C0 hxt _ _ _ _ hR hS (lv_sub hl [] rfl) hf
    · have hf := x_neg q hf
      have h0 : x_by cX2_admit 13 [42, 180, 0, 9, 42, 180, 0, 24, 27, 79, 42, 180, 0, 15, 42, 180, 0, 24, 28, 79, 42, 180, 0, 18, 42, 180, 0, 24, 3, 29, 184, 0, 28, 79, 42, 180, 0, 21, 42, 180, 0, 24, 3, 79, 42, 89, 180, 0, 24, 4, 96, 181, 0, 24] := by unfold x_by; decide +kernel
      obtain ⟨d13, h0⟩ := de_aload_n0 h0
      obtain ⟨d14, h0⟩ := de_getfield 9 (by decide) h0
      obtain ⟨d17, h0⟩ := de_aload_n0 h0
      obtain ⟨d18, h0⟩ := de_getfield 24 (by decide) h0
      obtain ⟨d21, h0⟩ := de_iload_n1 h0
      obtain ⟨d22, h0⟩ := de_iastore h0
      obtain ⟨d23, h0⟩ := de_aload_n0 h0
      obtain ⟨d24, h0⟩ := de_getfield 15 (by decide) h0
      obtain ⟨d27, h0⟩ := de_aload_n0 h0
      obtain ⟨d28, h0⟩ := de_getfield 24 (by decide) h0
      obtain ⟨d31, h0⟩ := de_iload_n2 h0
      obtain ⟨d32, h0⟩ := de_iastore h0
      obtain ⟨d33, h0⟩ := de_aload_n0 h0
      obtain ⟨d34, h0⟩ := de_getfield 18 (by decide) h0
      obtain ⟨d37, h0⟩ := de_aload_n0 h0
      obtain ⟨d38, h0⟩ := de_getfield 24 (by decide) h0
      obtain ⟨d41, h0⟩ := de_iconst_0 h0
      obtain ⟨d42, h0⟩ := de_iload_n3 h0
      obtain ⟨d43, h0⟩ := de_invokestatic 28 (by decide) h0
      obtain ⟨d46, h0⟩ := de_iastore h0
      obtain ⟨d47, h0⟩ := de_aload_n0 h0
      obtain ⟨d48, h0⟩ := de_getfield 21 (by decide) h0
      obtain ⟨d51, h0⟩ := de_aload_n0 h0
      obtain ⟨d52, h0⟩ := de_getfield 24 (by decide) h0
      obtain ⟨d55, h0⟩ := de_iconst_0 h0
      obtain ⟨d56, h0⟩ := de_iastore h0
      obtain ⟨d57, h0⟩ := de_aload_n0 h0
      obtain ⟨d58, h0⟩ := de_dup h0
      obtain ⟨d59, h0⟩ := de_getfield 24 (by decide) h0
      obtain ⟨d62, h0⟩ := de_iconst_1 h0
      obtain ⟨d63, h0⟩ := de_iadd h0
      obtain ⟨d64, h0⟩ := de_putfield 24 (by decide) h0
      refine lv_aload_n hx hb d13 rfl (lv_at hl 0 rfl) ?_
      refine x_getR C0 hR hf xcl_2 (Nat.le_of_ble_eq_true rfl) rfl fl_X2_9 d14 (fun a2 hf => ?_)
      refine lv_aload_n hx hb d17 rfl (lv_at hl 0 rfl) ?_
      refine x_getI C0 hR hf xcl_2 (Nat.le_of_ble_eq_true rfl) rfl fl_X2_24 d18 (fun i3 hf => ?_)
      refine lv_iload_n hx hb d21 rfl (lv_at hl 1 rfl) ?_
      refine x_iast C0 hR hS hf d22 (fun H locs hR hS hf => ?_)
      refine lv_aload_n hx hb d23 rfl (lv_at hl 0 rfl) ?_
      refine x_getR C0 hR hf xcl_2 (Nat.le_of_ble_eq_true rfl) rfl fl_X2_15 d24 (fun a5 hf => ?_)
      refine lv_aload_n hx hb d27 rfl (lv_at hl 0 rfl) ?_
      refine x_getI C0 hR hf xcl_2 (Nat.le_of_ble_eq_true rfl) rfl fl_X2_24 d28 (fun i6 hf => ?_)
      refine lv_iload_n hx hb d31 rfl (lv_at hl 2 rfl) ?_
      refine x_iast C0 hR hS hf d32 (fun H locs hR hS hf => ?_)
      refine lv_aload_n hx hb d33 rfl (lv_at hl 0 rfl) ?_
      refine x_getR C0 hR hf xcl_2 (Nat.le_of_ble_eq_true rfl) rfl fl_X2_18 d34 (fun a8 hf => ?_)
      refine lv_aload_n hx hb d37 rfl (lv_at hl 0 rfl) ?_
      refine x_getI C0 hR hf xcl_2 (Nat.le_of_ble_eq_true rfl) rfl fl_X2_24 d38 (fun i9 hf => ?_)
      refine lv_iconst (v := 0) hx hb d41 (by decide) ?_
      refine lv_iload_n hx hb d42 rfl (lv_at hl 3 rfl) ?_
      refine x_mmax C0 hl.1 ml_X2_28 lib_max (Nat.le_of_ble_eq_true rfl) (Nat.le_of_ble_eq_true rfl) (Nat.le_of_ble_eq_true rfl) (Nat.le_of_ble_eq_true rfl) d43 ?_
      refine x_iast C0 hR hS hf d46 (fun H locs hR hS hf => ?_)
      refine lv_aload_n hx hb d47 rfl (lv_at hl 0 rfl) ?_
      refine x_getR C0 hR hf xcl_2 (Nat.le_of_ble_eq_true rfl) rfl fl_X2_21 d48 (fun a11 hf => ?_)
      refine lv_aload_n hx hb d51 rfl (lv_at hl 0 rfl) ?_
      refine x_getI C0 hR hf xcl_2 (Nat.le_of_ble_eq_true rfl) rfl fl_X2_24 d52 (fun i12 hf => ?_)
      refine lv_iconst (v := 0) hx hb d55 (by decide) ?_
      refine x_iast C0 hR hS hf d56 (fun H locs hR hS hf => ?_)
      refine lv_aload_n hx hb d57 rfl (lv_at hl 0 rfl) ?_
      refine lv_dup hx hb d58 rfl ?_
      refine x_getI C0 hR hf xcl_2 (Nat.le_of_ble_eq_true rfl) rfl fl_X2_24 d59 (fun i14 hf => ?_)
      refine lv_iconst (v := 1) hx hb d62 (by decide) ?_
      refine lv_iadd hx hb d63 ?_
      refine x_putI C0 hR hS hf xcl_2 (Nat.le_of_ble_eq_true rfl) rfl fl_X2_24 (Or.inl rfl) d64 (fun H locs hR hS hf => ?_)
      exact s_X2_admit_b67 C0 hxt _ _ _ _ hR hS (lv_sub hl [] rfl) hf
def f_X2_dropBounds_b2 (k2 : HP → Nat → Int32 → Option XR) (h : HP) (r0 : Nat) (x1 : Int32) : Option XR :=
  x_gI h r0 2 4 fun i1 =>
  if i1 ≤ x1 then
    (
      some (h, xv)
    )
  else
    (
      x_gR h r0 2 2 fun a2 =>
      x_sI h a2 x1 1000000 fun h3 =>
      k2 h3 r0 (x1 + 1)
    )
def f_X2_dropBounds_L2  : Nat → HP → Nat → Int32 → Option XR
  | 0 => fun _ _ _ => none
  | n + 1 => f_X2_dropBounds_b2 (f_X2_dropBounds_L2 n)
def f_X2_dropBounds (h : HP) (r0 : Nat) : Option XR :=
  f_X2_dropBounds_L2 FU h r0 0
set_option maxRecDepth 100000 in
set_option maxHeartbeats 4000000 in
theorem s_X2_dropBounds_b2 {p : Program} {l : Launch} {e : Env} {s : State} {m : MethodId} {args : Array Value} {below : List Frame} {meth : Method} {c : Code} {E : XE} {z : XR} (C0 : x_C E p l s m meth c args cX2_dropBounds 2 "GridEngine$Filling" "dropBounds" none) (hxt : ∀ x ∈ c.exceptionTable.toList, False) {k2 : HP → Nat → Int32 → Option XR} (hk2 : ∀ (h : HP) (r0 : Nat) (x1 : Int32) (H : Heap) (locs : List Loc) (ls : Array Slot), x_Rep E h H → va_S (x_A E) s.heap H locs → lv_has ls 2 [(0, .ref (xa E r0)), (1, .int x1)] → k2 h r0 x1 = some z → W p l e ({ frames := 8, cells := 0, slots := 0, locals := 130 } : Room) s m args below meth c H locs 0 0 (x_Q E below args s 0 0 z) (F0 m 2 ls [])) : ∀ (h : HP) (r0 : Nat) (x1 : Int32) (H : Heap) (locs : List Loc) (ls : Array Slot), x_Rep E h H → va_S (x_A E) s.heap H locs → lv_has ls 2 [(0, .ref (xa E r0)), (1, .int x1)] → f_X2_dropBounds_b2 k2 h r0 x1 = some z → W p l e ({ frames := 8, cells := 0, slots := 0, locals := 130 } : Room) s m args below meth c H locs 0 0 (x_Q E below args s 0 0 z) (F0 m 2 ls []) := by
  intro h r0 x1 H locs ls hR hS hl hf
  obtain ⟨hx, hb, -⟩ := id C0
  unfold f_X2_dropBounds_b2 at hf
  have h0 : x_by cX2_dropBounds 2 [27, 42, 180, 0, 24, 162, 0, 17] := by unfold x_by; decide +kernel
  obtain ⟨d2, h0⟩ := de_iload_n1 h0
  obtain ⟨d3, h0⟩ := de_aload_n0 h0
  obtain ⟨d4, h0⟩ := de_getfield 24 (by decide) h0
  obtain ⟨d7, h0⟩ := de_icmp_ge (17) (by decide) h0
  refine lv_iload_n hx hb d2 rfl (lv_at hl 1 rfl) ?_
  refine lv_aload_n hx hb d3 rfl (lv_at hl 0 rfl) ?_
  refine x_getI C0 hR hf xcl_2 (Nat.le_of_ble_eq_true rfl) rfl fl_X2_24 d4 (fun i1 hf => ?_)
  refine lv_icmp_ge (tgt := 24) hx hb d7 (by decide) (fun q => ?_) (fun q => ?_)
  · have hf := x_pos q hf
    have h0 : x_by cX2_dropBounds 24 [177] := by unfold x_by; decide +kernel
    obtain ⟨d24, h0⟩ := de_return h0
    exact x_vret C0 hR hS hf (Nat.le_of_ble_eq_true rfl) (Nat.le_of_ble_eq_true rfl) d24
  · have hf := x_neg q hf
    have h0 : x_by cX2_dropBounds 10 [42, 180, 0, 18, 27, 18, 34, 79, 132, 1, 1, 167, 255, 237] := by unfold x_by; decide +kernel
    obtain ⟨d10, h0⟩ := de_aload_n0 h0
    obtain ⟨d11, h0⟩ := de_getfield 18 (by decide) h0
    obtain ⟨d14, h0⟩ := de_iload_n1 h0
    obtain ⟨d15, h0⟩ := de_ldc h0
    obtain ⟨d17, h0⟩ := de_iastore h0
    obtain ⟨d18, h0⟩ := de_iinc (1) (by decide) h0
    obtain ⟨d21, h0⟩ := de_goto (-19) (by decide) h0
    refine lv_aload_n hx hb d10 rfl (lv_at hl 0 rfl) ?_
    refine x_getR C0 hR hf xcl_2 (Nat.le_of_ble_eq_true rfl) rfl fl_X2_18 d11 (fun a2 hf => ?_)
    refine lv_iload_n hx hb d14 rfl (lv_at hl 1 rfl) ?_
    refine lv_ldc hx hb C0.2.2.2.1 (C0.2.2.2.2.1 _ ki_X2_34) d15 ?_
    refine x_iast C0 hR hS hf d17 (fun H locs hR hS hf => ?_)
    refine lv_iinc (v := (x1 + 1)) (lv' := [(1, .int (x1 + 1)), (0, .ref (xa E r0))]) hx hb d18 hl (k := 1) rfl rfl (by decide) rfl (fun ls hl => ?_)
    refine lv_goto (tgt := 2) hx hb d21 (by decide) ?_
    exact hk2 _ _ _ _ _ _ hR hS (lv_sub hl [1, 0] rfl) hf
theorem s_X2_dropBounds_L2 {p : Program} {l : Launch} {e : Env} {s : State} {m : MethodId} {args : Array Value} {below : List Frame} {meth : Method} {c : Code} {E : XE} {z : XR} (C0 : x_C E p l s m meth c args cX2_dropBounds 2 "GridEngine$Filling" "dropBounds" none) (hxt : ∀ x ∈ c.exceptionTable.toList, False)  : ∀ n : Nat, ∀ (h : HP) (r0 : Nat) (x1 : Int32) (H : Heap) (locs : List Loc) (ls : Array Slot), x_Rep E h H → va_S (x_A E) s.heap H locs → lv_has ls 2 [(0, .ref (xa E r0)), (1, .int x1)] → f_X2_dropBounds_L2 n h r0 x1 = some z → W p l e ({ frames := 8, cells := 0, slots := 0, locals := 130 } : Room) s m args below meth c H locs 0 0 (x_Q E below args s 0 0 z) (F0 m 2 ls []) := by
  intro n
  induction n with
  | zero => intro h r0 x1 H locs ls hR hS hl hf; cases (show (none : Option XR) = some z from hf)
  | succ n ih => intro h r0 x1 H locs ls hR hS hl hf; exact s_X2_dropBounds_b2 C0 hxt ih h r0 x1 H locs ls hR hS hl (show f_X2_dropBounds_b2 (f_X2_dropBounds_L2 n) h r0 x1 = some z from hf)
set_option maxRecDepth 100000 in
set_option maxHeartbeats 4000000 in
theorem ct_X2_dropBounds (E : XE) (l : Launch) (hl0 : l.stackTraces = false) (h : HP) (r0 : Nat) : x_ct E l yX2_dropBounds (Cond.code yX2_dropBounds cX2_dropBounds 2 none) 8 130 0 0 [.ref (xa E r0)] h (f_X2_dropBounds h r0) := by
  refine x_ofW hl0 (by decide +kernel) ?_
  intro z hf p e s m args below meth c C0 hxt hargs hR
  subst hargs
  have C0 : x_C E p l s m meth c ([.ref (xa E r0)] : List Value).toArray cX2_dropBounds 2 "GridEngine$Filling" "dropBounds" none := C0
  obtain ⟨hx, hb, -⟩ := id C0
  have hS : va_S (x_A E) s.heap s.heap [] := va_S.rf
  have hl := lv_entry ([.ref (xa E r0)]) (n := 2) (Nat.le_of_ble_eq_true rfl)
  rw [lg_entry_eq]
  generalize (lg_sl ([.ref (xa E r0)]) ++ List.replicate (2 - (lg_sl ([.ref (xa E r0)])).length) Slot.unset).toArray = ls at hl ⊢
  have hl : lv_has ls 2 [(0, .ref (xa E r0))] := hl
  unfold f_X2_dropBounds at hf
  have h0 : x_by cX2_dropBounds 0 [3, 60] := by unfold x_by; decide +kernel
  obtain ⟨d0, h0⟩ := de_iconst_0 h0
  obtain ⟨d1, h0⟩ := de_istore_n1 h0
  refine lv_iconst (v := 0) hx hb d0 (by decide) ?_
  refine lv_istore_n (lv' := [(1, .int 0), (0, .ref (xa E r0))]) hx hb d1 rfl hl (by decide) rfl (fun ls hl => ?_)
  exact s_X2_dropBounds_L2 C0 hxt FU _ _ _ _ _ _ hR hS (lv_sub hl [1, 0] rfl) hf
def f_X2_isAhead_b43  (h : HP) (t0 : Int32) : Option XR :=
  x_rZ h t0
def f_X2_isAhead (h : HP) (r0 : Nat) (x1 : Int32) (x2 : Int32) : Option XR :=
  x_gR h r0 2 3 fun a1 =>
  x_aI h 100 a1 x1 fun i2 =>
  x_gR h r0 2 1 fun a3 =>
  x_aI h 100 a3 x2 fun i4 =>
  x_gR h r0 2 3 fun a5 =>
  x_aI h 100 a5 x2 fun i6 =>
  x_gR h r0 2 1 fun a7 =>
  x_aI h 100 a7 x1 fun i8 =>
  if 0 ≤ (lg_cmp (((i2 : Int32).toInt64 + 1) * (i4 : Int32).toInt64) (((i6 : Int32).toInt64 + 1) * (i8 : Int32).toInt64)) then
    (
      f_X2_isAhead_b43 h 0
    )
  else
    (
      f_X2_isAhead_b43 h 1
    )
set_option maxRecDepth 100000 in
set_option maxHeartbeats 4000000 in
theorem s_X2_isAhead_b43 {p : Program} {l : Launch} {e : Env} {s : State} {m : MethodId} {args : Array Value} {below : List Frame} {meth : Method} {c : Code} {E : XE} {z : XR} (C0 : x_C E p l s m meth c args cX2_isAhead 3 "GridEngine$Filling" "isAhead" (some .boolean)) (hxt : ∀ x ∈ c.exceptionTable.toList, False)  : ∀ (h : HP) (t0 : Int32) (H : Heap) (locs : List Loc) (ls : Array Slot), x_Rep E h H → va_S (x_A E) s.heap H locs → lv_has ls 3 [] → f_X2_isAhead_b43 h t0 = some z → W p l e ({ frames := 8, cells := 0, slots := 0, locals := 130 } : Room) s m args below meth c H locs 0 0 (x_Q E below args s 0 0 z) (F0 m 43 ls [.int t0]) := by
  intro h t0 H locs ls hR hS hl hf
  obtain ⟨hx, hb, -⟩ := id C0
  unfold f_X2_isAhead_b43 at hf
  have h0 : x_by cX2_isAhead 43 [172] := by unfold x_by; decide +kernel
  obtain ⟨d43, h0⟩ := de_ireturn h0
  exact x_zret C0 hR hS hf (Nat.le_of_ble_eq_true rfl) (Nat.le_of_ble_eq_true rfl) d43
set_option maxRecDepth 100000 in
set_option maxHeartbeats 4000000 in
theorem ct_X2_isAhead (E : XE) (l : Launch) (hl0 : l.stackTraces = false) (h : HP) (r0 : Nat) (x1 : Int32) (x2 : Int32) : x_ct E l yX2_isAhead (Cond.code yX2_isAhead cX2_isAhead 3 (some .boolean)) 8 130 0 0 [.ref (xa E r0), .int x1, .int x2] h (f_X2_isAhead h r0 x1 x2) := by
  refine x_ofW hl0 (by decide +kernel) ?_
  intro z hf p e s m args below meth c C0 hxt hargs hR
  subst hargs
  have C0 : x_C E p l s m meth c ([.ref (xa E r0), .int x1, .int x2] : List Value).toArray cX2_isAhead 3 "GridEngine$Filling" "isAhead" (some .boolean) := C0
  obtain ⟨hx, hb, -⟩ := id C0
  have hS : va_S (x_A E) s.heap s.heap [] := va_S.rf
  have hl := lv_entry ([.ref (xa E r0), .int x1, .int x2]) (n := 3) (Nat.le_of_ble_eq_true rfl)
  rw [lg_entry_eq]
  generalize (lg_sl ([.ref (xa E r0), .int x1, .int x2]) ++ List.replicate (3 - (lg_sl ([.ref (xa E r0), .int x1, .int x2])).length) Slot.unset).toArray = ls at hl ⊢
  have hl : lv_has ls 3 [(0, .ref (xa E r0)), (1, .int x1), (2, .int x2)] := hl
  unfold f_X2_isAhead at hf
  have h0 : x_by cX2_isAhead 0 [42, 180, 0, 21, 27, 46, 133, 10, 97, 42, 180, 0, 15, 28, 46, 133, 105, 42, 180, 0, 21, 28, 46, 133, 10, 97, 42, 180, 0, 15, 27, 46, 133, 105, 148, 156, 0, 7] := by unfold x_by; decide +kernel
  obtain ⟨d0, h0⟩ := de_aload_n0 h0
  obtain ⟨d1, h0⟩ := de_getfield 21 (by decide) h0
  obtain ⟨d4, h0⟩ := de_iload_n1 h0
  obtain ⟨d5, h0⟩ := de_iaload h0
  obtain ⟨d6, h0⟩ := de_i2l h0
  obtain ⟨d7, h0⟩ := de_lconst_1 h0
  obtain ⟨d8, h0⟩ := de_ladd h0
  obtain ⟨d9, h0⟩ := de_aload_n0 h0
  obtain ⟨d10, h0⟩ := de_getfield 15 (by decide) h0
  obtain ⟨d13, h0⟩ := de_iload_n2 h0
  obtain ⟨d14, h0⟩ := de_iaload h0
  obtain ⟨d15, h0⟩ := de_i2l h0
  obtain ⟨d16, h0⟩ := de_lmul h0
  obtain ⟨d17, h0⟩ := de_aload_n0 h0
  obtain ⟨d18, h0⟩ := de_getfield 21 (by decide) h0
  obtain ⟨d21, h0⟩ := de_iload_n2 h0
  obtain ⟨d22, h0⟩ := de_iaload h0
  obtain ⟨d23, h0⟩ := de_i2l h0
  obtain ⟨d24, h0⟩ := de_lconst_1 h0
  obtain ⟨d25, h0⟩ := de_ladd h0
  obtain ⟨d26, h0⟩ := de_aload_n0 h0
  obtain ⟨d27, h0⟩ := de_getfield 15 (by decide) h0
  obtain ⟨d30, h0⟩ := de_iload_n1 h0
  obtain ⟨d31, h0⟩ := de_iaload h0
  obtain ⟨d32, h0⟩ := de_i2l h0
  obtain ⟨d33, h0⟩ := de_lmul h0
  obtain ⟨d34, h0⟩ := de_lcmp h0
  obtain ⟨d35, h0⟩ := de_if_ge (7) (by decide) h0
  refine lv_aload_n hx hb d0 rfl (lv_at hl 0 rfl) ?_
  refine x_getR C0 hR hf xcl_2 (Nat.le_of_ble_eq_true rfl) rfl fl_X2_21 d1 (fun a1 hf => ?_)
  refine lv_iload_n hx hb d4 rfl (lv_at hl 1 rfl) ?_
  refine x_iald C0 hR hf d5 (fun i2 hf => ?_)
  refine lv_i2l hx hb d6 rfl ?_
  refine lv_lconst (v := 1) hx hb d7 (by decide) ?_
  refine lv_ladd hx hb d8 ?_
  refine lv_aload_n hx hb d9 rfl (lv_at hl 0 rfl) ?_
  refine x_getR C0 hR hf xcl_2 (Nat.le_of_ble_eq_true rfl) rfl fl_X2_15 d10 (fun a3 hf => ?_)
  refine lv_iload_n hx hb d13 rfl (lv_at hl 2 rfl) ?_
  refine x_iald C0 hR hf d14 (fun i4 hf => ?_)
  refine lv_i2l hx hb d15 rfl ?_
  refine lv_lmul hx hb d16 ?_
  refine lv_aload_n hx hb d17 rfl (lv_at hl 0 rfl) ?_
  refine x_getR C0 hR hf xcl_2 (Nat.le_of_ble_eq_true rfl) rfl fl_X2_21 d18 (fun a5 hf => ?_)
  refine lv_iload_n hx hb d21 rfl (lv_at hl 2 rfl) ?_
  refine x_iald C0 hR hf d22 (fun i6 hf => ?_)
  refine lv_i2l hx hb d23 rfl ?_
  refine lv_lconst (v := 1) hx hb d24 (by decide) ?_
  refine lv_ladd hx hb d25 ?_
  refine lv_aload_n hx hb d26 rfl (lv_at hl 0 rfl) ?_
  refine x_getR C0 hR hf xcl_2 (Nat.le_of_ble_eq_true rfl) rfl fl_X2_15 d27 (fun a7 hf => ?_)
  refine lv_iload_n hx hb d30 rfl (lv_at hl 1 rfl) ?_
  refine x_iald C0 hR hf d31 (fun i8 hf => ?_)
  refine lv_i2l hx hb d32 rfl ?_
  refine lv_lmul hx hb d33 ?_
  refine W.lcmp hx hb d34 ?_
  refine lv_if_ge (tgt := 42) hx hb d35 (by decide) (fun q => ?_) (fun q => ?_)
  · have hf := x_pos q hf
    have h0 : x_by cX2_isAhead 42 [3] := by unfold x_by; decide +kernel
    obtain ⟨d42, h0⟩ := de_iconst_0 h0
    refine lv_iconst (v := 0) hx hb d42 (by decide) ?_
    exact s_X2_isAhead_b43 C0 hxt _ _ _ _ _ hR hS (lv_sub hl [] rfl) hf
  · have hf := x_neg q hf
    have h0 : x_by cX2_isAhead 38 [4, 167, 0, 4] := by unfold x_by; decide +kernel
    obtain ⟨d38, h0⟩ := de_iconst_1 h0
    obtain ⟨d39, h0⟩ := de_goto (4) (by decide) h0
    refine lv_iconst (v := 1) hx hb d38 (by decide) ?_
    refine lv_goto (tgt := 43) hx hb d39 (by decide) ?_
    exact s_X2_isAhead_b43 C0 hxt _ _ _ _ _ hR hS (lv_sub hl [] rfl) hf
def f_X2_nextPlace_b42 (k4 : HP → Nat → Int32 → Int32 → Option XR) (h : HP) (r0 : Nat) (x1 : Int32) (x2 : Int32) : Option XR :=
  k4 h r0 x1 (x2 + 1)
def f_X2_nextPlace_b40 (k4 : HP → Nat → Int32 → Int32 → Option XR) (h : HP) (r0 : Nat) (x2 : Int32) : Option XR :=
  f_X2_nextPlace_b42 k4 h r0 x2 x2
def f_X2_nextPlace_b4 (k4 : HP → Nat → Int32 → Int32 → Option XR) (h : HP) (r0 : Nat) (x1 : Int32) (x2 : Int32) : Option XR :=
  x_gI h r0 2 4 fun i1 =>
  if i1 ≤ x2 then
    (
      some (h, xi x1)
    )
  else
    (
      x_gR h r0 2 3 fun a2 =>
      x_aI h 100 a2 x2 fun i3 =>
      x_gR h r0 2 2 fun a4 =>
      x_aI h 100 a4 x2 fun i5 =>
      if i5 ≤ i3 then
        (
          f_X2_nextPlace_b42 k4 h r0 x1 x2
        )
      else
        (
          if x1 < 0 then
            (
              f_X2_nextPlace_b40 k4 h r0 x2
            )
          else
            (
              x_rc h r0 2 <| x_cI (f_X2_isAhead h r0 x2 x1) fun h7 i6 =>
              if i6 = 0 then
                (
                  f_X2_nextPlace_b42 k4 h7 r0 x1 x2
                )
              else
                (
                  f_X2_nextPlace_b40 k4 h7 r0 x2
                )
            )
        )
    )
def f_X2_nextPlace_L4  : Nat → HP → Nat → Int32 → Int32 → Option XR
  | 0 => fun _ _ _ _ => none
  | n + 1 => f_X2_nextPlace_b4 (f_X2_nextPlace_L4 n)
def f_X2_nextPlace (h : HP) (r0 : Nat) : Option XR :=
  f_X2_nextPlace_L4 FU h r0 (-1) 0
set_option maxRecDepth 100000 in
set_option maxHeartbeats 4000000 in
theorem s_X2_nextPlace_b42 {p : Program} {l : Launch} {e : Env} {s : State} {m : MethodId} {args : Array Value} {below : List Frame} {meth : Method} {c : Code} {E : XE} {z : XR} (C0 : x_C E p l s m meth c args cX2_nextPlace 3 "GridEngine$Filling" "nextPlace" (some .int)) (hxt : ∀ x ∈ c.exceptionTable.toList, False) {k4 : HP → Nat → Int32 → Int32 → Option XR} (hk4 : ∀ (h : HP) (r0 : Nat) (x1 : Int32) (x2 : Int32) (H : Heap) (locs : List Loc) (ls : Array Slot), x_Rep E h H → va_S (x_A E) s.heap H locs → lv_has ls 3 [(0, .ref (xa E r0)), (1, .int x1), (2, .int x2)] → k4 h r0 x1 x2 = some z → W p l e ({ frames := 9, cells := 0, slots := 0, locals := 152 } : Room) s m args below meth c H locs 0 0 (x_Q E below args s 0 0 z) (F0 m 4 ls [])) : ∀ (h : HP) (r0 : Nat) (x1 : Int32) (x2 : Int32) (H : Heap) (locs : List Loc) (ls : Array Slot), x_Rep E h H → va_S (x_A E) s.heap H locs → lv_has ls 3 [(0, .ref (xa E r0)), (1, .int x1), (2, .int x2)] → f_X2_nextPlace_b42 k4 h r0 x1 x2 = some z → W p l e ({ frames := 9, cells := 0, slots := 0, locals := 152 } : Room) s m args below meth c H locs 0 0 (x_Q E below args s 0 0 z) (F0 m 42 ls []) := by
  intro h r0 x1 x2 H locs ls hR hS hl hf
  obtain ⟨hx, hb, -⟩ := id C0
  unfold f_X2_nextPlace_b42 at hf
  have h0 : x_by cX2_nextPlace 42 [132, 2, 1, 167, 255, 215] := by unfold x_by; decide +kernel
  obtain ⟨d42, h0⟩ := de_iinc (1) (by decide) h0
  obtain ⟨d45, h0⟩ := de_goto (-41) (by decide) h0
  refine lv_iinc (v := (x2 + 1)) (lv' := [(2, .int (x2 + 1)), (0, .ref (xa E r0)), (1, .int x1)]) hx hb d42 hl (k := 2) rfl rfl (by decide) rfl (fun ls hl => ?_)
  refine lv_goto (tgt := 4) hx hb d45 (by decide) ?_
  exact hk4 _ _ _ _ _ _ _ hR hS (lv_sub hl [1, 2, 0] rfl) hf
set_option maxRecDepth 100000 in
set_option maxHeartbeats 4000000 in
theorem s_X2_nextPlace_b40 {p : Program} {l : Launch} {e : Env} {s : State} {m : MethodId} {args : Array Value} {below : List Frame} {meth : Method} {c : Code} {E : XE} {z : XR} (C0 : x_C E p l s m meth c args cX2_nextPlace 3 "GridEngine$Filling" "nextPlace" (some .int)) (hxt : ∀ x ∈ c.exceptionTable.toList, False) {k4 : HP → Nat → Int32 → Int32 → Option XR} (hk4 : ∀ (h : HP) (r0 : Nat) (x1 : Int32) (x2 : Int32) (H : Heap) (locs : List Loc) (ls : Array Slot), x_Rep E h H → va_S (x_A E) s.heap H locs → lv_has ls 3 [(0, .ref (xa E r0)), (1, .int x1), (2, .int x2)] → k4 h r0 x1 x2 = some z → W p l e ({ frames := 9, cells := 0, slots := 0, locals := 152 } : Room) s m args below meth c H locs 0 0 (x_Q E below args s 0 0 z) (F0 m 4 ls [])) : ∀ (h : HP) (r0 : Nat) (x2 : Int32) (H : Heap) (locs : List Loc) (ls : Array Slot), x_Rep E h H → va_S (x_A E) s.heap H locs → lv_has ls 3 [(0, .ref (xa E r0)), (2, .int x2)] → f_X2_nextPlace_b40 k4 h r0 x2 = some z → W p l e ({ frames := 9, cells := 0, slots := 0, locals := 152 } : Room) s m args below meth c H locs 0 0 (x_Q E below args s 0 0 z) (F0 m 40 ls []) := by
  intro h r0 x2 H locs ls hR hS hl hf
  obtain ⟨hx, hb, -⟩ := id C0
  unfold f_X2_nextPlace_b40 at hf
  have h0 : x_by cX2_nextPlace 40 [28, 60] := by unfold x_by; decide +kernel
  obtain ⟨d40, h0⟩ := de_iload_n2 h0
  obtain ⟨d41, h0⟩ := de_istore_n1 h0
  refine lv_iload_n hx hb d40 rfl (lv_at hl 1 rfl) ?_
  refine lv_istore_n (lv' := [(1, .int x2), (0, .ref (xa E r0)), (2, .int x2)]) hx hb d41 rfl hl (by decide) rfl (fun ls hl => ?_)
  exact s_X2_nextPlace_b42 C0 hxt hk4 _ _ _ _ _ _ _ hR hS (lv_sub hl [1, 0, 2] rfl) hf
set_option maxRecDepth 100000 in
set_option maxHeartbeats 4000000 in
theorem s_X2_nextPlace_b4 {p : Program} {l : Launch} {e : Env} {s : State} {m : MethodId} {args : Array Value} {below : List Frame} {meth : Method} {c : Code} {E : XE} {z : XR} (C0 : x_C E p l s m meth c args cX2_nextPlace 3 "GridEngine$Filling" "nextPlace" (some .int)) (hxt : ∀ x ∈ c.exceptionTable.toList, False) {k4 : HP → Nat → Int32 → Int32 → Option XR} (hk4 : ∀ (h : HP) (r0 : Nat) (x1 : Int32) (x2 : Int32) (H : Heap) (locs : List Loc) (ls : Array Slot), x_Rep E h H → va_S (x_A E) s.heap H locs → lv_has ls 3 [(0, .ref (xa E r0)), (1, .int x1), (2, .int x2)] → k4 h r0 x1 x2 = some z → W p l e ({ frames := 9, cells := 0, slots := 0, locals := 152 } : Room) s m args below meth c H locs 0 0 (x_Q E below args s 0 0 z) (F0 m 4 ls [])) : ∀ (h : HP) (r0 : Nat) (x1 : Int32) (x2 : Int32) (H : Heap) (locs : List Loc) (ls : Array Slot), x_Rep E h H → va_S (x_A E) s.heap H locs → lv_has ls 3 [(0, .ref (xa E r0)), (1, .int x1), (2, .int x2)] → f_X2_nextPlace_b4 k4 h r0 x1 x2 = some z → W p l e ({ frames := 9, cells := 0, slots := 0, locals := 152 } : Room) s m args below meth c H locs 0 0 (x_Q E below args s 0 0 z) (F0 m 4 ls []) := by
  intro h r0 x1 x2 H locs ls hR hS hl hf
  obtain ⟨hx, hb, -⟩ := id C0
  unfold f_X2_nextPlace_b4 at hf
  have h0 : x_by cX2_nextPlace 4 [28, 42, 180, 0, 24, 162, 0, 39] := by unfold x_by; decide +kernel
  obtain ⟨d4, h0⟩ := de_iload_n2 h0
  obtain ⟨d5, h0⟩ := de_aload_n0 h0
  obtain ⟨d6, h0⟩ := de_getfield 24 (by decide) h0
  obtain ⟨d9, h0⟩ := de_icmp_ge (39) (by decide) h0
  refine lv_iload_n hx hb d4 rfl (lv_at hl 2 rfl) ?_
  refine lv_aload_n hx hb d5 rfl (lv_at hl 0 rfl) ?_
  refine x_getI C0 hR hf xcl_2 (Nat.le_of_ble_eq_true rfl) rfl fl_X2_24 d6 (fun i1 hf => ?_)
  refine lv_icmp_ge (tgt := 48) hx hb d9 (by decide) (fun q => ?_) (fun q => ?_)
  · have hf := x_pos q hf
    have h0 : x_by cX2_nextPlace 48 [27, 172] := by unfold x_by; decide +kernel
    obtain ⟨d48, h0⟩ := de_iload_n1 h0
    obtain ⟨d49, h0⟩ := de_ireturn h0
    refine lv_iload_n hx hb d48 rfl (lv_at hl 1 rfl) ?_
    exact x_iret C0 hR hS hf (Nat.le_of_ble_eq_true rfl) (Nat.le_of_ble_eq_true rfl) d49
  · have hf := x_neg q hf
    have h0 : x_by cX2_nextPlace 12 [42, 180, 0, 21, 28, 46, 42, 180, 0, 18, 28, 46, 162, 0, 18] := by unfold x_by; decide +kernel
    obtain ⟨d12, h0⟩ := de_aload_n0 h0
    obtain ⟨d13, h0⟩ := de_getfield 21 (by decide) h0
    obtain ⟨d16, h0⟩ := de_iload_n2 h0
    obtain ⟨d17, h0⟩ := de_iaload h0
    obtain ⟨d18, h0⟩ := de_aload_n0 h0
    obtain ⟨d19, h0⟩ := de_getfield 18 (by decide) h0
    obtain ⟨d22, h0⟩ := de_iload_n2 h0
    obtain ⟨d23, h0⟩ := de_iaload h0
    obtain ⟨d24, h0⟩ := de_icmp_ge (18) (by decide) h0
    refine lv_aload_n hx hb d12 rfl (lv_at hl 0 rfl) ?_
    refine x_getR C0 hR hf xcl_2 (Nat.le_of_ble_eq_true rfl) rfl fl_X2_21 d13 (fun a2 hf => ?_)
    refine lv_iload_n hx hb d16 rfl (lv_at hl 2 rfl) ?_
    refine x_iald C0 hR hf d17 (fun i3 hf => ?_)
    refine lv_aload_n hx hb d18 rfl (lv_at hl 0 rfl) ?_
    refine x_getR C0 hR hf xcl_2 (Nat.le_of_ble_eq_true rfl) rfl fl_X2_18 d19 (fun a4 hf => ?_)
    refine lv_iload_n hx hb d22 rfl (lv_at hl 2 rfl) ?_
    refine x_iald C0 hR hf d23 (fun i5 hf => ?_)
    refine lv_icmp_ge (tgt := 42) hx hb d24 (by decide) (fun q => ?_) (fun q => ?_)
    · have hf := x_pos q hf
      exact s_X2_nextPlace_b42 C0 hxt hk4 _ _ _ _ _ _ _ hR hS (lv_sub hl [0, 1, 2] rfl) hf
    · have hf := x_neg q hf
      have h0 : x_by cX2_nextPlace 27 [27, 155, 0, 12] := by unfold x_by; decide +kernel
      obtain ⟨d27, h0⟩ := de_iload_n1 h0
      obtain ⟨d28, h0⟩ := de_if_lt (12) (by decide) h0
      refine lv_iload_n hx hb d27 rfl (lv_at hl 1 rfl) ?_
      refine lv_if_lt (tgt := 40) hx hb d28 (by decide) (fun q => ?_) (fun q => ?_)
      · have hf := x_pos q hf
        exact s_X2_nextPlace_b40 C0 hxt hk4 _ _ _ _ _ _ hR hS (lv_sub hl [0, 2] rfl) hf
      · have hf := x_neg q hf
        have h0 : x_by cX2_nextPlace 31 [42, 28, 27, 182, 0, 53, 153, 0, 5] := by unfold x_by; decide +kernel
        obtain ⟨d31, h0⟩ := de_aload_n0 h0
        obtain ⟨d32, h0⟩ := de_iload_n2 h0
        obtain ⟨d33, h0⟩ := de_iload_n1 h0
        obtain ⟨d34, h0⟩ := de_invokevirtual 53 (by decide) h0
        obtain ⟨d37, h0⟩ := de_if_eq (5) (by decide) h0
        refine lv_aload_n hx hb d31 rfl (lv_at hl 0 rfl) ?_
        refine lv_iload_n hx hb d32 rfl (lv_at hl 2 rfl) ?_
        refine lv_iload_n hx hb d33 rfl (lv_at hl 1 rfl) ?_
        obtain ⟨hs9, hf⟩ := x_if hf
        refine x_thenI C0 hxt hS hf (fun z0 e0 => x_runV C0 hR hS me_X2_isAhead wi_X2_isAhead wl_X2_isAhead ml_X2_53 hs9 xcl_2 (As := [.int x2, .int x1]) (ct_X2_isAhead E l C0.2.2.2.2.2.2.2.1 _ r0 x2 x1) rfl rfl hl.1 (Nat.le_of_ble_eq_true rfl) d34 ⟨(Nat.le_of_ble_eq_true rfl), (Nat.le_of_ble_eq_true rfl)⟩ ⟨(Nat.le_of_ble_eq_true rfl), (Nat.le_of_ble_eq_true rfl)⟩ e0) (Nat.le_of_ble_eq_true rfl) (Nat.le_of_ble_eq_true rfl) (fun h9 i6 H locs hR hS hf => ?_)
        refine lv_if_eq (tgt := 42) hx hb d37 (by decide) (fun q => ?_) (fun q => ?_)
        · have hf := x_pos q hf
          exact s_X2_nextPlace_b42 C0 hxt hk4 _ _ _ _ _ _ _ hR hS (lv_sub hl [0, 1, 2] rfl) hf
        · have hf := x_neg q hf
          exact s_X2_nextPlace_b40 C0 hxt hk4 _ _ _ _ _ _ hR hS (lv_sub hl [0, 2] rfl) hf
theorem s_X2_nextPlace_L4 {p : Program} {l : Launch} {e : Env} {s : State} {m : MethodId} {args : Array Value} {below : List Frame} {meth : Method} {c : Code} {E : XE} {z : XR} (C0 : x_C E p l s m meth c args cX2_nextPlace 3 "GridEngine$Filling" "nextPlace" (some .int)) (hxt : ∀ x ∈ c.exceptionTable.toList, False)  : ∀ n : Nat, ∀ (h : HP) (r0 : Nat) (x1 : Int32) (x2 : Int32) (H : Heap) (locs : List Loc) (ls : Array Slot), x_Rep E h H → va_S (x_A E) s.heap H locs → lv_has ls 3 [(0, .ref (xa E r0)), (1, .int x1), (2, .int x2)] → f_X2_nextPlace_L4 n h r0 x1 x2 = some z → W p l e ({ frames := 9, cells := 0, slots := 0, locals := 152 } : Room) s m args below meth c H locs 0 0 (x_Q E below args s 0 0 z) (F0 m 4 ls []) := by
  intro n
  induction n with
  | zero => intro h r0 x1 x2 H locs ls hR hS hl hf; cases (show (none : Option XR) = some z from hf)
  | succ n ih => intro h r0 x1 x2 H locs ls hR hS hl hf; exact s_X2_nextPlace_b4 C0 hxt ih h r0 x1 x2 H locs ls hR hS hl (show f_X2_nextPlace_b4 (f_X2_nextPlace_L4 n) h r0 x1 x2 = some z from hf)
set_option maxRecDepth 100000 in
set_option maxHeartbeats 4000000 in
theorem ct_X2_nextPlace (E : XE) (l : Launch) (hl0 : l.stackTraces = false) (h : HP) (r0 : Nat) : x_ct E l yX2_nextPlace (Cond.code yX2_nextPlace cX2_nextPlace 3 (some .int)) 9 152 0 0 [.ref (xa E r0)] h (f_X2_nextPlace h r0) := by
  refine x_ofW hl0 (by decide +kernel) ?_
  intro z hf p e s m args below meth c C0 hxt hargs hR
  subst hargs
  have C0 : x_C E p l s m meth c ([.ref (xa E r0)] : List Value).toArray cX2_nextPlace 3 "GridEngine$Filling" "nextPlace" (some .int) := C0
  obtain ⟨hx, hb, -⟩ := id C0
  have hS : va_S (x_A E) s.heap s.heap [] := va_S.rf
  have hl := lv_entry ([.ref (xa E r0)]) (n := 3) (Nat.le_of_ble_eq_true rfl)
  rw [lg_entry_eq]
  generalize (lg_sl ([.ref (xa E r0)]) ++ List.replicate (3 - (lg_sl ([.ref (xa E r0)])).length) Slot.unset).toArray = ls at hl ⊢
  have hl : lv_has ls 3 [(0, .ref (xa E r0))] := hl
  unfold f_X2_nextPlace at hf
  have h0 : x_by cX2_nextPlace 0 [2, 60, 3, 61] := by unfold x_by; decide +kernel
  obtain ⟨d0, h0⟩ := de_iconst_m1 h0
  obtain ⟨d1, h0⟩ := de_istore_n1 h0
  obtain ⟨d2, h0⟩ := de_iconst_0 h0
  obtain ⟨d3, h0⟩ := de_istore_n2 h0
  refine lv_iconst (v := -1) hx hb d0 (by decide) ?_
  refine lv_istore_n (lv' := [(1, .int (-1)), (0, .ref (xa E r0))]) hx hb d1 rfl hl (by decide) rfl (fun ls hl => ?_)
  refine lv_iconst (v := 0) hx hb d2 (by decide) ?_
  refine lv_istore_n (lv' := [(2, .int 0), (1, .int (-1)), (0, .ref (xa E r0))]) hx hb d3 rfl hl (by decide) rfl (fun ls hl => ?_)
  exact s_X2_nextPlace_L4 C0 hxt FU _ _ _ _ _ _ _ hR hS (lv_sub hl [2, 1, 0] rfl) hf
def f_X2_missingPixels (h : HP) (r0 : Nat) (x1 : Int32) (x2 : Int32) : Option XR :=
  x_gR h r0 2 2 fun a1 =>
  x_aI h 100 a1 x1 fun i2 =>
  x_gR h r0 2 1 fun a3 =>
  x_aI h 100 a3 x1 fun i4 =>
  x_gR h r0 2 3 fun a5 =>
  x_aI h 100 a5 x1 fun i6 =>
  some (h, xi (if 0 < ((if (i4 * x2) < i2 then (i4 * x2) else i2) - i6) then ((if (i4 * x2) < i2 then (i4 * x2) else i2) - i6) else 0))
set_option maxRecDepth 100000 in
set_option maxHeartbeats 4000000 in
theorem ct_X2_missingPixels (E : XE) (l : Launch) (hl0 : l.stackTraces = false) (h : HP) (r0 : Nat) (x1 : Int32) (x2 : Int32) : x_ct E l yX2_missingPixels (Cond.code yX2_missingPixels cX2_missingPixels 3 (some .int)) 8 130 0 0 [.ref (xa E r0), .int x1, .int x2] h (f_X2_missingPixels h r0 x1 x2) := by
  refine x_ofW hl0 (by decide +kernel) ?_
  intro z hf p e s m args below meth c C0 hxt hargs hR
  subst hargs
  have C0 : x_C E p l s m meth c ([.ref (xa E r0), .int x1, .int x2] : List Value).toArray cX2_missingPixels 3 "GridEngine$Filling" "missingPixels" (some .int) := C0
  obtain ⟨hx, hb, -⟩ := id C0
  have hS : va_S (x_A E) s.heap s.heap [] := va_S.rf
  have hl := lv_entry ([.ref (xa E r0), .int x1, .int x2]) (n := 3) (Nat.le_of_ble_eq_true rfl)
  rw [lg_entry_eq]
  generalize (lg_sl ([.ref (xa E r0), .int x1, .int x2]) ++ List.replicate (3 - (lg_sl ([.ref (xa E r0), .int x1, .int x2])).length) Slot.unset).toArray = ls at hl ⊢
  have hl : lv_has ls 3 [(0, .ref (xa E r0)), (1, .int x1), (2, .int x2)] := hl
  unfold f_X2_missingPixels at hf
  have h0 : x_by cX2_missingPixels 0 [3, 42, 180, 0, 18, 27, 46, 42, 180, 0, 15, 27, 46, 28, 104, 184, 0, 50, 42, 180, 0, 21, 27, 46, 100, 184, 0, 28, 172] := by unfold x_by; decide +kernel
  obtain ⟨d0, h0⟩ := de_iconst_0 h0
  obtain ⟨d1, h0⟩ := de_aload_n0 h0
  obtain ⟨d2, h0⟩ := de_getfield 18 (by decide) h0
  obtain ⟨d5, h0⟩ := de_iload_n1 h0
  obtain ⟨d6, h0⟩ := de_iaload h0
  obtain ⟨d7, h0⟩ := de_aload_n0 h0
  obtain ⟨d8, h0⟩ := de_getfield 15 (by decide) h0
  obtain ⟨d11, h0⟩ := de_iload_n1 h0
  obtain ⟨d12, h0⟩ := de_iaload h0
  obtain ⟨d13, h0⟩ := de_iload_n2 h0
  obtain ⟨d14, h0⟩ := de_imul h0
  obtain ⟨d15, h0⟩ := de_invokestatic 50 (by decide) h0
  obtain ⟨d18, h0⟩ := de_aload_n0 h0
  obtain ⟨d19, h0⟩ := de_getfield 21 (by decide) h0
  obtain ⟨d22, h0⟩ := de_iload_n1 h0
  obtain ⟨d23, h0⟩ := de_iaload h0
  obtain ⟨d24, h0⟩ := de_isub h0
  obtain ⟨d25, h0⟩ := de_invokestatic 28 (by decide) h0
  obtain ⟨d28, h0⟩ := de_ireturn h0
  refine lv_iconst (v := 0) hx hb d0 (by decide) ?_
  refine lv_aload_n hx hb d1 rfl (lv_at hl 0 rfl) ?_
  refine x_getR C0 hR hf xcl_2 (Nat.le_of_ble_eq_true rfl) rfl fl_X2_18 d2 (fun a1 hf => ?_)
  refine lv_iload_n hx hb d5 rfl (lv_at hl 1 rfl) ?_
  refine x_iald C0 hR hf d6 (fun i2 hf => ?_)
  refine lv_aload_n hx hb d7 rfl (lv_at hl 0 rfl) ?_
  refine x_getR C0 hR hf xcl_2 (Nat.le_of_ble_eq_true rfl) rfl fl_X2_15 d8 (fun a3 hf => ?_)
  refine lv_iload_n hx hb d11 rfl (lv_at hl 1 rfl) ?_
  refine x_iald C0 hR hf d12 (fun i4 hf => ?_)
  refine lv_iload_n hx hb d13 rfl (lv_at hl 2 rfl) ?_
  refine lv_imul hx hb d14 ?_
  refine x_mmin C0 hl.1 ml_X2_50 lib_min (Nat.le_of_ble_eq_true rfl) (Nat.le_of_ble_eq_true rfl) (Nat.le_of_ble_eq_true rfl) (Nat.le_of_ble_eq_true rfl) d15 ?_
  refine lv_aload_n hx hb d18 rfl (lv_at hl 0 rfl) ?_
  refine x_getR C0 hR hf xcl_2 (Nat.le_of_ble_eq_true rfl) rfl fl_X2_21 d19 (fun a5 hf => ?_)
  refine lv_iload_n hx hb d22 rfl (lv_at hl 1 rfl) ?_
  refine x_iald C0 hR hf d23 (fun i6 hf => ?_)
  refine lv_isub hx hb d24 ?_
  refine x_mmax C0 hl.1 ml_X2_28 lib_max (Nat.le_of_ble_eq_true rfl) (Nat.le_of_ble_eq_true rfl) (Nat.le_of_ble_eq_true rfl) (Nat.le_of_ble_eq_true rfl) d25 ?_
  exact x_iret C0 hR hS hf (Nat.le_of_ble_eq_true rfl) (Nat.le_of_ble_eq_true rfl) d28
def f_X2_costOfLevel_b5 (k5 : HP → Nat → Int32 → Int64 → Int32 → Option XR) (h : HP) (r0 : Nat) (x1 : Int32) (y2 : Int64) (x4 : Int32) : Option XR :=
  x_gI h r0 2 4 fun i1 =>
  if i1 ≤ x4 then
    (
      some (h, xj y2)
    )
  else
    (
      x_rc h r0 2 <| x_cI (f_X2_missingPixels h r0 x4 x1) fun h3 i2 =>
      x_lJ (y2 + (i2 : Int32).toInt64) fun j4 =>
      k5 h3 r0 x1 j4 (x4 + 1)
    )
def f_X2_costOfLevel_L5  : Nat → HP → Nat → Int32 → Int64 → Int32 → Option XR
  | 0 => fun _ _ _ _ _ => none
  | n + 1 => f_X2_costOfLevel_b5 (f_X2_costOfLevel_L5 n)
def f_X2_costOfLevel (h : HP) (r0 : Nat) (x1 : Int32) : Option XR :=
  f_X2_costOfLevel_L5 FU h r0 x1 0 0
set_option maxRecDepth 100000 in
set_option maxHeartbeats 4000000 in
theorem s_X2_costOfLevel_b5 {p : Program} {l : Launch} {e : Env} {s : State} {m : MethodId} {args : Array Value} {below : List Frame} {meth : Method} {c : Code} {E : XE} {z : XR} (C0 : x_C E p l s m meth c args cX2_costOfLevel 5 "GridEngine$Filling" "costOfLevel" (some .long)) (hxt : ∀ x ∈ c.exceptionTable.toList, False) {k5 : HP → Nat → Int32 → Int64 → Int32 → Option XR} (hk5 : ∀ (h : HP) (r0 : Nat) (x1 : Int32) (y2 : Int64) (x4 : Int32) (H : Heap) (locs : List Loc) (ls : Array Slot), x_Rep E h H → va_S (x_A E) s.heap H locs → lv_has ls 5 [(0, .ref (xa E r0)), (1, .int x1), (2, .long y2), (4, .int x4)] → k5 h r0 x1 y2 x4 = some z → W p l e ({ frames := 9, cells := 0, slots := 0, locals := 152 } : Room) s m args below meth c H locs 0 0 (x_Q E below args s 0 0 z) (F0 m 5 ls [])) : ∀ (h : HP) (r0 : Nat) (x1 : Int32) (y2 : Int64) (x4 : Int32) (H : Heap) (locs : List Loc) (ls : Array Slot), x_Rep E h H → va_S (x_A E) s.heap H locs → lv_has ls 5 [(0, .ref (xa E r0)), (1, .int x1), (2, .long y2), (4, .int x4)] → f_X2_costOfLevel_b5 k5 h r0 x1 y2 x4 = some z → W p l e ({ frames := 9, cells := 0, slots := 0, locals := 152 } : Room) s m args below meth c H locs 0 0 (x_Q E below args s 0 0 z) (F0 m 5 ls []) := by
  intro h r0 x1 y2 x4 H locs ls hR hS hl hf
  obtain ⟨hx, hb, -⟩ := id C0
  unfold f_X2_costOfLevel_b5 at hf
  have h0 : x_by cX2_costOfLevel 5 [21, 4, 42, 180, 0, 24, 162, 0, 20] := by unfold x_by; decide +kernel
  obtain ⟨d5, h0⟩ := de_iload h0
  obtain ⟨d7, h0⟩ := de_aload_n0 h0
  obtain ⟨d8, h0⟩ := de_getfield 24 (by decide) h0
  obtain ⟨d11, h0⟩ := de_icmp_ge (20) (by decide) h0
  refine lv_iload hx hb d5 (lv_at hl 3 rfl) ?_
  refine lv_aload_n hx hb d7 rfl (lv_at hl 0 rfl) ?_
  refine x_getI C0 hR hf xcl_2 (Nat.le_of_ble_eq_true rfl) rfl fl_X2_24 d8 (fun i1 hf => ?_)
  refine lv_icmp_ge (tgt := 31) hx hb d11 (by decide) (fun q => ?_) (fun q => ?_)
  · have hf := x_pos q hf
    have h0 : x_by cX2_costOfLevel 31 [32, 173] := by unfold x_by; decide +kernel
    obtain ⟨d31, h0⟩ := de_lload_n2 h0
    obtain ⟨d32, h0⟩ := de_lreturn h0
    refine lv_lload_n hx hb d31 rfl (lv_at hl 2 rfl) ?_
    exact x_lret C0 hR hS hf (Nat.le_of_ble_eq_true rfl) (Nat.le_of_ble_eq_true rfl) d32
  · have hf := x_neg q hf
    have h0 : x_by cX2_costOfLevel 14 [32, 42, 21, 4, 27, 182, 0, 47, 133, 97, 65, 132, 4, 1, 167, 255, 233] := by unfold x_by; decide +kernel
    obtain ⟨d14, h0⟩ := de_lload_n2 h0
    obtain ⟨d15, h0⟩ := de_aload_n0 h0
    obtain ⟨d16, h0⟩ := de_iload h0
    obtain ⟨d18, h0⟩ := de_iload_n1 h0
    obtain ⟨d19, h0⟩ := de_invokevirtual 47 (by decide) h0
    obtain ⟨d22, h0⟩ := de_i2l h0
    obtain ⟨d23, h0⟩ := de_ladd h0
    obtain ⟨d24, h0⟩ := de_lstore_n2 h0
    obtain ⟨d25, h0⟩ := de_iinc (1) (by decide) h0
    obtain ⟨d28, h0⟩ := de_goto (-23) (by decide) h0
    refine lv_lload_n hx hb d14 rfl (lv_at hl 2 rfl) ?_
    refine lv_aload_n hx hb d15 rfl (lv_at hl 0 rfl) ?_
    refine lv_iload hx hb d16 (lv_at hl 3 rfl) ?_
    refine lv_iload_n hx hb d18 rfl (lv_at hl 1 rfl) ?_
    obtain ⟨hs9, hf⟩ := x_if hf
    refine x_thenI C0 hxt hS hf (fun z0 e0 => x_runV C0 hR hS me_X2_missingPixels wi_X2_missingPixels wl_X2_missingPixels ml_X2_47 hs9 xcl_2 (As := [.int x4, .int x1]) (ct_X2_missingPixels E l C0.2.2.2.2.2.2.2.1 _ r0 x4 x1) rfl rfl hl.1 (Nat.le_of_ble_eq_true rfl) d19 ⟨(Nat.le_of_ble_eq_true rfl), (Nat.le_of_ble_eq_true rfl)⟩ ⟨(Nat.le_of_ble_eq_true rfl), (Nat.le_of_ble_eq_true rfl)⟩ e0) (Nat.le_of_ble_eq_true rfl) (Nat.le_of_ble_eq_true rfl) (fun h9 i2 H locs hR hS hf => ?_)
    refine lv_i2l hx hb d22 rfl ?_
    refine lv_ladd hx hb d23 ?_
    refine lv_topl (fun j4 ej4 => ?_)
    have hf := x_lJ_el ej4 hf
    refine lv_lstore_n (lv' := [(2, .long j4), (0, .ref (xa E r0)), (1, .int x1), (4, .int x4)]) hx hb d24 rfl hl (by decide) rfl (fun ls hl => ?_)
    refine lv_iinc (v := (x4 + 1)) (lv' := [(4, .int (x4 + 1)), (2, .long j4), (0, .ref (xa E r0)), (1, .int x1)]) hx hb d25 hl (k := 3) rfl rfl (by decide) rfl (fun ls hl => ?_)
    refine lv_goto (tgt := 5) hx hb d28 (by decide) ?_
    exact hk5 _ _ _ _ _ _ _ _ hR hS (lv_sub hl [2, 3, 1, 0] rfl) hf
theorem s_X2_costOfLevel_L5 {p : Program} {l : Launch} {e : Env} {s : State} {m : MethodId} {args : Array Value} {below : List Frame} {meth : Method} {c : Code} {E : XE} {z : XR} (C0 : x_C E p l s m meth c args cX2_costOfLevel 5 "GridEngine$Filling" "costOfLevel" (some .long)) (hxt : ∀ x ∈ c.exceptionTable.toList, False)  : ∀ n : Nat, ∀ (h : HP) (r0 : Nat) (x1 : Int32) (y2 : Int64) (x4 : Int32) (H : Heap) (locs : List Loc) (ls : Array Slot), x_Rep E h H → va_S (x_A E) s.heap H locs → lv_has ls 5 [(0, .ref (xa E r0)), (1, .int x1), (2, .long y2), (4, .int x4)] → f_X2_costOfLevel_L5 n h r0 x1 y2 x4 = some z → W p l e ({ frames := 9, cells := 0, slots := 0, locals := 152 } : Room) s m args below meth c H locs 0 0 (x_Q E below args s 0 0 z) (F0 m 5 ls []) := by
  intro n
  induction n with
  | zero => intro h r0 x1 y2 x4 H locs ls hR hS hl hf; cases (show (none : Option XR) = some z from hf)
  | succ n ih => intro h r0 x1 y2 x4 H locs ls hR hS hl hf; exact s_X2_costOfLevel_b5 C0 hxt ih h r0 x1 y2 x4 H locs ls hR hS hl (show f_X2_costOfLevel_b5 (f_X2_costOfLevel_L5 n) h r0 x1 y2 x4 = some z from hf)
set_option maxRecDepth 100000 in
set_option maxHeartbeats 4000000 in
theorem ct_X2_costOfLevel (E : XE) (l : Launch) (hl0 : l.stackTraces = false) (h : HP) (r0 : Nat) (x1 : Int32) : x_ct E l yX2_costOfLevel (Cond.code yX2_costOfLevel cX2_costOfLevel 5 (some .long)) 9 152 0 0 [.ref (xa E r0), .int x1] h (f_X2_costOfLevel h r0 x1) := by
  refine x_ofW hl0 (by decide +kernel) ?_
  intro z hf p e s m args below meth c C0 hxt hargs hR
  subst hargs
  have C0 : x_C E p l s m meth c ([.ref (xa E r0), .int x1] : List Value).toArray cX2_costOfLevel 5 "GridEngine$Filling" "costOfLevel" (some .long) := C0
  obtain ⟨hx, hb, -⟩ := id C0
  have hS : va_S (x_A E) s.heap s.heap [] := va_S.rf
  have hl := lv_entry ([.ref (xa E r0), .int x1]) (n := 5) (Nat.le_of_ble_eq_true rfl)
  rw [lg_entry_eq]
  generalize (lg_sl ([.ref (xa E r0), .int x1]) ++ List.replicate (5 - (lg_sl ([.ref (xa E r0), .int x1])).length) Slot.unset).toArray = ls at hl ⊢
  have hl : lv_has ls 5 [(0, .ref (xa E r0)), (1, .int x1)] := hl
  unfold f_X2_costOfLevel at hf
  have h0 : x_by cX2_costOfLevel 0 [9, 65, 3, 54, 4] := by unfold x_by; decide +kernel
  obtain ⟨d0, h0⟩ := de_lconst_0 h0
  obtain ⟨d1, h0⟩ := de_lstore_n2 h0
  obtain ⟨d2, h0⟩ := de_iconst_0 h0
  obtain ⟨d3, h0⟩ := de_istore h0
  refine lv_lconst (v := 0) hx hb d0 (by decide) ?_
  refine lv_lstore_n (lv' := [(2, .long 0), (0, .ref (xa E r0)), (1, .int x1)]) hx hb d1 rfl hl (by decide) rfl (fun ls hl => ?_)
  refine lv_iconst (v := 0) hx hb d2 (by decide) ?_
  refine lv_istore (lv' := [(4, .int 0), (2, .long 0), (0, .ref (xa E r0)), (1, .int x1)]) hx hb d3 hl (by decide) rfl (fun ls hl => ?_)
  exact s_X2_costOfLevel_L5 C0 hxt FU _ _ _ _ _ _ _ _ hR hS (lv_sub hl [2, 3, 1, 0] rfl) hf
def f_X2_pourLevels_b27 (k6 : HP → Nat → Int32 → Int32 → Int32 → Option XR) (h : HP) (r0 : Nat) (x1 : Int32) (x2 : Int32) (x3 : Int32) : Option XR :=
  x_dI 2 <|
  x_lI (x3 / 2) fun i1 =>
  k6 h r0 x1 x2 i1
def f_X2_pourLevels_b39 (k39 : HP → Nat → Int32 → Int32 → Int32 → Option XR) (h : HP) (r0 : Nat) (x2 : Int32) (x3 : Int32) (x4 : Int32) : Option XR :=
  x_gI h r0 2 4 fun i1 =>
  if i1 ≤ x4 then
    (
      some (h, xi x3)
    )
  else
    (
      x_rc h r0 2 <| x_cI (f_X2_missingPixels h r0 x4 x2) fun h3 i2 =>
      x_gR h3 r0 2 3 fun a4 =>
      x_aI h3 100 a4 x4 fun i5 =>
      x_sI h3 a4 x4 (i5 + i2) fun h6 =>
      x_lI (x3 + i2) fun i7 =>
      k39 h6 r0 x2 i7 (x4 + 1)
    )
def f_X2_pourLevels_L39  : Nat → HP → Nat → Int32 → Int32 → Int32 → Option XR
  | 0 => fun _ _ _ _ _ => none
  | n + 1 => f_X2_pourLevels_b39 (f_X2_pourLevels_L39 n)
def f_X2_pourLevels_b6 (k6 : HP → Nat → Int32 → Int32 → Int32 → Option XR) (h : HP) (r0 : Nat) (x1 : Int32) (x2 : Int32) (x3 : Int32) : Option XR :=
  if x3 ≤ 0 then
    (
      f_X2_pourLevels_L39 FU h r0 x2 0 0
    )
  else
    (
      x_rc h r0 2 <| x_cJ (f_X2_costOfLevel h r0 (x2 + x3)) fun h2 j1 =>
      if 0 < (lg_cmp j1 ((x1 : Int32).toInt64)) then
        (
          f_X2_pourLevels_b27 k6 h2 r0 x1 x2 x3
        )
      else
        (
          x_lI (x2 + x3) fun i3 =>
          f_X2_pourLevels_b27 k6 h2 r0 x1 i3 x3
        )
    )
def f_X2_pourLevels_L6  : Nat → HP → Nat → Int32 → Int32 → Int32 → Option XR
  | 0 => fun _ _ _ _ _ => none
  | n + 1 => f_X2_pourLevels_b6 (f_X2_pourLevels_L6 n)
def f_X2_pourLevels (h : HP) (r0 : Nat) (x1 : Int32) : Option XR :=
  f_X2_pourLevels_L6 FU h r0 x1 0 8192
set_option maxRecDepth 100000 in
set_option maxHeartbeats 4000000 in
theorem s_X2_pourLevels_b27 {p : Program} {l : Launch} {e : Env} {s : State} {m : MethodId} {args : Array Value} {below : List Frame} {meth : Method} {c : Code} {E : XE} {z : XR} (C0 : x_C E p l s m meth c args cX2_pourLevels 6 "GridEngine$Filling" "pourLevels" (some .int)) (hxt : ∀ x ∈ c.exceptionTable.toList, False) {k6 : HP → Nat → Int32 → Int32 → Int32 → Option XR} (hk6 : ∀ (h : HP) (r0 : Nat) (x1 : Int32) (x2 : Int32) (x3 : Int32) (H : Heap) (locs : List Loc) (ls : Array Slot), x_Rep E h H → va_S (x_A E) s.heap H locs → lv_has ls 6 [(0, .ref (xa E r0)), (1, .int x1), (2, .int x2), (3, .int x3)] → k6 h r0 x1 x2 x3 = some z → W p l e ({ frames := 10, cells := 0, slots := 0, locals := 176 } : Room) s m args below meth c H locs 0 0 (x_Q E below args s 0 0 z) (F0 m 6 ls [])) : ∀ (h : HP) (r0 : Nat) (x1 : Int32) (x2 : Int32) (x3 : Int32) (H : Heap) (locs : List Loc) (ls : Array Slot), x_Rep E h H → va_S (x_A E) s.heap H locs → lv_has ls 6 [(0, .ref (xa E r0)), (1, .int x1), (2, .int x2), (3, .int x3)] → f_X2_pourLevels_b27 k6 h r0 x1 x2 x3 = some z → W p l e ({ frames := 10, cells := 0, slots := 0, locals := 176 } : Room) s m args below meth c H locs 0 0 (x_Q E below args s 0 0 z) (F0 m 27 ls []) := by
  intro h r0 x1 x2 x3 H locs ls hR hS hl hf
  obtain ⟨hx, hb, -⟩ := id C0
  unfold f_X2_pourLevels_b27 at hf
  have h0 : x_by cX2_pourLevels 27 [29, 5, 108, 62, 167, 255, 231] := by unfold x_by; decide +kernel
  obtain ⟨d27, h0⟩ := de_iload_n3 h0
  obtain ⟨d28, h0⟩ := de_iconst_2 h0
  obtain ⟨d29, h0⟩ := de_idiv h0
  obtain ⟨d30, h0⟩ := de_istore_n3 h0
  obtain ⟨d31, h0⟩ := de_goto (-25) (by decide) h0
  refine lv_iload_n hx hb d27 rfl (lv_at hl 3 rfl) ?_
  refine lv_iconst (v := 2) hx hb d28 (by decide) ?_
  obtain ⟨hnz, hf⟩ := x_zd hf
  refine lv_idiv hx hb d29 hnz ?_
  refine lv_topi (fun i1 ei1 => ?_)
  have hf := x_lI_el ei1 hf
  refine lv_istore_n (lv' := [(3, .int i1), (0, .ref (xa E r0)), (1, .int x1), (2, .int x2)]) hx hb d30 rfl hl (by decide) rfl (fun ls hl => ?_)
  refine lv_goto (tgt := 6) hx hb d31 (by decide) ?_
  exact hk6 _ _ _ _ _ _ _ _ hR hS (lv_sub hl [1, 2, 3, 0] rfl) hf
set_option maxRecDepth 100000 in
set_option maxHeartbeats 4000000 in
theorem s_X2_pourLevels_b39 {p : Program} {l : Launch} {e : Env} {s : State} {m : MethodId} {args : Array Value} {below : List Frame} {meth : Method} {c : Code} {E : XE} {z : XR} (C0 : x_C E p l s m meth c args cX2_pourLevels 6 "GridEngine$Filling" "pourLevels" (some .int)) (hxt : ∀ x ∈ c.exceptionTable.toList, False) {k39 : HP → Nat → Int32 → Int32 → Int32 → Option XR} (hk39 : ∀ (h : HP) (r0 : Nat) (x2 : Int32) (x3 : Int32) (x4 : Int32) (H : Heap) (locs : List Loc) (ls : Array Slot), x_Rep E h H → va_S (x_A E) s.heap H locs → lv_has ls 6 [(0, .ref (xa E r0)), (2, .int x2), (3, .int x3), (4, .int x4)] → k39 h r0 x2 x3 x4 = some z → W p l e ({ frames := 10, cells := 0, slots := 0, locals := 176 } : Room) s m args below meth c H locs 0 0 (x_Q E below args s 0 0 z) (F0 m 39 ls [])) : ∀ (h : HP) (r0 : Nat) (x2 : Int32) (x3 : Int32) (x4 : Int32) (H : Heap) (locs : List Loc) (ls : Array Slot), x_Rep E h H → va_S (x_A E) s.heap H locs → lv_has ls 6 [(0, .ref (xa E r0)), (2, .int x2), (3, .int x3), (4, .int x4)] → f_X2_pourLevels_b39 k39 h r0 x2 x3 x4 = some z → W p l e ({ frames := 10, cells := 0, slots := 0, locals := 176 } : Room) s m args below meth c H locs 0 0 (x_Q E below args s 0 0 z) (F0 m 39 ls []) := by
  intro h r0 x2 x3 x4 H locs ls hR hS hl hf
  obtain ⟨hx, hb, -⟩ := id C0
  unfold f_X2_pourLevels_b39 at hf
  have h0 : x_by cX2_pourLevels 39 [21, 4, 42, 180, 0, 24, 162, 0, 35] := by unfold x_by; decide +kernel
  obtain ⟨d39, h0⟩ := de_iload h0
  obtain ⟨d41, h0⟩ := de_aload_n0 h0
  obtain ⟨d42, h0⟩ := de_getfield 24 (by decide) h0
  obtain ⟨d45, h0⟩ := de_icmp_ge (35) (by decide) h0
  refine lv_iload hx hb d39 (lv_at hl 3 rfl) ?_
  refine lv_aload_n hx hb d41 rfl (lv_at hl 0 rfl) ?_
  refine x_getI C0 hR hf xcl_2 (Nat.le_of_ble_eq_true rfl) rfl fl_X2_24 d42 (fun i1 hf => ?_)
  refine lv_icmp_ge (tgt := 80) hx hb d45 (by decide) (fun q => ?_) (fun q => ?_)
  · have hf := x_pos q hf
    have h0 : x_by cX2_pourLevels 80 [29, 172] := by unfold x_by; decide +kernel
    obtain ⟨d80, h0⟩ := de_iload_n3 h0
    obtain ⟨d81, h0⟩ := de_ireturn h0
    refine lv_iload_n hx hb d80 rfl (lv_at hl 2 rfl) ?_
    exact x_iret C0 hR hS hf (Nat.le_of_ble_eq_true rfl) (Nat.le_of_ble_eq_true rfl) d81
  · have hf := x_neg q hf
    have h0 : x_by cX2_pourLevels 48 [42, 21, 4, 28, 182, 0, 47, 54, 5, 42, 180, 0, 21, 21, 4, 92, 46, 21, 5, 96, 79, 29, 21, 5, 96, 62, 132, 4, 1, 167, 255, 218] := by unfold x_by; decide +kernel
    obtain ⟨d48, h0⟩ := de_aload_n0 h0
    obtain ⟨d49, h0⟩ := de_iload h0
    obtain ⟨d51, h0⟩ := de_iload_n2 h0
    obtain ⟨d52, h0⟩ := de_invokevirtual 47 (by decide) h0
    obtain ⟨d55, h0⟩ := de_istore h0
    obtain ⟨d57, h0⟩ := de_aload_n0 h0
    obtain ⟨d58, h0⟩ := de_getfield 21 (by decide) h0
    obtain ⟨d61, h0⟩ := de_iload h0
    obtain ⟨d63, h0⟩ := de_dup2 h0
    obtain ⟨d64, h0⟩ := de_iaload h0
    obtain ⟨d65, h0⟩ := de_iload h0
    obtain ⟨d67, h0⟩ := de_iadd h0
    obtain ⟨d68, h0⟩ := de_iastore h0
    obtain ⟨d69, h0⟩ := de_iload_n3 h0
    obtain ⟨d70, h0⟩ := de_iload h0
    obtain ⟨d72, h0⟩ := de_iadd h0
    obtain ⟨d73, h0⟩ := de_istore_n3 h0
    obtain ⟨d74, h0⟩ := de_iinc (1) (by decide) h0
    obtain ⟨d77, h0⟩ := de_goto (-38) (by decide) h0
    refine lv_aload_n hx hb d48 rfl (lv_at hl 0 rfl) ?_
    refine lv_iload hx hb d49 (lv_at hl 3 rfl) ?_
    refine lv_iload_n hx hb d51 rfl (lv_at hl 1 rfl) ?_
    obtain ⟨hs9, hf⟩ := x_if hf
    refine x_thenI C0 hxt hS hf (fun z0 e0 => x_runV C0 hR hS me_X2_missingPixels wi_X2_missingPixels wl_X2_missingPixels ml_X2_47 hs9 xcl_2 (As := [.int x4, .int x2]) (ct_X2_missingPixels E l C0.2.2.2.2.2.2.2.1 _ r0 x4 x2) rfl rfl hl.1 (Nat.le_of_ble_eq_true rfl) d52 ⟨(Nat.le_of_ble_eq_true rfl), (Nat.le_of_ble_eq_true rfl)⟩ ⟨(Nat.le_of_ble_eq_true rfl), (Nat.le_of_ble_eq_true rfl)⟩ e0) (Nat.le_of_ble_eq_true rfl) (Nat.le_of_ble_eq_true rfl) (fun h9 i2 H locs hR hS hf => ?_)
    refine lv_istore (lv' := [(5, .int i2), (0, .ref (xa E r0)), (2, .int x2), (3, .int x3), (4, .int x4)]) hx hb d55 hl (by decide) rfl (fun ls hl => ?_)
    refine lv_aload_n hx hb d57 rfl (lv_at hl 1 rfl) ?_
    refine x_getR C0 hR hf xcl_2 (Nat.le_of_ble_eq_true rfl) rfl fl_X2_21 d58 (fun a4 hf => ?_)
    refine lv_iload hx hb d61 (lv_at hl 4 rfl) ?_
    refine lv_dup2_11 hx hb d63 rfl rfl ?_
    refine x_iald C0 hR hf d64 (fun i5 hf => ?_)
    refine lv_iload hx hb d65 (lv_at hl 0 rfl) ?_
    refine lv_iadd hx hb d67 ?_
    refine x_iast C0 hR hS hf d68 (fun H locs hR hS hf => ?_)
    refine lv_iload_n hx hb d69 rfl (lv_at hl 3 rfl) ?_
    refine lv_iload hx hb d70 (lv_at hl 0 rfl) ?_
    refine lv_iadd hx hb d72 ?_
    refine lv_topi (fun i7 ei7 => ?_)
    have hf := x_lI_el ei7 hf
    refine lv_istore_n (lv' := [(3, .int i7), (5, .int i2), (0, .ref (xa E r0)), (2, .int x2), (4, .int x4)]) hx hb d73 rfl hl (by decide) rfl (fun ls hl => ?_)
    refine lv_iinc (v := (x4 + 1)) (lv' := [(4, .int (x4 + 1)), (3, .int i7), (5, .int i2), (0, .ref (xa E r0)), (2, .int x2)]) hx hb d74 hl (k := 4) rfl rfl (by decide) rfl (fun ls hl => ?_)
    refine lv_goto (tgt := 39) hx hb d77 (by decide) ?_
    exact hk39 _ _ _ _ _ _ _ _ hR hS (lv_sub hl [3, 4, 1, 0] rfl) hf
theorem s_X2_pourLevels_L39 {p : Program} {l : Launch} {e : Env} {s : State} {m : MethodId} {args : Array Value} {below : List Frame} {meth : Method} {c : Code} {E : XE} {z : XR} (C0 : x_C E p l s m meth c args cX2_pourLevels 6 "GridEngine$Filling" "pourLevels" (some .int)) (hxt : ∀ x ∈ c.exceptionTable.toList, False)  : ∀ n : Nat, ∀ (h : HP) (r0 : Nat) (x2 : Int32) (x3 : Int32) (x4 : Int32) (H : Heap) (locs : List Loc) (ls : Array Slot), x_Rep E h H → va_S (x_A E) s.heap H locs → lv_has ls 6 [(0, .ref (xa E r0)), (2, .int x2), (3, .int x3), (4, .int x4)] → f_X2_pourLevels_L39 n h r0 x2 x3 x4 = some z → W p l e ({ frames := 10, cells := 0, slots := 0, locals := 176 } : Room) s m args below meth c H locs 0 0 (x_Q E below args s 0 0 z) (F0 m 39 ls []) := by
  intro n
  induction n with
  | zero => intro h r0 x2 x3 x4 H locs ls hR hS hl hf; cases (show (none : Option XR) = some z from hf)
  | succ n ih => intro h r0 x2 x3 x4 H locs ls hR hS hl hf; exact s_X2_pourLevels_b39 C0 hxt ih h r0 x2 x3 x4 H locs ls hR hS hl (show f_X2_pourLevels_b39 (f_X2_pourLevels_L39 n) h r0 x2 x3 x4 = some z from hf)
set_option maxRecDepth 100000 in
set_option maxHeartbeats 4000000 in
theorem s_X2_pourLevels_b6 {p : Program} {l : Launch} {e : Env} {s : State} {m : MethodId} {args : Array Value} {below : List Frame} {meth : Method} {c : Code} {E : XE} {z : XR} (C0 : x_C E p l s m meth c args cX2_pourLevels 6 "GridEngine$Filling" "pourLevels" (some .int)) (hxt : ∀ x ∈ c.exceptionTable.toList, False) {k6 : HP → Nat → Int32 → Int32 → Int32 → Option XR} (hk6 : ∀ (h : HP) (r0 : Nat) (x1 : Int32) (x2 : Int32) (x3 : Int32) (H : Heap) (locs : List Loc) (ls : Array Slot), x_Rep E h H → va_S (x_A E) s.heap H locs → lv_has ls 6 [(0, .ref (xa E r0)), (1, .int x1), (2, .int x2), (3, .int x3)] → k6 h r0 x1 x2 x3 = some z → W p l e ({ frames := 10, cells := 0, slots := 0, locals := 176 } : Room) s m args below meth c H locs 0 0 (x_Q E below args s 0 0 z) (F0 m 6 ls [])) : ∀ (h : HP) (r0 : Nat) (x1 : Int32) (x2 : Int32) (x3 : Int32) (H : Heap) (locs : List Loc) (ls : Array Slot), x_Rep E h H → va_S (x_A E) s.heap H locs → lv_has ls 6 [(0, .ref (xa E r0)), (1, .int x1), (2, .int x2), (3, .int x3)] → f_X2_pourLevels_b6 k6 h r0 x1 x2 x3 = some z → W p l e ({ frames := 10, cells := 0, slots := 0, locals := 176 } : Room) s m args below meth c H locs 0 0 (x_Q E below args s 0 0 z) (F0 m 6 ls []) := by
  intro h r0 x1 x2 x3 H locs ls hR hS hl hf
  obtain ⟨hx, hb, -⟩ := id C0
  unfold f_X2_pourLevels_b6 at hf
  have h0 : x_by cX2_pourLevels 6 [29, 158, 0, 27] := by unfold x_by; decide +kernel
  obtain ⟨d6, h0⟩ := de_iload_n3 h0
  obtain ⟨d7, h0⟩ := de_if_le (27) (by decide) h0
  refine lv_iload_n hx hb d6 rfl (lv_at hl 3 rfl) ?_
  refine lv_if_le (tgt := 34) hx hb d7 (by decide) (fun q => ?_) (fun q => ?_)
  · have hf := x_pos q hf
    have h0 : x_by cX2_pourLevels 34 [3, 62, 3, 54, 4] := by unfold x_by; decide +kernel
    obtain ⟨d34, h0⟩ := de_iconst_0 h0
    obtain ⟨d35, h0⟩ := de_istore_n3 h0
    obtain ⟨d36, h0⟩ := de_iconst_0 h0
    obtain ⟨d37, h0⟩ := de_istore h0
    refine lv_iconst (v := 0) hx hb d34 (by decide) ?_
    refine lv_istore_n (lv' := [(3, .int 0), (0, .ref (xa E r0)), (1, .int x1), (2, .int x2)]) hx hb d35 rfl hl (by decide) rfl (fun ls hl => ?_)
    refine lv_iconst (v := 0) hx hb d36 (by decide) ?_
    refine lv_istore (lv' := [(4, .int 0), (3, .int 0), (0, .ref (xa E r0)), (1, .int x1), (2, .int x2)]) hx hb d37 hl (by decide) rfl (fun ls hl => ?_)
    exact s_X2_pourLevels_L39 C0 hxt FU _ _ _ _ _ _ _ _ hR hS (lv_sub hl [2, 4, 1, 0] rfl) hf
  · have hf := x_neg q hf
    have h0 : x_by cX2_pourLevels 10 [42, 28, 29, 96, 182, 0, 43, 27, 133, 148, 157, 0, 7] := by unfold x_by; decide +kernel
    obtain ⟨d10, h0⟩ := de_aload_n0 h0
    obtain ⟨d11, h0⟩ := de_iload_n2 h0
    obtain ⟨d12, h0⟩ := de_iload_n3 h0
    obtain ⟨d13, h0⟩ := de_iadd h0
    obtain ⟨d14, h0⟩ := de_invokevirtual 43 (by decide) h0
    obtain ⟨d17, h0⟩ := de_iload_n1 h0
    obtain ⟨d18, h0⟩ := de_i2l h0
    obtain ⟨d19, h0⟩ := de_lcmp h0
    obtain ⟨d20, h0⟩ := de_if_gt (7) (by decide) h0
    refine lv_aload_n hx hb d10 rfl (lv_at hl 0 rfl) ?_
    refine lv_iload_n hx hb d11 rfl (lv_at hl 2 rfl) ?_
    refine lv_iload_n hx hb d12 rfl (lv_at hl 3 rfl) ?_
    refine lv_iadd hx hb d13 ?_
    obtain ⟨hs9, hf⟩ := x_if hf
    refine x_thenJ C0 hxt hS hf (fun z0 e0 => x_runV C0 hR hS me_X2_costOfLevel wi_X2_costOfLevel wl_X2_costOfLevel ml_X2_43 hs9 xcl_2 (As := [.int (x2 + x3)]) (ct_X2_costOfLevel E l C0.2.2.2.2.2.2.2.1 _ r0 (x2 + x3)) rfl rfl hl.1 (Nat.le_of_ble_eq_true rfl) d14 ⟨(Nat.le_of_ble_eq_true rfl), (Nat.le_of_ble_eq_true rfl)⟩ ⟨(Nat.le_of_ble_eq_true rfl), (Nat.le_of_ble_eq_true rfl)⟩ e0) (Nat.le_of_ble_eq_true rfl) (Nat.le_of_ble_eq_true rfl) (fun h9 j1 H locs hR hS hf => ?_)
    refine lv_iload_n hx hb d17 rfl (lv_at hl 1 rfl) ?_
    refine lv_i2l hx hb d18 rfl ?_
    refine W.lcmp hx hb d19 ?_
    refine lv_if_gt (tgt := 27) hx hb d20 (by decide) (fun q => ?_) (fun q => ?_)
    · have hf := x_pos q hf
      exact s_X2_pourLevels_b27 C0 hxt hk6 _ _ _ _ _ _ _ _ hR hS (lv_sub hl [0, 1, 2, 3] rfl) hf
    · have hf := x_neg q hf
      have h0 : x_by cX2_pourLevels 23 [28, 29, 96, 61] := by unfold x_by; decide +kernel
      obtain ⟨d23, h0⟩ := de_iload_n2 h0
      obtain ⟨d24, h0⟩ := de_iload_n3 h0
      obtain ⟨d25, h0⟩ := de_iadd h0
      obtain ⟨d26, h0⟩ := de_istore_n2 h0
      refine lv_iload_n hx hb d23 rfl (lv_at hl 2 rfl) ?_
      refine lv_iload_n hx hb d24 rfl (lv_at hl 3 rfl) ?_
      refine lv_iadd hx hb d25 ?_
      refine lv_topi (fun i3 ei3 => ?_)
      have hf := x_lI_el ei3 hf
      refine lv_istore_n (lv' := [(2, .int i3), (0, .ref (xa E r0)), (1, .int x1), (3, .int x3)]) hx hb d26 rfl hl (by decide) rfl (fun ls hl => ?_)
      exact s_X2_pourLevels_b27 C0 hxt hk6 _ _ _ _ _ _ _ _ hR hS (lv_sub hl [1, 2, 0, 3] rfl) hf
theorem s_X2_pourLevels_L6 {p : Program} {l : Launch} {e : Env} {s : State} {m : MethodId} {args : Array Value} {below : List Frame} {meth : Method} {c : Code} {E : XE} {z : XR} (C0 : x_C E p l s m meth c args cX2_pourLevels 6 "GridEngine$Filling" "pourLevels" (some .int)) (hxt : ∀ x ∈ c.exceptionTable.toList, False)  : ∀ n : Nat, ∀ (h : HP) (r0 : Nat) (x1 : Int32) (x2 : Int32) (x3 : Int32) (H : Heap) (locs : List Loc) (ls : Array Slot), x_Rep E h H → va_S (x_A E) s.heap H locs → lv_has ls 6 [(0, .ref (xa E r0)), (1, .int x1), (2, .int x2), (3, .int x3)] → f_X2_pourLevels_L6 n h r0 x1 x2 x3 = some z → W p l e ({ frames := 10, cells := 0, slots := 0, locals := 176 } : Room) s m args below meth c H locs 0 0 (x_Q E below args s 0 0 z) (F0 m 6 ls []) := by
  intro n
  induction n with
  | zero => intro h r0 x1 x2 x3 H locs ls hR hS hl hf; cases (show (none : Option XR) = some z from hf)
  | succ n ih => intro h r0 x1 x2 x3 H locs ls hR hS hl hf; exact s_X2_pourLevels_b6 C0 hxt ih h r0 x1 x2 x3 H locs ls hR hS hl (show f_X2_pourLevels_b6 (f_X2_pourLevels_L6 n) h r0 x1 x2 x3 = some z from hf)
set_option maxRecDepth 100000 in
set_option maxHeartbeats 4000000 in
theorem ct_X2_pourLevels (E : XE) (l : Launch) (hl0 : l.stackTraces = false) (h : HP) (r0 : Nat) (x1 : Int32) : x_ct E l yX2_pourLevels (Cond.code yX2_pourLevels cX2_pourLevels 6 (some .int)) 10 176 0 0 [.ref (xa E r0), .int x1] h (f_X2_pourLevels h r0 x1) := by
  refine x_ofW hl0 (by decide +kernel) ?_
  intro z hf p e s m args below meth c C0 hxt hargs hR
  subst hargs
  have C0 : x_C E p l s m meth c ([.ref (xa E r0), .int x1] : List Value).toArray cX2_pourLevels 6 "GridEngine$Filling" "pourLevels" (some .int) := C0
  obtain ⟨hx, hb, -⟩ := id C0
  have hS : va_S (x_A E) s.heap s.heap [] := va_S.rf
  have hl := lv_entry ([.ref (xa E r0), .int x1]) (n := 6) (Nat.le_of_ble_eq_true rfl)
  rw [lg_entry_eq]
  generalize (lg_sl ([.ref (xa E r0), .int x1]) ++ List.replicate (6 - (lg_sl ([.ref (xa E r0), .int x1])).length) Slot.unset).toArray = ls at hl ⊢
  have hl : lv_has ls 6 [(0, .ref (xa E r0)), (1, .int x1)] := hl
  unfold f_X2_pourLevels at hf
  have h0 : x_by cX2_pourLevels 0 [3, 61, 17, 32, 0, 62] := by unfold x_by; decide +kernel
  obtain ⟨d0, h0⟩ := de_iconst_0 h0
  obtain ⟨d1, h0⟩ := de_istore_n2 h0
  obtain ⟨d2, h0⟩ := de_sipush (8192) (by decide) h0
  obtain ⟨d5, h0⟩ := de_istore_n3 h0
  refine lv_iconst (v := 0) hx hb d0 (by decide) ?_
  refine lv_istore_n (lv' := [(2, .int 0), (0, .ref (xa E r0)), (1, .int x1)]) hx hb d1 rfl hl (by decide) rfl (fun ls hl => ?_)
  refine lv_sipush (v := 8192) hx hb d2 (by decide) ?_
  refine lv_istore_n (lv' := [(3, .int 8192), (2, .int 0), (0, .ref (xa E r0)), (1, .int x1)]) hx hb d5 rfl hl (by decide) rfl (fun ls hl => ?_)
  exact s_X2_pourLevels_L6 C0 hxt FU _ _ _ _ _ _ _ _ hR hS (lv_sub hl [2, 3, 1, 0] rfl) hf
def f_X2_pour_b8 (k8 : HP → Nat → Int32 → Option XR) (h : HP) (r0 : Nat) (x2 : Int32) : Option XR :=
  if x2 ≤ 0 then
    (
      some (h, xi 0)
    )
  else
    (
      x_rc h r0 2 <| x_cI (f_X2_nextPlace h r0) fun h2 i1 =>
      if 0 ≤ i1 then
        (
          x_gR h2 r0 2 3 fun a3 =>
          x_aI h2 100 a3 i1 fun i4 =>
          x_sI h2 a3 i1 (i4 + 1) fun h5 =>
          k8 h5 r0 (x2 + (-1))
        )
      else
        (
          some (h2, xi x2)
        )
    )
def f_X2_pour_L8  : Nat → HP → Nat → Int32 → Option XR
  | 0 => fun _ _ _ => none
  | n + 1 => f_X2_pour_b8 (f_X2_pour_L8 n)
def f_X2_pour (h : HP) (r0 : Nat) (x1 : Int32) : Option XR :=
  x_rc h r0 2 <| x_cI (f_X2_pourLevels h r0 x1) fun h2 i1 =>
  x_lI (x1 - i1) fun i3 =>
  f_X2_pour_L8 FU h2 r0 i3
set_option maxRecDepth 100000 in
set_option maxHeartbeats 4000000 in
theorem s_X2_pour_b8 {p : Program} {l : Launch} {e : Env} {s : State} {m : MethodId} {args : Array Value} {below : List Frame} {meth : Method} {c : Code} {E : XE} {z : XR} (C0 : x_C E p l s m meth c args cX2_pour 4 "GridEngine$Filling" "pour" (some .int)) (hxt : ∀ x ∈ c.exceptionTable.toList, False) {k8 : HP → Nat → Int32 → Option XR} (hk8 : ∀ (h : HP) (r0 : Nat) (x2 : Int32) (H : Heap) (locs : List Loc) (ls : Array Slot), x_Rep E h H → va_S (x_A E) s.heap H locs → lv_has ls 4 [(0, .ref (xa E r0)), (2, .int x2)] → k8 h r0 x2 = some z → W p l e ({ frames := 11, cells := 0, slots := 0, locals := 201 } : Room) s m args below meth c H locs 0 0 (x_Q E below args s 0 0 z) (F0 m 8 ls [])) : ∀ (h : HP) (r0 : Nat) (x2 : Int32) (H : Heap) (locs : List Loc) (ls : Array Slot), x_Rep E h H → va_S (x_A E) s.heap H locs → lv_has ls 4 [(0, .ref (xa E r0)), (2, .int x2)] → f_X2_pour_b8 k8 h r0 x2 = some z → W p l e ({ frames := 11, cells := 0, slots := 0, locals := 201 } : Room) s m args below meth c H locs 0 0 (x_Q E below args s 0 0 z) (F0 m 8 ls []) := by
  intro h r0 x2 H locs ls hR hS hl hf
  obtain ⟨hx, hb, -⟩ := id C0
  unfold f_X2_pour_b8 at hf
  have h0 : x_by cX2_pour 8 [28, 158, 0, 30] := by unfold x_by; decide +kernel
  obtain ⟨d8, h0⟩ := de_iload_n2 h0
  obtain ⟨d9, h0⟩ := de_if_le (30) (by decide) h0
  refine lv_iload_n hx hb d8 rfl (lv_at hl 1 rfl) ?_
  refine lv_if_le (tgt := 39) hx hb d9 (by decide) (fun q => ?_) (fun q => ?_)
  · have hf := x_pos q hf
    have h0 : x_by cX2_pour 39 [3, 172] := by unfold x_by; decide +kernel
    obtain ⟨d39, h0⟩ := de_iconst_0 h0
    obtain ⟨d40, h0⟩ := de_ireturn h0
    refine lv_iconst (v := 0) hx hb d39 (by decide) ?_
    exact x_iret C0 hR hS hf (Nat.le_of_ble_eq_true rfl) (Nat.le_of_ble_eq_true rfl) d40
  · have hf := x_neg q hf
    have h0 : x_by cX2_pour 12 [42, 182, 0, 39, 62, 29, 156, 0, 5] := by unfold x_by; decide +kernel
    obtain ⟨d12, h0⟩ := de_aload_n0 h0
    obtain ⟨d13, h0⟩ := de_invokevirtual 39 (by decide) h0
    obtain ⟨d16, h0⟩ := de_istore_n3 h0
    obtain ⟨d17, h0⟩ := de_iload_n3 h0
    obtain ⟨d18, h0⟩ := de_if_ge (5) (by decide) h0
    refine lv_aload_n hx hb d12 rfl (lv_at hl 0 rfl) ?_
    obtain ⟨hs9, hf⟩ := x_if hf
    refine x_thenI C0 hxt hS hf (fun z0 e0 => x_runV C0 hR hS me_X2_nextPlace wi_X2_nextPlace wl_X2_nextPlace ml_X2_39 hs9 xcl_2 (As := []) (ct_X2_nextPlace E l C0.2.2.2.2.2.2.2.1 _ r0) rfl rfl hl.1 (Nat.le_of_ble_eq_true rfl) d13 ⟨(Nat.le_of_ble_eq_true rfl), (Nat.le_of_ble_eq_true rfl)⟩ ⟨(Nat.le_of_ble_eq_true rfl), (Nat.le_of_ble_eq_true rfl)⟩ e0) (Nat.le_of_ble_eq_true rfl) (Nat.le_of_ble_eq_true rfl) (fun h9 i1 H locs hR hS hf => ?_)
    refine lv_istore_n (lv' := [(3, .int i1), (0, .ref (xa E r0)), (2, .int x2)]) hx hb d16 rfl hl (by decide) rfl (fun ls hl => ?_)
    refine lv_iload_n hx hb d17 rfl (lv_at hl 0 rfl) ?_
    refine lv_if_ge (tgt := 23) hx hb d18 (by decide) (fun q => ?_) (fun q => ?_)
    · have hf := x_pos q hf
      have h0 : x_by cX2_pour 23 [42, 180, 0, 21, 29, 92, 46, 4, 96, 79, 132, 2, 255, 167, 255, 228] := by unfold x_by; decide +kernel
      obtain ⟨d23, h0⟩ := de_aload_n0 h0
      obtain ⟨d24, h0⟩ := de_getfield 21 (by decide) h0
      obtain ⟨d27, h0⟩ := de_iload_n3 h0
      obtain ⟨d28, h0⟩ := de_dup2 h0
      obtain ⟨d29, h0⟩ := de_iaload h0
      obtain ⟨d30, h0⟩ := de_iconst_1 h0
      obtain ⟨d31, h0⟩ := de_iadd h0
      obtain ⟨d32, h0⟩ := de_iastore h0
      obtain ⟨d33, h0⟩ := de_iinc (-1) (by decide) h0
      obtain ⟨d36, h0⟩ := de_goto (-28) (by decide) h0
      refine lv_aload_n hx hb d23 rfl (lv_at hl 1 rfl) ?_
      refine x_getR C0 hR hf xcl_2 (Nat.le_of_ble_eq_true rfl) rfl fl_X2_21 d24 (fun a3 hf => ?_)
      refine lv_iload_n hx hb d27 rfl (lv_at hl 0 rfl) ?_
      refine lv_dup2_11 hx hb d28 rfl rfl ?_
      refine x_iald C0 hR hf d29 (fun i4 hf => ?_)
      refine lv_iconst (v := 1) hx hb d30 (by decide) ?_
      refine lv_iadd hx hb d31 ?_
      refine x_iast C0 hR hS hf d32 (fun H locs hR hS hf => ?_)
      refine lv_iinc (v := (x2 + (-1))) (lv' := [(2, .int (x2 + (-1))), (3, .int i1), (0, .ref (xa E r0))]) hx hb d33 hl (k := 2) rfl rfl (by decide) rfl (fun ls hl => ?_)
      refine lv_goto (tgt := 8) hx hb d36 (by decide) ?_
      exact hk8 _ _ _ _ _ _ hR hS (lv_sub hl [2, 0] rfl) hf
    · have hf := x_neg q hf
      have h0 : x_by cX2_pour 21 [28, 172] := by unfold x_by; decide +kernel
      obtain ⟨d21, h0⟩ := de_iload_n2 h0
      obtain ⟨d22, h0⟩ := de_ireturn h0
      refine lv_iload_n hx hb d21 rfl (lv_at hl 2 rfl) ?_
      exact x_iret C0 hR hS hf (Nat.le_of_ble_eq_true rfl) (Nat.le_of_ble_eq_true rfl) d22
theorem s_X2_pour_L8 {p : Program} {l : Launch} {e : Env} {s : State} {m : MethodId} {args : Array Value} {below : List Frame} {meth : Method} {c : Code} {E : XE} {z : XR} (C0 : x_C E p l s m meth c args cX2_pour 4 "GridEngine$Filling" "pour" (some .int)) (hxt : ∀ x ∈ c.exceptionTable.toList, False)  : ∀ n : Nat, ∀ (h : HP) (r0 : Nat) (x2 : Int32) (H : Heap) (locs : List Loc) (ls : Array Slot), x_Rep E h H → va_S (x_A E) s.heap H locs → lv_has ls 4 [(0, .ref (xa E r0)), (2, .int x2)] → f_X2_pour_L8 n h r0 x2 = some z → W p l e ({ frames := 11, cells := 0, slots := 0, locals := 201 } : Room) s m args below meth c H locs 0 0 (x_Q E below args s 0 0 z) (F0 m 8 ls []) := by
  intro n
  induction n with
  | zero => intro h r0 x2 H locs ls hR hS hl hf; cases (show (none : Option XR) = some z from hf)
  | succ n ih => intro h r0 x2 H locs ls hR hS hl hf; exact s_X2_pour_b8 C0 hxt ih h r0 x2 H locs ls hR hS hl (show f_X2_pour_b8 (f_X2_pour_L8 n) h r0 x2 = some z from hf)
set_option maxRecDepth 100000 in
set_option maxHeartbeats 4000000 in
theorem ct_X2_pour (E : XE) (l : Launch) (hl0 : l.stackTraces = false) (h : HP) (r0 : Nat) (x1 : Int32) : x_ct E l yX2_pour (Cond.code yX2_pour cX2_pour 4 (some .int)) 11 201 0 0 [.ref (xa E r0), .int x1] h (f_X2_pour h r0 x1) := by
  refine x_ofW hl0 (by decide +kernel) ?_
  intro z hf p e s m args below meth c C0 hxt hargs hR
  subst hargs
  have C0 : x_C E p l s m meth c ([.ref (xa E r0), .int x1] : List Value).toArray cX2_pour 4 "GridEngine$Filling" "pour" (some .int) := C0
  obtain ⟨hx, hb, -⟩ := id C0
  have hS : va_S (x_A E) s.heap s.heap [] := va_S.rf
  have hl := lv_entry ([.ref (xa E r0), .int x1]) (n := 4) (Nat.le_of_ble_eq_true rfl)
  rw [lg_entry_eq]
  generalize (lg_sl ([.ref (xa E r0), .int x1]) ++ List.replicate (4 - (lg_sl ([.ref (xa E r0), .int x1])).length) Slot.unset).toArray = ls at hl ⊢
  have hl : lv_has ls 4 [(0, .ref (xa E r0)), (1, .int x1)] := hl
  unfold f_X2_pour at hf
  have h0 : x_by cX2_pour 0 [27, 42, 27, 182, 0, 35, 100, 61] := by unfold x_by; decide +kernel
  obtain ⟨d0, h0⟩ := de_iload_n1 h0
  obtain ⟨d1, h0⟩ := de_aload_n0 h0
  obtain ⟨d2, h0⟩ := de_iload_n1 h0
  obtain ⟨d3, h0⟩ := de_invokevirtual 35 (by decide) h0
  obtain ⟨d6, h0⟩ := de_isub h0
  obtain ⟨d7, h0⟩ := de_istore_n2 h0
  refine lv_iload_n hx hb d0 rfl (lv_at hl 1 rfl) ?_
  refine lv_aload_n hx hb d1 rfl (lv_at hl 0 rfl) ?_
  refine lv_iload_n hx hb d2 rfl (lv_at hl 1 rfl) ?_
  obtain ⟨hs9, hf⟩ := x_if hf
  refine x_thenI C0 hxt hS hf (fun z0 e0 => x_runV C0 hR hS me_X2_pourLevels wi_X2_pourLevels wl_X2_pourLevels ml_X2_35 hs9 xcl_2 (As := [.int x1]) (ct_X2_pourLevels E l C0.2.2.2.2.2.2.2.1 _ r0 x1) rfl rfl hl.1 (Nat.le_of_ble_eq_true rfl) d3 ⟨(Nat.le_of_ble_eq_true rfl), (Nat.le_of_ble_eq_true rfl)⟩ ⟨(Nat.le_of_ble_eq_true rfl), (Nat.le_of_ble_eq_true rfl)⟩ e0) (Nat.le_of_ble_eq_true rfl) (Nat.le_of_ble_eq_true rfl) (fun h9 i1 H locs hR hS hf => ?_)
  refine lv_isub hx hb d6 ?_
  refine lv_topi (fun i3 ei3 => ?_)
  have hf := x_lI_el ei3 hf
  refine lv_istore_n (lv' := [(2, .int i3), (0, .ref (xa E r0)), (1, .int x1)]) hx hb d7 rfl hl (by decide) rfl (fun ls hl => ?_)
  exact s_X2_pour_L8 C0 hxt FU _ _ _ _ _ _ hR hS (lv_sub hl [1, 0] rfl) hf
def f_X2_raise_b59 (k2 : HP → Nat → Nat → Nat → Int32 → Option XR) (h : HP) (r0 : Nat) (r1 : Nat) (r2 : Nat) (x3 : Int32) : Option XR :=
  k2 h r0 r1 r2 (x3 + 1)
def f_X2_raise_b2 (k2 : HP → Nat → Nat → Nat → Int32 → Option XR) (h : HP) (r0 : Nat) (r1 : Nat) (r2 : Nat) (x3 : Int32) : Option XR :=
  x_gI h r0 2 4 fun i1 =>
  if i1 ≤ x3 then
    (
      some (h, xv)
    )
  else
    (
      x_gR h r0 2 0 fun a2 =>
      x_aI h 100 a2 x3 fun i3 =>
      if i3 < 0 then
        (
          f_X2_raise_b59 k2 h r0 r1 r2 x3
        )
      else
        (
          x_ln h r1 fun i4 =>
          if i4 ≤ i3 then
            (
              f_X2_raise_b59 k2 h r0 r1 r2 x3
            )
          else
            (
              x_ln h r2 fun i5 =>
              if i5 ≤ i3 then
                (
                  f_X2_raise_b59 k2 h r0 r1 r2 x3
                )
              else
                (
                  x_aI h 100 r2 i3 fun i6 =>
                  x_aI h 100 r1 i3 fun i7 =>
                  x_gR h r0 2 3 fun a8 =>
                  x_aI h 100 a8 x3 fun i9 =>
                  x_sI h r2 i3 (if i6 < (i7 + i9) then (i7 + i9) else i6) fun h10 =>
                  f_X2_raise_b59 k2 h10 r0 r1 r2 x3
                )
            )
        )
    )
def f_X2_raise_L2  : Nat → HP → Nat → Nat → Nat → Int32 → Option XR
  | 0 => fun _ _ _ _ _ => none
  | n + 1 => f_X2_raise_b2 (f_X2_raise_L2 n)
def f_X2_raise (h : HP) (r0 : Nat) (r1 : Nat) (r2 : Nat) : Option XR :=
  f_X2_raise_L2 FU h r0 r1 r2 0
set_option maxRecDepth 100000 in
set_option maxHeartbeats 4000000 in
theorem s_X2_raise_b59 {p : Program} {l : Launch} {e : Env} {s : State} {m : MethodId} {args : Array Value} {below : List Frame} {meth : Method} {c : Code} {E : XE} {z : XR} (C0 : x_C E p l s m meth c args cX2_raise 5 "GridEngine$Filling" "raise" none) (hxt : ∀ x ∈ c.exceptionTable.toList, False) {k2 : HP → Nat → Nat → Nat → Int32 → Option XR} (hk2 : ∀ (h : HP) (r0 : Nat) (r1 : Nat) (r2 : Nat) (x3 : Int32) (H : Heap) (locs : List Loc) (ls : Array Slot), x_Rep E h H → va_S (x_A E) s.heap H locs → lv_has ls 5 [(0, .ref (xa E r0)), (1, .ref (xa E r1)), (2, .ref (xa E r2)), (3, .int x3)] → k2 h r0 r1 r2 x3 = some z → W p l e ({ frames := 8, cells := 0, slots := 0, locals := 130 } : Room) s m args below meth c H locs 0 0 (x_Q E below args s 0 0 z) (F0 m 2 ls [])) : ∀ (h : HP) (r0 : Nat) (r1 : Nat) (r2 : Nat) (x3 : Int32) (H : Heap) (locs : List Loc) (ls : Array Slot), x_Rep E h H → va_S (x_A E) s.heap H locs → lv_has ls 5 [(0, .ref (xa E r0)), (1, .ref (xa E r1)), (2, .ref (xa E r2)), (3, .int x3)] → f_X2_raise_b59 k2 h r0 r1 r2 x3 = some z → W p l e ({ frames := 8, cells := 0, slots := 0, locals := 130 } : Room) s m args below meth c H locs 0 0 (x_Q E below args s 0 0 z) (F0 m 59 ls []) := by
  intro h r0 r1 r2 x3 H locs ls hR hS hl hf
  obtain ⟨hx, hb, -⟩ := id C0
  unfold f_X2_raise_b59 at hf
  have h0 : x_by cX2_raise 59 [132, 3, 1, 167, 255, 196] := by unfold x_by; decide +kernel
  obtain ⟨d59, h0⟩ := de_iinc (1) (by decide) h0
  obtain ⟨d62, h0⟩ := de_goto (-60) (by decide) h0
  refine lv_iinc (v := (x3 + 1)) (lv' := [(3, .int (x3 + 1)), (0, .ref (xa E r0)), (1, .ref (xa E r1)), (2, .ref (xa E r2))]) hx hb d59 hl (k := 3) rfl rfl (by decide) rfl (fun ls hl => ?_)
  refine lv_goto (tgt := 2) hx hb d62 (by decide) ?_
  exact hk2 _ _ _ _ _ _ _ _ hR hS (lv_sub hl [1, 2, 3, 0] rfl) hf
set_option maxRecDepth 100000 in
set_option maxHeartbeats 4000000 in
theorem s_X2_raise_b2 {p : Program} {l : Launch} {e : Env} {s : State} {m : MethodId} {args : Array Value} {below : List Frame} {meth : Method} {c : Code} {E : XE} {z : XR} (C0 : x_C E p l s m meth c args cX2_raise 5 "GridEngine$Filling" "raise" none) (hxt : ∀ x ∈ c.exceptionTable.toList, False) {k2 : HP → Nat → Nat → Nat → Int32 → Option XR} (hk2 : ∀ (h : HP) (r0 : Nat) (r1 : Nat) (r2 : Nat) (x3 : Int32) (H : Heap) (locs : List Loc) (ls : Array Slot), x_Rep E h H → va_S (x_A E) s.heap H locs → lv_has ls 5 [(0, .ref (xa E r0)), (1, .ref (xa E r1)), (2, .ref (xa E r2)), (3, .int x3)] → k2 h r0 r1 r2 x3 = some z → W p l e ({ frames := 8, cells := 0, slots := 0, locals := 130 } : Room) s m args below meth c H locs 0 0 (x_Q E below args s 0 0 z) (F0 m 2 ls [])) : ∀ (h : HP) (r0 : Nat) (r1 : Nat) (r2 : Nat) (x3 : Int32) (H : Heap) (locs : List Loc) (ls : Array Slot), x_Rep E h H → va_S (x_A E) s.heap H locs → lv_has ls 5 [(0, .ref (xa E r0)), (1, .ref (xa E r1)), (2, .ref (xa E r2)), (3, .int x3)] → f_X2_raise_b2 k2 h r0 r1 r2 x3 = some z → W p l e ({ frames := 8, cells := 0, slots := 0, locals := 130 } : Room) s m args below meth c H locs 0 0 (x_Q E below args s 0 0 z) (F0 m 2 ls []) := by
  intro h r0 r1 r2 x3 H locs ls hR hS hl hf
  obtain ⟨hx, hb, -⟩ := id C0
  unfold f_X2_raise_b2 at hf
  have h0 : x_by cX2_raise 2 [29, 42, 180, 0, 24, 162, 0, 58] := by unfold x_by; decide +kernel
  obtain ⟨d2, h0⟩ := de_iload_n3 h0
  obtain ⟨d3, h0⟩ := de_aload_n0 h0
  obtain ⟨d4, h0⟩ := de_getfield 24 (by decide) h0
  obtain ⟨d7, h0⟩ := de_icmp_ge (58) (by decide) h0
  refine lv_iload_n hx hb d2 rfl (lv_at hl 3 rfl) ?_
  refine lv_aload_n hx hb d3 rfl (lv_at hl 0 rfl) ?_
  refine x_getI C0 hR hf xcl_2 (Nat.le_of_ble_eq_true rfl) rfl fl_X2_24 d4 (fun i1 hf => ?_)
  refine lv_icmp_ge (tgt := 65) hx hb d7 (by decide) (fun q => ?_) (fun q => ?_)
  · have hf := x_pos q hf
    have h0 : x_by cX2_raise 65 [177] := by unfold x_by; decide +kernel
    obtain ⟨d65, h0⟩ := de_return h0
    exact x_vret C0 hR hS hf (Nat.le_of_ble_eq_true rfl) (Nat.le_of_ble_eq_true rfl) d65
  · have hf := x_neg q hf
    have h0 : x_by cX2_raise 10 [42, 180, 0, 9, 29, 46, 54, 4, 21, 4, 155, 0, 39] := by unfold x_by; decide +kernel
    obtain ⟨d10, h0⟩ := de_aload_n0 h0
    obtain ⟨d11, h0⟩ := de_getfield 9 (by decide) h0
    obtain ⟨d14, h0⟩ := de_iload_n3 h0
    obtain ⟨d15, h0⟩ := de_iaload h0
    obtain ⟨d16, h0⟩ := de_istore h0
    obtain ⟨d18, h0⟩ := de_iload h0
    obtain ⟨d20, h0⟩ := de_if_lt (39) (by decide) h0
    refine lv_aload_n hx hb d10 rfl (lv_at hl 0 rfl) ?_
    refine x_getR C0 hR hf xcl_2 (Nat.le_of_ble_eq_true rfl) rfl fl_X2_9 d11 (fun a2 hf => ?_)
    refine lv_iload_n hx hb d14 rfl (lv_at hl 3 rfl) ?_
    refine x_iald C0 hR hf d15 (fun i3 hf => ?_)
    refine lv_istore (lv' := [(4, .int i3), (0, .ref (xa E r0)), (1, .ref (xa E r1)), (2, .ref (xa E r2)), (3, .int x3)]) hx hb d16 hl (by decide) rfl (fun ls hl => ?_)
    refine lv_iload hx hb d18 (lv_at hl 0 rfl) ?_
    refine lv_if_lt (tgt := 59) hx hb d20 (by decide) (fun q => ?_) (fun q => ?_)
    · have hf := x_pos q hf
      exact s_X2_raise_b59 C0 hxt hk2 _ _ _ _ _ _ _ _ hR hS (lv_sub hl [1, 2, 3, 4] rfl) hf
    · have hf := x_neg q hf
      have h0 : x_by cX2_raise 23 [21, 4, 43, 190, 162, 0, 32] := by unfold x_by; decide +kernel
      obtain ⟨d23, h0⟩ := de_iload h0
      obtain ⟨d25, h0⟩ := de_aload_n1 h0
      obtain ⟨d26, h0⟩ := de_arraylength h0
      obtain ⟨d27, h0⟩ := de_icmp_ge (32) (by decide) h0
      refine lv_iload hx hb d23 (lv_at hl 0 rfl) ?_
      refine lv_aload_n hx hb d25 rfl (lv_at hl 2 rfl) ?_
      refine x_alen C0 hR hf d26 (fun i4 hf => ?_)
      refine lv_icmp_ge (tgt := 59) hx hb d27 (by decide) (fun q => ?_) (fun q => ?_)
      · have hf := x_pos q hf
        exact s_X2_raise_b59 C0 hxt hk2 _ _ _ _ _ _ _ _ hR hS (lv_sub hl [1, 2, 3, 4] rfl) hf
      · have hf := x_neg q hf
        have h0 : x_by cX2_raise 30 [21, 4, 44, 190, 162, 0, 25] := by unfold x_by; decide +kernel
        obtain ⟨d30, h0⟩ := de_iload h0
        obtain ⟨d32, h0⟩ := de_aload_n2 h0
        obtain ⟨d33, h0⟩ := de_arraylength h0
        obtain ⟨d34, h0⟩ := de_icmp_ge (25) (by decide) h0
        refine lv_iload hx hb d30 (lv_at hl 0 rfl) ?_
        refine lv_aload_n hx hb d32 rfl (lv_at hl 3 rfl) ?_
        refine x_alen C0 hR hf d33 (fun i5 hf => ?_)
        refine lv_icmp_ge (tgt := 59) hx hb d34 (by decide) (fun q => ?_) (fun q => ?_)
        · have hf := x_pos q hf
          exact s_X2_raise_b59 C0 hxt hk2 _ _ _ _ _ _ _ _ hR hS (lv_sub hl [1, 2, 3, 4] rfl) hf
        · have hf := x_neg q hf
          have h0 : x_by cX2_raise 37 [44, 21, 4, 44, 21, 4, 46, 43, 21, 4, 46, 42, 180, 0, 21, 29, 46, 96, 184, 0, 28, 79] := by unfold x_by; decide +kernel
          obtain ⟨d37, h0⟩ := de_aload_n2 h0
          obtain ⟨d38, h0⟩ := de_iload h0
          obtain ⟨d40, h0⟩ := de_aload_n2 h0
          obtain ⟨d41, h0⟩ := de_iload h0
          obtain ⟨d43, h0⟩ := de_iaload h0
          obtain ⟨d44, h0⟩ := de_aload_n1 h0
          obtain ⟨d45, h0⟩ := de_iload h0
          obtain ⟨d47, h0⟩ := de_iaload h0
          obtain ⟨d48, h0⟩ := de_aload_n0 h0
          obtain ⟨d49, h0⟩ := de_getfield 21 (by decide) h0
          obtain ⟨d52, h0⟩ := de_iload_n3 h0
          obtain ⟨d53, h0⟩ := de_iaload h0
          obtain ⟨d54, h0⟩ := de_iadd h0
          obtain ⟨d55, h0⟩ := de_invokestatic 28 (by decide) h0
          obtain ⟨d58, h0⟩ := de_iastore h0
          refine lv_aload_n hx hb d37 rfl (lv_at hl 3 rfl) ?_
          refine lv_iload hx hb d38 (lv_at hl 0 rfl) ?_
          refine lv_aload_n hx hb d40 rfl (lv_at hl 3 rfl) ?_
          refine lv_iload hx hb d41 (lv_at hl 0 rfl) ?_
          refine x_iald C0 hR hf d43 (fun i6 hf => ?_)
          refine lv_aload_n hx hb d44 rfl (lv_at hl 2 rfl) ?_
          refine lv_iload hx hb d45 (lv_at hl 0 rfl) ?_
          refine x_iald C0 hR hf d47 (fun i7 hf => ?_)
          refine lv_aload_n hx hb d48 rfl (lv_at hl 1 rfl) ?_
          refine x_getR C0 hR hf xcl_2 (Nat.le_of_ble_eq_true rfl) rfl fl_X2_21 d49 (fun a8 hf => ?_)
          refine lv_iload_n hx hb d52 rfl (lv_at hl 4 rfl) ?_
          refine x_iald C0 hR hf d53 (fun i9 hf => ?_)
          refine lv_iadd hx hb d54 ?_
          refine x_mmax C0 hl.1 ml_X2_28 lib_max (Nat.le_of_ble_eq_true rfl) (Nat.le_of_ble_eq_true rfl) (Nat.le_of_ble_eq_true rfl) (Nat.le_of_ble_eq_true rfl) d55 ?_
          refine x_iast C0 hR hS hf d58 (fun H locs hR hS hf => ?_)
          exact s_X2_raise_b59 C0 hxt hk2 _ _ _ _ _ _ _ _ hR hS (lv_sub hl [1, 2, 3, 4] rfl) hf
theorem s_X2_raise_L2 {p : Program} {l : Launch} {e : Env} {s : State} {m : MethodId} {args : Array Value} {below : List Frame} {meth : Method} {c : Code} {E : XE} {z : XR} (C0 : x_C E p l s m meth c args cX2_raise 5 "GridEngine$Filling" "raise" none) (hxt : ∀ x ∈ c.exceptionTable.toList, False)  : ∀ n : Nat, ∀ (h : HP) (r0 : Nat) (r1 : Nat) (r2 : Nat) (x3 : Int32) (H : Heap) (locs : List Loc) (ls : Array Slot), x_Rep E h H → va_S (x_A E) s.heap H locs → lv_has ls 5 [(0, .ref (xa E r0)), (1, .ref (xa E r1)), (2, .ref (xa E r2)), (3, .int x3)] → f_X2_raise_L2 n h r0 r1 r2 x3 = some z → W p l e ({ frames := 8, cells := 0, slots := 0, locals := 130 } : Room) s m args below meth c H locs 0 0 (x_Q E below args s 0 0 z) (F0 m 2 ls []) := by
  intro n
  induction n with
  | zero => intro h r0 r1 r2 x3 H locs ls hR hS hl hf; cases (show (none : Option XR) = some z from hf)
  | succ n ih => intro h r0 r1 r2 x3 H locs ls hR hS hl hf; exact s_X2_raise_b2 C0 hxt ih h r0 r1 r2 x3 H locs ls hR hS hl (show f_X2_raise_b2 (f_X2_raise_L2 n) h r0 r1 r2 x3 = some z from hf)
set_option maxRecDepth 100000 in
set_option maxHeartbeats 4000000 in
theorem ct_X2_raise (E : XE) (l : Launch) (hl0 : l.stackTraces = false) (h : HP) (r0 : Nat) (r1 : Nat) (r2 : Nat) : x_ct E l yX2_raise (Cond.code yX2_raise cX2_raise 5 none) 8 130 0 0 [.ref (xa E r0), .ref (xa E r1), .ref (xa E r2)] h (f_X2_raise h r0 r1 r2) := by
  refine x_ofW hl0 (by decide +kernel) ?_
  intro z hf p e s m args below meth c C0 hxt hargs hR
  subst hargs
  have C0 : x_C E p l s m meth c ([.ref (xa E r0), .ref (xa E r1), .ref (xa E r2)] : List Value).toArray cX2_raise 5 "GridEngine$Filling" "raise" none := C0
  obtain ⟨hx, hb, -⟩ := id C0
  have hS : va_S (x_A E) s.heap s.heap [] := va_S.rf
  have hl := lv_entry ([.ref (xa E r0), .ref (xa E r1), .ref (xa E r2)]) (n := 5) (Nat.le_of_ble_eq_true rfl)
  rw [lg_entry_eq]
  generalize (lg_sl ([.ref (xa E r0), .ref (xa E r1), .ref (xa E r2)]) ++ List.replicate (5 - (lg_sl ([.ref (xa E r0), .ref (xa E r1), .ref (xa E r2)])).length) Slot.unset).toArray = ls at hl ⊢
  have hl : lv_has ls 5 [(0, .ref (xa E r0)), (1, .ref (xa E r1)), (2, .ref (xa E r2))] := hl
  unfold f_X2_raise at hf
  have h0 : x_by cX2_raise 0 [3, 62] := by unfold x_by; decide +kernel
  obtain ⟨d0, h0⟩ := de_iconst_0 h0
  obtain ⟨d1, h0⟩ := de_istore_n3 h0
  refine lv_iconst (v := 0) hx hb d0 (by decide) ?_
  refine lv_istore_n (lv' := [(3, .int 0), (0, .ref (xa E r0)), (1, .ref (xa E r1)), (2, .ref (xa E r2))]) hx hb d1 rfl hl (by decide) rfl (fun ls hl => ?_)
  exact s_X2_raise_L2 C0 hxt FU _ _ _ _ _ _ _ _ hR hS (lv_sub hl [1, 2, 3, 0] rfl) hf

def f_X5_init (h : HP) (r0 : Nat) (r1 : Nat) : Option XR :=
  x_na h 0 24 fun h2 a1 =>
  x_pR h2 r0 5 1 a1 fun h3 =>
  x_na h3 2 12 fun h5 a4 =>
  x_pR h5 r0 5 2 a4 fun h6 =>
  x_na h6 0 2 fun h8 a7 =>
  x_pR h8 r0 5 3 a7 fun h9 =>
  x_pI h9 r0 5 4 1 fun h10 =>
  x_pI h10 r0 5 5 0 fun h11 =>
  x_pI h11 r0 5 6 1 fun h12 =>
  x_pI h12 r0 5 7 1 fun h13 =>
  x_pI h13 r0 5 8 1 fun h14 =>
  x_pR h14 r0 5 0 r1 fun h15 =>
  some (h15, xv)
set_option maxRecDepth 100000 in
set_option maxHeartbeats 4000000 in
theorem ct_X5_init (E : XE) (l : Launch) (hl0 : l.stackTraces = false) (h : HP) (r0 : Nat) (r1 : Nat) : x_ct E l yX5_init (Cond.code yX5_init cX5_init 2 none) 8 130 3 38 [.ref (xa E r0), .ref (xa E r1)] h (f_X5_init h r0 r1) := by
  refine x_ofW hl0 (by decide +kernel) ?_
  intro z hf p e s m args below meth c C0 hxt hargs hR
  subst hargs
  have C0 : x_C E p l s m meth c ([.ref (xa E r0), .ref (xa E r1)] : List Value).toArray cX5_init 2 "GridEngine$Placement" "<init>" none := C0
  obtain ⟨hx, hb, -⟩ := id C0
  have hS : va_S (x_A E) s.heap s.heap [] := va_S.rf
  have hl := lv_entry ([.ref (xa E r0), .ref (xa E r1)]) (n := 2) (Nat.le_of_ble_eq_true rfl)
  rw [lg_entry_eq]
  generalize (lg_sl ([.ref (xa E r0), .ref (xa E r1)]) ++ List.replicate (2 - (lg_sl ([.ref (xa E r0), .ref (xa E r1)])).length) Slot.unset).toArray = ls at hl ⊢
  have hl : lv_has ls 2 [(0, .ref (xa E r0)), (1, .ref (xa E r1))] := hl
  unfold f_X5_init at hf
  have h0 : x_by cX5_init 0 [42, 183, 0, 3, 42, 16, 24, 188, 10, 181, 0, 9, 42, 16, 12, 188, 4, 181, 0, 15, 42, 5, 188, 10, 181, 0, 19, 42, 4, 181, 0, 22, 42, 3, 181, 0, 26, 42, 4, 181, 0, 29, 42, 4, 181, 0, 32, 42, 4, 181, 0, 35, 42, 43, 181, 0, 38, 177] := by unfold x_by; decide +kernel
  obtain ⟨d0, h0⟩ := de_aload_n0 h0
  obtain ⟨d1, h0⟩ := de_invokespecial 3 (by decide) h0
  obtain ⟨d4, h0⟩ := de_aload_n0 h0
  obtain ⟨d5, h0⟩ := de_bipush (24) (by decide) h0
  obtain ⟨d7, h0⟩ := de_newarray_int h0
  obtain ⟨d9, h0⟩ := de_putfield 9 (by decide) h0
  obtain ⟨d12, h0⟩ := de_aload_n0 h0
  obtain ⟨d13, h0⟩ := de_bipush (12) (by decide) h0
  obtain ⟨d15, h0⟩ := de_newarray_boolean h0
  obtain ⟨d17, h0⟩ := de_putfield 15 (by decide) h0
  obtain ⟨d20, h0⟩ := de_aload_n0 h0
  obtain ⟨d21, h0⟩ := de_iconst_2 h0
  obtain ⟨d22, h0⟩ := de_newarray_int h0
  obtain ⟨d24, h0⟩ := de_putfield 19 (by decide) h0
  obtain ⟨d27, h0⟩ := de_aload_n0 h0
  obtain ⟨d28, h0⟩ := de_iconst_1 h0
  obtain ⟨d29, h0⟩ := de_putfield 22 (by decide) h0
  obtain ⟨d32, h0⟩ := de_aload_n0 h0
  obtain ⟨d33, h0⟩ := de_iconst_0 h0
  obtain ⟨d34, h0⟩ := de_putfield 26 (by decide) h0
  obtain ⟨d37, h0⟩ := de_aload_n0 h0
  obtain ⟨d38, h0⟩ := de_iconst_1 h0
  obtain ⟨d39, h0⟩ := de_putfield 29 (by decide) h0
  obtain ⟨d42, h0⟩ := de_aload_n0 h0
  obtain ⟨d43, h0⟩ := de_iconst_1 h0
  obtain ⟨d44, h0⟩ := de_putfield 32 (by decide) h0
  obtain ⟨d47, h0⟩ := de_aload_n0 h0
  obtain ⟨d48, h0⟩ := de_iconst_1 h0
  obtain ⟨d49, h0⟩ := de_putfield 35 (by decide) h0
  obtain ⟨d52, h0⟩ := de_aload_n0 h0
  obtain ⟨d53, h0⟩ := de_aload_n1 h0
  obtain ⟨d54, h0⟩ := de_putfield 38 (by decide) h0
  obtain ⟨d57, h0⟩ := de_return h0
  refine lv_aload_n hx hb d0 rfl (lv_at hl 0 rfl) ?_
  refine x_oinit C0 hl.1 ml_X5_3 lib_oinit (Nat.le_of_ble_eq_true rfl) (Nat.le_of_ble_eq_true rfl) d1 ?_
  refine lv_aload_n hx hb d4 rfl (lv_at hl 0 rfl) ?_
  refine lv_bipush (v := 24) hx hb d5 (by decide) ?_
  refine x_newa (t := 0) C0 hR hS hf rfl (by decide) ac_0 (N := 24) (by decide) (Nat.le_of_ble_eq_true rfl) (Nat.le_of_ble_eq_true rfl) d7 (fun H a1 hR hS hf => ?_)
  refine x_putR C0 hR hS hf xcl_5 (Nat.le_of_ble_eq_true rfl) rfl fl_X5_9 (Or.inr ⟨rfl, rfl, fm_X5_9⟩) d9 (fun H locs hR hS hf => ?_)
  refine lv_aload_n hx hb d12 rfl (lv_at hl 0 rfl) ?_
  refine lv_bipush (v := 12) hx hb d13 (by decide) ?_
  refine x_newa (t := 2) C0 hR hS hf rfl (by decide) ac_2 (N := 12) (by decide) (Nat.le_of_ble_eq_true rfl) (Nat.le_of_ble_eq_true rfl) d15 (fun H a4 hR hS hf => ?_)
  refine x_putR C0 hR hS hf xcl_5 (Nat.le_of_ble_eq_true rfl) rfl fl_X5_15 (Or.inr ⟨rfl, rfl, fm_X5_15⟩) d17 (fun H locs hR hS hf => ?_)
  refine lv_aload_n hx hb d20 rfl (lv_at hl 0 rfl) ?_
  refine lv_iconst (v := 2) hx hb d21 (by decide) ?_
  refine x_newa (t := 0) C0 hR hS hf rfl (by decide) ac_0 (N := 2) (by decide) (Nat.le_of_ble_eq_true rfl) (Nat.le_of_ble_eq_true rfl) d22 (fun H a7 hR hS hf => ?_)
  refine x_putR C0 hR hS hf xcl_5 (Nat.le_of_ble_eq_true rfl) rfl fl_X5_19 (Or.inr ⟨rfl, rfl, fm_X5_19⟩) d24 (fun H locs hR hS hf => ?_)
  refine lv_aload_n hx hb d27 rfl (lv_at hl 0 rfl) ?_
  refine lv_iconst (v := 1) hx hb d28 (by decide) ?_
  refine x_putI C0 hR hS hf xcl_5 (Nat.le_of_ble_eq_true rfl) rfl fl_X5_22 (Or.inl rfl) d29 (fun H locs hR hS hf => ?_)
  refine lv_aload_n hx hb d32 rfl (lv_at hl 0 rfl) ?_
  refine lv_iconst (v := 0) hx hb d33 (by decide) ?_
  refine x_putI C0 hR hS hf xcl_5 (Nat.le_of_ble_eq_true rfl) rfl fl_X5_26 (Or.inl rfl) d34 (fun H locs hR hS hf => ?_)
  refine lv_aload_n hx hb d37 rfl (lv_at hl 0 rfl) ?_
  refine lv_iconst (v := 1) hx hb d38 (by decide) ?_
  refine x_putI C0 hR hS hf xcl_5 (Nat.le_of_ble_eq_true rfl) rfl fl_X5_29 (Or.inl rfl) d39 (fun H locs hR hS hf => ?_)
  refine lv_aload_n hx hb d42 rfl (lv_at hl 0 rfl) ?_
  refine lv_iconst (v := 1) hx hb d43 (by decide) ?_
  refine x_putI C0 hR hS hf xcl_5 (Nat.le_of_ble_eq_true rfl) rfl fl_X5_32 (Or.inl rfl) d44 (fun H locs hR hS hf => ?_)
  refine lv_aload_n hx hb d47 rfl (lv_at hl 0 rfl) ?_
  refine lv_iconst (v := 1) hx hb d48 (by decide) ?_
  refine x_putI C0 hR hS hf xcl_5 (Nat.le_of_ble_eq_true rfl) rfl fl_X5_35 (Or.inl rfl) d49 (fun H locs hR hS hf => ?_)
  refine lv_aload_n hx hb d52 rfl (lv_at hl 0 rfl) ?_
  refine lv_aload_n hx hb d53 rfl (lv_at hl 1 rfl) ?_
  refine x_putR C0 hR hS hf xcl_5 (Nat.le_of_ble_eq_true rfl) rfl fl_X5_38 (Or.inr ⟨rfl, rfl, fm_X5_38⟩) d54 (fun H locs hR hS hf => ?_)
  exact x_vret C0 hR hS hf (Nat.le_of_ble_eq_true rfl) (Nat.le_of_ble_eq_true rfl) d57
def f_X5_firstTrack_b29  (h : HP) (t0 : Int32) : Option XR :=
  some (h, xi t0)
def f_X5_firstTrack_b28  (h : HP)  : Option XR :=
  f_X5_firstTrack_b29 h 1
def f_X5_firstTrack (h : HP) (r0 : Nat) (x1 : Int32) (x2 : Int32) : Option XR :=
  x_lI ((x1 * 2) + x2) fun i1 =>
  if i1 < 0 then
    (
      f_X5_firstTrack_b28 h
    )
  else
    (
      x_gR h r0 5 1 fun a2 =>
      x_ln h a2 fun i3 =>
      if i3 ≤ i1 then
        (
          f_X5_firstTrack_b28 h
        )
      else
        (
          x_gR h r0 5 1 fun a4 =>
          x_aI h 100 a4 i1 fun i5 =>
          f_X5_firstTrack_b29 h i5
        )
    )
set_option maxRecDepth 100000 in
set_option maxHeartbeats 4000000 in
theorem s_X5_firstTrack_b29 {p : Program} {l : Launch} {e : Env} {s : State} {m : MethodId} {args : Array Value} {below : List Frame} {meth : Method} {c : Code} {E : XE} {z : XR} (C0 : x_C E p l s m meth c args cX5_firstTrack 4 "GridEngine$Placement" "firstTrack" (some .int)) (hxt : ∀ x ∈ c.exceptionTable.toList, False)  : ∀ (h : HP) (t0 : Int32) (H : Heap) (locs : List Loc) (ls : Array Slot), x_Rep E h H → va_S (x_A E) s.heap H locs → lv_has ls 4 [] → f_X5_firstTrack_b29 h t0 = some z → W p l e ({ frames := 8, cells := 0, slots := 0, locals := 130 } : Room) s m args below meth c H locs 0 0 (x_Q E below args s 0 0 z) (F0 m 29 ls [.int t0]) := by
  intro h t0 H locs ls hR hS hl hf
  obtain ⟨hx, hb, -⟩ := id C0
  unfold f_X5_firstTrack_b29 at hf
  have h0 : x_by cX5_firstTrack 29 [172] := by unfold x_by; decide +kernel
  obtain ⟨d29, h0⟩ := de_ireturn h0
  exact x_iret C0 hR hS hf (Nat.le_of_ble_eq_true rfl) (Nat.le_of_ble_eq_true rfl) d29
set_option maxRecDepth 100000 in
set_option maxHeartbeats 4000000 in
theorem s_X5_firstTrack_b28 {p : Program} {l : Launch} {e : Env} {s : State} {m : MethodId} {args : Array Value} {below : List Frame} {meth : Method} {c : Code} {E : XE} {z : XR} (C0 : x_C E p l s m meth c args cX5_firstTrack 4 "GridEngine$Placement" "firstTrack" (some .int)) (hxt : ∀ x ∈ c.exceptionTable.toList, False)  : ∀ (h : HP)  (H : Heap) (locs : List Loc) (ls : Array Slot), x_Rep E h H → va_S (x_A E) s.heap H locs → lv_has ls 4 [] → f_X5_firstTrack_b28 h  = some z → W p l e ({ frames := 8, cells := 0, slots := 0, locals := 130 } : Room) s m args below meth c H locs 0 0 (x_Q E below args s 0 0 z) (F0 m 28 ls []) := by
  intro h  H locs ls hR hS hl hf
  obtain ⟨hx, hb, -⟩ := id C0
  unfold f_X5_firstTrack_b28 at hf
  have h0 : x_by cX5_firstTrack 28 [4] := by unfold x_by; decide +kernel
  obtain ⟨d28, h0⟩ := de_iconst_1 h0
  refine lv_iconst (v := 1) hx hb d28 (by decide) ?_
  exact s_X5_firstTrack_b29 C0 hxt _ _ _ _ _ hR hS (lv_sub hl [] rfl) hf
set_option maxRecDepth 100000 in
set_option maxHeartbeats 4000000 in
theorem ct_X5_firstTrack (E : XE) (l : Launch) (hl0 : l.stackTraces = false) (h : HP) (r0 : Nat) (x1 : Int32) (x2 : Int32) : x_ct E l yX5_firstTrack (Cond.code yX5_firstTrack cX5_firstTrack 4 (some .int)) 8 130 0 0 [.ref (xa E r0), .int x1, .int x2] h (f_X5_firstTrack h r0 x1 x2) := by
  refine x_ofW hl0 (by decide +kernel) ?_
  intro z hf p e s m args below meth c C0 hxt hargs hR
  subst hargs
  have C0 : x_C E p l s m meth c ([.ref (xa E r0), .int x1, .int x2] : List Value).toArray cX5_firstTrack 4 "GridEngine$Placement" "firstTrack" (some .int) := C0
  obtain ⟨hx, hb, -⟩ := id C0
  have hS : va_S (x_A E) s.heap s.heap [] := va_S.rf
  have hl := lv_entry ([.ref (xa E r0), .int x1, .int x2]) (n := 4) (Nat.le_of_ble_eq_true rfl)
  rw [lg_entry_eq]
  generalize (lg_sl ([.ref (xa E r0), .int x1, .int x2]) ++ List.replicate (4 - (lg_sl ([.ref (xa E r0), .int x1, .int x2])).length) Slot.unset).toArray = ls at hl ⊢
  have hl : lv_has ls 4 [(0, .ref (xa E r0)), (1, .int x1), (2, .int x2)] := hl
  unfold f_X5_firstTrack at hf
  have h0 : x_by cX5_firstTrack 0 [27, 5, 104, 28, 96, 62, 29, 155, 0, 21] := by unfold x_by; decide +kernel
  obtain ⟨d0, h0⟩ := de_iload_n1 h0
  obtain ⟨d1, h0⟩ := de_iconst_2 h0
  obtain ⟨d2, h0⟩ := de_imul h0
  obtain ⟨d3, h0⟩ := de_iload_n2 h0
  obtain ⟨d4, h0⟩ := de_iadd h0
  obtain ⟨d5, h0⟩ := de_istore_n3 h0
  obtain ⟨d6, h0⟩ := de_iload_n3 h0
  obtain ⟨d7, h0⟩ := de_if_lt (21) (by decide) h0
  refine lv_iload_n hx hb d0 rfl (lv_at hl 1 rfl) ?_
  refine lv_iconst (v := 2) hx hb d1 (by decide) ?_
  refine lv_imul hx hb d2 ?_
  refine lv_iload_n hx hb d3 rfl (lv_at hl 2 rfl) ?_
  refine lv_iadd hx hb d4 ?_
  refine lv_topi (fun i1 ei1 => ?_)
  have hf := x_lI_el ei1 hf
  refine lv_istore_n (lv' := [(3, .int i1), (0, .ref (xa E r0)), (1, .int x1), (2, .int x2)]) hx hb d5 rfl hl (by decide) rfl (fun ls hl => ?_)
  refine lv_iload_n hx hb d6 rfl (lv_at hl 0 rfl) ?_
  refine lv_if_lt (tgt := 28) hx hb d7 (by decide) (fun q => ?_) (fun q => ?_)
  · have hf := x_pos q hf
    exact s_X5_firstTrack_b28 C0 hxt _ _ _ _ hR hS (lv_sub hl [] rfl) hf
  · have hf := x_neg q hf
    have h0 : x_by cX5_firstTrack 10 [29, 42, 180, 0, 9, 190, 162, 0, 12] := by unfold x_by; decide +kernel
    obtain ⟨d10, h0⟩ := de_iload_n3 h0
    obtain ⟨d11, h0⟩ := de_aload_n0 h0
    obtain ⟨d12, h0⟩ := de_getfield 9 (by decide) h0
    obtain ⟨d15, h0⟩ := de_arraylength h0
    obtain ⟨d16, h0⟩ := de_icmp_ge (12) (by decide) h0
    refine lv_iload_n hx hb d10 rfl (lv_at hl 0 rfl) ?_
    refine lv_aload_n hx hb d11 rfl (lv_at hl 1 rfl) ?_
    refine x_getR C0 hR hf xcl_5 (Nat.le_of_ble_eq_true rfl) rfl fl_X5_9 d12 (fun a2 hf => ?_)
    refine x_alen C0 hR hf d15 (fun i3 hf => ?_)
    refine lv_icmp_ge (tgt := 28) hx hb d16 (by decide) (fun q => ?_) (fun q => ?_)
    · have hf := x_pos q hf
      exact s_X5_firstTrack_b28 C0 hxt _ _ _ _ hR hS (lv_sub hl [] rfl) hf
    · have hf := x_neg q hf
      have h0 : x_by cX5_firstTrack 19 [42, 180, 0, 9, 29, 46, 167, 0, 4] := by unfold x_by; decide +kernel
      obtain ⟨d19, h0⟩ := de_aload_n0 h0
      obtain ⟨d20, h0⟩ := de_getfield 9 (by decide) h0
      obtain ⟨d23, h0⟩ := de_iload_n3 h0
      obtain ⟨d24, h0⟩ := de_iaload h0
      obtain ⟨d25, h0⟩ := de_goto (4) (by decide) h0
      refine lv_aload_n hx hb d19 rfl (lv_at hl 1 rfl) ?_
      refine x_getR C0 hR hf xcl_5 (Nat.le_of_ble_eq_true rfl) rfl fl_X5_9 d20 (fun a4 hf => ?_)
      refine lv_iload_n hx hb d23 rfl (lv_at hl 0 rfl) ?_
      refine x_iald C0 hR hf d24 (fun i5 hf => ?_)
      refine lv_goto (tgt := 29) hx hb d25 (by decide) ?_
      exact s_X5_firstTrack_b29 C0 hxt _ _ _ _ _ hR hS (lv_sub hl [] rfl) hf
def f_X5_hasStart_b19  (h : HP) (t0 : Int32) : Option XR :=
  x_rZ h t0
def f_X5_hasStart (h : HP) (r0 : Nat) (x1 : Int32) (x2 : Int32) : Option XR :=
  x_gR h r0 5 0 fun a1 =>
  x_rc h a1 4 <| x_cI (f_X4_itemField h a1 x1 x2 2) fun h3 i2 =>
  if i2 = (-1) then
    (
      f_X5_hasStart_b19 h3 0
    )
  else
    (
      f_X5_hasStart_b19 h3 1
    )
set_option maxRecDepth 100000 in
set_option maxHeartbeats 4000000 in
theorem s_X5_hasStart_b19 {p : Program} {l : Launch} {e : Env} {s : State} {m : MethodId} {args : Array Value} {below : List Frame} {meth : Method} {c : Code} {E : XE} {z : XR} (C0 : x_C E p l s m meth c args cX5_hasStart 3 "GridEngine$Placement" "hasStart" (some .boolean)) (hxt : ∀ x ∈ c.exceptionTable.toList, False)  : ∀ (h : HP) (t0 : Int32) (H : Heap) (locs : List Loc) (ls : Array Slot), x_Rep E h H → va_S (x_A E) s.heap H locs → lv_has ls 3 [] → f_X5_hasStart_b19 h t0 = some z → W p l e ({ frames := 9, cells := 0, slots := 0, locals := 154 } : Room) s m args below meth c H locs 0 0 (x_Q E below args s 0 0 z) (F0 m 19 ls [.int t0]) := by
  intro h t0 H locs ls hR hS hl hf
  obtain ⟨hx, hb, -⟩ := id C0
  unfold f_X5_hasStart_b19 at hf
  have h0 : x_by cX5_hasStart 19 [172] := by unfold x_by; decide +kernel
  obtain ⟨d19, h0⟩ := de_ireturn h0
  exact x_zret C0 hR hS hf (Nat.le_of_ble_eq_true rfl) (Nat.le_of_ble_eq_true rfl) d19
set_option maxRecDepth 100000 in
set_option maxHeartbeats 4000000 in
theorem ct_X5_hasStart (E : XE) (l : Launch) (hl0 : l.stackTraces = false) (h : HP) (r0 : Nat) (x1 : Int32) (x2 : Int32) : x_ct E l yX5_hasStart (Cond.code yX5_hasStart cX5_hasStart 3 (some .boolean)) 9 154 0 0 [.ref (xa E r0), .int x1, .int x2] h (f_X5_hasStart h r0 x1 x2) := by
  refine x_ofW hl0 (by decide +kernel) ?_
  intro z hf p e s m args below meth c C0 hxt hargs hR
  subst hargs
  have C0 : x_C E p l s m meth c ([.ref (xa E r0), .int x1, .int x2] : List Value).toArray cX5_hasStart 3 "GridEngine$Placement" "hasStart" (some .boolean) := C0
  obtain ⟨hx, hb, -⟩ := id C0
  have hS : va_S (x_A E) s.heap s.heap [] := va_S.rf
  have hl := lv_entry ([.ref (xa E r0), .int x1, .int x2]) (n := 3) (Nat.le_of_ble_eq_true rfl)
  rw [lg_entry_eq]
  generalize (lg_sl ([.ref (xa E r0), .int x1, .int x2]) ++ List.replicate (3 - (lg_sl ([.ref (xa E r0), .int x1, .int x2])).length) Slot.unset).toArray = ls at hl ⊢
  have hl : lv_has ls 3 [(0, .ref (xa E r0)), (1, .int x1), (2, .int x2)] := hl
  unfold f_X5_hasStart at hf
  have h0 : x_by cX5_hasStart 0 [42, 180, 0, 38, 27, 28, 5, 182, 0, 72, 2, 159, 0, 7] := by unfold x_by; decide +kernel
  obtain ⟨d0, h0⟩ := de_aload_n0 h0
  obtain ⟨d1, h0⟩ := de_getfield 38 (by decide) h0
  obtain ⟨d4, h0⟩ := de_iload_n1 h0
  obtain ⟨d5, h0⟩ := de_iload_n2 h0
  obtain ⟨d6, h0⟩ := de_iconst_2 h0
  obtain ⟨d7, h0⟩ := de_invokevirtual 72 (by decide) h0
  obtain ⟨d10, h0⟩ := de_iconst_m1 h0
  obtain ⟨d11, h0⟩ := de_icmp_eq (7) (by decide) h0
  refine lv_aload_n hx hb d0 rfl (lv_at hl 0 rfl) ?_
  refine x_getR C0 hR hf xcl_5 (Nat.le_of_ble_eq_true rfl) rfl fl_X5_38 d1 (fun a1 hf => ?_)
  refine lv_iload_n hx hb d4 rfl (lv_at hl 1 rfl) ?_
  refine lv_iload_n hx hb d5 rfl (lv_at hl 2 rfl) ?_
  refine lv_iconst (v := 2) hx hb d6 (by decide) ?_
  obtain ⟨hs9, hf⟩ := x_if hf
  refine x_thenI C0 hxt hS hf (fun z0 e0 => x_runV C0 hR hS me_X4_itemField wi_X4_itemField wl_X4_itemField ml_X5_72 hs9 xcl_4 (As := [.int x1, .int x2, .int 2]) (ct_X4_itemField E l C0.2.2.2.2.2.2.2.1 _ a1 x1 x2 2) rfl rfl hl.1 (Nat.le_of_ble_eq_true rfl) d7 ⟨(Nat.le_of_ble_eq_true rfl), (Nat.le_of_ble_eq_true rfl)⟩ ⟨(Nat.le_of_ble_eq_true rfl), (Nat.le_of_ble_eq_true rfl)⟩ e0) (Nat.le_of_ble_eq_true rfl) (Nat.le_of_ble_eq_true rfl) (fun h9 i2 H locs hR hS hf => ?_)
  refine lv_iconst (v := -1) hx hb d10 (by decide) ?_
  refine lv_icmp_eq (tgt := 18) hx hb d11 (by decide) (fun q => ?_) (fun q => ?_)
  · have hf := x_pos q hf
    have h0 : x_by cX5_hasStart 18 [3] := by unfold x_by; decide +kernel
    obtain ⟨d18, h0⟩ := de_iconst_0 h0
    refine lv_iconst (v := 0) hx hb d18 (by decide) ?_
    exact s_X5_hasStart_b19 C0 hxt _ _ _ _ _ hR hS (lv_sub hl [] rfl) hf
  · have hf := x_neg q hf
    have h0 : x_by cX5_hasStart 14 [4, 167, 0, 4] := by unfold x_by; decide +kernel
    obtain ⟨d14, h0⟩ := de_iconst_1 h0
    obtain ⟨d15, h0⟩ := de_goto (4) (by decide) h0
    refine lv_iconst (v := 1) hx hb d14 (by decide) ?_
    refine lv_goto (tgt := 19) hx hb d15 (by decide) ?_
    exact s_X5_hasStart_b19 C0 hxt _ _ _ _ _ hR hS (lv_sub hl [] rfl) hf
def f_X5_isPlacedBefore_b24  (h : HP) (t0 : Int32) : Option XR :=
  x_rZ h t0
def f_X5_isPlacedBefore_b23  (h : HP)  : Option XR :=
  f_X5_isPlacedBefore_b24 h 0
def f_X5_isPlacedBefore (h : HP) (r0 : Nat) (x1 : Int32) : Option XR :=
  if x1 < 0 then
    (
      f_X5_isPlacedBefore_b23 h
    )
  else
    (
      if 12 ≤ x1 then
        (
          f_X5_isPlacedBefore_b23 h
        )
      else
        (
          x_gR h r0 5 2 fun a1 =>
          x_aI h 102 a1 x1 fun i2 =>
          if i2 = 0 then
            (
              f_X5_isPlacedBefore_b23 h
            )
          else
            (
              f_X5_isPlacedBefore_b24 h 1
            )
        )
    )
set_option maxRecDepth 100000 in
set_option maxHeartbeats 4000000 in
theorem s_X5_isPlacedBefore_b24 {p : Program} {l : Launch} {e : Env} {s : State} {m : MethodId} {args : Array Value} {below : List Frame} {meth : Method} {c : Code} {E : XE} {z : XR} (C0 : x_C E p l s m meth c args cX5_isPlacedBefore 2 "GridEngine$Placement" "isPlacedBefore" (some .boolean)) (hxt : ∀ x ∈ c.exceptionTable.toList, False)  : ∀ (h : HP) (t0 : Int32) (H : Heap) (locs : List Loc) (ls : Array Slot), x_Rep E h H → va_S (x_A E) s.heap H locs → lv_has ls 2 [] → f_X5_isPlacedBefore_b24 h t0 = some z → W p l e ({ frames := 8, cells := 0, slots := 0, locals := 130 } : Room) s m args below meth c H locs 0 0 (x_Q E below args s 0 0 z) (F0 m 24 ls [.int t0]) := by
  intro h t0 H locs ls hR hS hl hf
  obtain ⟨hx, hb, -⟩ := id C0
  unfold f_X5_isPlacedBefore_b24 at hf
  have h0 : x_by cX5_isPlacedBefore 24 [172] := by unfold x_by; decide +kernel
  obtain ⟨d24, h0⟩ := de_ireturn h0
  exact x_zret C0 hR hS hf (Nat.le_of_ble_eq_true rfl) (Nat.le_of_ble_eq_true rfl) d24
set_option maxRecDepth 100000 in
set_option maxHeartbeats 4000000 in
theorem s_X5_isPlacedBefore_b23 {p : Program} {l : Launch} {e : Env} {s : State} {m : MethodId} {args : Array Value} {below : List Frame} {meth : Method} {c : Code} {E : XE} {z : XR} (C0 : x_C E p l s m meth c args cX5_isPlacedBefore 2 "GridEngine$Placement" "isPlacedBefore" (some .boolean)) (hxt : ∀ x ∈ c.exceptionTable.toList, False)  : ∀ (h : HP)  (H : Heap) (locs : List Loc) (ls : Array Slot), x_Rep E h H → va_S (x_A E) s.heap H locs → lv_has ls 2 [] → f_X5_isPlacedBefore_b23 h  = some z → W p l e ({ frames := 8, cells := 0, slots := 0, locals := 130 } : Room) s m args below meth c H locs 0 0 (x_Q E below args s 0 0 z) (F0 m 23 ls []) := by
  intro h  H locs ls hR hS hl hf
  obtain ⟨hx, hb, -⟩ := id C0
  unfold f_X5_isPlacedBefore_b23 at hf
  have h0 : x_by cX5_isPlacedBefore 23 [3] := by unfold x_by; decide +kernel
  obtain ⟨d23, h0⟩ := de_iconst_0 h0
  refine lv_iconst (v := 0) hx hb d23 (by decide) ?_
  exact s_X5_isPlacedBefore_b24 C0 hxt _ _ _ _ _ hR hS (lv_sub hl [] rfl) hf
set_option maxRecDepth 100000 in
set_option maxHeartbeats 4000000 in
theorem ct_X5_isPlacedBefore (E : XE) (l : Launch) (hl0 : l.stackTraces = false) (h : HP) (r0 : Nat) (x1 : Int32) : x_ct E l yX5_isPlacedBefore (Cond.code yX5_isPlacedBefore cX5_isPlacedBefore 2 (some .boolean)) 8 130 0 0 [.ref (xa E r0), .int x1] h (f_X5_isPlacedBefore h r0 x1) := by
  refine x_ofW hl0 (by decide +kernel) ?_
  intro z hf p e s m args below meth c C0 hxt hargs hR
  subst hargs
  have C0 : x_C E p l s m meth c ([.ref (xa E r0), .int x1] : List Value).toArray cX5_isPlacedBefore 2 "GridEngine$Placement" "isPlacedBefore" (some .boolean) := C0
  obtain ⟨hx, hb, -⟩ := id C0
  have hS : va_S (x_A E) s.heap s.heap [] := va_S.rf
  have hl := lv_entry ([.ref (xa E r0), .int x1]) (n := 2) (Nat.le_of_ble_eq_true rfl)
  rw [lg_entry_eq]
  generalize (lg_sl ([.ref (xa E r0), .int x1]) ++ List.replicate (2 - (lg_sl ([.ref (xa E r0), .int x1])).length) Slot.unset).toArray = ls at hl ⊢
  have hl : lv_has ls 2 [(0, .ref (xa E r0)), (1, .int x1)] := hl
  unfold f_X5_isPlacedBefore at hf
  have h0 : x_by cX5_isPlacedBefore 0 [27, 155, 0, 22] := by unfold x_by; decide +kernel
  obtain ⟨d0, h0⟩ := de_iload_n1 h0
  obtain ⟨d1, h0⟩ := de_if_lt (22) (by decide) h0
  refine lv_iload_n hx hb d0 rfl (lv_at hl 1 rfl) ?_
  refine lv_if_lt (tgt := 23) hx hb d1 (by decide) (fun q => ?_) (fun q => ?_)
  · have hf := x_pos q hf
    exact s_X5_isPlacedBefore_b23 C0 hxt _ _ _ _ hR hS (lv_sub hl [] rfl) hf
  · have hf := x_neg q hf
    have h0 : x_by cX5_isPlacedBefore 4 [27, 16, 12, 162, 0, 16] := by unfold x_by; decide +kernel
    obtain ⟨d4, h0⟩ := de_iload_n1 h0
    obtain ⟨d5, h0⟩ := de_bipush (12) (by decide) h0
    obtain ⟨d7, h0⟩ := de_icmp_ge (16) (by decide) h0
    refine lv_iload_n hx hb d4 rfl (lv_at hl 1 rfl) ?_
    refine lv_bipush (v := 12) hx hb d5 (by decide) ?_
    refine lv_icmp_ge (tgt := 23) hx hb d7 (by decide) (fun q => ?_) (fun q => ?_)
    · have hf := x_pos q hf
      exact s_X5_isPlacedBefore_b23 C0 hxt _ _ _ _ hR hS (lv_sub hl [] rfl) hf
    · have hf := x_neg q hf
      have h0 : x_by cX5_isPlacedBefore 10 [42, 180, 0, 15, 27, 51, 153, 0, 7] := by unfold x_by; decide +kernel
      obtain ⟨d10, h0⟩ := de_aload_n0 h0
      obtain ⟨d11, h0⟩ := de_getfield 15 (by decide) h0
      obtain ⟨d14, h0⟩ := de_iload_n1 h0
      obtain ⟨d15, h0⟩ := de_baload h0
      obtain ⟨d16, h0⟩ := de_if_eq (7) (by decide) h0
      refine lv_aload_n hx hb d10 rfl (lv_at hl 0 rfl) ?_
      refine x_getR C0 hR hf xcl_5 (Nat.le_of_ble_eq_true rfl) rfl fl_X5_15 d11 (fun a1 hf => ?_)
      refine lv_iload_n hx hb d14 rfl (lv_at hl 1 rfl) ?_
      refine x_zald C0 hR hf d15 (fun i2 hf => ?_)
      refine lv_if_eq (tgt := 23) hx hb d16 (by decide) (fun q => ?_) (fun q => ?_)
      · have hf := x_pos q hf
        exact s_X5_isPlacedBefore_b23 C0 hxt _ _ _ _ hR hS (lv_sub hl [] rfl) hf
      · have hf := x_neg q hf
        have h0 : x_by cX5_isPlacedBefore 19 [4, 167, 0, 4] := by unfold x_by; decide +kernel
        obtain ⟨d19, h0⟩ := de_iconst_1 h0
        obtain ⟨d20, h0⟩ := de_goto (4) (by decide) h0
        refine lv_iconst (v := 1) hx hb d19 (by decide) ?_
        refine lv_goto (tgt := 24) hx hb d20 (by decide) ?_
        exact s_X5_isPlacedBefore_b24 C0 hxt _ _ _ _ _ hR hS (lv_sub hl [] rfl) hf
def f_X5_findSideCount_b95 (k18 : HP → Nat → Int32 → Int32 → Option XR) (h : HP) (r0 : Nat) (x1 : Int32) (x2 : Int32) (x3 : Int32) (x4 : Int32) : Option XR :=
  x_lI (if x1 < ((x4 + x3) - 1) then ((x4 + x3) - 1) else x1) fun i1 =>
  k18 h r0 i1 (x2 + 1)
def f_X5_findSideCount_b18 (k18 : HP → Nat → Int32 → Int32 → Option XR) (h : HP) (r0 : Nat) (x1 : Int32) (x2 : Int32) : Option XR :=
  x_gR h r0 5 0 fun a1 =>
  x_gI h a1 4 4 fun i2 =>
  if i2 ≤ x2 then
    (
      x_pI h r0 5 6 x1 fun h3 =>
      some (h3, xv)
    )
  else
    (
      x_gR h r0 5 0 fun a4 =>
      x_gI h r0 5 5 fun i5 =>
      x_rc h a4 4 <| x_cI (f_X4_itemField h a4 x2 i5 3) fun h7 i6 =>
      x_rc h7 r0 5 <| x_cI (f_X5_isPlacedBefore h7 r0 x2) fun h9 i8 =>
      if i8 = 0 then
        (
          x_gI h9 r0 5 5 fun i10 =>
          x_rc h9 r0 5 <| x_cI (f_X5_hasStart h9 r0 x2 i10) fun h12 i11 =>
          if i11 = 0 then
            (
              f_X5_findSideCount_b95 k18 h12 r0 x1 x2 i6 1
            )
          else
            (
              x_gR h12 r0 5 0 fun a13 =>
              x_gI h12 r0 5 5 fun i14 =>
              x_rc h12 a13 4 <| x_cI (f_X4_itemField h12 a13 x2 i14 2) fun h16 i15 =>
              f_X5_findSideCount_b95 k18 h16 r0 x1 x2 i6 i15
            )
        )
      else
        (
          x_gI h9 r0 5 5 fun i17 =>
          x_rc h9 r0 5 <| x_cI (f_X5_firstTrack h9 r0 x2 i17) fun h19 i18 =>
          f_X5_findSideCount_b95 k18 h19 r0 x1 x2 i6 i18
        )
    )
def f_X5_findSideCount_L18  : Nat → HP → Nat → Int32 → Int32 → Option XR
  | 0 => fun _ _ _ _ => none
  | n + 1 => f_X5_findSideCount_b18 (f_X5_findSideCount_L18 n)
def f_X5_findSideCount (h : HP) (r0 : Nat) : Option XR :=
  x_gR h r0 5 0 fun a1 =>
  x_gI h r0 5 5 fun i2 =>
  x_rc h a1 4 <| x_cI (f_X4_explicitCount h a1 i2) fun h4 i3 =>
  x_lI (if 1 < i3 then i3 else 1) fun i5 =>
  f_X5_findSideCount_L18 FU h4 r0 i5 0
set_option maxRecDepth 100000 in
set_option maxHeartbeats 4000000 in
theorem s_X5_findSideCount_b95 {p : Program} {l : Launch} {e : Env} {s : State} {m : MethodId} {args : Array Value} {below : List Frame} {meth : Method} {c : Code} {E : XE} {z : XR} (C0 : x_C E p l s m meth c args cX5_findSideCount 5 "GridEngine$Placement" "findSideCount" none) (hxt : ∀ x ∈ c.exceptionTable.toList, False) {k18 : HP → Nat → Int32 → Int32 → Option XR} (hk18 : ∀ (h : HP) (r0 : Nat) (x1 : Int32) (x2 : Int32) (H : Heap) (locs : List Loc) (ls : Array Slot), x_Rep E h H → va_S (x_A E) s.heap H locs → lv_has ls 5 [(0, .ref (xa E r0)), (1, .int x1), (2, .int x2)] → k18 h r0 x1 x2 = some z → W p l e ({ frames := 10, cells := 0, slots := 0, locals := 176 } : Room) s m args below meth c H locs 0 0 (x_Q E below args s 0 0 z) (F0 m 18 ls [])) : ∀ (h : HP) (r0 : Nat) (x1 : Int32) (x2 : Int32) (x3 : Int32) (x4 : Int32) (H : Heap) (locs : List Loc) (ls : Array Slot), x_Rep E h H → va_S (x_A E) s.heap H locs → lv_has ls 5 [(0, .ref (xa E r0)), (1, .int x1), (2, .int x2), (3, .int x3), (4, .int x4)] → f_X5_findSideCount_b95 k18 h r0 x1 x2 x3 x4 = some z → W p l e ({ frames := 10, cells := 0, slots := 0, locals := 176 } : Room) s m args below meth c H locs 0 0 (x_Q E below args s 0 0 z) (F0 m 95 ls []) := by
  intro h r0 x1 x2 x3 x4 H locs ls hR hS hl hf
  obtain ⟨hx, hb, -⟩ := id C0
  unfold f_X5_findSideCount_b95 at hf
  have h0 : x_by cX5_findSideCount 95 [27, 21, 4, 29, 96, 4, 100, 184, 0, 110, 60, 132, 2, 1, 167, 255, 165] := by unfold x_by; decide +kernel
  obtain ⟨d95, h0⟩ := de_iload_n1 h0
  obtain ⟨d96, h0⟩ := de_iload h0
  obtain ⟨d98, h0⟩ := de_iload_n3 h0
  obtain ⟨d99, h0⟩ := de_iadd h0
  obtain ⟨d100, h0⟩ := de_iconst_1 h0
  obtain ⟨d101, h0⟩ := de_isub h0
  obtain ⟨d102, h0⟩ := de_invokestatic 110 (by decide) h0
  obtain ⟨d105, h0⟩ := de_istore_n1 h0
  obtain ⟨d106, h0⟩ := de_iinc (1) (by decide) h0
  obtain ⟨d109, h0⟩ := de_goto (-91) (by decide) h0
  refine lv_iload_n hx hb d95 rfl (lv_at hl 1 rfl) ?_
  refine lv_iload hx hb d96 (lv_at hl 4 rfl) ?_
  refine lv_iload_n hx hb d98 rfl (lv_at hl 3 rfl) ?_
  refine lv_iadd hx hb d99 ?_
  refine lv_iconst (v := 1) hx hb d100 (by decide) ?_
  refine lv_isub hx hb d101 ?_
  refine x_mmax C0 hl.1 ml_X5_110 lib_max (Nat.le_of_ble_eq_true rfl) (Nat.le_of_ble_eq_true rfl) (Nat.le_of_ble_eq_true rfl) (Nat.le_of_ble_eq_true rfl) d102 ?_
  refine lv_topi (fun i1 ei1 => ?_)
  have hf := x_lI_el ei1 hf
  refine lv_istore_n (lv' := [(1, .int i1), (0, .ref (xa E r0)), (2, .int x2), (3, .int x3), (4, .int x4)]) hx hb d105 rfl hl (by decide) rfl (fun ls hl => ?_)
  refine lv_iinc (v := (x2 + 1)) (lv' := [(2, .int (x2 + 1)), (1, .int i1), (0, .ref (xa E r0)), (3, .int x3), (4, .int x4)]) hx hb d106 hl (k := 2) rfl rfl (by decide) rfl (fun ls hl => ?_)
  refine lv_goto (tgt := 18) hx hb d109 (by decide) ?_
  exact hk18 _ _ _ _ _ _ _ hR hS (lv_sub hl [2, 1, 0] rfl) hf
set_option maxRecDepth 100000 in
set_option maxHeartbeats 4000000 in
theorem s_X5_findSideCount_b18 {p : Program} {l : Launch} {e : Env} {s : State} {m : MethodId} {args : Array Value} {below : List Frame} {meth : Method} {c : Code} {E : XE} {z : XR} (C0 : x_C E p l s m meth c args cX5_findSideCount 5 "GridEngine$Placement" "findSideCount" none) (hxt : ∀ x ∈ c.exceptionTable.toList, False) {k18 : HP → Nat → Int32 → Int32 → Option XR} (hk18 : ∀ (h : HP) (r0 : Nat) (x1 : Int32) (x2 : Int32) (H : Heap) (locs : List Loc) (ls : Array Slot), x_Rep E h H → va_S (x_A E) s.heap H locs → lv_has ls 5 [(0, .ref (xa E r0)), (1, .int x1), (2, .int x2)] → k18 h r0 x1 x2 = some z → W p l e ({ frames := 10, cells := 0, slots := 0, locals := 176 } : Room) s m args below meth c H locs 0 0 (x_Q E below args s 0 0 z) (F0 m 18 ls [])) : ∀ (h : HP) (r0 : Nat) (x1 : Int32) (x2 : Int32) (H : Heap) (locs : List Loc) (ls : Array Slot), x_Rep E h H → va_S (x_A E) s.heap H locs → lv_has ls 5 [(0, .ref (xa E r0)), (1, .int x1), (2, .int x2)] → f_X5_findSideCount_b18 k18 h r0 x1 x2 = some z → W p l e ({ frames := 10, cells := 0, slots := 0, locals := 176 } : Room) s m args below meth c H locs 0 0 (x_Q E below args s 0 0 z) (F0 m 18 ls []) := by
  intro h r0 x1 x2 H locs ls hR hS hl hf
  obtain ⟨hx, hb, -⟩ := id C0
  unfold f_X5_findSideCount_b18 at hf
  have h0 : x_by cX5_findSideCount 18 [28, 42, 180, 0, 38, 180, 0, 86, 162, 0, 86] := by unfold x_by; decide +kernel
  obtain ⟨d18, h0⟩ := de_iload_n2 h0
  obtain ⟨d19, h0⟩ := de_aload_n0 h0
  obtain ⟨d20, h0⟩ := de_getfield 38 (by decide) h0
  obtain ⟨d23, h0⟩ := de_getfield 86 (by decide) h0
  obtain ⟨d26, h0⟩ := de_icmp_ge (86) (by decide) h0
  refine lv_iload_n hx hb d18 rfl (lv_at hl 2 rfl) ?_
  refine lv_aload_n hx hb d19 rfl (lv_at hl 0 rfl) ?_
  refine x_getR C0 hR hf xcl_5 (Nat.le_of_ble_eq_true rfl) rfl fl_X5_38 d20 (fun a1 hf => ?_)
  refine x_getI C0 hR hf xcl_4 (Nat.le_of_ble_eq_true rfl) rfl fl_X5_86 d23 (fun i2 hf => ?_)
  refine lv_icmp_ge (tgt := 112) hx hb d26 (by decide) (fun q => ?_) (fun q => ?_)
  · have hf := x_pos q hf
    have h0 : x_by cX5_findSideCount 112 [42, 27, 181, 0, 29, 177] := by unfold x_by; decide +kernel
    obtain ⟨d112, h0⟩ := de_aload_n0 h0
    obtain ⟨d113, h0⟩ := de_iload_n1 h0
    obtain ⟨d114, h0⟩ := de_putfield 29 (by decide) h0
    obtain ⟨d117, h0⟩ := de_return h0
    refine lv_aload_n hx hb d112 rfl (lv_at hl 0 rfl) ?_
    refine lv_iload_n hx hb d113 rfl (lv_at hl 1 rfl) ?_
    refine x_putI C0 hR hS hf xcl_5 (Nat.le_of_ble_eq_true rfl) rfl fl_X5_29 (Or.inl rfl) d114 (fun H locs hR hS hf => ?_)
    exact x_vret C0 hR hS hf (Nat.le_of_ble_eq_true rfl) (Nat.le_of_ble_eq_true rfl) d117
  · have hf := x_neg q hf
    have h0 : x_by cX5_findSideCount 29 [42, 180, 0, 38, 28, 42, 180, 0, 26, 6, 182, 0, 72, 62, 4, 54, 4, 42, 28, 182, 0, 116, 153, 0, 17] := by unfold x_by; decide +kernel
    obtain ⟨d29, h0⟩ := de_aload_n0 h0
    obtain ⟨d30, h0⟩ := de_getfield 38 (by decide) h0
    obtain ⟨d33, h0⟩ := de_iload_n2 h0
    obtain ⟨d34, h0⟩ := de_aload_n0 h0
    obtain ⟨d35, h0⟩ := de_getfield 26 (by decide) h0
    obtain ⟨d38, h0⟩ := de_iconst_3 h0
    obtain ⟨d39, h0⟩ := de_invokevirtual 72 (by decide) h0
    obtain ⟨d42, h0⟩ := de_istore_n3 h0
    obtain ⟨d43, h0⟩ := de_iconst_1 h0
    obtain ⟨d44, h0⟩ := de_istore h0
    obtain ⟨d46, h0⟩ := de_aload_n0 h0
    obtain ⟨d47, h0⟩ := de_iload_n2 h0
    obtain ⟨d48, h0⟩ := de_invokevirtual 116 (by decide) h0
    obtain ⟨d51, h0⟩ := de_if_eq (17) (by decide) h0
    refine lv_aload_n hx hb d29 rfl (lv_at hl 0 rfl) ?_
    refine x_getR C0 hR hf xcl_5 (Nat.le_of_ble_eq_true rfl) rfl fl_X5_38 d30 (fun a4 hf => ?_)
    refine lv_iload_n hx hb d33 rfl (lv_at hl 2 rfl) ?_
    refine lv_aload_n hx hb d34 rfl (lv_at hl 0 rfl) ?_
    refine x_getI C0 hR hf xcl_5 (Nat.le_of_ble_eq_true rfl) rfl fl_X5_26 d35 (fun i5 hf => ?_)
    refine lv_iconst (v := 3) hx hb d38 (by decide) ?_
    obtain ⟨hs9, hf⟩ := x_if hf
    refine x_thenI C0 hxt hS hf (fun z0 e0 => x_runV C0 hR hS me_X4_itemField wi_X4_itemField wl_X4_itemField ml_X5_72 hs9 xcl_4 (As := [.int x2, .int i5, .int 3]) (ct_X4_itemField E l C0.2.2.2.2.2.2.2.1 _ a4 x2 i5 3) rfl rfl hl.1 (Nat.le_of_ble_eq_true rfl) d39 ⟨(Nat.le_of_ble_eq_true rfl), (Nat.le_of_ble_eq_true rfl)⟩ ⟨(Nat.le_of_ble_eq_true rfl), (Nat.le_of_ble_eq_true rfl)⟩ e0) (Nat.le_of_ble_eq_true rfl) (Nat.le_of_ble_eq_true rfl) (fun h9 i6 H locs hR hS hf => ?_)
    refine lv_istore_n (lv' := [(3, .int i6), (0, .ref (xa E r0)), (1, .int x1), (2, .int x2)]) hx hb d42 rfl hl (by decide) rfl (fun ls hl => ?_)
    refine lv_iconst (v := 1) hx hb d43 (by decide) ?_
    refine lv_istore (lv' := [(4, .int 1), (3, .int i6), (0, .ref (xa E r0)), (1, .int x1), (2, .int x2)]) hx hb d44 hl (by decide) rfl (fun ls hl => ?_)
    refine lv_aload_n hx hb d46 rfl (lv_at hl 2 rfl) ?_
    refine lv_iload_n hx hb d47 rfl (lv_at hl 4 rfl) ?_
    obtain ⟨hs9, hf⟩ := x_if hf
    refine x_thenI C0 hxt hS hf (fun z0 e0 => x_runV C0 hR hS me_X5_isPlacedBefore wi_X5_isPlacedBefore wl_X5_isPlacedBefore ml_X5_116 hs9 xcl_5 (As := [.int x2]) (ct_X5_isPlacedBefore E l C0.2.2.2.2.2.2.2.1 _ r0 x2) rfl rfl hl.1 (Nat.le_of_ble_eq_true rfl) d48 ⟨(Nat.le_of_ble_eq_true rfl), (Nat.le_of_ble_eq_true rfl)⟩ ⟨(Nat.le_of_ble_eq_true rfl), (Nat.le_of_ble_eq_true rfl)⟩ e0) (Nat.le_of_ble_eq_true rfl) (Nat.le_of_ble_eq_true rfl) (fun h9 i8 H locs hR hS hf => ?_)
    refine lv_if_eq (tgt := 68) hx hb d51 (by decide) (fun q => ?_) (fun q => ?_)
    · have hf := x_pos q hf
      have h0 : x_by cX5_findSideCount 68 [42, 28, 42, 180, 0, 26, 182, 0, 92, 153, 0, 18] := by unfold x_by; decide +kernel
      obtain ⟨d68, h0⟩ := de_aload_n0 h0
      obtain ⟨d69, h0⟩ := de_iload_n2 h0
      obtain ⟨d70, h0⟩ := de_aload_n0 h0
      obtain ⟨d71, h0⟩ := de_getfield 26 (by decide) h0
      obtain ⟨d74, h0⟩ := de_invokevirtual 92 (by decide) h0
      obtain ⟨d77, h0⟩ := de_if_eq (18) (by decide) h0
      refine lv_aload_n hx hb d68 rfl (lv_at hl 2 rfl) ?_
      refine lv_iload_n hx hb d69 rfl (lv_at hl 4 rfl) ?_
      refine lv_aload_n hx hb d70 rfl (lv_at hl 2 rfl) ?_
      refine x_getI C0 hR hf xcl_5 (Nat.le_of_ble_eq_true rfl) rfl fl_X5_26 d71 (fun i10 hf => ?_)
      obtain ⟨hs9, hf⟩ := x_if hf
      refine x_thenI C0 hxt hS hf (fun z0 e0 => x_runV C0 hR hS me_X5_hasStart wi_X5_hasStart wl_X5_hasStart ml_X5_92 hs9 xcl_5 (As := [.int x2, .int i10]) (ct_X5_hasStart E l C0.2.2.2.2.2.2.2.1 _ r0 x2 i10) rfl rfl hl.1 (Nat.le_of_ble_eq_true rfl) d74 ⟨(Nat.le_of_ble_eq_true rfl), (Nat.le_of_ble_eq_true rfl)⟩ ⟨(Nat.le_of_ble_eq_true rfl), (Nat.le_of_ble_eq_true rfl)⟩ e0) (Nat.le_of_ble_eq_true rfl) (Nat.le_of_ble_eq_true rfl) (fun h9 i11 H locs hR hS hf => ?_)
      refine lv_if_eq (tgt := 95) hx hb d77 (by decide) (fun q => ?_) (fun q => ?_)
      · have hf := x_pos q hf
        exact s_X5_findSideCount_b95 C0 hxt hk18 _ _ _ _ _ _ _ _ _ hR hS (lv_sub hl [2, 3, 4, 1, 0] rfl) hf
      · have hf := x_neg q hf
        have h0 : x_by cX5_findSideCount 80 [42, 180, 0, 38, 28, 42, 180, 0, 26, 5, 182, 0, 72, 54, 4] := by unfold x_by; decide +kernel
        obtain ⟨d80, h0⟩ := de_aload_n0 h0
        obtain ⟨d81, h0⟩ := de_getfield 38 (by decide) h0
        obtain ⟨d84, h0⟩ := de_iload_n2 h0
        obtain ⟨d85, h0⟩ := de_aload_n0 h0
        obtain ⟨d86, h0⟩ := de_getfield 26 (by decide) h0
        obtain ⟨d89, h0⟩ := de_iconst_2 h0
        obtain ⟨d90, h0⟩ := de_invokevirtual 72 (by decide) h0
        obtain ⟨d93, h0⟩ := de_istore h0
        refine lv_aload_n hx hb d80 rfl (lv_at hl 2 rfl) ?_
        refine x_getR C0 hR hf xcl_5 (Nat.le_of_ble_eq_true rfl) rfl fl_X5_38 d81 (fun a13 hf => ?_)
        refine lv_iload_n hx hb d84 rfl (lv_at hl 4 rfl) ?_
        refine lv_aload_n hx hb d85 rfl (lv_at hl 2 rfl) ?_
        refine x_getI C0 hR hf xcl_5 (Nat.le_of_ble_eq_true rfl) rfl fl_X5_26 d86 (fun i14 hf => ?_)
        refine lv_iconst (v := 2) hx hb d89 (by decide) ?_
        obtain ⟨hs9, hf⟩ := x_if hf
        refine x_thenI C0 hxt hS hf (fun z0 e0 => x_runV C0 hR hS me_X4_itemField wi_X4_itemField wl_X4_itemField ml_X5_72 hs9 xcl_4 (As := [.int x2, .int i14, .int 2]) (ct_X4_itemField E l C0.2.2.2.2.2.2.2.1 _ a13 x2 i14 2) rfl rfl hl.1 (Nat.le_of_ble_eq_true rfl) d90 ⟨(Nat.le_of_ble_eq_true rfl), (Nat.le_of_ble_eq_true rfl)⟩ ⟨(Nat.le_of_ble_eq_true rfl), (Nat.le_of_ble_eq_true rfl)⟩ e0) (Nat.le_of_ble_eq_true rfl) (Nat.le_of_ble_eq_true rfl) (fun h9 i15 H locs hR hS hf => ?_)
        refine lv_istore (lv' := [(4, .int i15), (3, .int i6), (0, .ref (xa E r0)), (1, .int x1), (2, .int x2)]) hx hb d93 hl (by decide) rfl (fun ls hl => ?_)
        exact s_X5_findSideCount_b95 C0 hxt hk18 _ _ _ _ _ _ _ _ _ hR hS (lv_sub hl [2, 3, 4, 1, 0] rfl) hf
    · have hf := x_neg q hf
      have h0 : x_by cX5_findSideCount 54 [42, 28, 42, 180, 0, 26, 182, 0, 69, 54, 4, 167, 0, 30] := by unfold x_by; decide +kernel
      obtain ⟨d54, h0⟩ := de_aload_n0 h0
      obtain ⟨d55, h0⟩ := de_iload_n2 h0
      obtain ⟨d56, h0⟩ := de_aload_n0 h0
      obtain ⟨d57, h0⟩ := de_getfield 26 (by decide) h0
      obtain ⟨d60, h0⟩ := de_invokevirtual 69 (by decide) h0
      obtain ⟨d63, h0⟩ := de_istore h0
      obtain ⟨d65, h0⟩ := de_goto (30) (by decide) h0
      refine lv_aload_n hx hb d54 rfl (lv_at hl 2 rfl) ?_
      refine lv_iload_n hx hb d55 rfl (lv_at hl 4 rfl) ?_
      refine lv_aload_n hx hb d56 rfl (lv_at hl 2 rfl) ?_
      refine x_getI C0 hR hf xcl_5 (Nat.le_of_ble_eq_true rfl) rfl fl_X5_26 d57 (fun i17 hf => ?_)
      obtain ⟨hs9, hf⟩ := x_if hf
      refine x_thenI C0 hxt hS hf (fun z0 e0 => x_runV C0 hR hS me_X5_firstTrack wi_X5_firstTrack wl_X5_firstTrack ml_X5_69 hs9 xcl_5 (As := [.int x2, .int i17]) (ct_X5_firstTrack E l C0.2.2.2.2.2.2.2.1 _ r0 x2 i17) rfl rfl hl.1 (Nat.le_of_ble_eq_true rfl) d60 ⟨(Nat.le_of_ble_eq_true rfl), (Nat.le_of_ble_eq_true rfl)⟩ ⟨(Nat.le_of_ble_eq_true rfl), (Nat.le_of_ble_eq_true rfl)⟩ e0) (Nat.le_of_ble_eq_true rfl) (Nat.le_of_ble_eq_true rfl) (fun h9 i18 H locs hR hS hf => ?_)
      refine lv_istore (lv' := [(4, .int i18), (3, .int i6), (0, .ref (xa E r0)), (1, .int x1), (2, .int x2)]) hx hb d63 hl (by decide) rfl (fun ls hl => ?_)
      refine lv_goto (tgt := 95) hx hb d65 (by decide) ?_
      exact s_X5_findSideCount_b95 C0 hxt hk18 _ _ _ _ _ _ _ _ _ hR hS (lv_sub hl [2, 3, 4, 1, 0] rfl) hf
theorem s_X5_findSideCount_L18 {p : Program} {l : Launch} {e : Env} {s : State} {m : MethodId} {args : Array Value} {below : List Frame} {meth : Method} {c : Code} {E : XE} {z : XR} (C0 : x_C E p l s m meth c args cX5_findSideCount 5 "GridEngine$Placement" "findSideCount" none) (hxt : ∀ x ∈ c.exceptionTable.toList, False)  : ∀ n : Nat, ∀ (h : HP) (r0 : Nat) (x1 : Int32) (x2 : Int32) (H : Heap) (locs : List Loc) (ls : Array Slot), x_Rep E h H → va_S (x_A E) s.heap H locs → lv_has ls 5 [(0, .ref (xa E r0)), (1, .int x1), (2, .int x2)] → f_X5_findSideCount_L18 n h r0 x1 x2 = some z → W p l e ({ frames := 10, cells := 0, slots := 0, locals := 176 } : Room) s m args below meth c H locs 0 0 (x_Q E below args s 0 0 z) (F0 m 18 ls []) := by
  intro n
  induction n with
  | zero => intro h r0 x1 x2 H locs ls hR hS hl hf; cases (show (none : Option XR) = some z from hf)
  | succ n ih => intro h r0 x1 x2 H locs ls hR hS hl hf; exact s_X5_findSideCount_b18 C0 hxt ih h r0 x1 x2 H locs ls hR hS hl (show f_X5_findSideCount_b18 (f_X5_findSideCount_L18 n) h r0 x1 x2 = some z from hf)
set_option maxRecDepth 100000 in
set_option maxHeartbeats 4000000 in
theorem ct_X5_findSideCount (E : XE) (l : Launch) (hl0 : l.stackTraces = false) (h : HP) (r0 : Nat) : x_ct E l yX5_findSideCount (Cond.code yX5_findSideCount cX5_findSideCount 5 none) 10 176 0 0 [.ref (xa E r0)] h (f_X5_findSideCount h r0) := by
  refine x_ofW hl0 (by decide +kernel) ?_
  intro z hf p e s m args below meth c C0 hxt hargs hR
  subst hargs
  have C0 : x_C E p l s m meth c ([.ref (xa E r0)] : List Value).toArray cX5_findSideCount 5 "GridEngine$Placement" "findSideCount" none := C0
  obtain ⟨hx, hb, -⟩ := id C0
  have hS : va_S (x_A E) s.heap s.heap [] := va_S.rf
  have hl := lv_entry ([.ref (xa E r0)]) (n := 5) (Nat.le_of_ble_eq_true rfl)
  rw [lg_entry_eq]
  generalize (lg_sl ([.ref (xa E r0)]) ++ List.replicate (5 - (lg_sl ([.ref (xa E r0)])).length) Slot.unset).toArray = ls at hl ⊢
  have hl : lv_has ls 5 [(0, .ref (xa E r0))] := hl
  unfold f_X5_findSideCount at hf
  have h0 : x_by cX5_findSideCount 0 [4, 42, 180, 0, 38, 42, 180, 0, 26, 182, 0, 113, 184, 0, 110, 60, 3, 61] := by unfold x_by; decide +kernel
  obtain ⟨d0, h0⟩ := de_iconst_1 h0
  obtain ⟨d1, h0⟩ := de_aload_n0 h0
  obtain ⟨d2, h0⟩ := de_getfield 38 (by decide) h0
  obtain ⟨d5, h0⟩ := de_aload_n0 h0
  obtain ⟨d6, h0⟩ := de_getfield 26 (by decide) h0
  obtain ⟨d9, h0⟩ := de_invokevirtual 113 (by decide) h0
  obtain ⟨d12, h0⟩ := de_invokestatic 110 (by decide) h0
  obtain ⟨d15, h0⟩ := de_istore_n1 h0
  obtain ⟨d16, h0⟩ := de_iconst_0 h0
  obtain ⟨d17, h0⟩ := de_istore_n2 h0
  refine lv_iconst (v := 1) hx hb d0 (by decide) ?_
  refine lv_aload_n hx hb d1 rfl (lv_at hl 0 rfl) ?_
  refine x_getR C0 hR hf xcl_5 (Nat.le_of_ble_eq_true rfl) rfl fl_X5_38 d2 (fun a1 hf => ?_)
  refine lv_aload_n hx hb d5 rfl (lv_at hl 0 rfl) ?_
  refine x_getI C0 hR hf xcl_5 (Nat.le_of_ble_eq_true rfl) rfl fl_X5_26 d6 (fun i2 hf => ?_)
  obtain ⟨hs9, hf⟩ := x_if hf
  refine x_thenI C0 hxt hS hf (fun z0 e0 => x_runV C0 hR hS me_X4_explicitCount wi_X4_explicitCount wl_X4_explicitCount ml_X5_113 hs9 xcl_4 (As := [.int i2]) (ct_X4_explicitCount E l C0.2.2.2.2.2.2.2.1 _ a1 i2) rfl rfl hl.1 (Nat.le_of_ble_eq_true rfl) d9 ⟨(Nat.le_of_ble_eq_true rfl), (Nat.le_of_ble_eq_true rfl)⟩ ⟨(Nat.le_of_ble_eq_true rfl), (Nat.le_of_ble_eq_true rfl)⟩ e0) (Nat.le_of_ble_eq_true rfl) (Nat.le_of_ble_eq_true rfl) (fun h9 i3 H locs hR hS hf => ?_)
  refine x_mmax C0 hl.1 ml_X5_110 lib_max (Nat.le_of_ble_eq_true rfl) (Nat.le_of_ble_eq_true rfl) (Nat.le_of_ble_eq_true rfl) (Nat.le_of_ble_eq_true rfl) d12 ?_
  refine lv_topi (fun i5 ei5 => ?_)
  have hf := x_lI_el ei5 hf
  refine lv_istore_n (lv' := [(1, .int i5), (0, .ref (xa E r0))]) hx hb d15 rfl hl (by decide) rfl (fun ls hl => ?_)
  refine lv_iconst (v := 0) hx hb d16 (by decide) ?_
  refine lv_istore_n (lv' := [(2, .int 0), (1, .int i5), (0, .ref (xa E r0))]) hx hb d17 rfl hl (by decide) rfl (fun ls hl => ?_)
  exact s_X5_findSideCount_L18 C0 hxt FU _ _ _ _ _ _ _ hR hS (lv_sub hl [2, 1, 0] rfl) hf
def f_X5_lastTrack (h : HP) (r0 : Nat) (x1 : Int32) (x2 : Int32) : Option XR :=
  x_rc h r0 5 <| x_cI (f_X5_firstTrack h r0 x1 x2) fun h2 i1 =>
  x_gR h2 r0 5 0 fun a3 =>
  x_rc h2 a3 4 <| x_cI (f_X4_itemField h2 a3 x1 x2 3) fun h5 i4 =>
  some (h5, xi ((i1 + i4) - 1))
set_option maxRecDepth 100000 in
set_option maxHeartbeats 4000000 in
theorem ct_X5_lastTrack (E : XE) (l : Launch) (hl0 : l.stackTraces = false) (h : HP) (r0 : Nat) (x1 : Int32) (x2 : Int32) : x_ct E l yX5_lastTrack (Cond.code yX5_lastTrack cX5_lastTrack 3 (some .int)) 9 154 0 0 [.ref (xa E r0), .int x1, .int x2] h (f_X5_lastTrack h r0 x1 x2) := by
  refine x_ofW hl0 (by decide +kernel) ?_
  intro z hf p e s m args below meth c C0 hxt hargs hR
  subst hargs
  have C0 : x_C E p l s m meth c ([.ref (xa E r0), .int x1, .int x2] : List Value).toArray cX5_lastTrack 3 "GridEngine$Placement" "lastTrack" (some .int) := C0
  obtain ⟨hx, hb, -⟩ := id C0
  have hS : va_S (x_A E) s.heap s.heap [] := va_S.rf
  have hl := lv_entry ([.ref (xa E r0), .int x1, .int x2]) (n := 3) (Nat.le_of_ble_eq_true rfl)
  rw [lg_entry_eq]
  generalize (lg_sl ([.ref (xa E r0), .int x1, .int x2]) ++ List.replicate (3 - (lg_sl ([.ref (xa E r0), .int x1, .int x2])).length) Slot.unset).toArray = ls at hl ⊢
  have hl : lv_has ls 3 [(0, .ref (xa E r0)), (1, .int x1), (2, .int x2)] := hl
  unfold f_X5_lastTrack at hf
  have h0 : x_by cX5_lastTrack 0 [42, 27, 28, 182, 0, 69, 42, 180, 0, 38, 27, 28, 6, 182, 0, 72, 96, 4, 100, 172] := by unfold x_by; decide +kernel
  obtain ⟨d0, h0⟩ := de_aload_n0 h0
  obtain ⟨d1, h0⟩ := de_iload_n1 h0
  obtain ⟨d2, h0⟩ := de_iload_n2 h0
  obtain ⟨d3, h0⟩ := de_invokevirtual 69 (by decide) h0
  obtain ⟨d6, h0⟩ := de_aload_n0 h0
  obtain ⟨d7, h0⟩ := de_getfield 38 (by decide) h0
  obtain ⟨d10, h0⟩ := de_iload_n1 h0
  obtain ⟨d11, h0⟩ := de_iload_n2 h0
  obtain ⟨d12, h0⟩ := de_iconst_3 h0
  obtain ⟨d13, h0⟩ := de_invokevirtual 72 (by decide) h0
  obtain ⟨d16, h0⟩ := de_iadd h0
  obtain ⟨d17, h0⟩ := de_iconst_1 h0
  obtain ⟨d18, h0⟩ := de_isub h0
  obtain ⟨d19, h0⟩ := de_ireturn h0
  refine lv_aload_n hx hb d0 rfl (lv_at hl 0 rfl) ?_
  refine lv_iload_n hx hb d1 rfl (lv_at hl 1 rfl) ?_
  refine lv_iload_n hx hb d2 rfl (lv_at hl 2 rfl) ?_
  obtain ⟨hs9, hf⟩ := x_if hf
  refine x_thenI C0 hxt hS hf (fun z0 e0 => x_runV C0 hR hS me_X5_firstTrack wi_X5_firstTrack wl_X5_firstTrack ml_X5_69 hs9 xcl_5 (As := [.int x1, .int x2]) (ct_X5_firstTrack E l C0.2.2.2.2.2.2.2.1 _ r0 x1 x2) rfl rfl hl.1 (Nat.le_of_ble_eq_true rfl) d3 ⟨(Nat.le_of_ble_eq_true rfl), (Nat.le_of_ble_eq_true rfl)⟩ ⟨(Nat.le_of_ble_eq_true rfl), (Nat.le_of_ble_eq_true rfl)⟩ e0) (Nat.le_of_ble_eq_true rfl) (Nat.le_of_ble_eq_true rfl) (fun h9 i1 H locs hR hS hf => ?_)
  refine lv_aload_n hx hb d6 rfl (lv_at hl 0 rfl) ?_
  refine x_getR C0 hR hf xcl_5 (Nat.le_of_ble_eq_true rfl) rfl fl_X5_38 d7 (fun a3 hf => ?_)
  refine lv_iload_n hx hb d10 rfl (lv_at hl 1 rfl) ?_
  refine lv_iload_n hx hb d11 rfl (lv_at hl 2 rfl) ?_
  refine lv_iconst (v := 3) hx hb d12 (by decide) ?_
  obtain ⟨hs9, hf⟩ := x_if hf
  refine x_thenI C0 hxt hS hf (fun z0 e0 => x_runV C0 hR hS me_X4_itemField wi_X4_itemField wl_X4_itemField ml_X5_72 hs9 xcl_4 (As := [.int x1, .int x2, .int 3]) (ct_X4_itemField E l C0.2.2.2.2.2.2.2.1 _ a3 x1 x2 3) rfl rfl hl.1 (Nat.le_of_ble_eq_true rfl) d13 ⟨(Nat.le_of_ble_eq_true rfl), (Nat.le_of_ble_eq_true rfl)⟩ ⟨(Nat.le_of_ble_eq_true rfl), (Nat.le_of_ble_eq_true rfl)⟩ e0) (Nat.le_of_ble_eq_true rfl) (Nat.le_of_ble_eq_true rfl) (fun h9 i4 H locs hR hS hf => ?_)
  refine lv_iadd hx hb d16 ?_
  refine lv_iconst (v := 1) hx hb d17 (by decide) ?_
  refine lv_isub hx hb d18 ?_
  exact x_iret C0 hR hS hf (Nat.le_of_ble_eq_true rfl) (Nat.le_of_ble_eq_true rfl) d19
def f_X5_neededTracks_b11 (k11 : HP → Nat → Int32 → Int32 → Int32 → Option XR) (h : HP) (r0 : Nat) (x1 : Int32) (x2 : Int32) (x3 : Int32) : Option XR :=
  x_gR h r0 5 0 fun a1 =>
  x_gI h a1 4 4 fun i2 =>
  if i2 ≤ x3 then
    (
      some (h, xi x2)
    )
  else
    (
      x_rc h r0 5 <| x_cI (f_X5_lastTrack h r0 x3 x1) fun h4 i3 =>
      x_lI (if x2 < i3 then i3 else x2) fun i5 =>
      k11 h4 r0 x1 i5 (x3 + 1)
    )
def f_X5_neededTracks_L11  : Nat → HP → Nat → Int32 → Int32 → Int32 → Option XR
  | 0 => fun _ _ _ _ _ => none
  | n + 1 => f_X5_neededTracks_b11 (f_X5_neededTracks_L11 n)
def f_X5_neededTracks (h : HP) (r0 : Nat) (x1 : Int32) : Option XR :=
  x_gR h r0 5 0 fun a1 =>
  x_rc h a1 4 <| x_cI (f_X4_explicitCount h a1 x1) fun h3 i2 =>
  f_X5_neededTracks_L11 FU h3 r0 x1 i2 0
set_option maxRecDepth 100000 in
set_option maxHeartbeats 4000000 in
theorem s_X5_neededTracks_b11 {p : Program} {l : Launch} {e : Env} {s : State} {m : MethodId} {args : Array Value} {below : List Frame} {meth : Method} {c : Code} {E : XE} {z : XR} (C0 : x_C E p l s m meth c args cX5_neededTracks 4 "GridEngine$Placement" "neededTracks" (some .int)) (hxt : ∀ x ∈ c.exceptionTable.toList, False) {k11 : HP → Nat → Int32 → Int32 → Int32 → Option XR} (hk11 : ∀ (h : HP) (r0 : Nat) (x1 : Int32) (x2 : Int32) (x3 : Int32) (H : Heap) (locs : List Loc) (ls : Array Slot), x_Rep E h H → va_S (x_A E) s.heap H locs → lv_has ls 4 [(0, .ref (xa E r0)), (1, .int x1), (2, .int x2), (3, .int x3)] → k11 h r0 x1 x2 x3 = some z → W p l e ({ frames := 10, cells := 0, slots := 0, locals := 176 } : Room) s m args below meth c H locs 0 0 (x_Q E below args s 0 0 z) (F0 m 11 ls [])) : ∀ (h : HP) (r0 : Nat) (x1 : Int32) (x2 : Int32) (x3 : Int32) (H : Heap) (locs : List Loc) (ls : Array Slot), x_Rep E h H → va_S (x_A E) s.heap H locs → lv_has ls 4 [(0, .ref (xa E r0)), (1, .int x1), (2, .int x2), (3, .int x3)] → f_X5_neededTracks_b11 k11 h r0 x1 x2 x3 = some z → W p l e ({ frames := 10, cells := 0, slots := 0, locals := 176 } : Room) s m args below meth c H locs 0 0 (x_Q E below args s 0 0 z) (F0 m 11 ls []) := by
  intro h r0 x1 x2 x3 H locs ls hR hS hl hf
  obtain ⟨hx, hb, -⟩ := id C0
  unfold f_X5_neededTracks_b11 at hf
  have h0 : x_by cX5_neededTracks 11 [29, 42, 180, 0, 38, 180, 0, 86, 162, 0, 20] := by unfold x_by; decide +kernel
  obtain ⟨d11, h0⟩ := de_iload_n3 h0
  obtain ⟨d12, h0⟩ := de_aload_n0 h0
  obtain ⟨d13, h0⟩ := de_getfield 38 (by decide) h0
  obtain ⟨d16, h0⟩ := de_getfield 86 (by decide) h0
  obtain ⟨d19, h0⟩ := de_icmp_ge (20) (by decide) h0
  refine lv_iload_n hx hb d11 rfl (lv_at hl 3 rfl) ?_
  refine lv_aload_n hx hb d12 rfl (lv_at hl 0 rfl) ?_
  refine x_getR C0 hR hf xcl_5 (Nat.le_of_ble_eq_true rfl) rfl fl_X5_38 d13 (fun a1 hf => ?_)
  refine x_getI C0 hR hf xcl_4 (Nat.le_of_ble_eq_true rfl) rfl fl_X5_86 d16 (fun i2 hf => ?_)
  refine lv_icmp_ge (tgt := 39) hx hb d19 (by decide) (fun q => ?_) (fun q => ?_)
  · have hf := x_pos q hf
    have h0 : x_by cX5_neededTracks 39 [28, 172] := by unfold x_by; decide +kernel
    obtain ⟨d39, h0⟩ := de_iload_n2 h0
    obtain ⟨d40, h0⟩ := de_ireturn h0
    refine lv_iload_n hx hb d39 rfl (lv_at hl 2 rfl) ?_
    exact x_iret C0 hR hS hf (Nat.le_of_ble_eq_true rfl) (Nat.le_of_ble_eq_true rfl) d40
  · have hf := x_neg q hf
    have h0 : x_by cX5_neededTracks 22 [28, 42, 29, 27, 182, 0, 80, 184, 0, 110, 61, 132, 3, 1, 167, 255, 231] := by unfold x_by; decide +kernel
    obtain ⟨d22, h0⟩ := de_iload_n2 h0
    obtain ⟨d23, h0⟩ := de_aload_n0 h0
    obtain ⟨d24, h0⟩ := de_iload_n3 h0
    obtain ⟨d25, h0⟩ := de_iload_n1 h0
    obtain ⟨d26, h0⟩ := de_invokevirtual 80 (by decide) h0
    obtain ⟨d29, h0⟩ := de_invokestatic 110 (by decide) h0
    obtain ⟨d32, h0⟩ := de_istore_n2 h0
    obtain ⟨d33, h0⟩ := de_iinc (1) (by decide) h0
    obtain ⟨d36, h0⟩ := de_goto (-25) (by decide) h0
    refine lv_iload_n hx hb d22 rfl (lv_at hl 2 rfl) ?_
    refine lv_aload_n hx hb d23 rfl (lv_at hl 0 rfl) ?_
    refine lv_iload_n hx hb d24 rfl (lv_at hl 3 rfl) ?_
    refine lv_iload_n hx hb d25 rfl (lv_at hl 1 rfl) ?_
    obtain ⟨hs9, hf⟩ := x_if hf
    refine x_thenI C0 hxt hS hf (fun z0 e0 => x_runV C0 hR hS me_X5_lastTrack wi_X5_lastTrack wl_X5_lastTrack ml_X5_80 hs9 xcl_5 (As := [.int x3, .int x1]) (ct_X5_lastTrack E l C0.2.2.2.2.2.2.2.1 _ r0 x3 x1) rfl rfl hl.1 (Nat.le_of_ble_eq_true rfl) d26 ⟨(Nat.le_of_ble_eq_true rfl), (Nat.le_of_ble_eq_true rfl)⟩ ⟨(Nat.le_of_ble_eq_true rfl), (Nat.le_of_ble_eq_true rfl)⟩ e0) (Nat.le_of_ble_eq_true rfl) (Nat.le_of_ble_eq_true rfl) (fun h9 i3 H locs hR hS hf => ?_)
    refine x_mmax C0 hl.1 ml_X5_110 lib_max (Nat.le_of_ble_eq_true rfl) (Nat.le_of_ble_eq_true rfl) (Nat.le_of_ble_eq_true rfl) (Nat.le_of_ble_eq_true rfl) d29 ?_
    refine lv_topi (fun i5 ei5 => ?_)
    have hf := x_lI_el ei5 hf
    refine lv_istore_n (lv' := [(2, .int i5), (0, .ref (xa E r0)), (1, .int x1), (3, .int x3)]) hx hb d32 rfl hl (by decide) rfl (fun ls hl => ?_)
    refine lv_iinc (v := (x3 + 1)) (lv' := [(3, .int (x3 + 1)), (2, .int i5), (0, .ref (xa E r0)), (1, .int x1)]) hx hb d33 hl (k := 3) rfl rfl (by decide) rfl (fun ls hl => ?_)
    refine lv_goto (tgt := 11) hx hb d36 (by decide) ?_
    exact hk11 _ _ _ _ _ _ _ _ hR hS (lv_sub hl [2, 3, 1, 0] rfl) hf
theorem s_X5_neededTracks_L11 {p : Program} {l : Launch} {e : Env} {s : State} {m : MethodId} {args : Array Value} {below : List Frame} {meth : Method} {c : Code} {E : XE} {z : XR} (C0 : x_C E p l s m meth c args cX5_neededTracks 4 "GridEngine$Placement" "neededTracks" (some .int)) (hxt : ∀ x ∈ c.exceptionTable.toList, False)  : ∀ n : Nat, ∀ (h : HP) (r0 : Nat) (x1 : Int32) (x2 : Int32) (x3 : Int32) (H : Heap) (locs : List Loc) (ls : Array Slot), x_Rep E h H → va_S (x_A E) s.heap H locs → lv_has ls 4 [(0, .ref (xa E r0)), (1, .int x1), (2, .int x2), (3, .int x3)] → f_X5_neededTracks_L11 n h r0 x1 x2 x3 = some z → W p l e ({ frames := 10, cells := 0, slots := 0, locals := 176 } : Room) s m args below meth c H locs 0 0 (x_Q E below args s 0 0 z) (F0 m 11 ls []) := by
  intro n
  induction n with
  | zero => intro h r0 x1 x2 x3 H locs ls hR hS hl hf; cases (show (none : Option XR) = some z from hf)
  | succ n ih => intro h r0 x1 x2 x3 H locs ls hR hS hl hf; exact s_X5_neededTracks_b11 C0 hxt ih h r0 x1 x2 x3 H locs ls hR hS hl (show f_X5_neededTracks_b11 (f_X5_neededTracks_L11 n) h r0 x1 x2 x3 = some z from hf)
set_option maxRecDepth 100000 in
set_option maxHeartbeats 4000000 in
theorem ct_X5_neededTracks (E : XE) (l : Launch) (hl0 : l.stackTraces = false) (h : HP) (r0 : Nat) (x1 : Int32) : x_ct E l yX5_neededTracks (Cond.code yX5_neededTracks cX5_neededTracks 4 (some .int)) 10 176 0 0 [.ref (xa E r0), .int x1] h (f_X5_neededTracks h r0 x1) := by
  refine x_ofW hl0 (by decide +kernel) ?_
  intro z hf p e s m args below meth c C0 hxt hargs hR
  subst hargs
  have C0 : x_C E p l s m meth c ([.ref (xa E r0), .int x1] : List Value).toArray cX5_neededTracks 4 "GridEngine$Placement" "neededTracks" (some .int) := C0
  obtain ⟨hx, hb, -⟩ := id C0
  have hS : va_S (x_A E) s.heap s.heap [] := va_S.rf
  have hl := lv_entry ([.ref (xa E r0), .int x1]) (n := 4) (Nat.le_of_ble_eq_true rfl)
  rw [lg_entry_eq]
  generalize (lg_sl ([.ref (xa E r0), .int x1]) ++ List.replicate (4 - (lg_sl ([.ref (xa E r0), .int x1])).length) Slot.unset).toArray = ls at hl ⊢
  have hl : lv_has ls 4 [(0, .ref (xa E r0)), (1, .int x1)] := hl
  unfold f_X5_neededTracks at hf
  have h0 : x_by cX5_neededTracks 0 [42, 180, 0, 38, 27, 182, 0, 113, 61, 3, 62] := by unfold x_by; decide +kernel
  obtain ⟨d0, h0⟩ := de_aload_n0 h0
  obtain ⟨d1, h0⟩ := de_getfield 38 (by decide) h0
  obtain ⟨d4, h0⟩ := de_iload_n1 h0
  obtain ⟨d5, h0⟩ := de_invokevirtual 113 (by decide) h0
  obtain ⟨d8, h0⟩ := de_istore_n2 h0
  obtain ⟨d9, h0⟩ := de_iconst_0 h0
  obtain ⟨d10, h0⟩ := de_istore_n3 h0
  refine lv_aload_n hx hb d0 rfl (lv_at hl 0 rfl) ?_
  refine x_getR C0 hR hf xcl_5 (Nat.le_of_ble_eq_true rfl) rfl fl_X5_38 d1 (fun a1 hf => ?_)
  refine lv_iload_n hx hb d4 rfl (lv_at hl 1 rfl) ?_
  obtain ⟨hs9, hf⟩ := x_if hf
  refine x_thenI C0 hxt hS hf (fun z0 e0 => x_runV C0 hR hS me_X4_explicitCount wi_X4_explicitCount wl_X4_explicitCount ml_X5_113 hs9 xcl_4 (As := [.int x1]) (ct_X4_explicitCount E l C0.2.2.2.2.2.2.2.1 _ a1 x1) rfl rfl hl.1 (Nat.le_of_ble_eq_true rfl) d5 ⟨(Nat.le_of_ble_eq_true rfl), (Nat.le_of_ble_eq_true rfl)⟩ ⟨(Nat.le_of_ble_eq_true rfl), (Nat.le_of_ble_eq_true rfl)⟩ e0) (Nat.le_of_ble_eq_true rfl) (Nat.le_of_ble_eq_true rfl) (fun h9 i2 H locs hR hS hf => ?_)
  refine lv_istore_n (lv' := [(2, .int i2), (0, .ref (xa E r0)), (1, .int x1)]) hx hb d8 rfl hl (by decide) rfl (fun ls hl => ?_)
  refine lv_iconst (v := 0) hx hb d9 (by decide) ?_
  refine lv_istore_n (lv' := [(3, .int 0), (2, .int i2), (0, .ref (xa E r0)), (1, .int x1)]) hx hb d10 rfl hl (by decide) rfl (fun ls hl => ?_)
  exact s_X5_neededTracks_L11 C0 hxt FU _ _ _ _ _ _ _ _ hR hS (lv_sub hl [2, 3, 1, 0] rfl) hf
def f_X5_putAt_b45  (h : HP)  : Option XR :=
  some (h, xv)
def f_X5_putAt (h : HP) (r0 : Nat) (x1 : Int32) (x2 : Int32) (x3 : Int32) : Option XR :=
  if x1 < 0 then
    (
      f_X5_putAt_b45 h
    )
  else
    (
      if 12 ≤ x1 then
        (
          f_X5_putAt_b45 h
        )
      else
        (
          x_gR h r0 5 1 fun a1 =>
          x_gI h r0 5 4 fun i2 =>
          x_sI h a1 ((x1 * 2) + i2) x2 fun h3 =>
          x_gR h3 r0 5 1 fun a4 =>
          x_gI h3 r0 5 5 fun i5 =>
          x_sI h3 a4 ((x1 * 2) + i5) x3 fun h6 =>
          x_gR h6 r0 5 2 fun a7 =>
          x_sZ h6 a7 x1 1 fun h8 =>
          f_X5_putAt_b45 h8
        )
    )
set_option maxRecDepth 100000 in
set_option maxHeartbeats 4000000 in
theorem s_X5_putAt_b45 {p : Program} {l : Launch} {e : Env} {s : State} {m : MethodId} {args : Array Value} {below : List Frame} {meth : Method} {c : Code} {E : XE} {z : XR} (C0 : x_C E p l s m meth c args cX5_putAt 4 "GridEngine$Placement" "putAt" none) (hxt : ∀ x ∈ c.exceptionTable.toList, False)  : ∀ (h : HP)  (H : Heap) (locs : List Loc) (ls : Array Slot), x_Rep E h H → va_S (x_A E) s.heap H locs → lv_has ls 4 [] → f_X5_putAt_b45 h  = some z → W p l e ({ frames := 8, cells := 0, slots := 0, locals := 130 } : Room) s m args below meth c H locs 0 0 (x_Q E below args s 0 0 z) (F0 m 45 ls []) := by
  intro h  H locs ls hR hS hl hf
  obtain ⟨hx, hb, -⟩ := id C0
  unfold f_X5_putAt_b45 at hf
  have h0 : x_by cX5_putAt 45 [177] := by unfold x_by; decide +kernel
  obtain ⟨d45, h0⟩ := de_return h0
  exact x_vret C0 hR hS hf (Nat.le_of_ble_eq_true rfl) (Nat.le_of_ble_eq_true rfl) d45
set_option maxRecDepth 100000 in
set_option maxHeartbeats 4000000 in
theorem ct_X5_putAt (E : XE) (l : Launch) (hl0 : l.stackTraces = false) (h : HP) (r0 : Nat) (x1 : Int32) (x2 : Int32) (x3 : Int32) : x_ct E l yX5_putAt (Cond.code yX5_putAt cX5_putAt 4 none) 8 130 0 0 [.ref (xa E r0), .int x1, .int x2, .int x3] h (f_X5_putAt h r0 x1 x2 x3) := by
  refine x_ofW hl0 (by decide +kernel) ?_
  intro z hf p e s m args below meth c C0 hxt hargs hR
  subst hargs
  have C0 : x_C E p l s m meth c ([.ref (xa E r0), .int x1, .int x2, .int x3] : List Value).toArray cX5_putAt 4 "GridEngine$Placement" "putAt" none := C0
  obtain ⟨hx, hb, -⟩ := id C0
  have hS : va_S (x_A E) s.heap s.heap [] := va_S.rf
  have hl := lv_entry ([.ref (xa E r0), .int x1, .int x2, .int x3]) (n := 4) (Nat.le_of_ble_eq_true rfl)
  rw [lg_entry_eq]
  generalize (lg_sl ([.ref (xa E r0), .int x1, .int x2, .int x3]) ++ List.replicate (4 - (lg_sl ([.ref (xa E r0), .int x1, .int x2, .int x3])).length) Slot.unset).toArray = ls at hl ⊢
  have hl : lv_has ls 4 [(0, .ref (xa E r0)), (1, .int x1), (2, .int x2), (3, .int x3)] := hl
  unfold f_X5_putAt at hf
  have h0 : x_by cX5_putAt 0 [27, 155, 0, 44] := by unfold x_by; decide +kernel
  obtain ⟨d0, h0⟩ := de_iload_n1 h0
  obtain ⟨d1, h0⟩ := de_if_lt (44) (by decide) h0
  refine lv_iload_n hx hb d0 rfl (lv_at hl 1 rfl) ?_
  refine lv_if_lt (tgt := 45) hx hb d1 (by decide) (fun q => ?_) (fun q => ?_)
  · have hf := x_pos q hf
    exact s_X5_putAt_b45 C0 hxt _ _ _ _ hR hS (lv_sub hl [] rfl) hf
  · have hf := x_neg q hf
    have h0 : x_by cX5_putAt 4 [27, 16, 12, 162, 0, 38] := by unfold x_by; decide +kernel
    obtain ⟨d4, h0⟩ := de_iload_n1 h0
    obtain ⟨d5, h0⟩ := de_bipush (12) (by decide) h0
    obtain ⟨d7, h0⟩ := de_icmp_ge (38) (by decide) h0
    refine lv_iload_n hx hb d4 rfl (lv_at hl 1 rfl) ?_
    refine lv_bipush (v := 12) hx hb d5 (by decide) ?_
    refine lv_icmp_ge (tgt := 45) hx hb d7 (by decide) (fun q => ?_) (fun q => ?_)
    · have hf := x_pos q hf
      exact s_X5_putAt_b45 C0 hxt _ _ _ _ hR hS (lv_sub hl [] rfl) hf
    · have hf := x_neg q hf
      have h0 : x_by cX5_putAt 10 [42, 180, 0, 9, 27, 5, 104, 42, 180, 0, 22, 96, 28, 79, 42, 180, 0, 9, 27, 5, 104, 42, 180, 0, 26, 96, 29, 79, 42, 180, 0, 15, 27, 4, 84] := by unfold x_by; decide +kernel
      obtain ⟨d10, h0⟩ := de_aload_n0 h0
      obtain ⟨d11, h0⟩ := de_getfield 9 (by decide) h0
      obtain ⟨d14, h0⟩ := de_iload_n1 h0
      obtain ⟨d15, h0⟩ := de_iconst_2 h0
      obtain ⟨d16, h0⟩ := de_imul h0
      obtain ⟨d17, h0⟩ := de_aload_n0 h0
      obtain ⟨d18, h0⟩ := de_getfield 22 (by decide) h0
      obtain ⟨d21, h0⟩ := de_iadd h0
      obtain ⟨d22, h0⟩ := de_iload_n2 h0
      obtain ⟨d23, h0⟩ := de_iastore h0
      obtain ⟨d24, h0⟩ := de_aload_n0 h0
      obtain ⟨d25, h0⟩ := de_getfield 9 (by decide) h0
      obtain ⟨d28, h0⟩ := de_iload_n1 h0
      obtain ⟨d29, h0⟩ := de_iconst_2 h0
      obtain ⟨d30, h0⟩ := de_imul h0
      obtain ⟨d31, h0⟩ := de_aload_n0 h0
      obtain ⟨d32, h0⟩ := de_getfield 26 (by decide) h0
      obtain ⟨d35, h0⟩ := de_iadd h0
      obtain ⟨d36, h0⟩ := de_iload_n3 h0
      obtain ⟨d37, h0⟩ := de_iastore h0
      obtain ⟨d38, h0⟩ := de_aload_n0 h0
      obtain ⟨d39, h0⟩ := de_getfield 15 (by decide) h0
      obtain ⟨d42, h0⟩ := de_iload_n1 h0
      obtain ⟨d43, h0⟩ := de_iconst_1 h0
      obtain ⟨d44, h0⟩ := de_bastore h0
      refine lv_aload_n hx hb d10 rfl (lv_at hl 0 rfl) ?_
      refine x_getR C0 hR hf xcl_5 (Nat.le_of_ble_eq_true rfl) rfl fl_X5_9 d11 (fun a1 hf => ?_)
      refine lv_iload_n hx hb d14 rfl (lv_at hl 1 rfl) ?_
      refine lv_iconst (v := 2) hx hb d15 (by decide) ?_
      refine lv_imul hx hb d16 ?_
      refine lv_aload_n hx hb d17 rfl (lv_at hl 0 rfl) ?_
      refine x_getI C0 hR hf xcl_5 (Nat.le_of_ble_eq_true rfl) rfl fl_X5_22 d18 (fun i2 hf => ?_)
      refine lv_iadd hx hb d21 ?_
      refine lv_iload_n hx hb d22 rfl (lv_at hl 2 rfl) ?_
      refine x_iast C0 hR hS hf d23 (fun H locs hR hS hf => ?_)
      refine lv_aload_n hx hb d24 rfl (lv_at hl 0 rfl) ?_
      refine x_getR C0 hR hf xcl_5 (Nat.le_of_ble_eq_true rfl) rfl fl_X5_9 d25 (fun a4 hf => ?_)
      refine lv_iload_n hx hb d28 rfl (lv_at hl 1 rfl) ?_
      refine lv_iconst (v := 2) hx hb d29 (by decide) ?_
      refine lv_imul hx hb d30 ?_
      refine lv_aload_n hx hb d31 rfl (lv_at hl 0 rfl) ?_
      refine x_getI C0 hR hf xcl_5 (Nat.le_of_ble_eq_true rfl) rfl fl_X5_26 d32 (fun i5 hf => ?_)
      refine lv_iadd hx hb d35 ?_
      refine lv_iload_n hx hb d36 rfl (lv_at hl 3 rfl) ?_
      refine x_iast C0 hR hS hf d37 (fun H locs hR hS hf => ?_)
      refine lv_aload_n hx hb d38 rfl (lv_at hl 0 rfl) ?_
      refine x_getR C0 hR hf xcl_5 (Nat.le_of_ble_eq_true rfl) rfl fl_X5_15 d39 (fun a7 hf => ?_)
      refine lv_iload_n hx hb d42 rfl (lv_at hl 1 rfl) ?_
      refine lv_iconst (v := 1) hx hb d43 (by decide) ?_
      refine x_zast C0 hR hS hf d44 (fun H locs hR hS hf => ?_)
      exact s_X5_putAt_b45 C0 hxt _ _ _ _ hR hS (lv_sub hl [] rfl) hf
def f_X5_placeFixed_b68 (k2 : HP → Nat → Int32 → Option XR) (h : HP) (r0 : Nat) (x1 : Int32) : Option XR :=
  k2 h r0 (x1 + 1)
def f_X5_placeFixed_b2 (k2 : HP → Nat → Int32 → Option XR) (h : HP) (r0 : Nat) (x1 : Int32) : Option XR :=
  x_gR h r0 5 0 fun a1 =>
  x_gI h a1 4 4 fun i2 =>
  if i2 ≤ x1 then
    (
      some (h, xv)
    )
  else
    (
      x_gI h r0 5 4 fun i3 =>
      x_rc h r0 5 <| x_cI (f_X5_hasStart h r0 x1 i3) fun h5 i4 =>
      if i4 = 0 then
        (
          f_X5_placeFixed_b68 k2 h5 r0 x1
        )
      else
        (
          x_gI h5 r0 5 5 fun i6 =>
          x_rc h5 r0 5 <| x_cI (f_X5_hasStart h5 r0 x1 i6) fun h8 i7 =>
          if i7 = 0 then
            (
              f_X5_placeFixed_b68 k2 h8 r0 x1
            )
          else
            (
              x_gR h8 r0 5 0 fun a9 =>
              x_gI h8 r0 5 4 fun i10 =>
              x_rc h8 a9 4 <| x_cI (f_X4_itemField h8 a9 x1 i10 2) fun h12 i11 =>
              x_gR h12 r0 5 0 fun a13 =>
              x_gI h12 r0 5 5 fun i14 =>
              x_rc h12 a13 4 <| x_cI (f_X4_itemField h12 a13 x1 i14 2) fun h16 i15 =>
              x_rc h16 r0 5 <| x_cV (f_X5_putAt h16 r0 x1 i11 i15) fun h17 =>
              f_X5_placeFixed_b68 k2 h17 r0 x1
            )
        )
    )
def f_X5_placeFixed_L2  : Nat → HP → Nat → Int32 → Option XR
  | 0 => fun _ _ _ => none
  | n + 1 => f_X5_placeFixed_b2 (f_X5_placeFixed_L2 n)
def f_X5_placeFixed (h : HP) (r0 : Nat) : Option XR :=
  f_X5_placeFixed_L2 FU h r0 0
set_option maxRecDepth 100000 in
set_option maxHeartbeats 4000000 in
theorem s_X5_placeFixed_b68 {p : Program} {l : Launch} {e : Env} {s : State} {m : MethodId} {args : Array Value} {below : List Frame} {meth : Method} {c : Code} {E : XE} {z : XR} (C0 : x_C E p l s m meth c args cX5_placeFixed 2 "GridEngine$Placement" "placeFixed" none) (hxt : ∀ x ∈ c.exceptionTable.toList, False) {k2 : HP → Nat → Int32 → Option XR} (hk2 : ∀ (h : HP) (r0 : Nat) (x1 : Int32) (H : Heap) (locs : List Loc) (ls : Array Slot), x_Rep E h H → va_S (x_A E) s.heap H locs → lv_has ls 2 [(0, .ref (xa E r0)), (1, .int x1)] → k2 h r0 x1 = some z → W p l e ({ frames := 10, cells := 0, slots := 0, locals := 176 } : Room) s m args below meth c H locs 0 0 (x_Q E below args s 0 0 z) (F0 m 2 ls [])) : ∀ (h : HP) (r0 : Nat) (x1 : Int32) (H : Heap) (locs : List Loc) (ls : Array Slot), x_Rep E h H → va_S (x_A E) s.heap H locs → lv_has ls 2 [(0, .ref (xa E r0)), (1, .int x1)] → f_X5_placeFixed_b68 k2 h r0 x1 = some z → W p l e ({ frames := 10, cells := 0, slots := 0, locals := 176 } : Room) s m args below meth c H locs 0 0 (x_Q E below args s 0 0 z) (F0 m 68 ls []) := by
  intro h r0 x1 H locs ls hR hS hl hf
  obtain ⟨hx, hb, -⟩ := id C0
  unfold f_X5_placeFixed_b68 at hf
  have h0 : x_by cX5_placeFixed 68 [132, 1, 1, 167, 255, 187] := by unfold x_by; decide +kernel
  obtain ⟨d68, h0⟩ := de_iinc (1) (by decide) h0
  obtain ⟨d71, h0⟩ := de_goto (-69) (by decide) h0
  refine lv_iinc (v := (x1 + 1)) (lv' := [(1, .int (x1 + 1)), (0, .ref (xa E r0))]) hx hb d68 hl (k := 1) rfl rfl (by decide) rfl (fun ls hl => ?_)
  refine lv_goto (tgt := 2) hx hb d71 (by decide) ?_
  exact hk2 _ _ _ _ _ _ hR hS (lv_sub hl [1, 0] rfl) hf
set_option maxRecDepth 100000 in
set_option maxHeartbeats 4000000 in
theorem s_X5_placeFixed_b2 {p : Program} {l : Launch} {e : Env} {s : State} {m : MethodId} {args : Array Value} {below : List Frame} {meth : Method} {c : Code} {E : XE} {z : XR} (C0 : x_C E p l s m meth c args cX5_placeFixed 2 "GridEngine$Placement" "placeFixed" none) (hxt : ∀ x ∈ c.exceptionTable.toList, False) {k2 : HP → Nat → Int32 → Option XR} (hk2 : ∀ (h : HP) (r0 : Nat) (x1 : Int32) (H : Heap) (locs : List Loc) (ls : Array Slot), x_Rep E h H → va_S (x_A E) s.heap H locs → lv_has ls 2 [(0, .ref (xa E r0)), (1, .int x1)] → k2 h r0 x1 = some z → W p l e ({ frames := 10, cells := 0, slots := 0, locals := 176 } : Room) s m args below meth c H locs 0 0 (x_Q E below args s 0 0 z) (F0 m 2 ls [])) : ∀ (h : HP) (r0 : Nat) (x1 : Int32) (H : Heap) (locs : List Loc) (ls : Array Slot), x_Rep E h H → va_S (x_A E) s.heap H locs → lv_has ls 2 [(0, .ref (xa E r0)), (1, .int x1)] → f_X5_placeFixed_b2 k2 h r0 x1 = some z → W p l e ({ frames := 10, cells := 0, slots := 0, locals := 176 } : Room) s m args below meth c H locs 0 0 (x_Q E below args s 0 0 z) (F0 m 2 ls []) := by
  intro h r0 x1 H locs ls hR hS hl hf
  obtain ⟨hx, hb, -⟩ := id C0
  unfold f_X5_placeFixed_b2 at hf
  have h0 : x_by cX5_placeFixed 2 [27, 42, 180, 0, 38, 180, 0, 86, 162, 0, 64] := by unfold x_by; decide +kernel
  obtain ⟨d2, h0⟩ := de_iload_n1 h0
  obtain ⟨d3, h0⟩ := de_aload_n0 h0
  obtain ⟨d4, h0⟩ := de_getfield 38 (by decide) h0
  obtain ⟨d7, h0⟩ := de_getfield 86 (by decide) h0
  obtain ⟨d10, h0⟩ := de_icmp_ge (64) (by decide) h0
  refine lv_iload_n hx hb d2 rfl (lv_at hl 1 rfl) ?_
  refine lv_aload_n hx hb d3 rfl (lv_at hl 0 rfl) ?_
  refine x_getR C0 hR hf xcl_5 (Nat.le_of_ble_eq_true rfl) rfl fl_X5_38 d4 (fun a1 hf => ?_)
  refine x_getI C0 hR hf xcl_4 (Nat.le_of_ble_eq_true rfl) rfl fl_X5_86 d7 (fun i2 hf => ?_)
  refine lv_icmp_ge (tgt := 74) hx hb d10 (by decide) (fun q => ?_) (fun q => ?_)
  · have hf := x_pos q hf
    have h0 : x_by cX5_placeFixed 74 [177] := by unfold x_by; decide +kernel
    obtain ⟨d74, h0⟩ := de_return h0
    exact x_vret C0 hR hS hf (Nat.le_of_ble_eq_true rfl) (Nat.le_of_ble_eq_true rfl) d74
  · have hf := x_neg q hf
    have h0 : x_by cX5_placeFixed 13 [42, 27, 42, 180, 0, 22, 182, 0, 92, 153, 0, 46] := by unfold x_by; decide +kernel
    obtain ⟨d13, h0⟩ := de_aload_n0 h0
    obtain ⟨d14, h0⟩ := de_iload_n1 h0
    obtain ⟨d15, h0⟩ := de_aload_n0 h0
    obtain ⟨d16, h0⟩ := de_getfield 22 (by decide) h0
    obtain ⟨d19, h0⟩ := de_invokevirtual 92 (by decide) h0
    obtain ⟨d22, h0⟩ := de_if_eq (46) (by decide) h0
    refine lv_aload_n hx hb d13 rfl (lv_at hl 0 rfl) ?_
    refine lv_iload_n hx hb d14 rfl (lv_at hl 1 rfl) ?_
    refine lv_aload_n hx hb d15 rfl (lv_at hl 0 rfl) ?_
    refine x_getI C0 hR hf xcl_5 (Nat.le_of_ble_eq_true rfl) rfl fl_X5_22 d16 (fun i3 hf => ?_)
    obtain ⟨hs9, hf⟩ := x_if hf
    refine x_thenI C0 hxt hS hf (fun z0 e0 => x_runV C0 hR hS me_X5_hasStart wi_X5_hasStart wl_X5_hasStart ml_X5_92 hs9 xcl_5 (As := [.int x1, .int i3]) (ct_X5_hasStart E l C0.2.2.2.2.2.2.2.1 _ r0 x1 i3) rfl rfl hl.1 (Nat.le_of_ble_eq_true rfl) d19 ⟨(Nat.le_of_ble_eq_true rfl), (Nat.le_of_ble_eq_true rfl)⟩ ⟨(Nat.le_of_ble_eq_true rfl), (Nat.le_of_ble_eq_true rfl)⟩ e0) (Nat.le_of_ble_eq_true rfl) (Nat.le_of_ble_eq_true rfl) (fun h9 i4 H locs hR hS hf => ?_)
    refine lv_if_eq (tgt := 68) hx hb d22 (by decide) (fun q => ?_) (fun q => ?_)
    · have hf := x_pos q hf
      exact s_X5_placeFixed_b68 C0 hxt hk2 _ _ _ _ _ _ hR hS (lv_sub hl [0, 1] rfl) hf
    · have hf := x_neg q hf
      have h0 : x_by cX5_placeFixed 25 [42, 27, 42, 180, 0, 26, 182, 0, 92, 153, 0, 34] := by unfold x_by; decide +kernel
      obtain ⟨d25, h0⟩ := de_aload_n0 h0
      obtain ⟨d26, h0⟩ := de_iload_n1 h0
      obtain ⟨d27, h0⟩ := de_aload_n0 h0
      obtain ⟨d28, h0⟩ := de_getfield 26 (by decide) h0
      obtain ⟨d31, h0⟩ := de_invokevirtual 92 (by decide) h0
      obtain ⟨d34, h0⟩ := de_if_eq (34) (by decide) h0
      refine lv_aload_n hx hb d25 rfl (lv_at hl 0 rfl) ?_
      refine lv_iload_n hx hb d26 rfl (lv_at hl 1 rfl) ?_
      refine lv_aload_n hx hb d27 rfl (lv_at hl 0 rfl) ?_
      refine x_getI C0 hR hf xcl_5 (Nat.le_of_ble_eq_true rfl) rfl fl_X5_26 d28 (fun i6 hf => ?_)
      obtain ⟨hs9, hf⟩ := x_if hf
      refine x_thenI C0 hxt hS hf (fun z0 e0 => x_runV C0 hR hS me_X5_hasStart wi_X5_hasStart wl_X5_hasStart ml_X5_92 hs9 xcl_5 (As := [.int x1, .int i6]) (ct_X5_hasStart E l C0.2.2.2.2.2.2.2.1 _ r0 x1 i6) rfl rfl hl.1 (Nat.le_of_ble_eq_true rfl) d31 ⟨(Nat.le_of_ble_eq_true rfl), (Nat.le_of_ble_eq_true rfl)⟩ ⟨(Nat.le_of_ble_eq_true rfl), (Nat.le_of_ble_eq_true rfl)⟩ e0) (Nat.le_of_ble_eq_true rfl) (Nat.le_of_ble_eq_true rfl) (fun h9 i7 H locs hR hS hf => ?_)
      refine lv_if_eq (tgt := 68) hx hb d34 (by decide) (fun q => ?_) (fun q => ?_)
      · have hf := x_pos q hf
        exact s_X5_placeFixed_b68 C0 hxt hk2 _ _ _ _ _ _ hR hS (lv_sub hl [0, 1] rfl) hf
      · have hf := x_neg q hf
        have h0 : x_by cX5_placeFixed 37 [42, 27, 42, 180, 0, 38, 27, 42, 180, 0, 22, 5, 182, 0, 72, 42, 180, 0, 38, 27, 42, 180, 0, 26, 5, 182, 0, 72, 182, 0, 96] := by unfold x_by; decide +kernel
        obtain ⟨d37, h0⟩ := de_aload_n0 h0
        obtain ⟨d38, h0⟩ := de_iload_n1 h0
        obtain ⟨d39, h0⟩ := de_aload_n0 h0
        obtain ⟨d40, h0⟩ := de_getfield 38 (by decide) h0
        obtain ⟨d43, h0⟩ := de_iload_n1 h0
        obtain ⟨d44, h0⟩ := de_aload_n0 h0
        obtain ⟨d45, h0⟩ := de_getfield 22 (by decide) h0
        obtain ⟨d48, h0⟩ := de_iconst_2 h0
        obtain ⟨d49, h0⟩ := de_invokevirtual 72 (by decide) h0
        obtain ⟨d52, h0⟩ := de_aload_n0 h0
        obtain ⟨d53, h0⟩ := de_getfield 38 (by decide) h0
        obtain ⟨d56, h0⟩ := de_iload_n1 h0
        obtain ⟨d57, h0⟩ := de_aload_n0 h0
        obtain ⟨d58, h0⟩ := de_getfield 26 (by decide) h0
        obtain ⟨d61, h0⟩ := de_iconst_2 h0
        obtain ⟨d62, h0⟩ := de_invokevirtual 72 (by decide) h0
        obtain ⟨d65, h0⟩ := de_invokevirtual 96 (by decide) h0
        refine lv_aload_n hx hb d37 rfl (lv_at hl 0 rfl) ?_
        refine lv_iload_n hx hb d38 rfl (lv_at hl 1 rfl) ?_
        refine lv_aload_n hx hb d39 rfl (lv_at hl 0 rfl) ?_
        refine x_getR C0 hR hf xcl_5 (Nat.le_of_ble_eq_true rfl) rfl fl_X5_38 d40 (fun a9 hf => ?_)
        refine lv_iload_n hx hb d43 rfl (lv_at hl 1 rfl) ?_
        refine lv_aload_n hx hb d44 rfl (lv_at hl 0 rfl) ?_
        refine x_getI C0 hR hf xcl_5 (Nat.le_of_ble_eq_true rfl) rfl fl_X5_22 d45 (fun i10 hf => ?_)
        refine lv_iconst (v := 2) hx hb d48 (by decide) ?_
        obtain ⟨hs9, hf⟩ := x_if hf
        refine x_thenI C0 hxt hS hf (fun z0 e0 => x_runV C0 hR hS me_X4_itemField wi_X4_itemField wl_X4_itemField ml_X5_72 hs9 xcl_4 (As := [.int x1, .int i10, .int 2]) (ct_X4_itemField E l C0.2.2.2.2.2.2.2.1 _ a9 x1 i10 2) rfl rfl hl.1 (Nat.le_of_ble_eq_true rfl) d49 ⟨(Nat.le_of_ble_eq_true rfl), (Nat.le_of_ble_eq_true rfl)⟩ ⟨(Nat.le_of_ble_eq_true rfl), (Nat.le_of_ble_eq_true rfl)⟩ e0) (Nat.le_of_ble_eq_true rfl) (Nat.le_of_ble_eq_true rfl) (fun h9 i11 H locs hR hS hf => ?_)
        refine lv_aload_n hx hb d52 rfl (lv_at hl 0 rfl) ?_
        refine x_getR C0 hR hf xcl_5 (Nat.le_of_ble_eq_true rfl) rfl fl_X5_38 d53 (fun a13 hf => ?_)
        refine lv_iload_n hx hb d56 rfl (lv_at hl 1 rfl) ?_
        refine lv_aload_n hx hb d57 rfl (lv_at hl 0 rfl) ?_
        refine x_getI C0 hR hf xcl_5 (Nat.le_of_ble_eq_true rfl) rfl fl_X5_26 d58 (fun i14 hf => ?_)
        refine lv_iconst (v := 2) hx hb d61 (by decide) ?_
        obtain ⟨hs9, hf⟩ := x_if hf
        refine x_thenI C0 hxt hS hf (fun z0 e0 => x_runV C0 hR hS me_X4_itemField wi_X4_itemField wl_X4_itemField ml_X5_72 hs9 xcl_4 (As := [.int x1, .int i14, .int 2]) (ct_X4_itemField E l C0.2.2.2.2.2.2.2.1 _ a13 x1 i14 2) rfl rfl hl.1 (Nat.le_of_ble_eq_true rfl) d62 ⟨(Nat.le_of_ble_eq_true rfl), (Nat.le_of_ble_eq_true rfl)⟩ ⟨(Nat.le_of_ble_eq_true rfl), (Nat.le_of_ble_eq_true rfl)⟩ e0) (Nat.le_of_ble_eq_true rfl) (Nat.le_of_ble_eq_true rfl) (fun h9 i15 H locs hR hS hf => ?_)
        obtain ⟨hs9, hf⟩ := x_if hf
        refine x_thenV C0 hxt hS hf (fun z0 e0 => x_runV C0 hR hS me_X5_putAt wi_X5_putAt wl_X5_putAt ml_X5_96 hs9 xcl_5 (As := [.int x1, .int i11, .int i15]) (ct_X5_putAt E l C0.2.2.2.2.2.2.2.1 _ r0 x1 i11 i15) rfl rfl hl.1 (Nat.le_of_ble_eq_true rfl) d65 ⟨(Nat.le_of_ble_eq_true rfl), (Nat.le_of_ble_eq_true rfl)⟩ ⟨(Nat.le_of_ble_eq_true rfl), (Nat.le_of_ble_eq_true rfl)⟩ e0) (Nat.le_of_ble_eq_true rfl) (Nat.le_of_ble_eq_true rfl) (fun h9 H locs hR hS hf => ?_)
        exact s_X5_placeFixed_b68 C0 hxt hk2 _ _ _ _ _ _ hR hS (lv_sub hl [0, 1] rfl) hf
theorem s_X5_placeFixed_L2 {p : Program} {l : Launch} {e : Env} {s : State} {m : MethodId} {args : Array Value} {below : List Frame} {meth : Method} {c : Code} {E : XE} {z : XR} (C0 : x_C E p l s m meth c args cX5_placeFixed 2 "GridEngine$Placement" "placeFixed" none) (hxt : ∀ x ∈ c.exceptionTable.toList, False)  : ∀ n : Nat, ∀ (h : HP) (r0 : Nat) (x1 : Int32) (H : Heap) (locs : List Loc) (ls : Array Slot), x_Rep E h H → va_S (x_A E) s.heap H locs → lv_has ls 2 [(0, .ref (xa E r0)), (1, .int x1)] → f_X5_placeFixed_L2 n h r0 x1 = some z → W p l e ({ frames := 10, cells := 0, slots := 0, locals := 176 } : Room) s m args below meth c H locs 0 0 (x_Q E below args s 0 0 z) (F0 m 2 ls []) := by
  intro n
  induction n with
  | zero => intro h r0 x1 H locs ls hR hS hl hf; cases (show (none : Option XR) = some z from hf)
  | succ n ih => intro h r0 x1 H locs ls hR hS hl hf; exact s_X5_placeFixed_b2 C0 hxt ih h r0 x1 H locs ls hR hS hl (show f_X5_placeFixed_b2 (f_X5_placeFixed_L2 n) h r0 x1 = some z from hf)
set_option maxRecDepth 100000 in
set_option maxHeartbeats 4000000 in
theorem ct_X5_placeFixed (E : XE) (l : Launch) (hl0 : l.stackTraces = false) (h : HP) (r0 : Nat) : x_ct E l yX5_placeFixed (Cond.code yX5_placeFixed cX5_placeFixed 2 none) 10 176 0 0 [.ref (xa E r0)] h (f_X5_placeFixed h r0) := by
  refine x_ofW hl0 (by decide +kernel) ?_
  intro z hf p e s m args below meth c C0 hxt hargs hR
  subst hargs
  have C0 : x_C E p l s m meth c ([.ref (xa E r0)] : List Value).toArray cX5_placeFixed 2 "GridEngine$Placement" "placeFixed" none := C0
  obtain ⟨hx, hb, -⟩ := id C0
  have hS : va_S (x_A E) s.heap s.heap [] := va_S.rf
  have hl := lv_entry ([.ref (xa E r0)]) (n := 2) (Nat.le_of_ble_eq_true rfl)
  rw [lg_entry_eq]
  generalize (lg_sl ([.ref (xa E r0)]) ++ List.replicate (2 - (lg_sl ([.ref (xa E r0)])).length) Slot.unset).toArray = ls at hl ⊢
  have hl : lv_has ls 2 [(0, .ref (xa E r0))] := hl
  unfold f_X5_placeFixed at hf
  have h0 : x_by cX5_placeFixed 0 [3, 60] := by unfold x_by; decide +kernel
  obtain ⟨d0, h0⟩ := de_iconst_0 h0
  obtain ⟨d1, h0⟩ := de_istore_n1 h0
  refine lv_iconst (v := 0) hx hb d0 (by decide) ?_
  refine lv_istore_n (lv' := [(1, .int 0), (0, .ref (xa E r0))]) hx hb d1 rfl hl (by decide) rfl (fun ls hl => ?_)
  exact s_X5_placeFixed_L2 C0 hxt FU _ _ _ _ _ _ hR hS (lv_sub hl [1, 0] rfl) hf
def f_X5_isFreeAt_b122 (k41 : HP → Nat → Int32 → Int32 → Int32 → Int32 → Int32 → Option XR) (h : HP) (r0 : Nat) (x2 : Int32) (x3 : Int32) (x4 : Int32) (x5 : Int32) (x6 : Int32) : Option XR :=
  k41 h r0 x2 x3 x4 x5 (x6 + 1)
def f_X5_isFreeAt_b41 (k41 : HP → Nat → Int32 → Int32 → Int32 → Int32 → Int32 → Option XR) (h : HP) (r0 : Nat) (x2 : Int32) (x3 : Int32) (x4 : Int32) (x5 : Int32) (x6 : Int32) : Option XR :=
  x_gR h r0 5 0 fun a1 =>
  x_gI h a1 4 4 fun i2 =>
  if i2 ≤ x6 then
    (
      x_rZ h 1
    )
  else
    (
      x_rc h r0 5 <| x_cI (f_X5_isPlacedBefore h r0 x6) fun h4 i3 =>
      if i3 = 0 then
        (
          f_X5_isFreeAt_b122 k41 h4 r0 x2 x3 x4 x5 x6
        )
      else
        (
          x_gI h4 r0 5 4 fun i5 =>
          x_rc h4 r0 5 <| x_cI (f_X5_firstTrack h4 r0 x6 i5) fun h7 i6 =>
          if x4 < i6 then
            (
              f_X5_isFreeAt_b122 k41 h7 r0 x2 x3 x4 x5 x6
            )
          else
            (
              x_gI h7 r0 5 4 fun i8 =>
              x_rc h7 r0 5 <| x_cI (f_X5_lastTrack h7 r0 x6 i8) fun h10 i9 =>
              if i9 < x2 then
                (
                  f_X5_isFreeAt_b122 k41 h10 r0 x2 x3 x4 x5 x6
                )
              else
                (
                  x_gI h10 r0 5 5 fun i11 =>
                  x_rc h10 r0 5 <| x_cI (f_X5_firstTrack h10 r0 x6 i11) fun h13 i12 =>
                  if x5 < i12 then
                    (
                      f_X5_isFreeAt_b122 k41 h13 r0 x2 x3 x4 x5 x6
                    )
                  else
                    (
                      x_gI h13 r0 5 5 fun i14 =>
                      x_rc h13 r0 5 <| x_cI (f_X5_lastTrack h13 r0 x6 i14) fun h16 i15 =>
                      if i15 < x3 then
                        (
                          f_X5_isFreeAt_b122 k41 h16 r0 x2 x3 x4 x5 x6
                        )
                      else
                        (
                          x_rZ h16 0
                        )
                    )
                )
            )
        )
    )
def f_X5_isFreeAt_L41  : Nat → HP → Nat → Int32 → Int32 → Int32 → Int32 → Int32 → Option XR
  | 0 => fun _ _ _ _ _ _ _ => none
  | n + 1 => f_X5_isFreeAt_b41 (f_X5_isFreeAt_L41 n)
def f_X5_isFreeAt (h : HP) (r0 : Nat) (x1 : Int32) (x2 : Int32) (x3 : Int32) : Option XR :=
  x_gR h r0 5 0 fun a1 =>
  x_gI h r0 5 4 fun i2 =>
  x_rc h a1 4 <| x_cI (f_X4_itemField h a1 x1 i2 3) fun h4 i3 =>
  x_lI ((x2 + i3) - 1) fun i5 =>
  x_gR h4 r0 5 0 fun a6 =>
  x_gI h4 r0 5 5 fun i7 =>
  x_rc h4 a6 4 <| x_cI (f_X4_itemField h4 a6 x1 i7 3) fun h9 i8 =>
  x_lI ((x3 + i8) - 1) fun i10 =>
  f_X5_isFreeAt_L41 FU h9 r0 x2 x3 i5 i10 0
set_option maxRecDepth 100000 in
set_option maxHeartbeats 4000000 in
theorem s_X5_isFreeAt_b122 {p : Program} {l : Launch} {e : Env} {s : State} {m : MethodId} {args : Array Value} {below : List Frame} {meth : Method} {c : Code} {E : XE} {z : XR} (C0 : x_C E p l s m meth c args cX5_isFreeAt 7 "GridEngine$Placement" "isFreeAt" (some .boolean)) (hxt : ∀ x ∈ c.exceptionTable.toList, False) {k41 : HP → Nat → Int32 → Int32 → Int32 → Int32 → Int32 → Option XR} (hk41 : ∀ (h : HP) (r0 : Nat) (x2 : Int32) (x3 : Int32) (x4 : Int32) (x5 : Int32) (x6 : Int32) (H : Heap) (locs : List Loc) (ls : Array Slot), x_Rep E h H → va_S (x_A E) s.heap H locs → lv_has ls 7 [(0, .ref (xa E r0)), (2, .int x2), (3, .int x3), (4, .int x4), (5, .int x5), (6, .int x6)] → k41 h r0 x2 x3 x4 x5 x6 = some z → W p l e ({ frames := 10, cells := 0, slots := 0, locals := 176 } : Room) s m args below meth c H locs 0 0 (x_Q E below args s 0 0 z) (F0 m 41 ls [])) : ∀ (h : HP) (r0 : Nat) (x2 : Int32) (x3 : Int32) (x4 : Int32) (x5 : Int32) (x6 : Int32) (H : Heap) (locs : List Loc) (ls : Array Slot), x_Rep E h H → va_S (x_A E) s.heap H locs → lv_has ls 7 [(0, .ref (xa E r0)), (2, .int x2), (3, .int x3), (4, .int x4), (5, .int x5), (6, .int x6)] → f_X5_isFreeAt_b122 k41 h r0 x2 x3 x4 x5 x6 = some z → W p l e ({ frames := 10, cells := 0, slots := 0, locals := 176 } : Room) s m args below meth c H locs 0 0 (x_Q E below args s 0 0 z) (F0 m 122 ls []) := by
  intro h r0 x2 x3 x4 x5 x6 H locs ls hR hS hl hf
  obtain ⟨hx, hb, -⟩ := id C0
  unfold f_X5_isFreeAt_b122 at hf
  have h0 : x_by cX5_isFreeAt 122 [132, 6, 1, 167, 255, 172] := by unfold x_by; decide +kernel
  obtain ⟨d122, h0⟩ := de_iinc (1) (by decide) h0
  obtain ⟨d125, h0⟩ := de_goto (-84) (by decide) h0
  refine lv_iinc (v := (x6 + 1)) (lv' := [(6, .int (x6 + 1)), (0, .ref (xa E r0)), (2, .int x2), (3, .int x3), (4, .int x4), (5, .int x5)]) hx hb d122 hl (k := 5) rfl rfl (by decide) rfl (fun ls hl => ?_)
  refine lv_goto (tgt := 41) hx hb d125 (by decide) ?_
  exact hk41 _ _ _ _ _ _ _ _ _ _ hR hS (lv_sub hl [1, 2, 3, 4, 5, 0] rfl) hf
set_option maxRecDepth 100000 in
set_option maxHeartbeats 4000000 in
theorem s_X5_isFreeAt_b41 {p : Program} {l : Launch} {e : Env} {s : State} {m : MethodId} {args : Array Value} {below : List Frame} {meth : Method} {c : Code} {E : XE} {z : XR} (C0 : x_C E p l s m meth c args cX5_isFreeAt 7 "GridEngine$Placement" "isFreeAt" (some .boolean)) (hxt : ∀ x ∈ c.exceptionTable.toList, False) {k41 : HP → Nat → Int32 → Int32 → Int32 → Int32 → Int32 → Option XR} (hk41 : ∀ (h : HP) (r0 : Nat) (x2 : Int32) (x3 : Int32) (x4 : Int32) (x5 : Int32) (x6 : Int32) (H : Heap) (locs : List Loc) (ls : Array Slot), x_Rep E h H → va_S (x_A E) s.heap H locs → lv_has ls 7 [(0, .ref (xa E r0)), (2, .int x2), (3, .int x3), (4, .int x4), (5, .int x5), (6, .int x6)] → k41 h r0 x2 x3 x4 x5 x6 = some z → W p l e ({ frames := 10, cells := 0, slots := 0, locals := 176 } : Room) s m args below meth c H locs 0 0 (x_Q E below args s 0 0 z) (F0 m 41 ls [])) : ∀ (h : HP) (r0 : Nat) (x2 : Int32) (x3 : Int32) (x4 : Int32) (x5 : Int32) (x6 : Int32) (H : Heap) (locs : List Loc) (ls : Array Slot), x_Rep E h H → va_S (x_A E) s.heap H locs → lv_has ls 7 [(0, .ref (xa E r0)), (2, .int x2), (3, .int x3), (4, .int x4), (5, .int x5), (6, .int x6)] → f_X5_isFreeAt_b41 k41 h r0 x2 x3 x4 x5 x6 = some z → W p l e ({ frames := 10, cells := 0, slots := 0, locals := 176 } : Room) s m args below meth c H locs 0 0 (x_Q E below args s 0 0 z) (F0 m 41 ls []) := by
  intro h r0 x2 x3 x4 x5 x6 H locs ls hR hS hl hf
  obtain ⟨hx, hb, -⟩ := id C0
  unfold f_X5_isFreeAt_b41 at hf
  have h0 : x_by cX5_isFreeAt 41 [21, 6, 42, 180, 0, 38, 180, 0, 86, 162, 0, 78] := by unfold x_by; decide +kernel
  obtain ⟨d41, h0⟩ := de_iload h0
  obtain ⟨d43, h0⟩ := de_aload_n0 h0
  obtain ⟨d44, h0⟩ := de_getfield 38 (by decide) h0
  obtain ⟨d47, h0⟩ := de_getfield 86 (by decide) h0
  obtain ⟨d50, h0⟩ := de_icmp_ge (78) (by decide) h0
  refine lv_iload hx hb d41 (lv_at hl 5 rfl) ?_
  refine lv_aload_n hx hb d43 rfl (lv_at hl 0 rfl) ?_
  refine x_getR C0 hR hf xcl_5 (Nat.le_of_ble_eq_true rfl) rfl fl_X5_38 d44 (fun a1 hf => ?_)
  refine x_getI C0 hR hf xcl_4 (Nat.le_of_ble_eq_true rfl) rfl fl_X5_86 d47 (fun i2 hf => ?_)
  refine lv_icmp_ge (tgt := 128) hx hb d50 (by decide) (fun q => ?_) (fun q => ?_)
  · have hf := x_pos q hf
    have h0 : x_by cX5_isFreeAt 128 [4, 172] := by unfold x_by; decide +kernel
    obtain ⟨d128, h0⟩ := de_iconst_1 h0
    obtain ⟨d129, h0⟩ := de_ireturn h0
    refine lv_iconst (v := 1) hx hb d128 (by decide) ?_
    exact x_zret C0 hR hS hf (Nat.le_of_ble_eq_true rfl) (Nat.le_of_ble_eq_true rfl) d129
  · have hf := x_neg q hf
    have h0 : x_by cX5_isFreeAt 53 [42, 21, 6, 182, 0, 116, 153, 0, 63] := by unfold x_by; decide +kernel
    obtain ⟨d53, h0⟩ := de_aload_n0 h0
    obtain ⟨d54, h0⟩ := de_iload h0
    obtain ⟨d56, h0⟩ := de_invokevirtual 116 (by decide) h0
    obtain ⟨d59, h0⟩ := de_if_eq (63) (by decide) h0
    refine lv_aload_n hx hb d53 rfl (lv_at hl 0 rfl) ?_
    refine lv_iload hx hb d54 (lv_at hl 5 rfl) ?_
    obtain ⟨hs9, hf⟩ := x_if hf
    refine x_thenI C0 hxt hS hf (fun z0 e0 => x_runV C0 hR hS me_X5_isPlacedBefore wi_X5_isPlacedBefore wl_X5_isPlacedBefore ml_X5_116 hs9 xcl_5 (As := [.int x6]) (ct_X5_isPlacedBefore E l C0.2.2.2.2.2.2.2.1 _ r0 x6) rfl rfl hl.1 (Nat.le_of_ble_eq_true rfl) d56 ⟨(Nat.le_of_ble_eq_true rfl), (Nat.le_of_ble_eq_true rfl)⟩ ⟨(Nat.le_of_ble_eq_true rfl), (Nat.le_of_ble_eq_true rfl)⟩ e0) (Nat.le_of_ble_eq_true rfl) (Nat.le_of_ble_eq_true rfl) (fun h9 i3 H locs hR hS hf => ?_)
    refine lv_if_eq (tgt := 122) hx hb d59 (by decide) (fun q => ?_) (fun q => ?_)
    · have hf := x_pos q hf
      exact s_X5_isFreeAt_b122 C0 hxt hk41 _ _ _ _ _ _ _ _ _ _ hR hS (lv_sub hl [0, 1, 2, 3, 4, 5] rfl) hf
    · have hf := x_neg q hf
      have h0 : x_by cX5_isFreeAt 62 [42, 21, 6, 42, 180, 0, 22, 182, 0, 69, 21, 4, 163, 0, 48] := by unfold x_by; decide +kernel
      obtain ⟨d62, h0⟩ := de_aload_n0 h0
      obtain ⟨d63, h0⟩ := de_iload h0
      obtain ⟨d65, h0⟩ := de_aload_n0 h0
      obtain ⟨d66, h0⟩ := de_getfield 22 (by decide) h0
      obtain ⟨d69, h0⟩ := de_invokevirtual 69 (by decide) h0
      obtain ⟨d72, h0⟩ := de_iload h0
      obtain ⟨d74, h0⟩ := de_icmp_gt (48) (by decide) h0
      refine lv_aload_n hx hb d62 rfl (lv_at hl 0 rfl) ?_
      refine lv_iload hx hb d63 (lv_at hl 5 rfl) ?_
      refine lv_aload_n hx hb d65 rfl (lv_at hl 0 rfl) ?_
      refine x_getI C0 hR hf xcl_5 (Nat.le_of_ble_eq_true rfl) rfl fl_X5_22 d66 (fun i5 hf => ?_)
      obtain ⟨hs9, hf⟩ := x_if hf
      refine x_thenI C0 hxt hS hf (fun z0 e0 => x_runV C0 hR hS me_X5_firstTrack wi_X5_firstTrack wl_X5_firstTrack ml_X5_69 hs9 xcl_5 (As := [.int x6, .int i5]) (ct_X5_firstTrack E l C0.2.2.2.2.2.2.2.1 _ r0 x6 i5) rfl rfl hl.1 (Nat.le_of_ble_eq_true rfl) d69 ⟨(Nat.le_of_ble_eq_true rfl), (Nat.le_of_ble_eq_true rfl)⟩ ⟨(Nat.le_of_ble_eq_true rfl), (Nat.le_of_ble_eq_true rfl)⟩ e0) (Nat.le_of_ble_eq_true rfl) (Nat.le_of_ble_eq_true rfl) (fun h9 i6 H locs hR hS hf => ?_)
      refine lv_iload hx hb d72 (lv_at hl 3 rfl) ?_
      refine lv_icmp_gt (tgt := 122) hx hb d74 (by decide) (fun q => ?_) (fun q => ?_)
      · have hf := x_pos q hf
        exact s_X5_isFreeAt_b122 C0 hxt hk41 _ _ _ _ _ _ _ _ _ _ hR hS (lv_sub hl [0, 1, 2, 3, 4, 5] rfl) hf
      · have hf := x_neg q hf
        have h0 : x_by cX5_isFreeAt 77 [28, 42, 21, 6, 42, 180, 0, 22, 182, 0, 80, 163, 0, 34] := by unfold x_by; decide +kernel
        obtain ⟨d77, h0⟩ := de_iload_n2 h0
        obtain ⟨d78, h0⟩ := de_aload_n0 h0
        obtain ⟨d79, h0⟩ := de_iload h0
        obtain ⟨d81, h0⟩ := de_aload_n0 h0
        obtain ⟨d82, h0⟩ := de_getfield 22 (by decide) h0
        obtain ⟨d85, h0⟩ := de_invokevirtual 80 (by decide) h0
        obtain ⟨d88, h0⟩ := de_icmp_gt (34) (by decide) h0
        refine lv_iload_n hx hb d77 rfl (lv_at hl 1 rfl) ?_
        refine lv_aload_n hx hb d78 rfl (lv_at hl 0 rfl) ?_
        refine lv_iload hx hb d79 (lv_at hl 5 rfl) ?_
        refine lv_aload_n hx hb d81 rfl (lv_at hl 0 rfl) ?_
        refine x_getI C0 hR hf xcl_5 (Nat.le_of_ble_eq_true rfl) rfl fl_X5_22 d82 (fun i8 hf => ?_)
        obtain ⟨hs9, hf⟩ := x_if hf
        refine x_thenI C0 hxt hS hf (fun z0 e0 => x_runV C0 hR hS me_X5_lastTrack wi_X5_lastTrack wl_X5_lastTrack ml_X5_80 hs9 xcl_5 (As := [.int x6, .int i8]) (ct_X5_lastTrack E l C0.2.2.2.2.2.2.2.1 _ r0 x6 i8) rfl rfl hl.1 (Nat.le_of_ble_eq_true rfl) d85 ⟨(Nat.le_of_ble_eq_true rfl), (Nat.le_of_ble_eq_true rfl)⟩ ⟨(Nat.le_of_ble_eq_true rfl), (Nat.le_of_ble_eq_true rfl)⟩ e0) (Nat.le_of_ble_eq_true rfl) (Nat.le_of_ble_eq_true rfl) (fun h9 i9 H locs hR hS hf => ?_)
        refine lv_icmp_gt (tgt := 122) hx hb d88 (by decide) (fun q => ?_) (fun q => ?_)
        · have hf := x_pos q hf
          exact s_X5_isFreeAt_b122 C0 hxt hk41 _ _ _ _ _ _ _ _ _ _ hR hS (lv_sub hl [0, 1, 2, 3, 4, 5] rfl) hf
        · have hf := x_neg q hf
          have h0 : x_by cX5_isFreeAt 91 [42, 21, 6, 42, 180, 0, 26, 182, 0, 69, 21, 5, 163, 0, 19] := by unfold x_by; decide +kernel
          obtain ⟨d91, h0⟩ := de_aload_n0 h0
          obtain ⟨d92, h0⟩ := de_iload h0
          obtain ⟨d94, h0⟩ := de_aload_n0 h0
          obtain ⟨d95, h0⟩ := de_getfield 26 (by decide) h0
          obtain ⟨d98, h0⟩ := de_invokevirtual 69 (by decide) h0
          obtain ⟨d101, h0⟩ := de_iload h0
          obtain ⟨d103, h0⟩ := de_icmp_gt (19) (by decide) h0
          refine lv_aload_n hx hb d91 rfl (lv_at hl 0 rfl) ?_
          refine lv_iload hx hb d92 (lv_at hl 5 rfl) ?_
          refine lv_aload_n hx hb d94 rfl (lv_at hl 0 rfl) ?_
          refine x_getI C0 hR hf xcl_5 (Nat.le_of_ble_eq_true rfl) rfl fl_X5_26 d95 (fun i11 hf => ?_)
          obtain ⟨hs9, hf⟩ := x_if hf
          refine x_thenI C0 hxt hS hf (fun z0 e0 => x_runV C0 hR hS me_X5_firstTrack wi_X5_firstTrack wl_X5_firstTrack ml_X5_69 hs9 xcl_5 (As := [.int x6, .int i11]) (ct_X5_firstTrack E l C0.2.2.2.2.2.2.2.1 _ r0 x6 i11) rfl rfl hl.1 (Nat.le_of_ble_eq_true rfl) d98 ⟨(Nat.le_of_ble_eq_true rfl), (Nat.le_of_ble_eq_true rfl)⟩ ⟨(Nat.le_of_ble_eq_true rfl), (Nat.le_of_ble_eq_true rfl)⟩ e0) (Nat.le_of_ble_eq_true rfl) (Nat.le_of_ble_eq_true rfl) (fun h9 i12 H locs hR hS hf => ?_)
          refine lv_iload hx hb d101 (lv_at hl 4 rfl) ?_
          refine lv_icmp_gt (tgt := 122) hx hb d103 (by decide) (fun q => ?_) (fun q => ?_)
          · have hf := x_pos q hf
            exact s_X5_isFreeAt_b122 C0 hxt hk41 _ _ _ _ _ _ _ _ _ _ hR hS (lv_sub hl [0, 1, 2, 3, 4, 5] rfl) hf
          · have hf := x_neg q hf
            have h0 : x_by cX5_isFreeAt 106 [29, 42, 21, 6, 42, 180, 0, 26, 182, 0, 80, 163, 0, 5] := by unfold x_by; decide +kernel
            obtain ⟨d106, h0⟩ := de_iload_n3 h0
            obtain ⟨d107, h0⟩ := de_aload_n0 h0
            obtain ⟨d108, h0⟩ := de_iload h0
            obtain ⟨d110, h0⟩ := de_aload_n0 h0
            obtain ⟨d111, h0⟩ := de_getfield 26 (by decide) h0
            obtain ⟨d114, h0⟩ := de_invokevirtual 80 (by decide) h0
            obtain ⟨d117, h0⟩ := de_icmp_gt (5) (by decide) h0
            refine lv_iload_n hx hb d106 rfl (lv_at hl 2 rfl) ?_
            refine lv_aload_n hx hb d107 rfl (lv_at hl 0 rfl) ?_
            refine lv_iload hx hb d108 (lv_at hl 5 rfl) ?_
            refine lv_aload_n hx hb d110 rfl (lv_at hl 0 rfl) ?_
            refine x_getI C0 hR hf xcl_5 (Nat.le_of_ble_eq_true rfl) rfl fl_X5_26 d111 (fun i14 hf => ?_)
            obtain ⟨hs9, hf⟩ := x_if hf
            refine x_thenI C0 hxt hS hf (fun z0 e0 => x_runV C0 hR hS me_X5_lastTrack wi_X5_lastTrack wl_X5_lastTrack ml_X5_80 hs9 xcl_5 (As := [.int x6, .int i14]) (ct_X5_lastTrack E l C0.2.2.2.2.2.2.2.1 _ r0 x6 i14) rfl rfl hl.1 (Nat.le_of_ble_eq_true rfl) d114 ⟨(Nat.le_of_ble_eq_true rfl), (Nat.le_of_ble_eq_true rfl)⟩ ⟨(Nat.le_of_ble_eq_true rfl), (Nat.le_of_ble_eq_true rfl)⟩ e0) (Nat.le_of_ble_eq_true rfl) (Nat.le_of_ble_eq_true rfl) (fun h9 i15 H locs hR hS hf => ?_)
            refine lv_icmp_gt (tgt := 122) hx hb d117 (by decide) (fun q => ?_) (fun q => ?_)
            · have hf := x_pos q hf
              exact s_X5_isFreeAt_b122 C0 hxt hk41 _ _ _ _ _ _ _ _ _ _ hR hS (lv_sub hl [0, 1, 2, 3, 4, 5] rfl) hf
            · have hf := x_neg q hf
              have h0 : x_by cX5_isFreeAt 120 [3, 172] := by unfold x_by; decide +kernel
              obtain ⟨d120, h0⟩ := de_iconst_0 h0
              obtain ⟨d121, h0⟩ := de_ireturn h0
              refine lv_iconst (v := 0) hx hb d120 (by decide) ?_
              exact x_zret C0 hR hS hf (Nat.le_of_ble_eq_true rfl) (Nat.le_of_ble_eq_true rfl) d121
theorem s_X5_isFreeAt_L41 {p : Program} {l : Launch} {e : Env} {s : State} {m : MethodId} {args : Array Value} {below : List Frame} {meth : Method} {c : Code} {E : XE} {z : XR} (C0 : x_C E p l s m meth c args cX5_isFreeAt 7 "GridEngine$Placement" "isFreeAt" (some .boolean)) (hxt : ∀ x ∈ c.exceptionTable.toList, False)  : ∀ n : Nat, ∀ (h : HP) (r0 : Nat) (x2 : Int32) (x3 : Int32) (x4 : Int32) (x5 : Int32) (x6 : Int32) (H : Heap) (locs : List Loc) (ls : Array Slot), x_Rep E h H → va_S (x_A E) s.heap H locs → lv_has ls 7 [(0, .ref (xa E r0)), (2, .int x2), (3, .int x3), (4, .int x4), (5, .int x5), (6, .int x6)] → f_X5_isFreeAt_L41 n h r0 x2 x3 x4 x5 x6 = some z → W p l e ({ frames := 10, cells := 0, slots := 0, locals := 176 } : Room) s m args below meth c H locs 0 0 (x_Q E below args s 0 0 z) (F0 m 41 ls []) := by
  intro n
  induction n with
  | zero => intro h r0 x2 x3 x4 x5 x6 H locs ls hR hS hl hf; cases (show (none : Option XR) = some z from hf)
  | succ n ih => intro h r0 x2 x3 x4 x5 x6 H locs ls hR hS hl hf; exact s_X5_isFreeAt_b41 C0 hxt ih h r0 x2 x3 x4 x5 x6 H locs ls hR hS hl (show f_X5_isFreeAt_b41 (f_X5_isFreeAt_L41 n) h r0 x2 x3 x4 x5 x6 = some z from hf)
set_option maxRecDepth 100000 in
set_option maxHeartbeats 4000000 in
theorem ct_X5_isFreeAt (E : XE) (l : Launch) (hl0 : l.stackTraces = false) (h : HP) (r0 : Nat) (x1 : Int32) (x2 : Int32) (x3 : Int32) : x_ct E l yX5_isFreeAt (Cond.code yX5_isFreeAt cX5_isFreeAt 7 (some .boolean)) 10 176 0 0 [.ref (xa E r0), .int x1, .int x2, .int x3] h (f_X5_isFreeAt h r0 x1 x2 x3) := by
  refine x_ofW hl0 (by decide +kernel) ?_
  intro z hf p e s m args below meth c C0 hxt hargs hR
  subst hargs
  have C0 : x_C E p l s m meth c ([.ref (xa E r0), .int x1, .int x2, .int x3] : List Value).toArray cX5_isFreeAt 7 "GridEngine$Placement" "isFreeAt" (some .boolean) := C0
  obtain ⟨hx, hb, -⟩ := id C0
  have hS : va_S (x_A E) s.heap s.heap [] := va_S.rf
  have hl := lv_entry ([.ref (xa E r0), .int x1, .int x2, .int x3]) (n := 7) (Nat.le_of_ble_eq_true rfl)
  rw [lg_entry_eq]
  generalize (lg_sl ([.ref (xa E r0), .int x1, .int x2, .int x3]) ++ List.replicate (7 - (lg_sl ([.ref (xa E r0), .int x1, .int x2, .int x3])).length) Slot.unset).toArray = ls at hl ⊢
  have hl : lv_has ls 7 [(0, .ref (xa E r0)), (1, .int x1), (2, .int x2), (3, .int x3)] := hl
  unfold f_X5_isFreeAt at hf
  have h0 : x_by cX5_isFreeAt 0 [28, 42, 180, 0, 38, 27, 42, 180, 0, 22, 6, 182, 0, 72, 96, 4, 100, 54, 4, 29, 42, 180, 0, 38, 27, 42, 180, 0, 26, 6, 182, 0, 72, 96, 4, 100, 54, 5, 3, 54, 6] := by unfold x_by; decide +kernel
  obtain ⟨d0, h0⟩ := de_iload_n2 h0
  obtain ⟨d1, h0⟩ := de_aload_n0 h0
  obtain ⟨d2, h0⟩ := de_getfield 38 (by decide) h0
  obtain ⟨d5, h0⟩ := de_iload_n1 h0
  obtain ⟨d6, h0⟩ := de_aload_n0 h0
  obtain ⟨d7, h0⟩ := de_getfield 22 (by decide) h0
  obtain ⟨d10, h0⟩ := de_iconst_3 h0
  obtain ⟨d11, h0⟩ := de_invokevirtual 72 (by decide) h0
  obtain ⟨d14, h0⟩ := de_iadd h0
  obtain ⟨d15, h0⟩ := de_iconst_1 h0
  obtain ⟨d16, h0⟩ := de_isub h0
  obtain ⟨d17, h0⟩ := de_istore h0
  obtain ⟨d19, h0⟩ := de_iload_n3 h0
  obtain ⟨d20, h0⟩ := de_aload_n0 h0
  obtain ⟨d21, h0⟩ := de_getfield 38 (by decide) h0
  obtain ⟨d24, h0⟩ := de_iload_n1 h0
  obtain ⟨d25, h0⟩ := de_aload_n0 h0
  obtain ⟨d26, h0⟩ := de_getfield 26 (by decide) h0
  obtain ⟨d29, h0⟩ := de_iconst_3 h0
  obtain ⟨d30, h0⟩ := de_invokevirtual 72 (by decide) h0
  obtain ⟨d33, h0⟩ := de_iadd h0
  obtain ⟨d34, h0⟩ := de_iconst_1 h0
  obtain ⟨d35, h0⟩ := de_isub h0
  obtain ⟨d36, h0⟩ := de_istore h0
  obtain ⟨d38, h0⟩ := de_iconst_0 h0
  obtain ⟨d39, h0⟩ := de_istore h0
  refine lv_iload_n hx hb d0 rfl (lv_at hl 2 rfl) ?_
  refine lv_aload_n hx hb d1 rfl (lv_at hl 0 rfl) ?_
  refine x_getR C0 hR hf xcl_5 (Nat.le_of_ble_eq_true rfl) rfl fl_X5_38 d2 (fun a1 hf => ?_)
  refine lv_iload_n hx hb d5 rfl (lv_at hl 1 rfl) ?_
  refine lv_aload_n hx hb d6 rfl (lv_at hl 0 rfl) ?_
  refine x_getI C0 hR hf xcl_5 (Nat.le_of_ble_eq_true rfl) rfl fl_X5_22 d7 (fun i2 hf => ?_)
  refine lv_iconst (v := 3) hx hb d10 (by decide) ?_
  obtain ⟨hs9, hf⟩ := x_if hf
  refine x_thenI C0 hxt hS hf (fun z0 e0 => x_runV C0 hR hS me_X4_itemField wi_X4_itemField wl_X4_itemField ml_X5_72 hs9 xcl_4 (As := [.int x1, .int i2, .int 3]) (ct_X4_itemField E l C0.2.2.2.2.2.2.2.1 _ a1 x1 i2 3) rfl rfl hl.1 (Nat.le_of_ble_eq_true rfl) d11 ⟨(Nat.le_of_ble_eq_true rfl), (Nat.le_of_ble_eq_true rfl)⟩ ⟨(Nat.le_of_ble_eq_true rfl), (Nat.le_of_ble_eq_true rfl)⟩ e0) (Nat.le_of_ble_eq_true rfl) (Nat.le_of_ble_eq_true rfl) (fun h9 i3 H locs hR hS hf => ?_)
  refine lv_iadd hx hb d14 ?_
  refine lv_iconst (v := 1) hx hb d15 (by decide) ?_
  refine lv_isub hx hb d16 ?_
  refine lv_topi (fun i5 ei5 => ?_)
  have hf := x_lI_el ei5 hf
  refine lv_istore (lv' := [(4, .int i5), (0, .ref (xa E r0)), (1, .int x1), (2, .int x2), (3, .int x3)]) hx hb d17 hl (by decide) rfl (fun ls hl => ?_)
  refine lv_iload_n hx hb d19 rfl (lv_at hl 4 rfl) ?_
  refine lv_aload_n hx hb d20 rfl (lv_at hl 1 rfl) ?_
  refine x_getR C0 hR hf xcl_5 (Nat.le_of_ble_eq_true rfl) rfl fl_X5_38 d21 (fun a6 hf => ?_)
  refine lv_iload_n hx hb d24 rfl (lv_at hl 2 rfl) ?_
  refine lv_aload_n hx hb d25 rfl (lv_at hl 1 rfl) ?_
  refine x_getI C0 hR hf xcl_5 (Nat.le_of_ble_eq_true rfl) rfl fl_X5_26 d26 (fun i7 hf => ?_)
  refine lv_iconst (v := 3) hx hb d29 (by decide) ?_
  obtain ⟨hs9, hf⟩ := x_if hf
  refine x_thenI C0 hxt hS hf (fun z0 e0 => x_runV C0 hR hS me_X4_itemField wi_X4_itemField wl_X4_itemField ml_X5_72 hs9 xcl_4 (As := [.int x1, .int i7, .int 3]) (ct_X4_itemField E l C0.2.2.2.2.2.2.2.1 _ a6 x1 i7 3) rfl rfl hl.1 (Nat.le_of_ble_eq_true rfl) d30 ⟨(Nat.le_of_ble_eq_true rfl), (Nat.le_of_ble_eq_true rfl)⟩ ⟨(Nat.le_of_ble_eq_true rfl), (Nat.le_of_ble_eq_true rfl)⟩ e0) (Nat.le_of_ble_eq_true rfl) (Nat.le_of_ble_eq_true rfl) (fun h9 i8 H locs hR hS hf => ?_)
  refine lv_iadd hx hb d33 ?_
  refine lv_iconst (v := 1) hx hb d34 (by decide) ?_
  refine lv_isub hx hb d35 ?_
  refine lv_topi (fun i10 ei10 => ?_)
  have hf := x_lI_el ei10 hf
  refine lv_istore (lv' := [(5, .int i10), (4, .int i5), (0, .ref (xa E r0)), (1, .int x1), (2, .int x2), (3, .int x3)]) hx hb d36 hl (by decide) rfl (fun ls hl => ?_)
  refine lv_iconst (v := 0) hx hb d38 (by decide) ?_
  refine lv_istore (lv' := [(6, .int 0), (5, .int i10), (4, .int i5), (0, .ref (xa E r0)), (1, .int x1), (2, .int x2), (3, .int x3)]) hx hb d39 hl (by decide) rfl (fun ls hl => ?_)
  exact s_X5_isFreeAt_L41 C0 hxt FU _ _ _ _ _ _ _ _ _ _ hR hS (lv_sub hl [3, 5, 6, 2, 1, 0] rfl) hf
def f_X5_moveAlongMain_b75  (h : HP)  : Option XR :=
  some (h, xv)
def f_X5_moveAlongMain_b37 (k37 : HP → Nat → Int32 → Option XR) (h : HP) (r0 : Nat) (x1 : Int32) : Option XR :=
  x_gI h r0 5 7 fun i1 =>
  if 64 ≤ i1 then
    (
      f_X5_moveAlongMain_b75 h
    )
  else
    (
      x_gI h r0 5 7 fun i2 =>
      x_gI h r0 5 8 fun i3 =>
      x_rc h r0 5 <| x_cI (f_X5_isFreeAt h r0 x1 i2 i3) fun h5 i4 =>
      if i4 = 0 then
        (
          x_gI h5 r0 5 7 fun i6 =>
          x_pI h5 r0 5 7 (i6 + 1) fun h7 =>
          k37 h7 r0 x1
        )
      else
        (
          f_X5_moveAlongMain_b75 h5
        )
    )
def f_X5_moveAlongMain_L37  : Nat → HP → Nat → Int32 → Option XR
  | 0 => fun _ _ _ => none
  | n + 1 => f_X5_moveAlongMain_b37 (f_X5_moveAlongMain_L37 n)
def f_X5_moveAlongMain_b32  (h : HP) (r0 : Nat) (x1 : Int32) (x2 : Int32) : Option XR :=
  x_pI h r0 5 8 x2 fun h1 =>
  f_X5_moveAlongMain_L37 FU h1 r0 x1
def f_X5_moveAlongMain (h : HP) (r0 : Nat) (x1 : Int32) : Option XR :=
  x_gR h r0 5 0 fun a1 =>
  x_gI h r0 5 5 fun i2 =>
  x_rc h a1 4 <| x_cI (f_X4_itemField h a1 x1 i2 2) fun h4 i3 =>
  x_gI h4 r0 5 8 fun i5 =>
  if i5 ≤ i3 then
    (
      f_X5_moveAlongMain_b32 h4 r0 x1 i3
    )
  else
    (
      x_gI h4 r0 5 7 fun i6 =>
      x_pI h4 r0 5 7 (i6 + 1) fun h7 =>
      f_X5_moveAlongMain_b32 h7 r0 x1 i3
    )
set_option maxRecDepth 100000 in
set_option maxHeartbeats 4000000 in
theorem s_X5_moveAlongMain_b75 {p : Program} {l : Launch} {e : Env} {s : State} {m : MethodId} {args : Array Value} {below : List Frame} {meth : Method} {c : Code} {E : XE} {z : XR} (C0 : x_C E p l s m meth c args cX5_moveAlongMain 3 "GridEngine$Placement" "moveAlongMain" none) (hxt : ∀ x ∈ c.exceptionTable.toList, False)  : ∀ (h : HP)  (H : Heap) (locs : List Loc) (ls : Array Slot), x_Rep E h H → va_S (x_A E) s.heap H locs → lv_has ls 3 [] → f_X5_moveAlongMain_b75 h  = some z → W p l e ({ frames := 11, cells := 0, slots := 0, locals := 202 } : Room) s m args below meth c H locs 0 0 (x_Q E below args s 0 0 z) (F0 m 75 ls []) := by
  intro h  H locs ls hR hS hl hf
  obtain ⟨hx, hb, -⟩ := id C0
  unfold f_X5_moveAlongMain_b75 at hf
  have h0 : x_by cX5_moveAlongMain 75 [177] := by unfold x_by; decide +kernel
  obtain ⟨d75, h0⟩ := de_return h0
  exact x_vret C0 hR hS hf (Nat.le_of_ble_eq_true rfl) (Nat.le_of_ble_eq_true rfl) d75
set_option maxRecDepth 100000 in
set_option maxHeartbeats 4000000 in
theorem s_X5_moveAlongMain_b37 {p : Program} {l : Launch} {e : Env} {s : State} {m : MethodId} {args : Array Value} {below : List Frame} {meth : Method} {c : Code} {E : XE} {z : XR} (C0 : x_C E p l s m meth c args cX5_moveAlongMain 3 "GridEngine$Placement" "moveAlongMain" none) (hxt : ∀ x ∈ c.exceptionTable.toList, False) {k37 : HP → Nat → Int32 → Option XR} (hk37 : ∀ (h : HP) (r0 : Nat) (x1 : Int32) (H : Heap) (locs : List Loc) (ls : Array Slot), x_Rep E h H → va_S (x_A E) s.heap H locs → lv_has ls 3 [(0, .ref (xa E r0)), (1, .int x1)] → k37 h r0 x1 = some z → W p l e ({ frames := 11, cells := 0, slots := 0, locals := 202 } : Room) s m args below meth c H locs 0 0 (x_Q E below args s 0 0 z) (F0 m 37 ls [])) : ∀ (h : HP) (r0 : Nat) (x1 : Int32) (H : Heap) (locs : List Loc) (ls : Array Slot), x_Rep E h H → va_S (x_A E) s.heap H locs → lv_has ls 3 [(0, .ref (xa E r0)), (1, .int x1)] → f_X5_moveAlongMain_b37 k37 h r0 x1 = some z → W p l e ({ frames := 11, cells := 0, slots := 0, locals := 202 } : Room) s m args below meth c H locs 0 0 (x_Q E below args s 0 0 z) (F0 m 37 ls []) := by
  intro h r0 x1 H locs ls hR hS hl hf
  obtain ⟨hx, hb, -⟩ := id C0
  unfold f_X5_moveAlongMain_b37 at hf
  have h0 : x_by cX5_moveAlongMain 37 [42, 180, 0, 32, 16, 64, 162, 0, 32] := by unfold x_by; decide +kernel
  obtain ⟨d37, h0⟩ := de_aload_n0 h0
  obtain ⟨d38, h0⟩ := de_getfield 32 (by decide) h0
  obtain ⟨d41, h0⟩ := de_bipush (64) (by decide) h0
  obtain ⟨d43, h0⟩ := de_icmp_ge (32) (by decide) h0
  refine lv_aload_n hx hb d37 rfl (lv_at hl 0 rfl) ?_
  refine x_getI C0 hR hf xcl_5 (Nat.le_of_ble_eq_true rfl) rfl fl_X5_32 d38 (fun i1 hf => ?_)
  refine lv_bipush (v := 64) hx hb d41 (by decide) ?_
  refine lv_icmp_ge (tgt := 75) hx hb d43 (by decide) (fun q => ?_) (fun q => ?_)
  · have hf := x_pos q hf
    exact s_X5_moveAlongMain_b75 C0 hxt _ _ _ _ hR hS (lv_sub hl [] rfl) hf
  · have hf := x_neg q hf
    have h0 : x_by cX5_moveAlongMain 46 [42, 27, 42, 180, 0, 32, 42, 180, 0, 35, 182, 0, 107, 154, 0, 16] := by unfold x_by; decide +kernel
    obtain ⟨d46, h0⟩ := de_aload_n0 h0
    obtain ⟨d47, h0⟩ := de_iload_n1 h0
    obtain ⟨d48, h0⟩ := de_aload_n0 h0
    obtain ⟨d49, h0⟩ := de_getfield 32 (by decide) h0
    obtain ⟨d52, h0⟩ := de_aload_n0 h0
    obtain ⟨d53, h0⟩ := de_getfield 35 (by decide) h0
    obtain ⟨d56, h0⟩ := de_invokevirtual 107 (by decide) h0
    obtain ⟨d59, h0⟩ := de_if_ne (16) (by decide) h0
    refine lv_aload_n hx hb d46 rfl (lv_at hl 0 rfl) ?_
    refine lv_iload_n hx hb d47 rfl (lv_at hl 1 rfl) ?_
    refine lv_aload_n hx hb d48 rfl (lv_at hl 0 rfl) ?_
    refine x_getI C0 hR hf xcl_5 (Nat.le_of_ble_eq_true rfl) rfl fl_X5_32 d49 (fun i2 hf => ?_)
    refine lv_aload_n hx hb d52 rfl (lv_at hl 0 rfl) ?_
    refine x_getI C0 hR hf xcl_5 (Nat.le_of_ble_eq_true rfl) rfl fl_X5_35 d53 (fun i3 hf => ?_)
    obtain ⟨hs9, hf⟩ := x_if hf
    refine x_thenI C0 hxt hS hf (fun z0 e0 => x_runV C0 hR hS me_X5_isFreeAt wi_X5_isFreeAt wl_X5_isFreeAt ml_X5_107 hs9 xcl_5 (As := [.int x1, .int i2, .int i3]) (ct_X5_isFreeAt E l C0.2.2.2.2.2.2.2.1 _ r0 x1 i2 i3) rfl rfl hl.1 (Nat.le_of_ble_eq_true rfl) d56 ⟨(Nat.le_of_ble_eq_true rfl), (Nat.le_of_ble_eq_true rfl)⟩ ⟨(Nat.le_of_ble_eq_true rfl), (Nat.le_of_ble_eq_true rfl)⟩ e0) (Nat.le_of_ble_eq_true rfl) (Nat.le_of_ble_eq_true rfl) (fun h9 i4 H locs hR hS hf => ?_)
    refine lv_if_ne (tgt := 75) hx hb d59 (by decide) (fun q => ?_) (fun q => ?_)
    · have hf := x_neg q hf
      exact s_X5_moveAlongMain_b75 C0 hxt _ _ _ _ hR hS (lv_sub hl [] rfl) hf
    · have hf := x_pos q hf
      have h0 : x_by cX5_moveAlongMain 62 [42, 89, 180, 0, 32, 4, 96, 181, 0, 32, 167, 255, 221] := by unfold x_by; decide +kernel
      obtain ⟨d62, h0⟩ := de_aload_n0 h0
      obtain ⟨d63, h0⟩ := de_dup h0
      obtain ⟨d64, h0⟩ := de_getfield 32 (by decide) h0
      obtain ⟨d67, h0⟩ := de_iconst_1 h0
      obtain ⟨d68, h0⟩ := de_iadd h0
      obtain ⟨d69, h0⟩ := de_putfield 32 (by decide) h0
      obtain ⟨d72, h0⟩ := de_goto (-35) (by decide) h0
      refine lv_aload_n hx hb d62 rfl (lv_at hl 0 rfl) ?_
      refine lv_dup hx hb d63 rfl ?_
      refine x_getI C0 hR hf xcl_5 (Nat.le_of_ble_eq_true rfl) rfl fl_X5_32 d64 (fun i6 hf => ?_)
      refine lv_iconst (v := 1) hx hb d67 (by decide) ?_
      refine lv_iadd hx hb d68 ?_
      refine x_putI C0 hR hS hf xcl_5 (Nat.le_of_ble_eq_true rfl) rfl fl_X5_32 (Or.inl rfl) d69 (fun H locs hR hS hf => ?_)
      refine lv_goto (tgt := 37) hx hb d72 (by decide) ?_
      exact hk37 _ _ _ _ _ _ hR hS (lv_sub hl [0, 1] rfl) hf
theorem s_X5_moveAlongMain_L37 {p : Program} {l : Launch} {e : Env} {s : State} {m : MethodId} {args : Array Value} {below : List Frame} {meth : Method} {c : Code} {E : XE} {z : XR} (C0 : x_C E p l s m meth c args cX5_moveAlongMain 3 "GridEngine$Placement" "moveAlongMain" none) (hxt : ∀ x ∈ c.exceptionTable.toList, False)  : ∀ n : Nat, ∀ (h : HP) (r0 : Nat) (x1 : Int32) (H : Heap) (locs : List Loc) (ls : Array Slot), x_Rep E h H → va_S (x_A E) s.heap H locs → lv_has ls 3 [(0, .ref (xa E r0)), (1, .int x1)] → f_X5_moveAlongMain_L37 n h r0 x1 = some z → W p l e ({ frames := 11, cells := 0, slots := 0, locals := 202 } : Room) s m args below meth c H locs 0 0 (x_Q E below args s 0 0 z) (F0 m 37 ls []) := by
  intro n
  induction n with
  | zero => intro h r0 x1 H locs ls hR hS hl hf; cases (show (none : Option XR) = some z from hf)
  | succ n ih => intro h r0 x1 H locs ls hR hS hl hf; exact s_X5_moveAlongMain_b37 C0 hxt ih h r0 x1 H locs ls hR hS hl (show f_X5_moveAlongMain_b37 (f_X5_moveAlongMain_L37 n) h r0 x1 = some z from hf)
set_option maxRecDepth 100000 in
set_option maxHeartbeats 4000000 in
theorem s_X5_moveAlongMain_b32 {p : Program} {l : Launch} {e : Env} {s : State} {m : MethodId} {args : Array Value} {below : List Frame} {meth : Method} {c : Code} {E : XE} {z : XR} (C0 : x_C E p l s m meth c args cX5_moveAlongMain 3 "GridEngine$Placement" "moveAlongMain" none) (hxt : ∀ x ∈ c.exceptionTable.toList, False)  : ∀ (h : HP) (r0 : Nat) (x1 : Int32) (x2 : Int32) (H : Heap) (locs : List Loc) (ls : Array Slot), x_Rep E h H → va_S (x_A E) s.heap H locs → lv_has ls 3 [(0, .ref (xa E r0)), (1, .int x1), (2, .int x2)] → f_X5_moveAlongMain_b32 h r0 x1 x2 = some z → W p l e ({ frames := 11, cells := 0, slots := 0, locals := 202 } : Room) s m args below meth c H locs 0 0 (x_Q E below args s 0 0 z) (F0 m 32 ls []) := by
  intro h r0 x1 x2 H locs ls hR hS hl hf
  obtain ⟨hx, hb, -⟩ := id C0
  unfold f_X5_moveAlongMain_b32 at hf
  have h0 : x_by cX5_moveAlongMain 32 [42, 28, 181, 0, 35] := by unfold x_by; decide +kernel
  obtain ⟨d32, h0⟩ := de_aload_n0 h0
  obtain ⟨d33, h0⟩ := de_iload_n2 h0
  obtain ⟨d34, h0⟩ := de_putfield 35 (by decide) h0
  refine lv_aload_n hx hb d32 rfl (lv_at hl 0 rfl) ?_
  refine lv_iload_n hx hb d33 rfl (lv_at hl 2 rfl) ?_
  refine x_putI C0 hR hS hf xcl_5 (Nat.le_of_ble_eq_true rfl) rfl fl_X5_35 (Or.inl rfl) d34 (fun H locs hR hS hf => ?_)
  exact s_X5_moveAlongMain_L37 C0 hxt FU _ _ _ _ _ _ hR hS (lv_sub hl [0, 1] rfl) hf
set_option maxRecDepth 100000 in
set_option maxHeartbeats 4000000 in
theorem ct_X5_moveAlongMain (E : XE) (l : Launch) (hl0 : l.stackTraces = false) (h : HP) (r0 : Nat) (x1 : Int32) : x_ct E l yX5_moveAlongMain (Cond.code yX5_moveAlongMain cX5_moveAlongMain 3 none) 11 202 0 0 [.ref (xa E r0), .int x1] h (f_X5_moveAlongMain h r0 x1) := by
  refine x_ofW hl0 (by decide +kernel) ?_
  intro z hf p e s m args below meth c C0 hxt hargs hR
  subst hargs
  have C0 : x_C E p l s m meth c ([.ref (xa E r0), .int x1] : List Value).toArray cX5_moveAlongMain 3 "GridEngine$Placement" "moveAlongMain" none := C0
  obtain ⟨hx, hb, -⟩ := id C0
  have hS : va_S (x_A E) s.heap s.heap [] := va_S.rf
  have hl := lv_entry ([.ref (xa E r0), .int x1]) (n := 3) (Nat.le_of_ble_eq_true rfl)
  rw [lg_entry_eq]
  generalize (lg_sl ([.ref (xa E r0), .int x1]) ++ List.replicate (3 - (lg_sl ([.ref (xa E r0), .int x1])).length) Slot.unset).toArray = ls at hl ⊢
  have hl : lv_has ls 3 [(0, .ref (xa E r0)), (1, .int x1)] := hl
  unfold f_X5_moveAlongMain at hf
  have h0 : x_by cX5_moveAlongMain 0 [42, 180, 0, 38, 27, 42, 180, 0, 26, 5, 182, 0, 72, 61, 28, 42, 180, 0, 35, 162, 0, 13] := by unfold x_by; decide +kernel
  obtain ⟨d0, h0⟩ := de_aload_n0 h0
  obtain ⟨d1, h0⟩ := de_getfield 38 (by decide) h0
  obtain ⟨d4, h0⟩ := de_iload_n1 h0
  obtain ⟨d5, h0⟩ := de_aload_n0 h0
  obtain ⟨d6, h0⟩ := de_getfield 26 (by decide) h0
  obtain ⟨d9, h0⟩ := de_iconst_2 h0
  obtain ⟨d10, h0⟩ := de_invokevirtual 72 (by decide) h0
  obtain ⟨d13, h0⟩ := de_istore_n2 h0
  obtain ⟨d14, h0⟩ := de_iload_n2 h0
  obtain ⟨d15, h0⟩ := de_aload_n0 h0
  obtain ⟨d16, h0⟩ := de_getfield 35 (by decide) h0
  obtain ⟨d19, h0⟩ := de_icmp_ge (13) (by decide) h0
  refine lv_aload_n hx hb d0 rfl (lv_at hl 0 rfl) ?_
  refine x_getR C0 hR hf xcl_5 (Nat.le_of_ble_eq_true rfl) rfl fl_X5_38 d1 (fun a1 hf => ?_)
  refine lv_iload_n hx hb d4 rfl (lv_at hl 1 rfl) ?_
  refine lv_aload_n hx hb d5 rfl (lv_at hl 0 rfl) ?_
  refine x_getI C0 hR hf xcl_5 (Nat.le_of_ble_eq_true rfl) rfl fl_X5_26 d6 (fun i2 hf => ?_)
  refine lv_iconst (v := 2) hx hb d9 (by decide) ?_
  obtain ⟨hs9, hf⟩ := x_if hf
  refine x_thenI C0 hxt hS hf (fun z0 e0 => x_runV C0 hR hS me_X4_itemField wi_X4_itemField wl_X4_itemField ml_X5_72 hs9 xcl_4 (As := [.int x1, .int i2, .int 2]) (ct_X4_itemField E l C0.2.2.2.2.2.2.2.1 _ a1 x1 i2 2) rfl rfl hl.1 (Nat.le_of_ble_eq_true rfl) d10 ⟨(Nat.le_of_ble_eq_true rfl), (Nat.le_of_ble_eq_true rfl)⟩ ⟨(Nat.le_of_ble_eq_true rfl), (Nat.le_of_ble_eq_true rfl)⟩ e0) (Nat.le_of_ble_eq_true rfl) (Nat.le_of_ble_eq_true rfl) (fun h9 i3 H locs hR hS hf => ?_)
  refine lv_istore_n (lv' := [(2, .int i3), (0, .ref (xa E r0)), (1, .int x1)]) hx hb d13 rfl hl (by decide) rfl (fun ls hl => ?_)
  refine lv_iload_n hx hb d14 rfl (lv_at hl 0 rfl) ?_
  refine lv_aload_n hx hb d15 rfl (lv_at hl 1 rfl) ?_
  refine x_getI C0 hR hf xcl_5 (Nat.le_of_ble_eq_true rfl) rfl fl_X5_35 d16 (fun i5 hf => ?_)
  refine lv_icmp_ge (tgt := 32) hx hb d19 (by decide) (fun q => ?_) (fun q => ?_)
  · have hf := x_pos q hf
    exact s_X5_moveAlongMain_b32 C0 hxt _ _ _ _ _ _ _ hR hS (lv_sub hl [1, 2, 0] rfl) hf
  · have hf := x_neg q hf
    have h0 : x_by cX5_moveAlongMain 22 [42, 89, 180, 0, 32, 4, 96, 181, 0, 32] := by unfold x_by; decide +kernel
    obtain ⟨d22, h0⟩ := de_aload_n0 h0
    obtain ⟨d23, h0⟩ := de_dup h0
    obtain ⟨d24, h0⟩ := de_getfield 32 (by decide) h0
    obtain ⟨d27, h0⟩ := de_iconst_1 h0
    obtain ⟨d28, h0⟩ := de_iadd h0
    obtain ⟨d29, h0⟩ := de_putfield 32 (by decide) h0
    refine lv_aload_n hx hb d22 rfl (lv_at hl 1 rfl) ?_
    refine lv_dup hx hb d23 rfl ?_
    refine x_getI C0 hR hf xcl_5 (Nat.le_of_ble_eq_true rfl) rfl fl_X5_32 d24 (fun i6 hf => ?_)
    refine lv_iconst (v := 1) hx hb d27 (by decide) ?_
    refine lv_iadd hx hb d28 ?_
    refine x_putI C0 hR hS hf xcl_5 (Nat.le_of_ble_eq_true rfl) rfl fl_X5_32 (Or.inl rfl) d29 (fun H locs hR hS hf => ?_)
    exact s_X5_moveAlongMain_b32 C0 hxt _ _ _ _ _ _ _ hR hS (lv_sub hl [1, 2, 0] rfl) hf
def f_X5_moveToFreePlace_b54 (k21 : HP → Nat → Int32 → Int32 → Option XR) (h : HP) (r0 : Nat) (x1 : Int32) (x2 : Int32) : Option XR :=
  x_gI h r0 5 8 fun i1 =>
  x_pI h r0 5 8 (i1 + 1) fun h2 =>
  x_gI h2 r0 5 8 fun i3 =>
  if i3 ≤ x2 then
    (
      k21 h2 r0 x1 x2
    )
  else
    (
      x_gI h2 r0 5 7 fun i4 =>
      x_pI h2 r0 5 7 (i4 + 1) fun h5 =>
      x_pI h5 r0 5 8 1 fun h6 =>
      k21 h6 r0 x1 x2
    )
def f_X5_moveToFreePlace_b90  (h : HP)  : Option XR :=
  some (h, xv)
def f_X5_moveToFreePlace_b21 (k21 : HP → Nat → Int32 → Int32 → Option XR) (h : HP) (r0 : Nat) (x1 : Int32) (x2 : Int32) : Option XR :=
  x_gI h r0 5 7 fun i1 =>
  if 64 ≤ i1 then
    (
      f_X5_moveToFreePlace_b90 h
    )
  else
    (
      x_gI h r0 5 8 fun i2 =>
      if x2 < i2 then
        (
          f_X5_moveToFreePlace_b54 k21 h r0 x1 x2
        )
      else
        (
          x_gI h r0 5 7 fun i3 =>
          x_gI h r0 5 8 fun i4 =>
          x_rc h r0 5 <| x_cI (f_X5_isFreeAt h r0 x1 i3 i4) fun h6 i5 =>
          if i5 = 0 then
            (
              f_X5_moveToFreePlace_b54 k21 h6 r0 x1 x2
            )
          else
            (
              f_X5_moveToFreePlace_b90 h6
            )
        )
    )
def f_X5_moveToFreePlace_L21  : Nat → HP → Nat → Int32 → Int32 → Option XR
  | 0 => fun _ _ _ _ => none
  | n + 1 => f_X5_moveToFreePlace_b21 (f_X5_moveToFreePlace_L21 n)
def f_X5_moveToFreePlace (h : HP) (r0 : Nat) (x1 : Int32) : Option XR :=
  x_gI h r0 5 6 fun i1 =>
  x_gR h r0 5 0 fun a2 =>
  x_gI h r0 5 5 fun i3 =>
  x_rc h a2 4 <| x_cI (f_X4_itemField h a2 x1 i3 3) fun h5 i4 =>
  x_lI ((i1 - i4) + 1) fun i6 =>
  f_X5_moveToFreePlace_L21 FU h5 r0 x1 i6
set_option maxRecDepth 100000 in
set_option maxHeartbeats 4000000 in
theorem s_X5_moveToFreePlace_b54 {p : Program} {l : Launch} {e : Env} {s : State} {m : MethodId} {args : Array Value} {below : List Frame} {meth : Method} {c : Code} {E : XE} {z : XR} (C0 : x_C E p l s m meth c args cX5_moveToFreePlace 3 "GridEngine$Placement" "moveToFreePlace" none) (hxt : ∀ x ∈ c.exceptionTable.toList, False) {k21 : HP → Nat → Int32 → Int32 → Option XR} (hk21 : ∀ (h : HP) (r0 : Nat) (x1 : Int32) (x2 : Int32) (H : Heap) (locs : List Loc) (ls : Array Slot), x_Rep E h H → va_S (x_A E) s.heap H locs → lv_has ls 3 [(0, .ref (xa E r0)), (1, .int x1), (2, .int x2)] → k21 h r0 x1 x2 = some z → W p l e ({ frames := 11, cells := 0, slots := 0, locals := 202 } : Room) s m args below meth c H locs 0 0 (x_Q E below args s 0 0 z) (F0 m 21 ls [])) : ∀ (h : HP) (r0 : Nat) (x1 : Int32) (x2 : Int32) (H : Heap) (locs : List Loc) (ls : Array Slot), x_Rep E h H → va_S (x_A E) s.heap H locs → lv_has ls 3 [(0, .ref (xa E r0)), (1, .int x1), (2, .int x2)] → f_X5_moveToFreePlace_b54 k21 h r0 x1 x2 = some z → W p l e ({ frames := 11, cells := 0, slots := 0, locals := 202 } : Room) s m args below meth c H locs 0 0 (x_Q E below args s 0 0 z) (F0 m 54 ls []) := by
  intro h r0 x1 x2 H locs ls hR hS hl hf
  obtain ⟨hx, hb, -⟩ := id C0
  unfold f_X5_moveToFreePlace_b54 at hf
  have h0 : x_by cX5_moveToFreePlace 54 [42, 89, 180, 0, 35, 4, 96, 181, 0, 35, 42, 180, 0, 35, 28, 164, 255, 208] := by unfold x_by; decide +kernel
  obtain ⟨d54, h0⟩ := de_aload_n0 h0
  obtain ⟨d55, h0⟩ := de_dup h0
  obtain ⟨d56, h0⟩ := de_getfield 35 (by decide) h0
  obtain ⟨d59, h0⟩ := de_iconst_1 h0
  obtain ⟨d60, h0⟩ := de_iadd h0
  obtain ⟨d61, h0⟩ := de_putfield 35 (by decide) h0
  obtain ⟨d64, h0⟩ := de_aload_n0 h0
  obtain ⟨d65, h0⟩ := de_getfield 35 (by decide) h0
  obtain ⟨d68, h0⟩ := de_iload_n2 h0
  obtain ⟨d69, h0⟩ := de_icmp_le (-48) (by decide) h0
  refine lv_aload_n hx hb d54 rfl (lv_at hl 0 rfl) ?_
  refine lv_dup hx hb d55 rfl ?_
  refine x_getI C0 hR hf xcl_5 (Nat.le_of_ble_eq_true rfl) rfl fl_X5_35 d56 (fun i1 hf => ?_)
  refine lv_iconst (v := 1) hx hb d59 (by decide) ?_
  refine lv_iadd hx hb d60 ?_
  refine x_putI C0 hR hS hf xcl_5 (Nat.le_of_ble_eq_true rfl) rfl fl_X5_35 (Or.inl rfl) d61 (fun H locs hR hS hf => ?_)
  refine lv_aload_n hx hb d64 rfl (lv_at hl 0 rfl) ?_
  refine x_getI C0 hR hf xcl_5 (Nat.le_of_ble_eq_true rfl) rfl fl_X5_35 d65 (fun i3 hf => ?_)
  refine lv_iload_n hx hb d68 rfl (lv_at hl 2 rfl) ?_
  refine lv_icmp_le (tgt := 21) hx hb d69 (by decide) (fun q => ?_) (fun q => ?_)
  · have hf := x_pos q hf
    exact hk21 _ _ _ _ _ _ _ hR hS (lv_sub hl [0, 1, 2] rfl) hf
  · have hf := x_neg q hf
    have h0 : x_by cX5_moveToFreePlace 72 [42, 89, 180, 0, 32, 4, 96, 181, 0, 32, 42, 4, 181, 0, 35, 167, 255, 190] := by unfold x_by; decide +kernel
    obtain ⟨d72, h0⟩ := de_aload_n0 h0
    obtain ⟨d73, h0⟩ := de_dup h0
    obtain ⟨d74, h0⟩ := de_getfield 32 (by decide) h0
    obtain ⟨d77, h0⟩ := de_iconst_1 h0
    obtain ⟨d78, h0⟩ := de_iadd h0
    obtain ⟨d79, h0⟩ := de_putfield 32 (by decide) h0
    obtain ⟨d82, h0⟩ := de_aload_n0 h0
    obtain ⟨d83, h0⟩ := de_iconst_1 h0
    obtain ⟨d84, h0⟩ := de_putfield 35 (by decide) h0
    obtain ⟨d87, h0⟩ := de_goto (-66) (by decide) h0
    refine lv_aload_n hx hb d72 rfl (lv_at hl 0 rfl) ?_
    refine lv_dup hx hb d73 rfl ?_
    refine x_getI C0 hR hf xcl_5 (Nat.le_of_ble_eq_true rfl) rfl fl_X5_32 d74 (fun i4 hf => ?_)
    refine lv_iconst (v := 1) hx hb d77 (by decide) ?_
    refine lv_iadd hx hb d78 ?_
    refine x_putI C0 hR hS hf xcl_5 (Nat.le_of_ble_eq_true rfl) rfl fl_X5_32 (Or.inl rfl) d79 (fun H locs hR hS hf => ?_)
    refine lv_aload_n hx hb d82 rfl (lv_at hl 0 rfl) ?_
    refine lv_iconst (v := 1) hx hb d83 (by decide) ?_
    refine x_putI C0 hR hS hf xcl_5 (Nat.le_of_ble_eq_true rfl) rfl fl_X5_35 (Or.inl rfl) d84 (fun H locs hR hS hf => ?_)
    refine lv_goto (tgt := 21) hx hb d87 (by decide) ?_
    exact hk21 _ _ _ _ _ _ _ hR hS (lv_sub hl [0, 1, 2] rfl) hf
set_option maxRecDepth 100000 in
set_option maxHeartbeats 4000000 in
theorem s_X5_moveToFreePlace_b90 {p : Program} {l : Launch} {e : Env} {s : State} {m : MethodId} {args : Array Value} {below : List Frame} {meth : Method} {c : Code} {E : XE} {z : XR} (C0 : x_C E p l s m meth c args cX5_moveToFreePlace 3 "GridEngine$Placement" "moveToFreePlace" none) (hxt : ∀ x ∈ c.exceptionTable.toList, False)  : ∀ (h : HP)  (H : Heap) (locs : List Loc) (ls : Array Slot), x_Rep E h H → va_S (x_A E) s.heap H locs → lv_has ls 3 [] → f_X5_moveToFreePlace_b90 h  = some z → W p l e ({ frames := 11, cells := 0, slots := 0, locals := 202 } : Room) s m args below meth c H locs 0 0 (x_Q E below args s 0 0 z) (F0 m 90 ls []) := by
  intro h  H locs ls hR hS hl hf
  obtain ⟨hx, hb, -⟩ := id C0
  unfold f_X5_moveToFreePlace_b90 at hf
  have h0 : x_by cX5_moveToFreePlace 90 [177] := by unfold x_by; decide +kernel
  obtain ⟨d90, h0⟩ := de_return h0
  exact x_vret C0 hR hS hf (Nat.le_of_ble_eq_true rfl) (Nat.le_of_ble_eq_true rfl) d90
set_option maxRecDepth 100000 in
set_option maxHeartbeats 4000000 in
theorem s_X5_moveToFreePlace_b21 {p : Program} {l : Launch} {e : Env} {s : State} {m : MethodId} {args : Array Value} {below : List Frame} {meth : Method} {c : Code} {E : XE} {z : XR} (C0 : x_C E p l s m meth c args cX5_moveToFreePlace 3 "GridEngine$Placement" "moveToFreePlace" none) (hxt : ∀ x ∈ c.exceptionTable.toList, False) {k21 : HP → Nat → Int32 → Int32 → Option XR} (hk21 : ∀ (h : HP) (r0 : Nat) (x1 : Int32) (x2 : Int32) (H : Heap) (locs : List Loc) (ls : Array Slot), x_Rep E h H → va_S (x_A E) s.heap H locs → lv_has ls 3 [(0, .ref (xa E r0)), (1, .int x1), (2, .int x2)] → k21 h r0 x1 x2 = some z → W p l e ({ frames := 11, cells := 0, slots := 0, locals := 202 } : Room) s m args below meth c H locs 0 0 (x_Q E below args s 0 0 z) (F0 m 21 ls [])) : ∀ (h : HP) (r0 : Nat) (x1 : Int32) (x2 : Int32) (H : Heap) (locs : List Loc) (ls : Array Slot), x_Rep E h H → va_S (x_A E) s.heap H locs → lv_has ls 3 [(0, .ref (xa E r0)), (1, .int x1), (2, .int x2)] → f_X5_moveToFreePlace_b21 k21 h r0 x1 x2 = some z → W p l e ({ frames := 11, cells := 0, slots := 0, locals := 202 } : Room) s m args below meth c H locs 0 0 (x_Q E below args s 0 0 z) (F0 m 21 ls []) := by
  intro h r0 x1 x2 H locs ls hR hS hl hf
  obtain ⟨hx, hb, -⟩ := id C0
  unfold f_X5_moveToFreePlace_b21 at hf
  have h0 : x_by cX5_moveToFreePlace 21 [42, 180, 0, 32, 16, 64, 162, 0, 63] := by unfold x_by; decide +kernel
  obtain ⟨d21, h0⟩ := de_aload_n0 h0
  obtain ⟨d22, h0⟩ := de_getfield 32 (by decide) h0
  obtain ⟨d25, h0⟩ := de_bipush (64) (by decide) h0
  obtain ⟨d27, h0⟩ := de_icmp_ge (63) (by decide) h0
  refine lv_aload_n hx hb d21 rfl (lv_at hl 0 rfl) ?_
  refine x_getI C0 hR hf xcl_5 (Nat.le_of_ble_eq_true rfl) rfl fl_X5_32 d22 (fun i1 hf => ?_)
  refine lv_bipush (v := 64) hx hb d25 (by decide) ?_
  refine lv_icmp_ge (tgt := 90) hx hb d27 (by decide) (fun q => ?_) (fun q => ?_)
  · have hf := x_pos q hf
    exact s_X5_moveToFreePlace_b90 C0 hxt _ _ _ _ hR hS (lv_sub hl [] rfl) hf
  · have hf := x_neg q hf
    have h0 : x_by cX5_moveToFreePlace 30 [42, 180, 0, 35, 28, 163, 0, 19] := by unfold x_by; decide +kernel
    obtain ⟨d30, h0⟩ := de_aload_n0 h0
    obtain ⟨d31, h0⟩ := de_getfield 35 (by decide) h0
    obtain ⟨d34, h0⟩ := de_iload_n2 h0
    obtain ⟨d35, h0⟩ := de_icmp_gt (19) (by decide) h0
    refine lv_aload_n hx hb d30 rfl (lv_at hl 0 rfl) ?_
    refine x_getI C0 hR hf xcl_5 (Nat.le_of_ble_eq_true rfl) rfl fl_X5_35 d31 (fun i2 hf => ?_)
    refine lv_iload_n hx hb d34 rfl (lv_at hl 2 rfl) ?_
    refine lv_icmp_gt (tgt := 54) hx hb d35 (by decide) (fun q => ?_) (fun q => ?_)
    · have hf := x_pos q hf
      exact s_X5_moveToFreePlace_b54 C0 hxt hk21 _ _ _ _ _ _ _ hR hS (lv_sub hl [0, 1, 2] rfl) hf
    · have hf := x_neg q hf
      have h0 : x_by cX5_moveToFreePlace 38 [42, 27, 42, 180, 0, 32, 42, 180, 0, 35, 182, 0, 107, 154, 0, 39] := by unfold x_by; decide +kernel
      obtain ⟨d38, h0⟩ := de_aload_n0 h0
      obtain ⟨d39, h0⟩ := de_iload_n1 h0
      obtain ⟨d40, h0⟩ := de_aload_n0 h0
      obtain ⟨d41, h0⟩ := de_getfield 32 (by decide) h0
      obtain ⟨d44, h0⟩ := de_aload_n0 h0
      obtain ⟨d45, h0⟩ := de_getfield 35 (by decide) h0
      obtain ⟨d48, h0⟩ := de_invokevirtual 107 (by decide) h0
      obtain ⟨d51, h0⟩ := de_if_ne (39) (by decide) h0
      refine lv_aload_n hx hb d38 rfl (lv_at hl 0 rfl) ?_
      refine lv_iload_n hx hb d39 rfl (lv_at hl 1 rfl) ?_
      refine lv_aload_n hx hb d40 rfl (lv_at hl 0 rfl) ?_
      refine x_getI C0 hR hf xcl_5 (Nat.le_of_ble_eq_true rfl) rfl fl_X5_32 d41 (fun i3 hf => ?_)
      refine lv_aload_n hx hb d44 rfl (lv_at hl 0 rfl) ?_
      refine x_getI C0 hR hf xcl_5 (Nat.le_of_ble_eq_true rfl) rfl fl_X5_35 d45 (fun i4 hf => ?_)
      obtain ⟨hs9, hf⟩ := x_if hf
      refine x_thenI C0 hxt hS hf (fun z0 e0 => x_runV C0 hR hS me_X5_isFreeAt wi_X5_isFreeAt wl_X5_isFreeAt ml_X5_107 hs9 xcl_5 (As := [.int x1, .int i3, .int i4]) (ct_X5_isFreeAt E l C0.2.2.2.2.2.2.2.1 _ r0 x1 i3 i4) rfl rfl hl.1 (Nat.le_of_ble_eq_true rfl) d48 ⟨(Nat.le_of_ble_eq_true rfl), (Nat.le_of_ble_eq_true rfl)⟩ ⟨(Nat.le_of_ble_eq_true rfl), (Nat.le_of_ble_eq_true rfl)⟩ e0) (Nat.le_of_ble_eq_true rfl) (Nat.le_of_ble_eq_true rfl) (fun h9 i5 H locs hR hS hf => ?_)
      refine lv_if_ne (tgt := 90) hx hb d51 (by decide) (fun q => ?_) (fun q => ?_)
      · have hf := x_neg q hf
        exact s_X5_moveToFreePlace_b90 C0 hxt _ _ _ _ hR hS (lv_sub hl [] rfl) hf
      · have hf := x_pos q hf
        exact s_X5_moveToFreePlace_b54 C0 hxt hk21 _ _ _ _ _ _ _ hR hS (lv_sub hl [0, 1, 2] rfl) hf
theorem s_X5_moveToFreePlace_L21 {p : Program} {l : Launch} {e : Env} {s : State} {m : MethodId} {args : Array Value} {below : List Frame} {meth : Method} {c : Code} {E : XE} {z : XR} (C0 : x_C E p l s m meth c args cX5_moveToFreePlace 3 "GridEngine$Placement" "moveToFreePlace" none) (hxt : ∀ x ∈ c.exceptionTable.toList, False)  : ∀ n : Nat, ∀ (h : HP) (r0 : Nat) (x1 : Int32) (x2 : Int32) (H : Heap) (locs : List Loc) (ls : Array Slot), x_Rep E h H → va_S (x_A E) s.heap H locs → lv_has ls 3 [(0, .ref (xa E r0)), (1, .int x1), (2, .int x2)] → f_X5_moveToFreePlace_L21 n h r0 x1 x2 = some z → W p l e ({ frames := 11, cells := 0, slots := 0, locals := 202 } : Room) s m args below meth c H locs 0 0 (x_Q E below args s 0 0 z) (F0 m 21 ls []) := by
  intro n
  induction n with
  | zero => intro h r0 x1 x2 H locs ls hR hS hl hf; cases (show (none : Option XR) = some z from hf)
  | succ n ih => intro h r0 x1 x2 H locs ls hR hS hl hf; exact s_X5_moveToFreePlace_b21 C0 hxt ih h r0 x1 x2 H locs ls hR hS hl (show f_X5_moveToFreePlace_b21 (f_X5_moveToFreePlace_L21 n) h r0 x1 x2 = some z from hf)
set_option maxRecDepth 100000 in
set_option maxHeartbeats 4000000 in
theorem ct_X5_moveToFreePlace (E : XE) (l : Launch) (hl0 : l.stackTraces = false) (h : HP) (r0 : Nat) (x1 : Int32) : x_ct E l yX5_moveToFreePlace (Cond.code yX5_moveToFreePlace cX5_moveToFreePlace 3 none) 11 202 0 0 [.ref (xa E r0), .int x1] h (f_X5_moveToFreePlace h r0 x1) := by
  refine x_ofW hl0 (by decide +kernel) ?_
  intro z hf p e s m args below meth c C0 hxt hargs hR
  subst hargs
  have C0 : x_C E p l s m meth c ([.ref (xa E r0), .int x1] : List Value).toArray cX5_moveToFreePlace 3 "GridEngine$Placement" "moveToFreePlace" none := C0
  obtain ⟨hx, hb, -⟩ := id C0
  have hS : va_S (x_A E) s.heap s.heap [] := va_S.rf
  have hl := lv_entry ([.ref (xa E r0), .int x1]) (n := 3) (Nat.le_of_ble_eq_true rfl)
  rw [lg_entry_eq]
  generalize (lg_sl ([.ref (xa E r0), .int x1]) ++ List.replicate (3 - (lg_sl ([.ref (xa E r0), .int x1])).length) Slot.unset).toArray = ls at hl ⊢
  have hl : lv_has ls 3 [(0, .ref (xa E r0)), (1, .int x1)] := hl
  unfold f_X5_moveToFreePlace at hf
  have h0 : x_by cX5_moveToFreePlace 0 [42, 180, 0, 29, 42, 180, 0, 38, 27, 42, 180, 0, 26, 6, 182, 0, 72, 100, 4, 96, 61] := by unfold x_by; decide +kernel
  obtain ⟨d0, h0⟩ := de_aload_n0 h0
  obtain ⟨d1, h0⟩ := de_getfield 29 (by decide) h0
  obtain ⟨d4, h0⟩ := de_aload_n0 h0
  obtain ⟨d5, h0⟩ := de_getfield 38 (by decide) h0
  obtain ⟨d8, h0⟩ := de_iload_n1 h0
  obtain ⟨d9, h0⟩ := de_aload_n0 h0
  obtain ⟨d10, h0⟩ := de_getfield 26 (by decide) h0
  obtain ⟨d13, h0⟩ := de_iconst_3 h0
  obtain ⟨d14, h0⟩ := de_invokevirtual 72 (by decide) h0
  obtain ⟨d17, h0⟩ := de_isub h0
  obtain ⟨d18, h0⟩ := de_iconst_1 h0
  obtain ⟨d19, h0⟩ := de_iadd h0
  obtain ⟨d20, h0⟩ := de_istore_n2 h0
  refine lv_aload_n hx hb d0 rfl (lv_at hl 0 rfl) ?_
  refine x_getI C0 hR hf xcl_5 (Nat.le_of_ble_eq_true rfl) rfl fl_X5_29 d1 (fun i1 hf => ?_)
  refine lv_aload_n hx hb d4 rfl (lv_at hl 0 rfl) ?_
  refine x_getR C0 hR hf xcl_5 (Nat.le_of_ble_eq_true rfl) rfl fl_X5_38 d5 (fun a2 hf => ?_)
  refine lv_iload_n hx hb d8 rfl (lv_at hl 1 rfl) ?_
  refine lv_aload_n hx hb d9 rfl (lv_at hl 0 rfl) ?_
  refine x_getI C0 hR hf xcl_5 (Nat.le_of_ble_eq_true rfl) rfl fl_X5_26 d10 (fun i3 hf => ?_)
  refine lv_iconst (v := 3) hx hb d13 (by decide) ?_
  obtain ⟨hs9, hf⟩ := x_if hf
  refine x_thenI C0 hxt hS hf (fun z0 e0 => x_runV C0 hR hS me_X4_itemField wi_X4_itemField wl_X4_itemField ml_X5_72 hs9 xcl_4 (As := [.int x1, .int i3, .int 3]) (ct_X4_itemField E l C0.2.2.2.2.2.2.2.1 _ a2 x1 i3 3) rfl rfl hl.1 (Nat.le_of_ble_eq_true rfl) d14 ⟨(Nat.le_of_ble_eq_true rfl), (Nat.le_of_ble_eq_true rfl)⟩ ⟨(Nat.le_of_ble_eq_true rfl), (Nat.le_of_ble_eq_true rfl)⟩ e0) (Nat.le_of_ble_eq_true rfl) (Nat.le_of_ble_eq_true rfl) (fun h9 i4 H locs hR hS hf => ?_)
  refine lv_isub hx hb d17 ?_
  refine lv_iconst (v := 1) hx hb d18 (by decide) ?_
  refine lv_iadd hx hb d19 ?_
  refine lv_topi (fun i6 ei6 => ?_)
  have hf := x_lI_el ei6 hf
  refine lv_istore_n (lv' := [(2, .int i6), (0, .ref (xa E r0)), (1, .int x1)]) hx hb d20 rfl hl (by decide) rfl (fun ls hl => ?_)
  exact s_X5_moveToFreePlace_L21 C0 hxt FU _ _ _ _ _ _ _ hR hS (lv_sub hl [1, 2, 0] rfl) hf
def f_X5_placeWithCursor_b89 (k12 : HP → Nat → Int32 → Option XR) (h : HP) (r0 : Nat) (x1 : Int32) : Option XR :=
  k12 h r0 (x1 + 1)
def f_X5_placeWithCursor_b76 (k12 : HP → Nat → Int32 → Option XR) (h : HP) (r0 : Nat) (x1 : Int32) : Option XR :=
  x_gI h r0 5 7 fun i1 =>
  x_gI h r0 5 8 fun i2 =>
  x_rc h r0 5 <| x_cV (f_X5_putAt h r0 x1 i1 i2) fun h3 =>
  f_X5_placeWithCursor_b89 k12 h3 r0 x1
def f_X5_placeWithCursor_b51 (k12 : HP → Nat → Int32 → Option XR) (h : HP) (r0 : Nat) (x1 : Int32) : Option XR :=
  x_gI h r0 5 5 fun i1 =>
  x_rc h r0 5 <| x_cI (f_X5_hasStart h r0 x1 i1) fun h3 i2 =>
  if i2 = 0 then
    (
      x_rc h3 r0 5 <| x_cV (f_X5_moveToFreePlace h3 r0 x1) fun h4 =>
      f_X5_placeWithCursor_b76 k12 h4 r0 x1
    )
  else
    (
      x_rc h3 r0 5 <| x_cV (f_X5_moveAlongMain h3 r0 x1) fun h5 =>
      f_X5_placeWithCursor_b76 k12 h5 r0 x1
    )
def f_X5_placeWithCursor_b12 (k12 : HP → Nat → Int32 → Option XR) (h : HP) (r0 : Nat) (x1 : Int32) : Option XR :=
  x_gR h r0 5 0 fun a1 =>
  x_gI h a1 4 4 fun i2 =>
  if i2 ≤ x1 then
    (
      some (h, xv)
    )
  else
    (
      x_rc h r0 5 <| x_cI (f_X5_isPlacedBefore h r0 x1) fun h4 i3 =>
      if i3 = 0 then
        (
          x_gR h4 r0 5 0 fun a5 =>
          x_gI h4 a5 4 6 fun i6 =>
          if i6 = 0 then
            (
              f_X5_placeWithCursor_b51 k12 h4 r0 x1
            )
          else
            (
              x_pI h4 r0 5 7 1 fun h7 =>
              x_pI h7 r0 5 8 1 fun h8 =>
              f_X5_placeWithCursor_b51 k12 h8 r0 x1
            )
        )
      else
        (
          f_X5_placeWithCursor_b89 k12 h4 r0 x1
        )
    )
def f_X5_placeWithCursor_L12  : Nat → HP → Nat → Int32 → Option XR
  | 0 => fun _ _ _ => none
  | n + 1 => f_X5_placeWithCursor_b12 (f_X5_placeWithCursor_L12 n)
def f_X5_placeWithCursor (h : HP) (r0 : Nat) : Option XR :=
  x_pI h r0 5 7 1 fun h1 =>
  x_pI h1 r0 5 8 1 fun h2 =>
  f_X5_placeWithCursor_L12 FU h2 r0 0
set_option maxRecDepth 100000 in
set_option maxHeartbeats 4000000 in
theorem s_X5_placeWithCursor_b89 {p : Program} {l : Launch} {e : Env} {s : State} {m : MethodId} {args : Array Value} {below : List Frame} {meth : Method} {c : Code} {E : XE} {z : XR} (C0 : x_C E p l s m meth c args cX5_placeWithCursor 2 "GridEngine$Placement" "placeWithCursor" none) (hxt : ∀ x ∈ c.exceptionTable.toList, False) {k12 : HP → Nat → Int32 → Option XR} (hk12 : ∀ (h : HP) (r0 : Nat) (x1 : Int32) (H : Heap) (locs : List Loc) (ls : Array Slot), x_Rep E h H → va_S (x_A E) s.heap H locs → lv_has ls 2 [(0, .ref (xa E r0)), (1, .int x1)] → k12 h r0 x1 = some z → W p l e ({ frames := 12, cells := 0, slots := 0, locals := 224 } : Room) s m args below meth c H locs 0 0 (x_Q E below args s 0 0 z) (F0 m 12 ls [])) : ∀ (h : HP) (r0 : Nat) (x1 : Int32) (H : Heap) (locs : List Loc) (ls : Array Slot), x_Rep E h H → va_S (x_A E) s.heap H locs → lv_has ls 2 [(0, .ref (xa E r0)), (1, .int x1)] → f_X5_placeWithCursor_b89 k12 h r0 x1 = some z → W p l e ({ frames := 12, cells := 0, slots := 0, locals := 224 } : Room) s m args below meth c H locs 0 0 (x_Q E below args s 0 0 z) (F0 m 89 ls []) := by
  intro h r0 x1 H locs ls hR hS hl hf
  obtain ⟨hx, hb, -⟩ := id C0
  unfold f_X5_placeWithCursor_b89 at hf
  have h0 : x_by cX5_placeWithCursor 89 [132, 1, 1, 167, 255, 176] := by unfold x_by; decide +kernel
  obtain ⟨d89, h0⟩ := de_iinc (1) (by decide) h0
  obtain ⟨d92, h0⟩ := de_goto (-80) (by decide) h0
  refine lv_iinc (v := (x1 + 1)) (lv' := [(1, .int (x1 + 1)), (0, .ref (xa E r0))]) hx hb d89 hl (k := 1) rfl rfl (by decide) rfl (fun ls hl => ?_)
  refine lv_goto (tgt := 12) hx hb d92 (by decide) ?_
  exact hk12 _ _ _ _ _ _ hR hS (lv_sub hl [1, 0] rfl) hf
set_option maxRecDepth 100000 in
set_option maxHeartbeats 4000000 in
theorem s_X5_placeWithCursor_b76 {p : Program} {l : Launch} {e : Env} {s : State} {m : MethodId} {args : Array Value} {below : List Frame} {meth : Method} {c : Code} {E : XE} {z : XR} (C0 : x_C E p l s m meth c args cX5_placeWithCursor 2 "GridEngine$Placement" "placeWithCursor" none) (hxt : ∀ x ∈ c.exceptionTable.toList, False) {k12 : HP → Nat → Int32 → Option XR} (hk12 : ∀ (h : HP) (r0 : Nat) (x1 : Int32) (H : Heap) (locs : List Loc) (ls : Array Slot), x_Rep E h H → va_S (x_A E) s.heap H locs → lv_has ls 2 [(0, .ref (xa E r0)), (1, .int x1)] → k12 h r0 x1 = some z → W p l e ({ frames := 12, cells := 0, slots := 0, locals := 224 } : Room) s m args below meth c H locs 0 0 (x_Q E below args s 0 0 z) (F0 m 12 ls [])) : ∀ (h : HP) (r0 : Nat) (x1 : Int32) (H : Heap) (locs : List Loc) (ls : Array Slot), x_Rep E h H → va_S (x_A E) s.heap H locs → lv_has ls 2 [(0, .ref (xa E r0)), (1, .int x1)] → f_X5_placeWithCursor_b76 k12 h r0 x1 = some z → W p l e ({ frames := 12, cells := 0, slots := 0, locals := 224 } : Room) s m args below meth c H locs 0 0 (x_Q E below args s 0 0 z) (F0 m 76 ls []) := by
  intro h r0 x1 H locs ls hR hS hl hf
  obtain ⟨hx, hb, -⟩ := id C0
  unfold f_X5_placeWithCursor_b76 at hf
  have h0 : x_by cX5_placeWithCursor 76 [42, 27, 42, 180, 0, 32, 42, 180, 0, 35, 182, 0, 96] := by unfold x_by; decide +kernel
  obtain ⟨d76, h0⟩ := de_aload_n0 h0
  obtain ⟨d77, h0⟩ := de_iload_n1 h0
  obtain ⟨d78, h0⟩ := de_aload_n0 h0
  obtain ⟨d79, h0⟩ := de_getfield 32 (by decide) h0
  obtain ⟨d82, h0⟩ := de_aload_n0 h0
  obtain ⟨d83, h0⟩ := de_getfield 35 (by decide) h0
  obtain ⟨d86, h0⟩ := de_invokevirtual 96 (by decide) h0
  refine lv_aload_n hx hb d76 rfl (lv_at hl 0 rfl) ?_
  refine lv_iload_n hx hb d77 rfl (lv_at hl 1 rfl) ?_
  refine lv_aload_n hx hb d78 rfl (lv_at hl 0 rfl) ?_
  refine x_getI C0 hR hf xcl_5 (Nat.le_of_ble_eq_true rfl) rfl fl_X5_32 d79 (fun i1 hf => ?_)
  refine lv_aload_n hx hb d82 rfl (lv_at hl 0 rfl) ?_
  refine x_getI C0 hR hf xcl_5 (Nat.le_of_ble_eq_true rfl) rfl fl_X5_35 d83 (fun i2 hf => ?_)
  obtain ⟨hs9, hf⟩ := x_if hf
  refine x_thenV C0 hxt hS hf (fun z0 e0 => x_runV C0 hR hS me_X5_putAt wi_X5_putAt wl_X5_putAt ml_X5_96 hs9 xcl_5 (As := [.int x1, .int i1, .int i2]) (ct_X5_putAt E l C0.2.2.2.2.2.2.2.1 _ r0 x1 i1 i2) rfl rfl hl.1 (Nat.le_of_ble_eq_true rfl) d86 ⟨(Nat.le_of_ble_eq_true rfl), (Nat.le_of_ble_eq_true rfl)⟩ ⟨(Nat.le_of_ble_eq_true rfl), (Nat.le_of_ble_eq_true rfl)⟩ e0) (Nat.le_of_ble_eq_true rfl) (Nat.le_of_ble_eq_true rfl) (fun h9 H locs hR hS hf => ?_)
  exact s_X5_placeWithCursor_b89 C0 hxt hk12 _ _ _ _ _ _ hR hS (lv_sub hl [0, 1] rfl) hf
set_option maxRecDepth 100000 in
set_option maxHeartbeats 4000000 in
theorem s_X5_placeWithCursor_b51 {p : Program} {l : Launch} {e : Env} {s : State} {m : MethodId} {args : Array Value} {below : List Frame} {meth : Method} {c : Code} {E : XE} {z : XR} (C0 : x_C E p l s m meth c args cX5_placeWithCursor 2 "GridEngine$Placement" "placeWithCursor" none) (hxt : ∀ x ∈ c.exceptionTable.toList, False) {k12 : HP → Nat → Int32 → Option XR} (hk12 : ∀ (h : HP) (r0 : Nat) (x1 : Int32) (H : Heap) (locs : List Loc) (ls : Array Slot), x_Rep E h H → va_S (x_A E) s.heap H locs → lv_has ls 2 [(0, .ref (xa E r0)), (1, .int x1)] → k12 h r0 x1 = some z → W p l e ({ frames := 12, cells := 0, slots := 0, locals := 224 } : Room) s m args below meth c H locs 0 0 (x_Q E below args s 0 0 z) (F0 m 12 ls [])) : ∀ (h : HP) (r0 : Nat) (x1 : Int32) (H : Heap) (locs : List Loc) (ls : Array Slot), x_Rep E h H → va_S (x_A E) s.heap H locs → lv_has ls 2 [(0, .ref (xa E r0)), (1, .int x1)] → f_X5_placeWithCursor_b51 k12 h r0 x1 = some z → W p l e ({ frames := 12, cells := 0, slots := 0, locals := 224 } : Room) s m args below meth c H locs 0 0 (x_Q E below args s 0 0 z) (F0 m 51 ls []) := by
  intro h r0 x1 H locs ls hR hS hl hf
  obtain ⟨hx, hb, -⟩ := id C0
  unfold f_X5_placeWithCursor_b51 at hf
  have h0 : x_by cX5_placeWithCursor 51 [42, 27, 42, 180, 0, 26, 182, 0, 92, 153, 0, 11] := by unfold x_by; decide +kernel
  obtain ⟨d51, h0⟩ := de_aload_n0 h0
  obtain ⟨d52, h0⟩ := de_iload_n1 h0
  obtain ⟨d53, h0⟩ := de_aload_n0 h0
  obtain ⟨d54, h0⟩ := de_getfield 26 (by decide) h0
  obtain ⟨d57, h0⟩ := de_invokevirtual 92 (by decide) h0
  obtain ⟨d60, h0⟩ := de_if_eq (11) (by decide) h0
  refine lv_aload_n hx hb d51 rfl (lv_at hl 0 rfl) ?_
  refine lv_iload_n hx hb d52 rfl (lv_at hl 1 rfl) ?_
  refine lv_aload_n hx hb d53 rfl (lv_at hl 0 rfl) ?_
  refine x_getI C0 hR hf xcl_5 (Nat.le_of_ble_eq_true rfl) rfl fl_X5_26 d54 (fun i1 hf => ?_)
  obtain ⟨hs9, hf⟩ := x_if hf
  refine x_thenI C0 hxt hS hf (fun z0 e0 => x_runV C0 hR hS me_X5_hasStart wi_X5_hasStart wl_X5_hasStart ml_X5_92 hs9 xcl_5 (As := [.int x1, .int i1]) (ct_X5_hasStart E l C0.2.2.2.2.2.2.2.1 _ r0 x1 i1) rfl rfl hl.1 (Nat.le_of_ble_eq_true rfl) d57 ⟨(Nat.le_of_ble_eq_true rfl), (Nat.le_of_ble_eq_true rfl)⟩ ⟨(Nat.le_of_ble_eq_true rfl), (Nat.le_of_ble_eq_true rfl)⟩ e0) (Nat.le_of_ble_eq_true rfl) (Nat.le_of_ble_eq_true rfl) (fun h9 i2 H locs hR hS hf => ?_)
  refine lv_if_eq (tgt := 71) hx hb d60 (by decide) (fun q => ?_) (fun q => ?_)
  · have hf := x_pos q hf
    have h0 : x_by cX5_placeWithCursor 71 [42, 27, 182, 0, 124] := by unfold x_by; decide +kernel
    obtain ⟨d71, h0⟩ := de_aload_n0 h0
    obtain ⟨d72, h0⟩ := de_iload_n1 h0
    obtain ⟨d73, h0⟩ := de_invokevirtual 124 (by decide) h0
    refine lv_aload_n hx hb d71 rfl (lv_at hl 0 rfl) ?_
    refine lv_iload_n hx hb d72 rfl (lv_at hl 1 rfl) ?_
    obtain ⟨hs9, hf⟩ := x_if hf
    refine x_thenV C0 hxt hS hf (fun z0 e0 => x_runV C0 hR hS me_X5_moveToFreePlace wi_X5_moveToFreePlace wl_X5_moveToFreePlace ml_X5_124 hs9 xcl_5 (As := [.int x1]) (ct_X5_moveToFreePlace E l C0.2.2.2.2.2.2.2.1 _ r0 x1) rfl rfl hl.1 (Nat.le_of_ble_eq_true rfl) d73 ⟨(Nat.le_of_ble_eq_true rfl), (Nat.le_of_ble_eq_true rfl)⟩ ⟨(Nat.le_of_ble_eq_true rfl), (Nat.le_of_ble_eq_true rfl)⟩ e0) (Nat.le_of_ble_eq_true rfl) (Nat.le_of_ble_eq_true rfl) (fun h9 H locs hR hS hf => ?_)
    exact s_X5_placeWithCursor_b76 C0 hxt hk12 _ _ _ _ _ _ hR hS (lv_sub hl [0, 1] rfl) hf
  · have hf := x_neg q hf
    have h0 : x_by cX5_placeWithCursor 63 [42, 27, 182, 0, 120, 167, 0, 8] := by unfold x_by; decide +kernel
    obtain ⟨d63, h0⟩ := de_aload_n0 h0
    obtain ⟨d64, h0⟩ := de_iload_n1 h0
    obtain ⟨d65, h0⟩ := de_invokevirtual 120 (by decide) h0
    obtain ⟨d68, h0⟩ := de_goto (8) (by decide) h0
    refine lv_aload_n hx hb d63 rfl (lv_at hl 0 rfl) ?_
    refine lv_iload_n hx hb d64 rfl (lv_at hl 1 rfl) ?_
    obtain ⟨hs9, hf⟩ := x_if hf
    refine x_thenV C0 hxt hS hf (fun z0 e0 => x_runV C0 hR hS me_X5_moveAlongMain wi_X5_moveAlongMain wl_X5_moveAlongMain ml_X5_120 hs9 xcl_5 (As := [.int x1]) (ct_X5_moveAlongMain E l C0.2.2.2.2.2.2.2.1 _ r0 x1) rfl rfl hl.1 (Nat.le_of_ble_eq_true rfl) d65 ⟨(Nat.le_of_ble_eq_true rfl), (Nat.le_of_ble_eq_true rfl)⟩ ⟨(Nat.le_of_ble_eq_true rfl), (Nat.le_of_ble_eq_true rfl)⟩ e0) (Nat.le_of_ble_eq_true rfl) (Nat.le_of_ble_eq_true rfl) (fun h9 H locs hR hS hf => ?_)
    refine lv_goto (tgt := 76) hx hb d68 (by decide) ?_
    exact s_X5_placeWithCursor_b76 C0 hxt hk12 _ _ _ _ _ _ hR hS (lv_sub hl [0, 1] rfl) hf
set_option maxRecDepth 100000 in
set_option maxHeartbeats 4000000 in
theorem s_X5_placeWithCursor_b12 {p : Program} {l : Launch} {e : Env} {s : State} {m : MethodId} {args : Array Value} {below : List Frame} {meth : Method} {c : Code} {E : XE} {z : XR} (C0 : x_C E p l s m meth c args cX5_placeWithCursor 2 "GridEngine$Placement" "placeWithCursor" none) (hxt : ∀ x ∈ c.exceptionTable.toList, False) {k12 : HP → Nat → Int32 → Option XR} (hk12 : ∀ (h : HP) (r0 : Nat) (x1 : Int32) (H : Heap) (locs : List Loc) (ls : Array Slot), x_Rep E h H → va_S (x_A E) s.heap H locs → lv_has ls 2 [(0, .ref (xa E r0)), (1, .int x1)] → k12 h r0 x1 = some z → W p l e ({ frames := 12, cells := 0, slots := 0, locals := 224 } : Room) s m args below meth c H locs 0 0 (x_Q E below args s 0 0 z) (F0 m 12 ls [])) : ∀ (h : HP) (r0 : Nat) (x1 : Int32) (H : Heap) (locs : List Loc) (ls : Array Slot), x_Rep E h H → va_S (x_A E) s.heap H locs → lv_has ls 2 [(0, .ref (xa E r0)), (1, .int x1)] → f_X5_placeWithCursor_b12 k12 h r0 x1 = some z → W p l e ({ frames := 12, cells := 0, slots := 0, locals := 224 } : Room) s m args below meth c H locs 0 0 (x_Q E below args s 0 0 z) (F0 m 12 ls []) := by
  intro h r0 x1 H locs ls hR hS hl hf
  obtain ⟨hx, hb, -⟩ := id C0
  unfold f_X5_placeWithCursor_b12 at hf
  have h0 : x_by cX5_placeWithCursor 12 [27, 42, 180, 0, 38, 180, 0, 86, 162, 0, 75] := by unfold x_by; decide +kernel
  obtain ⟨d12, h0⟩ := de_iload_n1 h0
  obtain ⟨d13, h0⟩ := de_aload_n0 h0
  obtain ⟨d14, h0⟩ := de_getfield 38 (by decide) h0
  obtain ⟨d17, h0⟩ := de_getfield 86 (by decide) h0
  obtain ⟨d20, h0⟩ := de_icmp_ge (75) (by decide) h0
  refine lv_iload_n hx hb d12 rfl (lv_at hl 1 rfl) ?_
  refine lv_aload_n hx hb d13 rfl (lv_at hl 0 rfl) ?_
  refine x_getR C0 hR hf xcl_5 (Nat.le_of_ble_eq_true rfl) rfl fl_X5_38 d14 (fun a1 hf => ?_)
  refine x_getI C0 hR hf xcl_4 (Nat.le_of_ble_eq_true rfl) rfl fl_X5_86 d17 (fun i2 hf => ?_)
  refine lv_icmp_ge (tgt := 95) hx hb d20 (by decide) (fun q => ?_) (fun q => ?_)
  · have hf := x_pos q hf
    have h0 : x_by cX5_placeWithCursor 95 [177] := by unfold x_by; decide +kernel
    obtain ⟨d95, h0⟩ := de_return h0
    exact x_vret C0 hR hS hf (Nat.le_of_ble_eq_true rfl) (Nat.le_of_ble_eq_true rfl) d95
  · have hf := x_neg q hf
    have h0 : x_by cX5_placeWithCursor 23 [42, 27, 182, 0, 116, 154, 0, 61] := by unfold x_by; decide +kernel
    obtain ⟨d23, h0⟩ := de_aload_n0 h0
    obtain ⟨d24, h0⟩ := de_iload_n1 h0
    obtain ⟨d25, h0⟩ := de_invokevirtual 116 (by decide) h0
    obtain ⟨d28, h0⟩ := de_if_ne (61) (by decide) h0
    refine lv_aload_n hx hb d23 rfl (lv_at hl 0 rfl) ?_
    refine lv_iload_n hx hb d24 rfl (lv_at hl 1 rfl) ?_
    obtain ⟨hs9, hf⟩ := x_if hf
    refine x_thenI C0 hxt hS hf (fun z0 e0 => x_runV C0 hR hS me_X5_isPlacedBefore wi_X5_isPlacedBefore wl_X5_isPlacedBefore ml_X5_116 hs9 xcl_5 (As := [.int x1]) (ct_X5_isPlacedBefore E l C0.2.2.2.2.2.2.2.1 _ r0 x1) rfl rfl hl.1 (Nat.le_of_ble_eq_true rfl) d25 ⟨(Nat.le_of_ble_eq_true rfl), (Nat.le_of_ble_eq_true rfl)⟩ ⟨(Nat.le_of_ble_eq_true rfl), (Nat.le_of_ble_eq_true rfl)⟩ e0) (Nat.le_of_ble_eq_true rfl) (Nat.le_of_ble_eq_true rfl) (fun h9 i3 H locs hR hS hf => ?_)
    refine lv_if_ne (tgt := 89) hx hb d28 (by decide) (fun q => ?_) (fun q => ?_)
    · have hf := x_neg q hf
      exact s_X5_placeWithCursor_b89 C0 hxt hk12 _ _ _ _ _ _ hR hS (lv_sub hl [0, 1] rfl) hf
    · have hf := x_pos q hf
      have h0 : x_by cX5_placeWithCursor 31 [42, 180, 0, 38, 180, 0, 100, 153, 0, 13] := by unfold x_by; decide +kernel
      obtain ⟨d31, h0⟩ := de_aload_n0 h0
      obtain ⟨d32, h0⟩ := de_getfield 38 (by decide) h0
      obtain ⟨d35, h0⟩ := de_getfield 100 (by decide) h0
      obtain ⟨d38, h0⟩ := de_if_eq (13) (by decide) h0
      refine lv_aload_n hx hb d31 rfl (lv_at hl 0 rfl) ?_
      refine x_getR C0 hR hf xcl_5 (Nat.le_of_ble_eq_true rfl) rfl fl_X5_38 d32 (fun a5 hf => ?_)
      refine x_getI C0 hR hf xcl_4 (Nat.le_of_ble_eq_true rfl) rfl fl_X5_100 d35 (fun i6 hf => ?_)
      refine lv_if_eq (tgt := 51) hx hb d38 (by decide) (fun q => ?_) (fun q => ?_)
      · have hf := x_pos q hf
        exact s_X5_placeWithCursor_b51 C0 hxt hk12 _ _ _ _ _ _ hR hS (lv_sub hl [0, 1] rfl) hf
      · have hf := x_neg q hf
        have h0 : x_by cX5_placeWithCursor 41 [42, 4, 181, 0, 32, 42, 4, 181, 0, 35] := by unfold x_by; decide +kernel
        obtain ⟨d41, h0⟩ := de_aload_n0 h0
        obtain ⟨d42, h0⟩ := de_iconst_1 h0
        obtain ⟨d43, h0⟩ := de_putfield 32 (by decide) h0
        obtain ⟨d46, h0⟩ := de_aload_n0 h0
        obtain ⟨d47, h0⟩ := de_iconst_1 h0
        obtain ⟨d48, h0⟩ := de_putfield 35 (by decide) h0
        refine lv_aload_n hx hb d41 rfl (lv_at hl 0 rfl) ?_
        refine lv_iconst (v := 1) hx hb d42 (by decide) ?_
        refine x_putI C0 hR hS hf xcl_5 (Nat.le_of_ble_eq_true rfl) rfl fl_X5_32 (Or.inl rfl) d43 (fun H locs hR hS hf => ?_)
        refine lv_aload_n hx hb d46 rfl (lv_at hl 0 rfl) ?_
        refine lv_iconst (v := 1) hx hb d47 (by decide) ?_
        refine x_putI C0 hR hS hf xcl_5 (Nat.le_of_ble_eq_true rfl) rfl fl_X5_35 (Or.inl rfl) d48 (fun H locs hR hS hf => ?_)
        exact s_X5_placeWithCursor_b51 C0 hxt hk12 _ _ _ _ _ _ hR hS (lv_sub hl [0, 1] rfl) hf
theorem s_X5_placeWithCursor_L12 {p : Program} {l : Launch} {e : Env} {s : State} {m : MethodId} {args : Array Value} {below : List Frame} {meth : Method} {c : Code} {E : XE} {z : XR} (C0 : x_C E p l s m meth c args cX5_placeWithCursor 2 "GridEngine$Placement" "placeWithCursor" none) (hxt : ∀ x ∈ c.exceptionTable.toList, False)  : ∀ n : Nat, ∀ (h : HP) (r0 : Nat) (x1 : Int32) (H : Heap) (locs : List Loc) (ls : Array Slot), x_Rep E h H → va_S (x_A E) s.heap H locs → lv_has ls 2 [(0, .ref (xa E r0)), (1, .int x1)] → f_X5_placeWithCursor_L12 n h r0 x1 = some z → W p l e ({ frames := 12, cells := 0, slots := 0, locals := 224 } : Room) s m args below meth c H locs 0 0 (x_Q E below args s 0 0 z) (F0 m 12 ls []) := by
  intro n
  induction n with
  | zero => intro h r0 x1 H locs ls hR hS hl hf; cases (show (none : Option XR) = some z from hf)
  | succ n ih => intro h r0 x1 H locs ls hR hS hl hf; exact s_X5_placeWithCursor_b12 C0 hxt ih h r0 x1 H locs ls hR hS hl (show f_X5_placeWithCursor_b12 (f_X5_placeWithCursor_L12 n) h r0 x1 = some z from hf)
set_option maxRecDepth 100000 in
set_option maxHeartbeats 4000000 in
theorem ct_X5_placeWithCursor (E : XE) (l : Launch) (hl0 : l.stackTraces = false) (h : HP) (r0 : Nat) : x_ct E l yX5_placeWithCursor (Cond.code yX5_placeWithCursor cX5_placeWithCursor 2 none) 12 224 0 0 [.ref (xa E r0)] h (f_X5_placeWithCursor h r0) := by
  refine x_ofW hl0 (by decide +kernel) ?_
  intro z hf p e s m args below meth c C0 hxt hargs hR
  subst hargs
  have C0 : x_C E p l s m meth c ([.ref (xa E r0)] : List Value).toArray cX5_placeWithCursor 2 "GridEngine$Placement" "placeWithCursor" none := C0
  obtain ⟨hx, hb, -⟩ := id C0
  have hS : va_S (x_A E) s.heap s.heap [] := va_S.rf
  have hl := lv_entry ([.ref (xa E r0)]) (n := 2) (Nat.le_of_ble_eq_true rfl)
  rw [lg_entry_eq]
  generalize (lg_sl ([.ref (xa E r0)]) ++ List.replicate (2 - (lg_sl ([.ref (xa E r0)])).length) Slot.unset).toArray = ls at hl ⊢
  have hl : lv_has ls 2 [(0, .ref (xa E r0))] := hl
  unfold f_X5_placeWithCursor at hf
  have h0 : x_by cX5_placeWithCursor 0 [42, 4, 181, 0, 32, 42, 4, 181, 0, 35, 3, 60] := by unfold x_by; decide +kernel
  obtain ⟨d0, h0⟩ := de_aload_n0 h0
  obtain ⟨d1, h0⟩ := de_iconst_1 h0
  obtain ⟨d2, h0⟩ := de_putfield 32 (by decide) h0
  obtain ⟨d5, h0⟩ := de_aload_n0 h0
  obtain ⟨d6, h0⟩ := de_iconst_1 h0
  obtain ⟨d7, h0⟩ := de_putfield 35 (by decide) h0
  obtain ⟨d10, h0⟩ := de_iconst_0 h0
  obtain ⟨d11, h0⟩ := de_istore_n1 h0
  refine lv_aload_n hx hb d0 rfl (lv_at hl 0 rfl) ?_
  refine lv_iconst (v := 1) hx hb d1 (by decide) ?_
  refine x_putI C0 hR hS hf xcl_5 (Nat.le_of_ble_eq_true rfl) rfl fl_X5_32 (Or.inl rfl) d2 (fun H locs hR hS hf => ?_)
  refine lv_aload_n hx hb d5 rfl (lv_at hl 0 rfl) ?_
  refine lv_iconst (v := 1) hx hb d6 (by decide) ?_
  refine x_putI C0 hR hS hf xcl_5 (Nat.le_of_ble_eq_true rfl) rfl fl_X5_35 (Or.inl rfl) d7 (fun H locs hR hS hf => ?_)
  refine lv_iconst (v := 0) hx hb d10 (by decide) ?_
  refine lv_istore_n (lv' := [(1, .int 0), (0, .ref (xa E r0))]) hx hb d11 rfl hl (by decide) rfl (fun ls hl => ?_)
  exact s_X5_placeWithCursor_L12 C0 hxt FU _ _ _ _ _ _ hR hS (lv_sub hl [1, 0] rfl) hf
def f_X5_firstSparseSide_b80 (k5 : HP → Nat → Int32 → Int32 → Int32 → Int32 → Option XR) (h : HP) (r0 : Nat) (x1 : Int32) (x2 : Int32) (x3 : Int32) (x4 : Int32) : Option XR :=
  k5 h r0 x1 x2 x3 (x4 + 1)
def f_X5_firstSparseSide_b42 (k5 : HP → Nat → Int32 → Int32 → Int32 → Int32 → Option XR) (h : HP) (t0 : Int32) (r0 : Nat) (x1 : Int32) (x2 : Int32) (x3 : Int32) (x4 : Int32) : Option XR :=
  if t0 = 0 then
    (
      f_X5_firstSparseSide_b80 k5 h r0 x1 x2 x3 x4
    )
  else
    (
      x_gI h r0 5 4 fun i1 =>
      x_rc h r0 5 <| x_cI (f_X5_firstTrack h r0 x4 i1) fun h3 i2 =>
      if i2 = x2 then
        (
          x_gI h3 r0 5 5 fun i4 =>
          x_rc h3 r0 5 <| x_cI (f_X5_firstTrack h3 r0 x4 i4) fun h6 i5 =>
          x_lI (if x3 < (i5 + 1) then (i5 + 1) else x3) fun i7 =>
          f_X5_firstSparseSide_b80 k5 h6 r0 x1 x2 i7 x4
        )
      else
        (
          f_X5_firstSparseSide_b80 k5 h3 r0 x1 x2 x3 x4
        )
    )
def f_X5_firstSparseSide_b41 (k5 : HP → Nat → Int32 → Int32 → Int32 → Int32 → Option XR) (h : HP) (r0 : Nat) (x1 : Int32) (x2 : Int32) (x3 : Int32) (x4 : Int32) : Option XR :=
  f_X5_firstSparseSide_b42 k5 h 0 r0 x1 x2 x3 x4
def f_X5_firstSparseSide_b5 (k5 : HP → Nat → Int32 → Int32 → Int32 → Int32 → Option XR) (h : HP) (r0 : Nat) (x1 : Int32) (x2 : Int32) (x3 : Int32) (x4 : Int32) : Option XR :=
  if x1 ≤ x4 then
    (
      some (h, xi x3)
    )
  else
    (
      x_gI h r0 5 4 fun i1 =>
      x_rc h r0 5 <| x_cI (f_X5_hasStart h r0 x4 i1) fun h3 i2 =>
      if i2 = 0 then
        (
          f_X5_firstSparseSide_b41 k5 h3 r0 x1 x2 x3 x4
        )
      else
        (
          x_gI h3 r0 5 5 fun i4 =>
          x_rc h3 r0 5 <| x_cI (f_X5_hasStart h3 r0 x4 i4) fun h6 i5 =>
          if i5 = 0 then
            (
              f_X5_firstSparseSide_b42 k5 h6 1 r0 x1 x2 x3 x4
            )
          else
            (
              f_X5_firstSparseSide_b41 k5 h6 r0 x1 x2 x3 x4
            )
        )
    )
def f_X5_firstSparseSide_L5  : Nat → HP → Nat → Int32 → Int32 → Int32 → Int32 → Option XR
  | 0 => fun _ _ _ _ _ _ => none
  | n + 1 => f_X5_firstSparseSide_b5 (f_X5_firstSparseSide_L5 n)
def f_X5_firstSparseSide (h : HP) (r0 : Nat) (x1 : Int32) (x2 : Int32) : Option XR :=
  f_X5_firstSparseSide_L5 FU h r0 x1 x2 1 0
set_option maxRecDepth 100000 in
set_option maxHeartbeats 4000000 in
theorem s_X5_firstSparseSide_b80 {p : Program} {l : Launch} {e : Env} {s : State} {m : MethodId} {args : Array Value} {below : List Frame} {meth : Method} {c : Code} {E : XE} {z : XR} (C0 : x_C E p l s m meth c args cX5_firstSparseSide 6 "GridEngine$Placement" "firstSparseSide" (some .int)) (hxt : ∀ x ∈ c.exceptionTable.toList, False) {k5 : HP → Nat → Int32 → Int32 → Int32 → Int32 → Option XR} (hk5 : ∀ (h : HP) (r0 : Nat) (x1 : Int32) (x2 : Int32) (x3 : Int32) (x4 : Int32) (H : Heap) (locs : List Loc) (ls : Array Slot), x_Rep E h H → va_S (x_A E) s.heap H locs → lv_has ls 6 [(0, .ref (xa E r0)), (1, .int x1), (2, .int x2), (3, .int x3), (4, .int x4)] → k5 h r0 x1 x2 x3 x4 = some z → W p l e ({ frames := 10, cells := 0, slots := 0, locals := 176 } : Room) s m args below meth c H locs 0 0 (x_Q E below args s 0 0 z) (F0 m 5 ls [])) : ∀ (h : HP) (r0 : Nat) (x1 : Int32) (x2 : Int32) (x3 : Int32) (x4 : Int32) (H : Heap) (locs : List Loc) (ls : Array Slot), x_Rep E h H → va_S (x_A E) s.heap H locs → lv_has ls 6 [(0, .ref (xa E r0)), (1, .int x1), (2, .int x2), (3, .int x3), (4, .int x4)] → f_X5_firstSparseSide_b80 k5 h r0 x1 x2 x3 x4 = some z → W p l e ({ frames := 10, cells := 0, slots := 0, locals := 176 } : Room) s m args below meth c H locs 0 0 (x_Q E below args s 0 0 z) (F0 m 80 ls []) := by
  intro h r0 x1 x2 x3 x4 H locs ls hR hS hl hf
  obtain ⟨hx, hb, -⟩ := id C0
  unfold f_X5_firstSparseSide_b80 at hf
  have h0 : x_by cX5_firstSparseSide 80 [132, 4, 1, 167, 255, 178] := by unfold x_by; decide +kernel
  obtain ⟨d80, h0⟩ := de_iinc (1) (by decide) h0
  obtain ⟨d83, h0⟩ := de_goto (-78) (by decide) h0
  refine lv_iinc (v := (x4 + 1)) (lv' := [(4, .int (x4 + 1)), (0, .ref (xa E r0)), (1, .int x1), (2, .int x2), (3, .int x3)]) hx hb d80 hl (k := 4) rfl rfl (by decide) rfl (fun ls hl => ?_)
  refine lv_goto (tgt := 5) hx hb d83 (by decide) ?_
  exact hk5 _ _ _ _ _ _ _ _ _ hR hS (lv_sub hl [1, 2, 3, 4, 0] rfl) hf
set_option maxRecDepth 100000 in
set_option maxHeartbeats 4000000 in
theorem s_X5_firstSparseSide_b42 {p : Program} {l : Launch} {e : Env} {s : State} {m : MethodId} {args : Array Value} {below : List Frame} {meth : Method} {c : Code} {E : XE} {z : XR} (C0 : x_C E p l s m meth c args cX5_firstSparseSide 6 "GridEngine$Placement" "firstSparseSide" (some .int)) (hxt : ∀ x ∈ c.exceptionTable.toList, False) {k5 : HP → Nat → Int32 → Int32 → Int32 → Int32 → Option XR} (hk5 : ∀ (h : HP) (r0 : Nat) (x1 : Int32) (x2 : Int32) (x3 : Int32) (x4 : Int32) (H : Heap) (locs : List Loc) (ls : Array Slot), x_Rep E h H → va_S (x_A E) s.heap H locs → lv_has ls 6 [(0, .ref (xa E r0)), (1, .int x1), (2, .int x2), (3, .int x3), (4, .int x4)] → k5 h r0 x1 x2 x3 x4 = some z → W p l e ({ frames := 10, cells := 0, slots := 0, locals := 176 } : Room) s m args below meth c H locs 0 0 (x_Q E below args s 0 0 z) (F0 m 5 ls [])) : ∀ (h : HP) (t0 : Int32) (r0 : Nat) (x1 : Int32) (x2 : Int32) (x3 : Int32) (x4 : Int32) (H : Heap) (locs : List Loc) (ls : Array Slot), x_Rep E h H → va_S (x_A E) s.heap H locs → lv_has ls 6 [(0, .ref (xa E r0)), (1, .int x1), (2, .int x2), (3, .int x3), (4, .int x4)] → f_X5_firstSparseSide_b42 k5 h t0 r0 x1 x2 x3 x4 = some z → W p l e ({ frames := 10, cells := 0, slots := 0, locals := 176 } : Room) s m args below meth c H locs 0 0 (x_Q E below args s 0 0 z) (F0 m 42 ls [.int t0]) := by
  intro h t0 r0 x1 x2 x3 x4 H locs ls hR hS hl hf
  obtain ⟨hx, hb, -⟩ := id C0
  unfold f_X5_firstSparseSide_b42 at hf
  have h0 : x_by cX5_firstSparseSide 42 [54, 5, 21, 5, 153, 0, 34] := by unfold x_by; decide +kernel
  obtain ⟨d42, h0⟩ := de_istore h0
  obtain ⟨d44, h0⟩ := de_iload h0
  obtain ⟨d46, h0⟩ := de_if_eq (34) (by decide) h0
  refine lv_istore (lv' := [(5, .int t0), (0, .ref (xa E r0)), (1, .int x1), (2, .int x2), (3, .int x3), (4, .int x4)]) hx hb d42 hl (by decide) rfl (fun ls hl => ?_)
  refine lv_iload hx hb d44 (lv_at hl 0 rfl) ?_
  refine lv_if_eq (tgt := 80) hx hb d46 (by decide) (fun q => ?_) (fun q => ?_)
  · have hf := x_pos q hf
    exact s_X5_firstSparseSide_b80 C0 hxt hk5 _ _ _ _ _ _ _ _ _ hR hS (lv_sub hl [1, 2, 3, 4, 5] rfl) hf
  · have hf := x_neg q hf
    have h0 : x_by cX5_firstSparseSide 49 [42, 21, 4, 42, 180, 0, 22, 182, 0, 69, 28, 160, 0, 20] := by unfold x_by; decide +kernel
    obtain ⟨d49, h0⟩ := de_aload_n0 h0
    obtain ⟨d50, h0⟩ := de_iload h0
    obtain ⟨d52, h0⟩ := de_aload_n0 h0
    obtain ⟨d53, h0⟩ := de_getfield 22 (by decide) h0
    obtain ⟨d56, h0⟩ := de_invokevirtual 69 (by decide) h0
    obtain ⟨d59, h0⟩ := de_iload_n2 h0
    obtain ⟨d60, h0⟩ := de_icmp_ne (20) (by decide) h0
    refine lv_aload_n hx hb d49 rfl (lv_at hl 1 rfl) ?_
    refine lv_iload hx hb d50 (lv_at hl 5 rfl) ?_
    refine lv_aload_n hx hb d52 rfl (lv_at hl 1 rfl) ?_
    refine x_getI C0 hR hf xcl_5 (Nat.le_of_ble_eq_true rfl) rfl fl_X5_22 d53 (fun i1 hf => ?_)
    obtain ⟨hs9, hf⟩ := x_if hf
    refine x_thenI C0 hxt hS hf (fun z0 e0 => x_runV C0 hR hS me_X5_firstTrack wi_X5_firstTrack wl_X5_firstTrack ml_X5_69 hs9 xcl_5 (As := [.int x4, .int i1]) (ct_X5_firstTrack E l C0.2.2.2.2.2.2.2.1 _ r0 x4 i1) rfl rfl hl.1 (Nat.le_of_ble_eq_true rfl) d56 ⟨(Nat.le_of_ble_eq_true rfl), (Nat.le_of_ble_eq_true rfl)⟩ ⟨(Nat.le_of_ble_eq_true rfl), (Nat.le_of_ble_eq_true rfl)⟩ e0) (Nat.le_of_ble_eq_true rfl) (Nat.le_of_ble_eq_true rfl) (fun h9 i2 H locs hR hS hf => ?_)
    refine lv_iload_n hx hb d59 rfl (lv_at hl 3 rfl) ?_
    refine lv_icmp_ne (tgt := 80) hx hb d60 (by decide) (fun q => ?_) (fun q => ?_)
    · have hf := x_neg q hf
      exact s_X5_firstSparseSide_b80 C0 hxt hk5 _ _ _ _ _ _ _ _ _ hR hS (lv_sub hl [1, 2, 3, 4, 5] rfl) hf
    · have hf := x_pos q hf
      have h0 : x_by cX5_firstSparseSide 63 [29, 42, 21, 4, 42, 180, 0, 26, 182, 0, 69, 4, 96, 184, 0, 110, 62] := by unfold x_by; decide +kernel
      obtain ⟨d63, h0⟩ := de_iload_n3 h0
      obtain ⟨d64, h0⟩ := de_aload_n0 h0
      obtain ⟨d65, h0⟩ := de_iload h0
      obtain ⟨d67, h0⟩ := de_aload_n0 h0
      obtain ⟨d68, h0⟩ := de_getfield 26 (by decide) h0
      obtain ⟨d71, h0⟩ := de_invokevirtual 69 (by decide) h0
      obtain ⟨d74, h0⟩ := de_iconst_1 h0
      obtain ⟨d75, h0⟩ := de_iadd h0
      obtain ⟨d76, h0⟩ := de_invokestatic 110 (by decide) h0
      obtain ⟨d79, h0⟩ := de_istore_n3 h0
      refine lv_iload_n hx hb d63 rfl (lv_at hl 4 rfl) ?_
      refine lv_aload_n hx hb d64 rfl (lv_at hl 1 rfl) ?_
      refine lv_iload hx hb d65 (lv_at hl 5 rfl) ?_
      refine lv_aload_n hx hb d67 rfl (lv_at hl 1 rfl) ?_
      refine x_getI C0 hR hf xcl_5 (Nat.le_of_ble_eq_true rfl) rfl fl_X5_26 d68 (fun i4 hf => ?_)
      obtain ⟨hs9, hf⟩ := x_if hf
      refine x_thenI C0 hxt hS hf (fun z0 e0 => x_runV C0 hR hS me_X5_firstTrack wi_X5_firstTrack wl_X5_firstTrack ml_X5_69 hs9 xcl_5 (As := [.int x4, .int i4]) (ct_X5_firstTrack E l C0.2.2.2.2.2.2.2.1 _ r0 x4 i4) rfl rfl hl.1 (Nat.le_of_ble_eq_true rfl) d71 ⟨(Nat.le_of_ble_eq_true rfl), (Nat.le_of_ble_eq_true rfl)⟩ ⟨(Nat.le_of_ble_eq_true rfl), (Nat.le_of_ble_eq_true rfl)⟩ e0) (Nat.le_of_ble_eq_true rfl) (Nat.le_of_ble_eq_true rfl) (fun h9 i5 H locs hR hS hf => ?_)
      refine lv_iconst (v := 1) hx hb d74 (by decide) ?_
      refine lv_iadd hx hb d75 ?_
      refine x_mmax C0 hl.1 ml_X5_110 lib_max (Nat.le_of_ble_eq_true rfl) (Nat.le_of_ble_eq_true rfl) (Nat.le_of_ble_eq_true rfl) (Nat.le_of_ble_eq_true rfl) d76 ?_
      refine lv_topi (fun i7 ei7 => ?_)
      have hf := x_lI_el ei7 hf
      refine lv_istore_n (lv' := [(3, .int i7), (5, .int t0), (0, .ref (xa E r0)), (1, .int x1), (2, .int x2), (4, .int x4)]) hx hb d79 rfl hl (by decide) rfl (fun ls hl => ?_)
      exact s_X5_firstSparseSide_b80 C0 hxt hk5 _ _ _ _ _ _ _ _ _ hR hS (lv_sub hl [2, 3, 4, 0, 5] rfl) hf
set_option maxRecDepth 100000 in
set_option maxHeartbeats 4000000 in
theorem s_X5_firstSparseSide_b41 {p : Program} {l : Launch} {e : Env} {s : State} {m : MethodId} {args : Array Value} {below : List Frame} {meth : Method} {c : Code} {E : XE} {z : XR} (C0 : x_C E p l s m meth c args cX5_firstSparseSide 6 "GridEngine$Placement" "firstSparseSide" (some .int)) (hxt : ∀ x ∈ c.exceptionTable.toList, False) {k5 : HP → Nat → Int32 → Int32 → Int32 → Int32 → Option XR} (hk5 : ∀ (h : HP) (r0 : Nat) (x1 : Int32) (x2 : Int32) (x3 : Int32) (x4 : Int32) (H : Heap) (locs : List Loc) (ls : Array Slot), x_Rep E h H → va_S (x_A E) s.heap H locs → lv_has ls 6 [(0, .ref (xa E r0)), (1, .int x1), (2, .int x2), (3, .int x3), (4, .int x4)] → k5 h r0 x1 x2 x3 x4 = some z → W p l e ({ frames := 10, cells := 0, slots := 0, locals := 176 } : Room) s m args below meth c H locs 0 0 (x_Q E below args s 0 0 z) (F0 m 5 ls [])) : ∀ (h : HP) (r0 : Nat) (x1 : Int32) (x2 : Int32) (x3 : Int32) (x4 : Int32) (H : Heap) (locs : List Loc) (ls : Array Slot), x_Rep E h H → va_S (x_A E) s.heap H locs → lv_has ls 6 [(0, .ref (xa E r0)), (1, .int x1), (2, .int x2), (3, .int x3), (4, .int x4)] → f_X5_firstSparseSide_b41 k5 h r0 x1 x2 x3 x4 = some z → W p l e ({ frames := 10, cells := 0, slots := 0, locals := 176 } : Room) s m args below meth c H locs 0 0 (x_Q E below args s 0 0 z) (F0 m 41 ls []) := by
  intro h r0 x1 x2 x3 x4 H locs ls hR hS hl hf
  obtain ⟨hx, hb, -⟩ := id C0
  unfold f_X5_firstSparseSide_b41 at hf
  have h0 : x_by cX5_firstSparseSide 41 [3] := by unfold x_by; decide +kernel
  obtain ⟨d41, h0⟩ := de_iconst_0 h0
  refine lv_iconst (v := 0) hx hb d41 (by decide) ?_
  exact s_X5_firstSparseSide_b42 C0 hxt hk5 _ _ _ _ _ _ _ _ _ _ hR hS (lv_sub hl [0, 1, 2, 3, 4] rfl) hf
set_option maxRecDepth 100000 in
set_option maxHeartbeats 4000000 in
theorem s_X5_firstSparseSide_b5 {p : Program} {l : Launch} {e : Env} {s : State} {m : MethodId} {args : Array Value} {below : List Frame} {meth : Method} {c : Code} {E : XE} {z : XR} (C0 : x_C E p l s m meth c args cX5_firstSparseSide 6 "GridEngine$Placement" "firstSparseSide" (some .int)) (hxt : ∀ x ∈ c.exceptionTable.toList, False) {k5 : HP → Nat → Int32 → Int32 → Int32 → Int32 → Option XR} (hk5 : ∀ (h : HP) (r0 : Nat) (x1 : Int32) (x2 : Int32) (x3 : Int32) (x4 : Int32) (H : Heap) (locs : List Loc) (ls : Array Slot), x_Rep E h H → va_S (x_A E) s.heap H locs → lv_has ls 6 [(0, .ref (xa E r0)), (1, .int x1), (2, .int x2), (3, .int x3), (4, .int x4)] → k5 h r0 x1 x2 x3 x4 = some z → W p l e ({ frames := 10, cells := 0, slots := 0, locals := 176 } : Room) s m args below meth c H locs 0 0 (x_Q E below args s 0 0 z) (F0 m 5 ls [])) : ∀ (h : HP) (r0 : Nat) (x1 : Int32) (x2 : Int32) (x3 : Int32) (x4 : Int32) (H : Heap) (locs : List Loc) (ls : Array Slot), x_Rep E h H → va_S (x_A E) s.heap H locs → lv_has ls 6 [(0, .ref (xa E r0)), (1, .int x1), (2, .int x2), (3, .int x3), (4, .int x4)] → f_X5_firstSparseSide_b5 k5 h r0 x1 x2 x3 x4 = some z → W p l e ({ frames := 10, cells := 0, slots := 0, locals := 176 } : Room) s m args below meth c H locs 0 0 (x_Q E below args s 0 0 z) (F0 m 5 ls []) := by
  intro h r0 x1 x2 x3 x4 H locs ls hR hS hl hf
  obtain ⟨hx, hb, -⟩ := id C0
  unfold f_X5_firstSparseSide_b5 at hf
  have h0 : x_by cX5_firstSparseSide 5 [21, 4, 27, 162, 0, 78] := by unfold x_by; decide +kernel
  obtain ⟨d5, h0⟩ := de_iload h0
  obtain ⟨d7, h0⟩ := de_iload_n1 h0
  obtain ⟨d8, h0⟩ := de_icmp_ge (78) (by decide) h0
  refine lv_iload hx hb d5 (lv_at hl 4 rfl) ?_
  refine lv_iload_n hx hb d7 rfl (lv_at hl 1 rfl) ?_
  refine lv_icmp_ge (tgt := 86) hx hb d8 (by decide) (fun q => ?_) (fun q => ?_)
  · have hf := x_pos q hf
    have h0 : x_by cX5_firstSparseSide 86 [29, 172] := by unfold x_by; decide +kernel
    obtain ⟨d86, h0⟩ := de_iload_n3 h0
    obtain ⟨d87, h0⟩ := de_ireturn h0
    refine lv_iload_n hx hb d86 rfl (lv_at hl 3 rfl) ?_
    exact x_iret C0 hR hS hf (Nat.le_of_ble_eq_true rfl) (Nat.le_of_ble_eq_true rfl) d87
  · have hf := x_neg q hf
    have h0 : x_by cX5_firstSparseSide 11 [42, 21, 4, 42, 180, 0, 22, 182, 0, 92, 153, 0, 20] := by unfold x_by; decide +kernel
    obtain ⟨d11, h0⟩ := de_aload_n0 h0
    obtain ⟨d12, h0⟩ := de_iload h0
    obtain ⟨d14, h0⟩ := de_aload_n0 h0
    obtain ⟨d15, h0⟩ := de_getfield 22 (by decide) h0
    obtain ⟨d18, h0⟩ := de_invokevirtual 92 (by decide) h0
    obtain ⟨d21, h0⟩ := de_if_eq (20) (by decide) h0
    refine lv_aload_n hx hb d11 rfl (lv_at hl 0 rfl) ?_
    refine lv_iload hx hb d12 (lv_at hl 4 rfl) ?_
    refine lv_aload_n hx hb d14 rfl (lv_at hl 0 rfl) ?_
    refine x_getI C0 hR hf xcl_5 (Nat.le_of_ble_eq_true rfl) rfl fl_X5_22 d15 (fun i1 hf => ?_)
    obtain ⟨hs9, hf⟩ := x_if hf
    refine x_thenI C0 hxt hS hf (fun z0 e0 => x_runV C0 hR hS me_X5_hasStart wi_X5_hasStart wl_X5_hasStart ml_X5_92 hs9 xcl_5 (As := [.int x4, .int i1]) (ct_X5_hasStart E l C0.2.2.2.2.2.2.2.1 _ r0 x4 i1) rfl rfl hl.1 (Nat.le_of_ble_eq_true rfl) d18 ⟨(Nat.le_of_ble_eq_true rfl), (Nat.le_of_ble_eq_true rfl)⟩ ⟨(Nat.le_of_ble_eq_true rfl), (Nat.le_of_ble_eq_true rfl)⟩ e0) (Nat.le_of_ble_eq_true rfl) (Nat.le_of_ble_eq_true rfl) (fun h9 i2 H locs hR hS hf => ?_)
    refine lv_if_eq (tgt := 41) hx hb d21 (by decide) (fun q => ?_) (fun q => ?_)
    · have hf := x_pos q hf
      exact s_X5_firstSparseSide_b41 C0 hxt hk5 _ _ _ _ _ _ _ _ _ hR hS (lv_sub hl [0, 1, 2, 3, 4] rfl) hf
    · have hf := x_neg q hf
      have h0 : x_by cX5_firstSparseSide 24 [42, 21, 4, 42, 180, 0, 26, 182, 0, 92, 154, 0, 7] := by unfold x_by; decide +kernel
      obtain ⟨d24, h0⟩ := de_aload_n0 h0
      obtain ⟨d25, h0⟩ := de_iload h0
      obtain ⟨d27, h0⟩ := de_aload_n0 h0
      obtain ⟨d28, h0⟩ := de_getfield 26 (by decide) h0
      obtain ⟨d31, h0⟩ := de_invokevirtual 92 (by decide) h0
      obtain ⟨d34, h0⟩ := de_if_ne (7) (by decide) h0
      refine lv_aload_n hx hb d24 rfl (lv_at hl 0 rfl) ?_
      refine lv_iload hx hb d25 (lv_at hl 4 rfl) ?_
      refine lv_aload_n hx hb d27 rfl (lv_at hl 0 rfl) ?_
      refine x_getI C0 hR hf xcl_5 (Nat.le_of_ble_eq_true rfl) rfl fl_X5_26 d28 (fun i4 hf => ?_)
      obtain ⟨hs9, hf⟩ := x_if hf
      refine x_thenI C0 hxt hS hf (fun z0 e0 => x_runV C0 hR hS me_X5_hasStart wi_X5_hasStart wl_X5_hasStart ml_X5_92 hs9 xcl_5 (As := [.int x4, .int i4]) (ct_X5_hasStart E l C0.2.2.2.2.2.2.2.1 _ r0 x4 i4) rfl rfl hl.1 (Nat.le_of_ble_eq_true rfl) d31 ⟨(Nat.le_of_ble_eq_true rfl), (Nat.le_of_ble_eq_true rfl)⟩ ⟨(Nat.le_of_ble_eq_true rfl), (Nat.le_of_ble_eq_true rfl)⟩ e0) (Nat.le_of_ble_eq_true rfl) (Nat.le_of_ble_eq_true rfl) (fun h9 i5 H locs hR hS hf => ?_)
      refine lv_if_ne (tgt := 41) hx hb d34 (by decide) (fun q => ?_) (fun q => ?_)
      · have hf := x_neg q hf
        exact s_X5_firstSparseSide_b41 C0 hxt hk5 _ _ _ _ _ _ _ _ _ hR hS (lv_sub hl [0, 1, 2, 3, 4] rfl) hf
      · have hf := x_pos q hf
        have h0 : x_by cX5_firstSparseSide 37 [4, 167, 0, 4] := by unfold x_by; decide +kernel
        obtain ⟨d37, h0⟩ := de_iconst_1 h0
        obtain ⟨d38, h0⟩ := de_goto (4) (by decide) h0
        refine lv_iconst (v := 1) hx hb d37 (by decide) ?_
        refine lv_goto (tgt := 42) hx hb d38 (by decide) ?_
        exact s_X5_firstSparseSide_b42 C0 hxt hk5 _ _ _ _ _ _ _ _ _ _ hR hS (lv_sub hl [0, 1, 2, 3, 4] rfl) hf
theorem s_X5_firstSparseSide_L5 {p : Program} {l : Launch} {e : Env} {s : State} {m : MethodId} {args : Array Value} {below : List Frame} {meth : Method} {c : Code} {E : XE} {z : XR} (C0 : x_C E p l s m meth c args cX5_firstSparseSide 6 "GridEngine$Placement" "firstSparseSide" (some .int)) (hxt : ∀ x ∈ c.exceptionTable.toList, False)  : ∀ n : Nat, ∀ (h : HP) (r0 : Nat) (x1 : Int32) (x2 : Int32) (x3 : Int32) (x4 : Int32) (H : Heap) (locs : List Loc) (ls : Array Slot), x_Rep E h H → va_S (x_A E) s.heap H locs → lv_has ls 6 [(0, .ref (xa E r0)), (1, .int x1), (2, .int x2), (3, .int x3), (4, .int x4)] → f_X5_firstSparseSide_L5 n h r0 x1 x2 x3 x4 = some z → W p l e ({ frames := 10, cells := 0, slots := 0, locals := 176 } : Room) s m args below meth c H locs 0 0 (x_Q E below args s 0 0 z) (F0 m 5 ls []) := by
  intro n
  induction n with
  | zero => intro h r0 x1 x2 x3 x4 H locs ls hR hS hl hf; cases (show (none : Option XR) = some z from hf)
  | succ n ih => intro h r0 x1 x2 x3 x4 H locs ls hR hS hl hf; exact s_X5_firstSparseSide_b5 C0 hxt ih h r0 x1 x2 x3 x4 H locs ls hR hS hl (show f_X5_firstSparseSide_b5 (f_X5_firstSparseSide_L5 n) h r0 x1 x2 x3 x4 = some z from hf)
set_option maxRecDepth 100000 in
set_option maxHeartbeats 4000000 in
theorem ct_X5_firstSparseSide (E : XE) (l : Launch) (hl0 : l.stackTraces = false) (h : HP) (r0 : Nat) (x1 : Int32) (x2 : Int32) : x_ct E l yX5_firstSparseSide (Cond.code yX5_firstSparseSide cX5_firstSparseSide 6 (some .int)) 10 176 0 0 [.ref (xa E r0), .int x1, .int x2] h (f_X5_firstSparseSide h r0 x1 x2) := by
  refine x_ofW hl0 (by decide +kernel) ?_
  intro z hf p e s m args below meth c C0 hxt hargs hR
  subst hargs
  have C0 : x_C E p l s m meth c ([.ref (xa E r0), .int x1, .int x2] : List Value).toArray cX5_firstSparseSide 6 "GridEngine$Placement" "firstSparseSide" (some .int) := C0
  obtain ⟨hx, hb, -⟩ := id C0
  have hS : va_S (x_A E) s.heap s.heap [] := va_S.rf
  have hl := lv_entry ([.ref (xa E r0), .int x1, .int x2]) (n := 6) (Nat.le_of_ble_eq_true rfl)
  rw [lg_entry_eq]
  generalize (lg_sl ([.ref (xa E r0), .int x1, .int x2]) ++ List.replicate (6 - (lg_sl ([.ref (xa E r0), .int x1, .int x2])).length) Slot.unset).toArray = ls at hl ⊢
  have hl : lv_has ls 6 [(0, .ref (xa E r0)), (1, .int x1), (2, .int x2)] := hl
  unfold f_X5_firstSparseSide at hf
  have h0 : x_by cX5_firstSparseSide 0 [4, 62, 3, 54, 4] := by unfold x_by; decide +kernel
  obtain ⟨d0, h0⟩ := de_iconst_1 h0
  obtain ⟨d1, h0⟩ := de_istore_n3 h0
  obtain ⟨d2, h0⟩ := de_iconst_0 h0
  obtain ⟨d3, h0⟩ := de_istore h0
  refine lv_iconst (v := 1) hx hb d0 (by decide) ?_
  refine lv_istore_n (lv' := [(3, .int 1), (0, .ref (xa E r0)), (1, .int x1), (2, .int x2)]) hx hb d1 rfl hl (by decide) rfl (fun ls hl => ?_)
  refine lv_iconst (v := 0) hx hb d2 (by decide) ?_
  refine lv_istore (lv' := [(4, .int 0), (3, .int 1), (0, .ref (xa E r0)), (1, .int x1), (2, .int x2)]) hx hb d3 hl (by decide) rfl (fun ls hl => ?_)
  exact s_X5_firstSparseSide_L5 C0 hxt FU _ _ _ _ _ _ _ _ _ hR hS (lv_sub hl [2, 3, 4, 1, 0] rfl) hf
def f_X5_placeWithMainStart_b101 (k2 : HP → Nat → Int32 → Option XR) (h : HP) (r0 : Nat) (x1 : Int32) : Option XR :=
  k2 h r0 (x1 + 1)
def f_X5_placeWithMainStart_b94 (k2 : HP → Nat → Int32 → Option XR) (h : HP) (r0 : Nat) (x1 : Int32) (x2 : Int32) (x3 : Int32) : Option XR :=
  x_rc h r0 5 <| x_cV (f_X5_putAt h r0 x1 x2 x3) fun h1 =>
  f_X5_placeWithMainStart_b101 k2 h1 r0 x1
def f_X5_placeWithMainStart_b72 (k2 : HP → Nat → Int32 → Option XR) (k72 : HP → Nat → Int32 → Int32 → Int32 → Option XR) (h : HP) (r0 : Nat) (x1 : Int32) (x2 : Int32) (x3 : Int32) : Option XR :=
  if 64 ≤ x3 then
    (
      f_X5_placeWithMainStart_b94 k2 h r0 x1 x2 x3
    )
  else
    (
      x_rc h r0 5 <| x_cI (f_X5_isFreeAt h r0 x1 x2 x3) fun h2 i1 =>
      if i1 = 0 then
        (
          k72 h2 r0 x1 x2 (x3 + 1)
        )
      else
        (
          f_X5_placeWithMainStart_b94 k2 h2 r0 x1 x2 x3
        )
    )
def f_X5_placeWithMainStart_L72 (k2 : HP → Nat → Int32 → Option XR) : Nat → HP → Nat → Int32 → Int32 → Int32 → Option XR
  | 0 => fun _ _ _ _ _ => none
  | n + 1 => f_X5_placeWithMainStart_b72 k2 (f_X5_placeWithMainStart_L72 k2 n)
def f_X5_placeWithMainStart_b71 (k2 : HP → Nat → Int32 → Option XR) (h : HP) (t0 : Int32) (r0 : Nat) (x1 : Int32) (x2 : Int32) : Option XR :=
  f_X5_placeWithMainStart_L72 k2 FU h r0 x1 x2 t0
def f_X5_placeWithMainStart_b2 (k2 : HP → Nat → Int32 → Option XR) (h : HP) (r0 : Nat) (x1 : Int32) : Option XR :=
  x_gR h r0 5 0 fun a1 =>
  x_gI h a1 4 4 fun i2 =>
  if i2 ≤ x1 then
    (
      some (h, xv)
    )
  else
    (
      x_gI h r0 5 4 fun i3 =>
      x_rc h r0 5 <| x_cI (f_X5_hasStart h r0 x1 i3) fun h5 i4 =>
      if i4 = 0 then
        (
          f_X5_placeWithMainStart_b101 k2 h5 r0 x1
        )
      else
        (
          x_gI h5 r0 5 5 fun i6 =>
          x_rc h5 r0 5 <| x_cI (f_X5_hasStart h5 r0 x1 i6) fun h8 i7 =>
          if i7 = 0 then
            (
              x_gR h8 r0 5 0 fun a9 =>
              x_gI h8 r0 5 4 fun i10 =>
              x_rc h8 a9 4 <| x_cI (f_X4_itemField h8 a9 x1 i10 2) fun h12 i11 =>
              x_gR h12 r0 5 0 fun a13 =>
              x_gI h12 a13 4 6 fun i14 =>
              if i14 = 0 then
                (
                  x_rc h12 r0 5 <| x_cI (f_X5_firstSparseSide h12 r0 x1 i11) fun h16 i15 =>
                  f_X5_placeWithMainStart_b71 k2 h16 i15 r0 x1 i11
                )
              else
                (
                  f_X5_placeWithMainStart_b71 k2 h12 1 r0 x1 i11
                )
            )
          else
            (
              f_X5_placeWithMainStart_b101 k2 h8 r0 x1
            )
        )
    )
def f_X5_placeWithMainStart_L2  : Nat → HP → Nat → Int32 → Option XR
  | 0 => fun _ _ _ => none
  | n + 1 => f_X5_placeWithMainStart_b2 (f_X5_placeWithMainStart_L2 n)
def f_X5_placeWithMainStart (h : HP) (r0 : Nat) : Option XR :=
  f_X5_placeWithMainStart_L2 FU h r0 0
set_option maxRecDepth 100000 in
set_option maxHeartbeats 4000000 in
theorem s_X5_placeWithMainStart_b101 {p : Program} {l : Launch} {e : Env} {s : State} {m : MethodId} {args : Array Value} {below : List Frame} {meth : Method} {c : Code} {E : XE} {z : XR} (C0 : x_C E p l s m meth c args cX5_placeWithMainStart 4 "GridEngine$Placement" "placeWithMainStart" none) (hxt : ∀ x ∈ c.exceptionTable.toList, False) {k2 : HP → Nat → Int32 → Option XR} (hk2 : ∀ (h : HP) (r0 : Nat) (x1 : Int32) (H : Heap) (locs : List Loc) (ls : Array Slot), x_Rep E h H → va_S (x_A E) s.heap H locs → lv_has ls 4 [(0, .ref (xa E r0)), (1, .int x1)] → k2 h r0 x1 = some z → W p l e ({ frames := 11, cells := 0, slots := 0, locals := 202 } : Room) s m args below meth c H locs 0 0 (x_Q E below args s 0 0 z) (F0 m 2 ls [])) : ∀ (h : HP) (r0 : Nat) (x1 : Int32) (H : Heap) (locs : List Loc) (ls : Array Slot), x_Rep E h H → va_S (x_A E) s.heap H locs → lv_has ls 4 [(0, .ref (xa E r0)), (1, .int x1)] → f_X5_placeWithMainStart_b101 k2 h r0 x1 = some z → W p l e ({ frames := 11, cells := 0, slots := 0, locals := 202 } : Room) s m args below meth c H locs 0 0 (x_Q E below args s 0 0 z) (F0 m 101 ls []) := by
  intro h r0 x1 H locs ls hR hS hl hf
  obtain ⟨hx, hb, -⟩ := id C0
  unfold f_X5_placeWithMainStart_b101 at hf
  have h0 : x_by cX5_placeWithMainStart 101 [132, 1, 1, 167, 255, 154] := by unfold x_by; decide +kernel
  obtain ⟨d101, h0⟩ := de_iinc (1) (by decide) h0
  obtain ⟨d104, h0⟩ := de_goto (-102) (by decide) h0
  refine lv_iinc (v := (x1 + 1)) (lv' := [(1, .int (x1 + 1)), (0, .ref (xa E r0))]) hx hb d101 hl (k := 1) rfl rfl (by decide) rfl (fun ls hl => ?_)
  refine lv_goto (tgt := 2) hx hb d104 (by decide) ?_
  exact hk2 _ _ _ _ _ _ hR hS (lv_sub hl [1, 0] rfl) hf
set_option maxRecDepth 100000 in
set_option maxHeartbeats 4000000 in
theorem s_X5_placeWithMainStart_b94 {p : Program} {l : Launch} {e : Env} {s : State} {m : MethodId} {args : Array Value} {below : List Frame} {meth : Method} {c : Code} {E : XE} {z : XR} (C0 : x_C E p l s m meth c args cX5_placeWithMainStart 4 "GridEngine$Placement" "placeWithMainStart" none) (hxt : ∀ x ∈ c.exceptionTable.toList, False) {k2 : HP → Nat → Int32 → Option XR} (hk2 : ∀ (h : HP) (r0 : Nat) (x1 : Int32) (H : Heap) (locs : List Loc) (ls : Array Slot), x_Rep E h H → va_S (x_A E) s.heap H locs → lv_has ls 4 [(0, .ref (xa E r0)), (1, .int x1)] → k2 h r0 x1 = some z → W p l e ({ frames := 11, cells := 0, slots := 0, locals := 202 } : Room) s m args below meth c H locs 0 0 (x_Q E below args s 0 0 z) (F0 m 2 ls [])) : ∀ (h : HP) (r0 : Nat) (x1 : Int32) (x2 : Int32) (x3 : Int32) (H : Heap) (locs : List Loc) (ls : Array Slot), x_Rep E h H → va_S (x_A E) s.heap H locs → lv_has ls 4 [(0, .ref (xa E r0)), (1, .int x1), (2, .int x2), (3, .int x3)] → f_X5_placeWithMainStart_b94 k2 h r0 x1 x2 x3 = some z → W p l e ({ frames := 11, cells := 0, slots := 0, locals := 202 } : Room) s m args below meth c H locs 0 0 (x_Q E below args s 0 0 z) (F0 m 94 ls []) := by
  intro h r0 x1 x2 x3 H locs ls hR hS hl hf
  obtain ⟨hx, hb, -⟩ := id C0
  unfold f_X5_placeWithMainStart_b94 at hf
  have h0 : x_by cX5_placeWithMainStart 94 [42, 27, 28, 29, 182, 0, 96] := by unfold x_by; decide +kernel
  obtain ⟨d94, h0⟩ := de_aload_n0 h0
  obtain ⟨d95, h0⟩ := de_iload_n1 h0
  obtain ⟨d96, h0⟩ := de_iload_n2 h0
  obtain ⟨d97, h0⟩ := de_iload_n3 h0
  obtain ⟨d98, h0⟩ := de_invokevirtual 96 (by decide) h0
  refine lv_aload_n hx hb d94 rfl (lv_at hl 0 rfl) ?_
  refine lv_iload_n hx hb d95 rfl (lv_at hl 1 rfl) ?_
  refine lv_iload_n hx hb d96 rfl (lv_at hl 2 rfl) ?_
  refine lv_iload_n hx hb d97 rfl (lv_at hl 3 rfl) ?_
  obtain ⟨hs9, hf⟩ := x_if hf
  refine x_thenV C0 hxt hS hf (fun z0 e0 => x_runV C0 hR hS me_X5_putAt wi_X5_putAt wl_X5_putAt ml_X5_96 hs9 xcl_5 (As := [.int x1, .int x2, .int x3]) (ct_X5_putAt E l C0.2.2.2.2.2.2.2.1 _ r0 x1 x2 x3) rfl rfl hl.1 (Nat.le_of_ble_eq_true rfl) d98 ⟨(Nat.le_of_ble_eq_true rfl), (Nat.le_of_ble_eq_true rfl)⟩ ⟨(Nat.le_of_ble_eq_true rfl), (Nat.le_of_ble_eq_true rfl)⟩ e0) (Nat.le_of_ble_eq_true rfl) (Nat.le_of_ble_eq_true rfl) (fun h9 H locs hR hS hf => ?_)
  exact s_X5_placeWithMainStart_b101 C0 hxt hk2 _ _ _ _ _ _ hR hS (lv_sub hl [0, 1] rfl) hf
set_option maxRecDepth 100000 in
set_option maxHeartbeats 4000000 in
theorem s_X5_placeWithMainStart_b72 {p : Program} {l : Launch} {e : Env} {s : State} {m : MethodId} {args : Array Value} {below : List Frame} {meth : Method} {c : Code} {E : XE} {z : XR} (C0 : x_C E p l s m meth c args cX5_placeWithMainStart 4 "GridEngine$Placement" "placeWithMainStart" none) (hxt : ∀ x ∈ c.exceptionTable.toList, False) {k2 : HP → Nat → Int32 → Option XR} (hk2 : ∀ (h : HP) (r0 : Nat) (x1 : Int32) (H : Heap) (locs : List Loc) (ls : Array Slot), x_Rep E h H → va_S (x_A E) s.heap H locs → lv_has ls 4 [(0, .ref (xa E r0)), (1, .int x1)] → k2 h r0 x1 = some z → W p l e ({ frames := 11, cells := 0, slots := 0, locals := 202 } : Room) s m args below meth c H locs 0 0 (x_Q E below args s 0 0 z) (F0 m 2 ls [])) {k72 : HP → Nat → Int32 → Int32 → Int32 → Option XR} (hk72 : ∀ (h : HP) (r0 : Nat) (x1 : Int32) (x2 : Int32) (x3 : Int32) (H : Heap) (locs : List Loc) (ls : Array Slot), x_Rep E h H → va_S (x_A E) s.heap H locs → lv_has ls 4 [(0, .ref (xa E r0)), (1, .int x1), (2, .int x2), (3, .int x3)] → k72 h r0 x1 x2 x3 = some z → W p l e ({ frames := 11, cells := 0, slots := 0, locals := 202 } : Room) s m args below meth c H locs 0 0 (x_Q E below args s 0 0 z) (F0 m 72 ls [])) : ∀ (h : HP) (r0 : Nat) (x1 : Int32) (x2 : Int32) (x3 : Int32) (H : Heap) (locs : List Loc) (ls : Array Slot), x_Rep E h H → va_S (x_A E) s.heap H locs → lv_has ls 4 [(0, .ref (xa E r0)), (1, .int x1), (2, .int x2), (3, .int x3)] → f_X5_placeWithMainStart_b72 k2 k72 h r0 x1 x2 x3 = some z → W p l e ({ frames := 11, cells := 0, slots := 0, locals := 202 } : Room) s m args below meth c H locs 0 0 (x_Q E below args s 0 0 z) (F0 m 72 ls []) := by
  intro h r0 x1 x2 x3 H locs ls hR hS hl hf
  obtain ⟨hx, hb, -⟩ := id C0
  unfold f_X5_placeWithMainStart_b72 at hf
  have h0 : x_by cX5_placeWithMainStart 72 [29, 16, 64, 162, 0, 19] := by unfold x_by; decide +kernel
  obtain ⟨d72, h0⟩ := de_iload_n3 h0
  obtain ⟨d73, h0⟩ := de_bipush (64) (by decide) h0
  obtain ⟨d75, h0⟩ := de_icmp_ge (19) (by decide) h0
  refine lv_iload_n hx hb d72 rfl (lv_at hl 3 rfl) ?_
  refine lv_bipush (v := 64) hx hb d73 (by decide) ?_
  refine lv_icmp_ge (tgt := 94) hx hb d75 (by decide) (fun q => ?_) (fun q => ?_)
  · have hf := x_pos q hf
    exact s_X5_placeWithMainStart_b94 C0 hxt hk2 _ _ _ _ _ _ _ _ hR hS (lv_sub hl [0, 1, 2, 3] rfl) hf
  · have hf := x_neg q hf
    have h0 : x_by cX5_placeWithMainStart 78 [42, 27, 28, 29, 182, 0, 107, 154, 0, 9] := by unfold x_by; decide +kernel
    obtain ⟨d78, h0⟩ := de_aload_n0 h0
    obtain ⟨d79, h0⟩ := de_iload_n1 h0
    obtain ⟨d80, h0⟩ := de_iload_n2 h0
    obtain ⟨d81, h0⟩ := de_iload_n3 h0
    obtain ⟨d82, h0⟩ := de_invokevirtual 107 (by decide) h0
    obtain ⟨d85, h0⟩ := de_if_ne (9) (by decide) h0
    refine lv_aload_n hx hb d78 rfl (lv_at hl 0 rfl) ?_
    refine lv_iload_n hx hb d79 rfl (lv_at hl 1 rfl) ?_
    refine lv_iload_n hx hb d80 rfl (lv_at hl 2 rfl) ?_
    refine lv_iload_n hx hb d81 rfl (lv_at hl 3 rfl) ?_
    obtain ⟨hs9, hf⟩ := x_if hf
    refine x_thenI C0 hxt hS hf (fun z0 e0 => x_runV C0 hR hS me_X5_isFreeAt wi_X5_isFreeAt wl_X5_isFreeAt ml_X5_107 hs9 xcl_5 (As := [.int x1, .int x2, .int x3]) (ct_X5_isFreeAt E l C0.2.2.2.2.2.2.2.1 _ r0 x1 x2 x3) rfl rfl hl.1 (Nat.le_of_ble_eq_true rfl) d82 ⟨(Nat.le_of_ble_eq_true rfl), (Nat.le_of_ble_eq_true rfl)⟩ ⟨(Nat.le_of_ble_eq_true rfl), (Nat.le_of_ble_eq_true rfl)⟩ e0) (Nat.le_of_ble_eq_true rfl) (Nat.le_of_ble_eq_true rfl) (fun h9 i1 H locs hR hS hf => ?_)
    refine lv_if_ne (tgt := 94) hx hb d85 (by decide) (fun q => ?_) (fun q => ?_)
    · have hf := x_neg q hf
      exact s_X5_placeWithMainStart_b94 C0 hxt hk2 _ _ _ _ _ _ _ _ hR hS (lv_sub hl [0, 1, 2, 3] rfl) hf
    · have hf := x_pos q hf
      have h0 : x_by cX5_placeWithMainStart 88 [132, 3, 1, 167, 255, 237] := by unfold x_by; decide +kernel
      obtain ⟨d88, h0⟩ := de_iinc (1) (by decide) h0
      obtain ⟨d91, h0⟩ := de_goto (-19) (by decide) h0
      refine lv_iinc (v := (x3 + 1)) (lv' := [(3, .int (x3 + 1)), (0, .ref (xa E r0)), (1, .int x1), (2, .int x2)]) hx hb d88 hl (k := 3) rfl rfl (by decide) rfl (fun ls hl => ?_)
      refine lv_goto (tgt := 72) hx hb d91 (by decide) ?_
      exact hk72 _ _ _ _ _ _ _ _ hR hS (lv_sub hl [1, 2, 3, 0] rfl) hf
theorem s_X5_placeWithMainStart_L72 {p : Program} {l : Launch} {e : Env} {s : State} {m : MethodId} {args : Array Value} {below : List Frame} {meth : Method} {c : Code} {E : XE} {z : XR} (C0 : x_C E p l s m meth c args cX5_placeWithMainStart 4 "GridEngine$Placement" "placeWithMainStart" none) (hxt : ∀ x ∈ c.exceptionTable.toList, False) {k2 : HP → Nat → Int32 → Option XR} (hk2 : ∀ (h : HP) (r0 : Nat) (x1 : Int32) (H : Heap) (locs : List Loc) (ls : Array Slot), x_Rep E h H → va_S (x_A E) s.heap H locs → lv_has ls 4 [(0, .ref (xa E r0)), (1, .int x1)] → k2 h r0 x1 = some z → W p l e ({ frames := 11, cells := 0, slots := 0, locals := 202 } : Room) s m args below meth c H locs 0 0 (x_Q E below args s 0 0 z) (F0 m 2 ls [])) : ∀ n : Nat, ∀ (h : HP) (r0 : Nat) (x1 : Int32) (x2 : Int32) (x3 : Int32) (H : Heap) (locs : List Loc) (ls : Array Slot), x_Rep E h H → va_S (x_A E) s.heap H locs → lv_has ls 4 [(0, .ref (xa E r0)), (1, .int x1), (2, .int x2), (3, .int x3)] → f_X5_placeWithMainStart_L72 k2 n h r0 x1 x2 x3 = some z → W p l e ({ frames := 11, cells := 0, slots := 0, locals := 202 } : Room) s m args below meth c H locs 0 0 (x_Q E below args s 0 0 z) (F0 m 72 ls []) := by
  intro n
  induction n with
  | zero => intro h r0 x1 x2 x3 H locs ls hR hS hl hf; cases (show (none : Option XR) = some z from hf)
  | succ n ih => intro h r0 x1 x2 x3 H locs ls hR hS hl hf; exact s_X5_placeWithMainStart_b72 C0 hxt hk2 ih h r0 x1 x2 x3 H locs ls hR hS hl (show f_X5_placeWithMainStart_b72 k2 (f_X5_placeWithMainStart_L72 k2 n) h r0 x1 x2 x3 = some z from hf)
set_option maxRecDepth 100000 in
set_option maxHeartbeats 4000000 in
theorem s_X5_placeWithMainStart_b71 {p : Program} {l : Launch} {e : Env} {s : State} {m : MethodId} {args : Array Value} {below : List Frame} {meth : Method} {c : Code} {E : XE} {z : XR} (C0 : x_C E p l s m meth c args cX5_placeWithMainStart 4 "GridEngine$Placement" "placeWithMainStart" none) (hxt : ∀ x ∈ c.exceptionTable.toList, False) {k2 : HP → Nat → Int32 → Option XR} (hk2 : ∀ (h : HP) (r0 : Nat) (x1 : Int32) (H : Heap) (locs : List Loc) (ls : Array Slot), x_Rep E h H → va_S (x_A E) s.heap H locs → lv_has ls 4 [(0, .ref (xa E r0)), (1, .int x1)] → k2 h r0 x1 = some z → W p l e ({ frames := 11, cells := 0, slots := 0, locals := 202 } : Room) s m args below meth c H locs 0 0 (x_Q E below args s 0 0 z) (F0 m 2 ls [])) : ∀ (h : HP) (t0 : Int32) (r0 : Nat) (x1 : Int32) (x2 : Int32) (H : Heap) (locs : List Loc) (ls : Array Slot), x_Rep E h H → va_S (x_A E) s.heap H locs → lv_has ls 4 [(0, .ref (xa E r0)), (1, .int x1), (2, .int x2)] → f_X5_placeWithMainStart_b71 k2 h t0 r0 x1 x2 = some z → W p l e ({ frames := 11, cells := 0, slots := 0, locals := 202 } : Room) s m args below meth c H locs 0 0 (x_Q E below args s 0 0 z) (F0 m 71 ls [.int t0]) := by
  intro h t0 r0 x1 x2 H locs ls hR hS hl hf
  obtain ⟨hx, hb, -⟩ := id C0
  unfold f_X5_placeWithMainStart_b71 at hf
  have h0 : x_by cX5_placeWithMainStart 71 [62] := by unfold x_by; decide +kernel
  obtain ⟨d71, h0⟩ := de_istore_n3 h0
  refine lv_istore_n (lv' := [(3, .int t0), (0, .ref (xa E r0)), (1, .int x1), (2, .int x2)]) hx hb d71 rfl hl (by decide) rfl (fun ls hl => ?_)
  exact s_X5_placeWithMainStart_L72 C0 hxt hk2 FU _ _ _ _ _ _ _ _ hR hS (lv_sub hl [1, 2, 3, 0] rfl) hf
set_option maxRecDepth 100000 in
set_option maxHeartbeats 4000000 in
theorem s_X5_placeWithMainStart_b2 {p : Program} {l : Launch} {e : Env} {s : State} {m : MethodId} {args : Array Value} {below : List Frame} {meth : Method} {c : Code} {E : XE} {z : XR} (C0 : x_C E p l s m meth c args cX5_placeWithMainStart 4 "GridEngine$Placement" "placeWithMainStart" none) (hxt : ∀ x ∈ c.exceptionTable.toList, False) {k2 : HP → Nat → Int32 → Option XR} (hk2 : ∀ (h : HP) (r0 : Nat) (x1 : Int32) (H : Heap) (locs : List Loc) (ls : Array Slot), x_Rep E h H → va_S (x_A E) s.heap H locs → lv_has ls 4 [(0, .ref (xa E r0)), (1, .int x1)] → k2 h r0 x1 = some z → W p l e ({ frames := 11, cells := 0, slots := 0, locals := 202 } : Room) s m args below meth c H locs 0 0 (x_Q E below args s 0 0 z) (F0 m 2 ls [])) : ∀ (h : HP) (r0 : Nat) (x1 : Int32) (H : Heap) (locs : List Loc) (ls : Array Slot), x_Rep E h H → va_S (x_A E) s.heap H locs → lv_has ls 4 [(0, .ref (xa E r0)), (1, .int x1)] → f_X5_placeWithMainStart_b2 k2 h r0 x1 = some z → W p l e ({ frames := 11, cells := 0, slots := 0, locals := 202 } : Room) s m args below meth c H locs 0 0 (x_Q E below args s 0 0 z) (F0 m 2 ls []) := by
  intro h r0 x1 H locs ls hR hS hl hf
  obtain ⟨hx, hb, -⟩ := id C0
  unfold f_X5_placeWithMainStart_b2 at hf
  have h0 : x_by cX5_placeWithMainStart 2 [27, 42, 180, 0, 38, 180, 0, 86, 162, 0, 97] := by unfold x_by; decide +kernel
  obtain ⟨d2, h0⟩ := de_iload_n1 h0
  obtain ⟨d3, h0⟩ := de_aload_n0 h0
  obtain ⟨d4, h0⟩ := de_getfield 38 (by decide) h0
  obtain ⟨d7, h0⟩ := de_getfield 86 (by decide) h0
  obtain ⟨d10, h0⟩ := de_icmp_ge (97) (by decide) h0
  refine lv_iload_n hx hb d2 rfl (lv_at hl 1 rfl) ?_
  refine lv_aload_n hx hb d3 rfl (lv_at hl 0 rfl) ?_
  refine x_getR C0 hR hf xcl_5 (Nat.le_of_ble_eq_true rfl) rfl fl_X5_38 d4 (fun a1 hf => ?_)
  refine x_getI C0 hR hf xcl_4 (Nat.le_of_ble_eq_true rfl) rfl fl_X5_86 d7 (fun i2 hf => ?_)
  refine lv_icmp_ge (tgt := 107) hx hb d10 (by decide) (fun q => ?_) (fun q => ?_)
  · have hf := x_pos q hf
    have h0 : x_by cX5_placeWithMainStart 107 [177] := by unfold x_by; decide +kernel
    obtain ⟨d107, h0⟩ := de_return h0
    exact x_vret C0 hR hS hf (Nat.le_of_ble_eq_true rfl) (Nat.le_of_ble_eq_true rfl) d107
  · have hf := x_neg q hf
    have h0 : x_by cX5_placeWithMainStart 13 [42, 27, 42, 180, 0, 22, 182, 0, 92, 153, 0, 79] := by unfold x_by; decide +kernel
    obtain ⟨d13, h0⟩ := de_aload_n0 h0
    obtain ⟨d14, h0⟩ := de_iload_n1 h0
    obtain ⟨d15, h0⟩ := de_aload_n0 h0
    obtain ⟨d16, h0⟩ := de_getfield 22 (by decide) h0
    obtain ⟨d19, h0⟩ := de_invokevirtual 92 (by decide) h0
    obtain ⟨d22, h0⟩ := de_if_eq (79) (by decide) h0
    refine lv_aload_n hx hb d13 rfl (lv_at hl 0 rfl) ?_
    refine lv_iload_n hx hb d14 rfl (lv_at hl 1 rfl) ?_
    refine lv_aload_n hx hb d15 rfl (lv_at hl 0 rfl) ?_
    refine x_getI C0 hR hf xcl_5 (Nat.le_of_ble_eq_true rfl) rfl fl_X5_22 d16 (fun i3 hf => ?_)
    obtain ⟨hs9, hf⟩ := x_if hf
    refine x_thenI C0 hxt hS hf (fun z0 e0 => x_runV C0 hR hS me_X5_hasStart wi_X5_hasStart wl_X5_hasStart ml_X5_92 hs9 xcl_5 (As := [.int x1, .int i3]) (ct_X5_hasStart E l C0.2.2.2.2.2.2.2.1 _ r0 x1 i3) rfl rfl hl.1 (Nat.le_of_ble_eq_true rfl) d19 ⟨(Nat.le_of_ble_eq_true rfl), (Nat.le_of_ble_eq_true rfl)⟩ ⟨(Nat.le_of_ble_eq_true rfl), (Nat.le_of_ble_eq_true rfl)⟩ e0) (Nat.le_of_ble_eq_true rfl) (Nat.le_of_ble_eq_true rfl) (fun h9 i4 H locs hR hS hf => ?_)
    refine lv_if_eq (tgt := 101) hx hb d22 (by decide) (fun q => ?_) (fun q => ?_)
    · have hf := x_pos q hf
      exact s_X5_placeWithMainStart_b101 C0 hxt hk2 _ _ _ _ _ _ hR hS (lv_sub hl [0, 1] rfl) hf
    · have hf := x_neg q hf
      have h0 : x_by cX5_placeWithMainStart 25 [42, 27, 42, 180, 0, 26, 182, 0, 92, 154, 0, 67] := by unfold x_by; decide +kernel
      obtain ⟨d25, h0⟩ := de_aload_n0 h0
      obtain ⟨d26, h0⟩ := de_iload_n1 h0
      obtain ⟨d27, h0⟩ := de_aload_n0 h0
      obtain ⟨d28, h0⟩ := de_getfield 26 (by decide) h0
      obtain ⟨d31, h0⟩ := de_invokevirtual 92 (by decide) h0
      obtain ⟨d34, h0⟩ := de_if_ne (67) (by decide) h0
      refine lv_aload_n hx hb d25 rfl (lv_at hl 0 rfl) ?_
      refine lv_iload_n hx hb d26 rfl (lv_at hl 1 rfl) ?_
      refine lv_aload_n hx hb d27 rfl (lv_at hl 0 rfl) ?_
      refine x_getI C0 hR hf xcl_5 (Nat.le_of_ble_eq_true rfl) rfl fl_X5_26 d28 (fun i6 hf => ?_)
      obtain ⟨hs9, hf⟩ := x_if hf
      refine x_thenI C0 hxt hS hf (fun z0 e0 => x_runV C0 hR hS me_X5_hasStart wi_X5_hasStart wl_X5_hasStart ml_X5_92 hs9 xcl_5 (As := [.int x1, .int i6]) (ct_X5_hasStart E l C0.2.2.2.2.2.2.2.1 _ r0 x1 i6) rfl rfl hl.1 (Nat.le_of_ble_eq_true rfl) d31 ⟨(Nat.le_of_ble_eq_true rfl), (Nat.le_of_ble_eq_true rfl)⟩ ⟨(Nat.le_of_ble_eq_true rfl), (Nat.le_of_ble_eq_true rfl)⟩ e0) (Nat.le_of_ble_eq_true rfl) (Nat.le_of_ble_eq_true rfl) (fun h9 i7 H locs hR hS hf => ?_)
      refine lv_if_ne (tgt := 101) hx hb d34 (by decide) (fun q => ?_) (fun q => ?_)
      · have hf := x_neg q hf
        exact s_X5_placeWithMainStart_b101 C0 hxt hk2 _ _ _ _ _ _ hR hS (lv_sub hl [0, 1] rfl) hf
      · have hf := x_pos q hf
        have h0 : x_by cX5_placeWithMainStart 37 [42, 180, 0, 38, 27, 42, 180, 0, 22, 5, 182, 0, 72, 61, 42, 180, 0, 38, 180, 0, 100, 153, 0, 7] := by unfold x_by; decide +kernel
        obtain ⟨d37, h0⟩ := de_aload_n0 h0
        obtain ⟨d38, h0⟩ := de_getfield 38 (by decide) h0
        obtain ⟨d41, h0⟩ := de_iload_n1 h0
        obtain ⟨d42, h0⟩ := de_aload_n0 h0
        obtain ⟨d43, h0⟩ := de_getfield 22 (by decide) h0
        obtain ⟨d46, h0⟩ := de_iconst_2 h0
        obtain ⟨d47, h0⟩ := de_invokevirtual 72 (by decide) h0
        obtain ⟨d50, h0⟩ := de_istore_n2 h0
        obtain ⟨d51, h0⟩ := de_aload_n0 h0
        obtain ⟨d52, h0⟩ := de_getfield 38 (by decide) h0
        obtain ⟨d55, h0⟩ := de_getfield 100 (by decide) h0
        obtain ⟨d58, h0⟩ := de_if_eq (7) (by decide) h0
        refine lv_aload_n hx hb d37 rfl (lv_at hl 0 rfl) ?_
        refine x_getR C0 hR hf xcl_5 (Nat.le_of_ble_eq_true rfl) rfl fl_X5_38 d38 (fun a9 hf => ?_)
        refine lv_iload_n hx hb d41 rfl (lv_at hl 1 rfl) ?_
        refine lv_aload_n hx hb d42 rfl (lv_at hl 0 rfl) ?_
        refine x_getI C0 hR hf xcl_5 (Nat.le_of_ble_eq_true rfl) rfl fl_X5_22 d43 (fun i10 hf => ?_)
        refine lv_iconst (v := 2) hx hb d46 (by decide) ?_
        obtain ⟨hs9, hf⟩ := x_if hf
        refine x_thenI C0 hxt hS hf (fun z0 e0 => x_runV C0 hR hS me_X4_itemField wi_X4_itemField wl_X4_itemField ml_X5_72 hs9 xcl_4 (As := [.int x1, .int i10, .int 2]) (ct_X4_itemField E l C0.2.2.2.2.2.2.2.1 _ a9 x1 i10 2) rfl rfl hl.1 (Nat.le_of_ble_eq_true rfl) d47 ⟨(Nat.le_of_ble_eq_true rfl), (Nat.le_of_ble_eq_true rfl)⟩ ⟨(Nat.le_of_ble_eq_true rfl), (Nat.le_of_ble_eq_true rfl)⟩ e0) (Nat.le_of_ble_eq_true rfl) (Nat.le_of_ble_eq_true rfl) (fun h9 i11 H locs hR hS hf => ?_)
        refine lv_istore_n (lv' := [(2, .int i11), (0, .ref (xa E r0)), (1, .int x1)]) hx hb d50 rfl hl (by decide) rfl (fun ls hl => ?_)
        refine lv_aload_n hx hb d51 rfl (lv_at hl 1 rfl) ?_
        refine x_getR C0 hR hf xcl_5 (Nat.le_of_ble_eq_true rfl) rfl fl_X5_38 d52 (fun a13 hf => ?_)
        refine x_getI C0 hR hf xcl_4 (Nat.le_of_ble_eq_true rfl) rfl fl_X5_100 d55 (fun i14 hf => ?_)
        refine lv_if_eq (tgt := 65) hx hb d58 (by decide) (fun q => ?_) (fun q => ?_)
        · have hf := x_pos q hf
          have h0 : x_by cX5_placeWithMainStart 65 [42, 27, 28, 182, 0, 104] := by unfold x_by; decide +kernel
          obtain ⟨d65, h0⟩ := de_aload_n0 h0
          obtain ⟨d66, h0⟩ := de_iload_n1 h0
          obtain ⟨d67, h0⟩ := de_iload_n2 h0
          obtain ⟨d68, h0⟩ := de_invokevirtual 104 (by decide) h0
          refine lv_aload_n hx hb d65 rfl (lv_at hl 1 rfl) ?_
          refine lv_iload_n hx hb d66 rfl (lv_at hl 2 rfl) ?_
          refine lv_iload_n hx hb d67 rfl (lv_at hl 0 rfl) ?_
          obtain ⟨hs9, hf⟩ := x_if hf
          refine x_thenI C0 hxt hS hf (fun z0 e0 => x_runV C0 hR hS me_X5_firstSparseSide wi_X5_firstSparseSide wl_X5_firstSparseSide ml_X5_104 hs9 xcl_5 (As := [.int x1, .int i11]) (ct_X5_firstSparseSide E l C0.2.2.2.2.2.2.2.1 _ r0 x1 i11) rfl rfl hl.1 (Nat.le_of_ble_eq_true rfl) d68 ⟨(Nat.le_of_ble_eq_true rfl), (Nat.le_of_ble_eq_true rfl)⟩ ⟨(Nat.le_of_ble_eq_true rfl), (Nat.le_of_ble_eq_true rfl)⟩ e0) (Nat.le_of_ble_eq_true rfl) (Nat.le_of_ble_eq_true rfl) (fun h9 i15 H locs hR hS hf => ?_)
          exact s_X5_placeWithMainStart_b71 C0 hxt hk2 _ _ _ _ _ _ _ _ hR hS (lv_sub hl [1, 2, 0] rfl) hf
        · have hf := x_neg q hf
          have h0 : x_by cX5_placeWithMainStart 61 [4, 167, 0, 9] := by unfold x_by; decide +kernel
          obtain ⟨d61, h0⟩ := de_iconst_1 h0
          obtain ⟨d62, h0⟩ := de_goto (9) (by decide) h0
          refine lv_iconst (v := 1) hx hb d61 (by decide) ?_
          refine lv_goto (tgt := 71) hx hb d62 (by decide) ?_
          exact s_X5_placeWithMainStart_b71 C0 hxt hk2 _ _ _ _ _ _ _ _ hR hS (lv_sub hl [1, 2, 0] rfl) hf
theorem s_X5_placeWithMainStart_L2 {p : Program} {l : Launch} {e : Env} {s : State} {m : MethodId} {args : Array Value} {below : List Frame} {meth : Method} {c : Code} {E : XE} {z : XR} (C0 : x_C E p l s m meth c args cX5_placeWithMainStart 4 "GridEngine$Placement" "placeWithMainStart" none) (hxt : ∀ x ∈ c.exceptionTable.toList, False)  : ∀ n : Nat, ∀ (h : HP) (r0 : Nat) (x1 : Int32) (H : Heap) (locs : List Loc) (ls : Array Slot), x_Rep E h H → va_S (x_A E) s.heap H locs → lv_has ls 4 [(0, .ref (xa E r0)), (1, .int x1)] → f_X5_placeWithMainStart_L2 n h r0 x1 = some z → W p l e ({ frames := 11, cells := 0, slots := 0, locals := 202 } : Room) s m args below meth c H locs 0 0 (x_Q E below args s 0 0 z) (F0 m 2 ls []) := by
  intro n
  induction n with
  | zero => intro h r0 x1 H locs ls hR hS hl hf; cases (show (none : Option XR) = some z from hf)
  | succ n ih => intro h r0 x1 H locs ls hR hS hl hf; exact s_X5_placeWithMainStart_b2 C0 hxt ih h r0 x1 H locs ls hR hS hl (show f_X5_placeWithMainStart_b2 (f_X5_placeWithMainStart_L2 n) h r0 x1 = some z from hf)
set_option maxRecDepth 100000 in
set_option maxHeartbeats 4000000 in
theorem ct_X5_placeWithMainStart (E : XE) (l : Launch) (hl0 : l.stackTraces = false) (h : HP) (r0 : Nat) : x_ct E l yX5_placeWithMainStart (Cond.code yX5_placeWithMainStart cX5_placeWithMainStart 4 none) 11 202 0 0 [.ref (xa E r0)] h (f_X5_placeWithMainStart h r0) := by
  refine x_ofW hl0 (by decide +kernel) ?_
  intro z hf p e s m args below meth c C0 hxt hargs hR
  subst hargs
  have C0 : x_C E p l s m meth c ([.ref (xa E r0)] : List Value).toArray cX5_placeWithMainStart 4 "GridEngine$Placement" "placeWithMainStart" none := C0
  obtain ⟨hx, hb, -⟩ := id C0
  have hS : va_S (x_A E) s.heap s.heap [] := va_S.rf
  have hl := lv_entry ([.ref (xa E r0)]) (n := 4) (Nat.le_of_ble_eq_true rfl)
  rw [lg_entry_eq]
  generalize (lg_sl ([.ref (xa E r0)]) ++ List.replicate (4 - (lg_sl ([.ref (xa E r0)])).length) Slot.unset).toArray = ls at hl ⊢
  have hl : lv_has ls 4 [(0, .ref (xa E r0))] := hl
  unfold f_X5_placeWithMainStart at hf
  have h0 : x_by cX5_placeWithMainStart 0 [3, 60] := by unfold x_by; decide +kernel
  obtain ⟨d0, h0⟩ := de_iconst_0 h0
  obtain ⟨d1, h0⟩ := de_istore_n1 h0
  refine lv_iconst (v := 0) hx hb d0 (by decide) ?_
  refine lv_istore_n (lv' := [(1, .int 0), (0, .ref (xa E r0))]) hx hb d1 rfl hl (by decide) rfl (fun ls hl => ?_)
  exact s_X5_placeWithMainStart_L2 C0 hxt FU _ _ _ _ _ _ hR hS (lv_sub hl [1, 0] rfl) hf
def f_X5_placeAll_b68 (k68 : HP → Nat → Int32 → Option XR) (h : HP) (r0 : Nat) (x1 : Int32) : Option XR :=
  if 2 ≤ x1 then
    (
      some (h, xv)
    )
  else
    (
      x_gR h r0 5 3 fun a1 =>
      x_rc h r0 5 <| x_cI (f_X5_neededTracks h r0 x1) fun h3 i2 =>
      x_sI h3 a1 x1 (if i2 < 64 then i2 else 64) fun h4 =>
      k68 h4 r0 (x1 + 1)
    )
def f_X5_placeAll_L68  : Nat → HP → Nat → Int32 → Option XR
  | 0 => fun _ _ _ => none
  | n + 1 => f_X5_placeAll_b68 (f_X5_placeAll_L68 n)
def f_X5_placeAll_b31 (k31 : HP → Nat → Int32 → Option XR) (h : HP) (r0 : Nat) (x1 : Int32) : Option XR :=
  if 12 ≤ x1 then
    (
      x_rc h r0 5 <| x_cV (f_X5_placeFixed h r0) fun h1 =>
      x_rc h1 r0 5 <| x_cV (f_X5_placeWithMainStart h1 r0) fun h2 =>
      x_rc h2 r0 5 <| x_cV (f_X5_findSideCount h2 r0) fun h3 =>
      x_rc h3 r0 5 <| x_cV (f_X5_placeWithCursor h3 r0) fun h4 =>
      f_X5_placeAll_L68 FU h4 r0 0
    )
  else
    (
      x_gR h r0 5 2 fun a5 =>
      x_sZ h a5 x1 0 fun h6 =>
      k31 h6 r0 (x1 + 1)
    )
def f_X5_placeAll_L31  : Nat → HP → Nat → Int32 → Option XR
  | 0 => fun _ _ _ => none
  | n + 1 => f_X5_placeAll_b31 (f_X5_placeAll_L31 n)
def f_X5_placeAll_b16  (h : HP) (t0 : Int32) (t1 : Nat) (r0 : Nat) : Option XR :=
  x_pI h t1 5 4 t0 fun h1 =>
  x_gI h1 r0 5 4 fun i2 =>
  x_pI h1 r0 5 5 (1 - i2) fun h3 =>
  f_X5_placeAll_L31 FU h3 r0 0
def f_X5_placeAll (h : HP) (r0 : Nat) : Option XR :=
  x_gR h r0 5 0 fun a1 =>
  x_gI h a1 4 5 fun i2 =>
  if i2 = 0 then
    (
      f_X5_placeAll_b16 h 1 r0 r0
    )
  else
    (
      f_X5_placeAll_b16 h 0 r0 r0
    )
set_option maxRecDepth 100000 in
set_option maxHeartbeats 4000000 in
theorem s_X5_placeAll_b68 {p : Program} {l : Launch} {e : Env} {s : State} {m : MethodId} {args : Array Value} {below : List Frame} {meth : Method} {c : Code} {E : XE} {z : XR} (C0 : x_C E p l s m meth c args cX5_placeAll 2 "GridEngine$Placement" "placeAll" none) (hxt : ∀ x ∈ c.exceptionTable.toList, False) {k68 : HP → Nat → Int32 → Option XR} (hk68 : ∀ (h : HP) (r0 : Nat) (x1 : Int32) (H : Heap) (locs : List Loc) (ls : Array Slot), x_Rep E h H → va_S (x_A E) s.heap H locs → lv_has ls 2 [(0, .ref (xa E r0)), (1, .int x1)] → k68 h r0 x1 = some z → W p l e ({ frames := 13, cells := 0, slots := 0, locals := 245 } : Room) s m args below meth c H locs 0 0 (x_Q E below args s 0 0 z) (F0 m 68 ls [])) : ∀ (h : HP) (r0 : Nat) (x1 : Int32) (H : Heap) (locs : List Loc) (ls : Array Slot), x_Rep E h H → va_S (x_A E) s.heap H locs → lv_has ls 2 [(0, .ref (xa E r0)), (1, .int x1)] → f_X5_placeAll_b68 k68 h r0 x1 = some z → W p l e ({ frames := 13, cells := 0, slots := 0, locals := 245 } : Room) s m args below meth c H locs 0 0 (x_Q E below args s 0 0 z) (F0 m 68 ls []) := by
  intro h r0 x1 H locs ls hR hS hl hf
  obtain ⟨hx, hb, -⟩ := id C0
  unfold f_X5_placeAll_b68 at hf
  have h0 : x_by cX5_placeAll 68 [27, 5, 162, 0, 25] := by unfold x_by; decide +kernel
  obtain ⟨d68, h0⟩ := de_iload_n1 h0
  obtain ⟨d69, h0⟩ := de_iconst_2 h0
  obtain ⟨d70, h0⟩ := de_icmp_ge (25) (by decide) h0
  refine lv_iload_n hx hb d68 rfl (lv_at hl 1 rfl) ?_
  refine lv_iconst (v := 2) hx hb d69 (by decide) ?_
  refine lv_icmp_ge (tgt := 95) hx hb d70 (by decide) (fun q => ?_) (fun q => ?_)
  · have hf := x_pos q hf
    have h0 : x_by cX5_placeAll 95 [177] := by unfold x_by; decide +kernel
    obtain ⟨d95, h0⟩ := de_return h0
    exact x_vret C0 hR hS hf (Nat.le_of_ble_eq_true rfl) (Nat.le_of_ble_eq_true rfl) d95
  · have hf := x_neg q hf
    have h0 : x_by cX5_placeAll 73 [42, 180, 0, 19, 27, 16, 64, 42, 27, 182, 0, 59, 184, 0, 63, 79, 132, 1, 1, 167, 255, 232] := by unfold x_by; decide +kernel
    obtain ⟨d73, h0⟩ := de_aload_n0 h0
    obtain ⟨d74, h0⟩ := de_getfield 19 (by decide) h0
    obtain ⟨d77, h0⟩ := de_iload_n1 h0
    obtain ⟨d78, h0⟩ := de_bipush (64) (by decide) h0
    obtain ⟨d80, h0⟩ := de_aload_n0 h0
    obtain ⟨d81, h0⟩ := de_iload_n1 h0
    obtain ⟨d82, h0⟩ := de_invokevirtual 59 (by decide) h0
    obtain ⟨d85, h0⟩ := de_invokestatic 63 (by decide) h0
    obtain ⟨d88, h0⟩ := de_iastore h0
    obtain ⟨d89, h0⟩ := de_iinc (1) (by decide) h0
    obtain ⟨d92, h0⟩ := de_goto (-24) (by decide) h0
    refine lv_aload_n hx hb d73 rfl (lv_at hl 0 rfl) ?_
    refine x_getR C0 hR hf xcl_5 (Nat.le_of_ble_eq_true rfl) rfl fl_X5_19 d74 (fun a1 hf => ?_)
    refine lv_iload_n hx hb d77 rfl (lv_at hl 1 rfl) ?_
    refine lv_bipush (v := 64) hx hb d78 (by decide) ?_
    refine lv_aload_n hx hb d80 rfl (lv_at hl 0 rfl) ?_
    refine lv_iload_n hx hb d81 rfl (lv_at hl 1 rfl) ?_
    obtain ⟨hs9, hf⟩ := x_if hf
    refine x_thenI C0 hxt hS hf (fun z0 e0 => x_runV C0 hR hS me_X5_neededTracks wi_X5_neededTracks wl_X5_neededTracks ml_X5_59 hs9 xcl_5 (As := [.int x1]) (ct_X5_neededTracks E l C0.2.2.2.2.2.2.2.1 _ r0 x1) rfl rfl hl.1 (Nat.le_of_ble_eq_true rfl) d82 ⟨(Nat.le_of_ble_eq_true rfl), (Nat.le_of_ble_eq_true rfl)⟩ ⟨(Nat.le_of_ble_eq_true rfl), (Nat.le_of_ble_eq_true rfl)⟩ e0) (Nat.le_of_ble_eq_true rfl) (Nat.le_of_ble_eq_true rfl) (fun h9 i2 H locs hR hS hf => ?_)
    refine x_mmin C0 hl.1 ml_X5_63 lib_min (Nat.le_of_ble_eq_true rfl) (Nat.le_of_ble_eq_true rfl) (Nat.le_of_ble_eq_true rfl) (Nat.le_of_ble_eq_true rfl) d85 ?_
    refine x_iast C0 hR hS hf d88 (fun H locs hR hS hf => ?_)
    refine lv_iinc (v := (x1 + 1)) (lv' := [(1, .int (x1 + 1)), (0, .ref (xa E r0))]) hx hb d89 hl (k := 1) rfl rfl (by decide) rfl (fun ls hl => ?_)
    refine lv_goto (tgt := 68) hx hb d92 (by decide) ?_
    exact hk68 _ _ _ _ _ _ hR hS (lv_sub hl [1, 0] rfl) hf
theorem s_X5_placeAll_L68 {p : Program} {l : Launch} {e : Env} {s : State} {m : MethodId} {args : Array Value} {below : List Frame} {meth : Method} {c : Code} {E : XE} {z : XR} (C0 : x_C E p l s m meth c args cX5_placeAll 2 "GridEngine$Placement" "placeAll" none) (hxt : ∀ x ∈ c.exceptionTable.toList, False)  : ∀ n : Nat, ∀ (h : HP) (r0 : Nat) (x1 : Int32) (H : Heap) (locs : List Loc) (ls : Array Slot), x_Rep E h H → va_S (x_A E) s.heap H locs → lv_has ls 2 [(0, .ref (xa E r0)), (1, .int x1)] → f_X5_placeAll_L68 n h r0 x1 = some z → W p l e ({ frames := 13, cells := 0, slots := 0, locals := 245 } : Room) s m args below meth c H locs 0 0 (x_Q E below args s 0 0 z) (F0 m 68 ls []) := by
  intro n
  induction n with
  | zero => intro h r0 x1 H locs ls hR hS hl hf; cases (show (none : Option XR) = some z from hf)
  | succ n ih => intro h r0 x1 H locs ls hR hS hl hf; exact s_X5_placeAll_b68 C0 hxt ih h r0 x1 H locs ls hR hS hl (show f_X5_placeAll_b68 (f_X5_placeAll_L68 n) h r0 x1 = some z from hf)
set_option maxRecDepth 100000 in
set_option maxHeartbeats 4000000 in
theorem s_X5_placeAll_b31 {p : Program} {l : Launch} {e : Env} {s : State} {m : MethodId} {args : Array Value} {below : List Frame} {meth : Method} {c : Code} {E : XE} {z : XR} (C0 : x_C E p l s m meth c args cX5_placeAll 2 "GridEngine$Placement" "placeAll" none) (hxt : ∀ x ∈ c.exceptionTable.toList, False) {k31 : HP → Nat → Int32 → Option XR} (hk31 : ∀ (h : HP) (r0 : Nat) (x1 : Int32) (H : Heap) (locs : List Loc) (ls : Array Slot), x_Rep E h H → va_S (x_A E) s.heap H locs → lv_has ls 2 [(0, .ref (xa E r0)), (1, .int x1)] → k31 h r0 x1 = some z → W p l e ({ frames := 13, cells := 0, slots := 0, locals := 245 } : Room) s m args below meth c H locs 0 0 (x_Q E below args s 0 0 z) (F0 m 31 ls [])) : ∀ (h : HP) (r0 : Nat) (x1 : Int32) (H : Heap) (locs : List Loc) (ls : Array Slot), x_Rep E h H → va_S (x_A E) s.heap H locs → lv_has ls 2 [(0, .ref (xa E r0)), (1, .int x1)] → f_X5_placeAll_b31 k31 h r0 x1 = some z → W p l e ({ frames := 13, cells := 0, slots := 0, locals := 245 } : Room) s m args below meth c H locs 0 0 (x_Q E below args s 0 0 z) (F0 m 31 ls []) := by
  intro h r0 x1 H locs ls hR hS hl hf
  obtain ⟨hx, hb, -⟩ := id C0
  unfold f_X5_placeAll_b31 at hf
  have h0 : x_by cX5_placeAll 31 [27, 16, 12, 162, 0, 16] := by unfold x_by; decide +kernel
  obtain ⟨d31, h0⟩ := de_iload_n1 h0
  obtain ⟨d32, h0⟩ := de_bipush (12) (by decide) h0
  obtain ⟨d34, h0⟩ := de_icmp_ge (16) (by decide) h0
  refine lv_iload_n hx hb d31 rfl (lv_at hl 1 rfl) ?_
  refine lv_bipush (v := 12) hx hb d32 (by decide) ?_
  refine lv_icmp_ge (tgt := 50) hx hb d34 (by decide) (fun q => ?_) (fun q => ?_)
  · have hf := x_pos q hf
    have h0 : x_by cX5_placeAll 50 [42, 182, 0, 47, 42, 182, 0, 50, 42, 182, 0, 53, 42, 182, 0, 56, 3, 60] := by unfold x_by; decide +kernel
    obtain ⟨d50, h0⟩ := de_aload_n0 h0
    obtain ⟨d51, h0⟩ := de_invokevirtual 47 (by decide) h0
    obtain ⟨d54, h0⟩ := de_aload_n0 h0
    obtain ⟨d55, h0⟩ := de_invokevirtual 50 (by decide) h0
    obtain ⟨d58, h0⟩ := de_aload_n0 h0
    obtain ⟨d59, h0⟩ := de_invokevirtual 53 (by decide) h0
    obtain ⟨d62, h0⟩ := de_aload_n0 h0
    obtain ⟨d63, h0⟩ := de_invokevirtual 56 (by decide) h0
    obtain ⟨d66, h0⟩ := de_iconst_0 h0
    obtain ⟨d67, h0⟩ := de_istore_n1 h0
    refine lv_aload_n hx hb d50 rfl (lv_at hl 0 rfl) ?_
    obtain ⟨hs9, hf⟩ := x_if hf
    refine x_thenV C0 hxt hS hf (fun z0 e0 => x_runV C0 hR hS me_X5_placeFixed wi_X5_placeFixed wl_X5_placeFixed ml_X5_47 hs9 xcl_5 (As := []) (ct_X5_placeFixed E l C0.2.2.2.2.2.2.2.1 _ r0) rfl rfl hl.1 (Nat.le_of_ble_eq_true rfl) d51 ⟨(Nat.le_of_ble_eq_true rfl), (Nat.le_of_ble_eq_true rfl)⟩ ⟨(Nat.le_of_ble_eq_true rfl), (Nat.le_of_ble_eq_true rfl)⟩ e0) (Nat.le_of_ble_eq_true rfl) (Nat.le_of_ble_eq_true rfl) (fun h9 H locs hR hS hf => ?_)
    refine lv_aload_n hx hb d54 rfl (lv_at hl 0 rfl) ?_
    obtain ⟨hs9, hf⟩ := x_if hf
    refine x_thenV C0 hxt hS hf (fun z0 e0 => x_runV C0 hR hS me_X5_placeWithMainStart wi_X5_placeWithMainStart wl_X5_placeWithMainStart ml_X5_50 hs9 xcl_5 (As := []) (ct_X5_placeWithMainStart E l C0.2.2.2.2.2.2.2.1 _ r0) rfl rfl hl.1 (Nat.le_of_ble_eq_true rfl) d55 ⟨(Nat.le_of_ble_eq_true rfl), (Nat.le_of_ble_eq_true rfl)⟩ ⟨(Nat.le_of_ble_eq_true rfl), (Nat.le_of_ble_eq_true rfl)⟩ e0) (Nat.le_of_ble_eq_true rfl) (Nat.le_of_ble_eq_true rfl) (fun h9 H locs hR hS hf => ?_)
    refine lv_aload_n hx hb d58 rfl (lv_at hl 0 rfl) ?_
    obtain ⟨hs9, hf⟩ := x_if hf
    refine x_thenV C0 hxt hS hf (fun z0 e0 => x_runV C0 hR hS me_X5_findSideCount wi_X5_findSideCount wl_X5_findSideCount ml_X5_53 hs9 xcl_5 (As := []) (ct_X5_findSideCount E l C0.2.2.2.2.2.2.2.1 _ r0) rfl rfl hl.1 (Nat.le_of_ble_eq_true rfl) d59 ⟨(Nat.le_of_ble_eq_true rfl), (Nat.le_of_ble_eq_true rfl)⟩ ⟨(Nat.le_of_ble_eq_true rfl), (Nat.le_of_ble_eq_true rfl)⟩ e0) (Nat.le_of_ble_eq_true rfl) (Nat.le_of_ble_eq_true rfl) (fun h9 H locs hR hS hf => ?_)
    refine lv_aload_n hx hb d62 rfl (lv_at hl 0 rfl) ?_
    obtain ⟨hs9, hf⟩ := x_if hf
    refine x_thenV C0 hxt hS hf (fun z0 e0 => x_runV C0 hR hS me_X5_placeWithCursor wi_X5_placeWithCursor wl_X5_placeWithCursor ml_X5_56 hs9 xcl_5 (As := []) (ct_X5_placeWithCursor E l C0.2.2.2.2.2.2.2.1 _ r0) rfl rfl hl.1 (Nat.le_of_ble_eq_true rfl) d63 ⟨(Nat.le_of_ble_eq_true rfl), (Nat.le_of_ble_eq_true rfl)⟩ ⟨(Nat.le_of_ble_eq_true rfl), (Nat.le_of_ble_eq_true rfl)⟩ e0) (Nat.le_of_ble_eq_true rfl) (Nat.le_of_ble_eq_true rfl) (fun h9 H locs hR hS hf => ?_)
    refine lv_iconst (v := 0) hx hb d66 (by decide) ?_
    refine lv_istore_n (lv' := [(1, .int 0), (0, .ref (xa E r0))]) hx hb d67 rfl hl (by decide) rfl (fun ls hl => ?_)
    exact s_X5_placeAll_L68 C0 hxt FU _ _ _ _ _ _ hR hS (lv_sub hl [1, 0] rfl) hf
  · have hf := x_neg q hf
    have h0 : x_by cX5_placeAll 37 [42, 180, 0, 15, 27, 3, 84, 132, 1, 1, 167, 255, 240] := by unfold x_by; decide +kernel
    obtain ⟨d37, h0⟩ := de_aload_n0 h0
    obtain ⟨d38, h0⟩ := de_getfield 15 (by decide) h0
    obtain ⟨d41, h0⟩ := de_iload_n1 h0
    obtain ⟨d42, h0⟩ := de_iconst_0 h0
    obtain ⟨d43, h0⟩ := de_bastore h0
    obtain ⟨d44, h0⟩ := de_iinc (1) (by decide) h0
    obtain ⟨d47, h0⟩ := de_goto (-16) (by decide) h0
    refine lv_aload_n hx hb d37 rfl (lv_at hl 0 rfl) ?_
    refine x_getR C0 hR hf xcl_5 (Nat.le_of_ble_eq_true rfl) rfl fl_X5_15 d38 (fun a5 hf => ?_)
    refine lv_iload_n hx hb d41 rfl (lv_at hl 1 rfl) ?_
    refine lv_iconst (v := 0) hx hb d42 (by decide) ?_
    refine x_zast C0 hR hS hf d43 (fun H locs hR hS hf => ?_)
    refine lv_iinc (v := (x1 + 1)) (lv' := [(1, .int (x1 + 1)), (0, .ref (xa E r0))]) hx hb d44 hl (k := 1) rfl rfl (by decide) rfl (fun ls hl => ?_)
    refine lv_goto (tgt := 31) hx hb d47 (by decide) ?_
    exact hk31 _ _ _ _ _ _ hR hS (lv_sub hl [1, 0] rfl) hf
theorem s_X5_placeAll_L31 {p : Program} {l : Launch} {e : Env} {s : State} {m : MethodId} {args : Array Value} {below : List Frame} {meth : Method} {c : Code} {E : XE} {z : XR} (C0 : x_C E p l s m meth c args cX5_placeAll 2 "GridEngine$Placement" "placeAll" none) (hxt : ∀ x ∈ c.exceptionTable.toList, False)  : ∀ n : Nat, ∀ (h : HP) (r0 : Nat) (x1 : Int32) (H : Heap) (locs : List Loc) (ls : Array Slot), x_Rep E h H → va_S (x_A E) s.heap H locs → lv_has ls 2 [(0, .ref (xa E r0)), (1, .int x1)] → f_X5_placeAll_L31 n h r0 x1 = some z → W p l e ({ frames := 13, cells := 0, slots := 0, locals := 245 } : Room) s m args below meth c H locs 0 0 (x_Q E below args s 0 0 z) (F0 m 31 ls []) := by
  intro n
  induction n with
  | zero => intro h r0 x1 H locs ls hR hS hl hf; cases (show (none : Option XR) = some z from hf)
  | succ n ih => intro h r0 x1 H locs ls hR hS hl hf; exact s_X5_placeAll_b31 C0 hxt ih h r0 x1 H locs ls hR hS hl (show f_X5_placeAll_b31 (f_X5_placeAll_L31 n) h r0 x1 = some z from hf)
set_option maxRecDepth 100000 in
set_option maxHeartbeats 4000000 in
theorem s_X5_placeAll_b16 {p : Program} {l : Launch} {e : Env} {s : State} {m : MethodId} {args : Array Value} {below : List Frame} {meth : Method} {c : Code} {E : XE} {z : XR} (C0 : x_C E p l s m meth c args cX5_placeAll 2 "GridEngine$Placement" "placeAll" none) (hxt : ∀ x ∈ c.exceptionTable.toList, False)  : ∀ (h : HP) (t0 : Int32) (t1 : Nat) (r0 : Nat) (H : Heap) (locs : List Loc) (ls : Array Slot), x_Rep E h H → va_S (x_A E) s.heap H locs → lv_has ls 2 [(0, .ref (xa E r0))] → f_X5_placeAll_b16 h t0 t1 r0 = some z → W p l e ({ frames := 13, cells := 0, slots := 0, locals := 245 } : Room) s m args below meth c H locs 0 0 (x_Q E below args s 0 0 z) (F0 m 16 ls [.int t0, .ref (xa E t1)]) := by
  intro h t0 t1 r0 H locs ls hR hS hl hf
  obtain ⟨hx, hb, -⟩ := id C0
  unfold f_X5_placeAll_b16 at hf
  have h0 : x_by cX5_placeAll 16 [181, 0, 22, 42, 4, 42, 180, 0, 22, 100, 181, 0, 26, 3, 60] := by unfold x_by; decide +kernel
  obtain ⟨d16, h0⟩ := de_putfield 22 (by decide) h0
  obtain ⟨d19, h0⟩ := de_aload_n0 h0
  obtain ⟨d20, h0⟩ := de_iconst_1 h0
  obtain ⟨d21, h0⟩ := de_aload_n0 h0
  obtain ⟨d22, h0⟩ := de_getfield 22 (by decide) h0
  obtain ⟨d25, h0⟩ := de_isub h0
  obtain ⟨d26, h0⟩ := de_putfield 26 (by decide) h0
  obtain ⟨d29, h0⟩ := de_iconst_0 h0
  obtain ⟨d30, h0⟩ := de_istore_n1 h0
  refine x_putI C0 hR hS hf xcl_5 (Nat.le_of_ble_eq_true rfl) rfl fl_X5_22 (Or.inl rfl) d16 (fun H locs hR hS hf => ?_)
  refine lv_aload_n hx hb d19 rfl (lv_at hl 0 rfl) ?_
  refine lv_iconst (v := 1) hx hb d20 (by decide) ?_
  refine lv_aload_n hx hb d21 rfl (lv_at hl 0 rfl) ?_
  refine x_getI C0 hR hf xcl_5 (Nat.le_of_ble_eq_true rfl) rfl fl_X5_22 d22 (fun i2 hf => ?_)
  refine lv_isub hx hb d25 ?_
  refine x_putI C0 hR hS hf xcl_5 (Nat.le_of_ble_eq_true rfl) rfl fl_X5_26 (Or.inl rfl) d26 (fun H locs hR hS hf => ?_)
  refine lv_iconst (v := 0) hx hb d29 (by decide) ?_
  refine lv_istore_n (lv' := [(1, .int 0), (0, .ref (xa E r0))]) hx hb d30 rfl hl (by decide) rfl (fun ls hl => ?_)
  exact s_X5_placeAll_L31 C0 hxt FU _ _ _ _ _ _ hR hS (lv_sub hl [1, 0] rfl) hf
set_option maxRecDepth 100000 in
set_option maxHeartbeats 4000000 in
theorem ct_X5_placeAll (E : XE) (l : Launch) (hl0 : l.stackTraces = false) (h : HP) (r0 : Nat) : x_ct E l yX5_placeAll (Cond.code yX5_placeAll cX5_placeAll 2 none) 13 245 0 0 [.ref (xa E r0)] h (f_X5_placeAll h r0) := by
  refine x_ofW hl0 (by decide +kernel) ?_
  intro z hf p e s m args below meth c C0 hxt hargs hR
  subst hargs
  have C0 : x_C E p l s m meth c ([.ref (xa E r0)] : List Value).toArray cX5_placeAll 2 "GridEngine$Placement" "placeAll" none := C0
  obtain ⟨hx, hb, -⟩ := id C0
  have hS : va_S (x_A E) s.heap s.heap [] := va_S.rf
  have hl := lv_entry ([.ref (xa E r0)]) (n := 2) (Nat.le_of_ble_eq_true rfl)
  rw [lg_entry_eq]
  generalize (lg_sl ([.ref (xa E r0)]) ++ List.replicate (2 - (lg_sl ([.ref (xa E r0)])).length) Slot.unset).toArray = ls at hl ⊢
  have hl : lv_has ls 2 [(0, .ref (xa E r0))] := hl
  unfold f_X5_placeAll at hf
  have h0 : x_by cX5_placeAll 0 [42, 42, 180, 0, 38, 180, 0, 42, 154, 0, 7] := by unfold x_by; decide +kernel
  obtain ⟨d0, h0⟩ := de_aload_n0 h0
  obtain ⟨d1, h0⟩ := de_aload_n0 h0
  obtain ⟨d2, h0⟩ := de_getfield 38 (by decide) h0
  obtain ⟨d5, h0⟩ := de_getfield 42 (by decide) h0
  obtain ⟨d8, h0⟩ := de_if_ne (7) (by decide) h0
  refine lv_aload_n hx hb d0 rfl (lv_at hl 0 rfl) ?_
  refine lv_aload_n hx hb d1 rfl (lv_at hl 0 rfl) ?_
  refine x_getR C0 hR hf xcl_5 (Nat.le_of_ble_eq_true rfl) rfl fl_X5_38 d2 (fun a1 hf => ?_)
  refine x_getI C0 hR hf xcl_4 (Nat.le_of_ble_eq_true rfl) rfl fl_X5_42 d5 (fun i2 hf => ?_)
  refine lv_if_ne (tgt := 15) hx hb d8 (by decide) (fun q => ?_) (fun q => ?_)
  · have hf := x_neg q hf
    have h0 : x_by cX5_placeAll 15 [3] := by unfold x_by; decide +kernel
    obtain ⟨d15, h0⟩ := de_iconst_0 h0
    refine lv_iconst (v := 0) hx hb d15 (by decide) ?_
    exact s_X5_placeAll_b16 C0 hxt _ _ _ _ _ _ _ hR hS (lv_sub hl [0] rfl) hf
  · have hf := x_pos q hf
    have h0 : x_by cX5_placeAll 11 [4, 167, 0, 4] := by unfold x_by; decide +kernel
    obtain ⟨d11, h0⟩ := de_iconst_1 h0
    obtain ⟨d12, h0⟩ := de_goto (4) (by decide) h0
    refine lv_iconst (v := 1) hx hb d11 (by decide) ?_
    refine lv_goto (tgt := 16) hx hb d12 (by decide) ?_
    exact s_X5_placeAll_b16 C0 hxt _ _ _ _ _ _ _ hR hS (lv_sub hl [0] rfl) hf
def f_X5_trackCount_b19  (h : HP) (t0 : Int32) : Option XR :=
  some (h, xi t0)
def f_X5_trackCount_b18  (h : HP)  : Option XR :=
  f_X5_trackCount_b19 h 0
def f_X5_trackCount (h : HP) (r0 : Nat) (x1 : Int32) : Option XR :=
  if x1 < 0 then
    (
      f_X5_trackCount_b18 h
    )
  else
    (
      if 2 ≤ x1 then
        (
          f_X5_trackCount_b18 h
        )
      else
        (
          x_gR h r0 5 3 fun a1 =>
          x_aI h 100 a1 x1 fun i2 =>
          f_X5_trackCount_b19 h i2
        )
    )
set_option maxRecDepth 100000 in
set_option maxHeartbeats 4000000 in
theorem s_X5_trackCount_b19 {p : Program} {l : Launch} {e : Env} {s : State} {m : MethodId} {args : Array Value} {below : List Frame} {meth : Method} {c : Code} {E : XE} {z : XR} (C0 : x_C E p l s m meth c args cX5_trackCount 2 "GridEngine$Placement" "trackCount" (some .int)) (hxt : ∀ x ∈ c.exceptionTable.toList, False)  : ∀ (h : HP) (t0 : Int32) (H : Heap) (locs : List Loc) (ls : Array Slot), x_Rep E h H → va_S (x_A E) s.heap H locs → lv_has ls 2 [] → f_X5_trackCount_b19 h t0 = some z → W p l e ({ frames := 8, cells := 0, slots := 0, locals := 130 } : Room) s m args below meth c H locs 0 0 (x_Q E below args s 0 0 z) (F0 m 19 ls [.int t0]) := by
  intro h t0 H locs ls hR hS hl hf
  obtain ⟨hx, hb, -⟩ := id C0
  unfold f_X5_trackCount_b19 at hf
  have h0 : x_by cX5_trackCount 19 [172] := by unfold x_by; decide +kernel
  obtain ⟨d19, h0⟩ := de_ireturn h0
  exact x_iret C0 hR hS hf (Nat.le_of_ble_eq_true rfl) (Nat.le_of_ble_eq_true rfl) d19
set_option maxRecDepth 100000 in
set_option maxHeartbeats 4000000 in
theorem s_X5_trackCount_b18 {p : Program} {l : Launch} {e : Env} {s : State} {m : MethodId} {args : Array Value} {below : List Frame} {meth : Method} {c : Code} {E : XE} {z : XR} (C0 : x_C E p l s m meth c args cX5_trackCount 2 "GridEngine$Placement" "trackCount" (some .int)) (hxt : ∀ x ∈ c.exceptionTable.toList, False)  : ∀ (h : HP)  (H : Heap) (locs : List Loc) (ls : Array Slot), x_Rep E h H → va_S (x_A E) s.heap H locs → lv_has ls 2 [] → f_X5_trackCount_b18 h  = some z → W p l e ({ frames := 8, cells := 0, slots := 0, locals := 130 } : Room) s m args below meth c H locs 0 0 (x_Q E below args s 0 0 z) (F0 m 18 ls []) := by
  intro h  H locs ls hR hS hl hf
  obtain ⟨hx, hb, -⟩ := id C0
  unfold f_X5_trackCount_b18 at hf
  have h0 : x_by cX5_trackCount 18 [3] := by unfold x_by; decide +kernel
  obtain ⟨d18, h0⟩ := de_iconst_0 h0
  refine lv_iconst (v := 0) hx hb d18 (by decide) ?_
  exact s_X5_trackCount_b19 C0 hxt _ _ _ _ _ hR hS (lv_sub hl [] rfl) hf
set_option maxRecDepth 100000 in
set_option maxHeartbeats 4000000 in
theorem ct_X5_trackCount (E : XE) (l : Launch) (hl0 : l.stackTraces = false) (h : HP) (r0 : Nat) (x1 : Int32) : x_ct E l yX5_trackCount (Cond.code yX5_trackCount cX5_trackCount 2 (some .int)) 8 130 0 0 [.ref (xa E r0), .int x1] h (f_X5_trackCount h r0 x1) := by
  refine x_ofW hl0 (by decide +kernel) ?_
  intro z hf p e s m args below meth c C0 hxt hargs hR
  subst hargs
  have C0 : x_C E p l s m meth c ([.ref (xa E r0), .int x1] : List Value).toArray cX5_trackCount 2 "GridEngine$Placement" "trackCount" (some .int) := C0
  obtain ⟨hx, hb, -⟩ := id C0
  have hS : va_S (x_A E) s.heap s.heap [] := va_S.rf
  have hl := lv_entry ([.ref (xa E r0), .int x1]) (n := 2) (Nat.le_of_ble_eq_true rfl)
  rw [lg_entry_eq]
  generalize (lg_sl ([.ref (xa E r0), .int x1]) ++ List.replicate (2 - (lg_sl ([.ref (xa E r0), .int x1])).length) Slot.unset).toArray = ls at hl ⊢
  have hl : lv_has ls 2 [(0, .ref (xa E r0)), (1, .int x1)] := hl
  unfold f_X5_trackCount at hf
  have h0 : x_by cX5_trackCount 0 [27, 155, 0, 17] := by unfold x_by; decide +kernel
  obtain ⟨d0, h0⟩ := de_iload_n1 h0
  obtain ⟨d1, h0⟩ := de_if_lt (17) (by decide) h0
  refine lv_iload_n hx hb d0 rfl (lv_at hl 1 rfl) ?_
  refine lv_if_lt (tgt := 18) hx hb d1 (by decide) (fun q => ?_) (fun q => ?_)
  · have hf := x_pos q hf
    exact s_X5_trackCount_b18 C0 hxt _ _ _ _ hR hS (lv_sub hl [] rfl) hf
  · have hf := x_neg q hf
    have h0 : x_by cX5_trackCount 4 [27, 5, 162, 0, 12] := by unfold x_by; decide +kernel
    obtain ⟨d4, h0⟩ := de_iload_n1 h0
    obtain ⟨d5, h0⟩ := de_iconst_2 h0
    obtain ⟨d6, h0⟩ := de_icmp_ge (12) (by decide) h0
    refine lv_iload_n hx hb d4 rfl (lv_at hl 1 rfl) ?_
    refine lv_iconst (v := 2) hx hb d5 (by decide) ?_
    refine lv_icmp_ge (tgt := 18) hx hb d6 (by decide) (fun q => ?_) (fun q => ?_)
    · have hf := x_pos q hf
      exact s_X5_trackCount_b18 C0 hxt _ _ _ _ hR hS (lv_sub hl [] rfl) hf
    · have hf := x_neg q hf
      have h0 : x_by cX5_trackCount 9 [42, 180, 0, 19, 27, 46, 167, 0, 4] := by unfold x_by; decide +kernel
      obtain ⟨d9, h0⟩ := de_aload_n0 h0
      obtain ⟨d10, h0⟩ := de_getfield 19 (by decide) h0
      obtain ⟨d13, h0⟩ := de_iload_n1 h0
      obtain ⟨d14, h0⟩ := de_iaload h0
      obtain ⟨d15, h0⟩ := de_goto (4) (by decide) h0
      refine lv_aload_n hx hb d9 rfl (lv_at hl 0 rfl) ?_
      refine x_getR C0 hR hf xcl_5 (Nat.le_of_ble_eq_true rfl) rfl fl_X5_19 d10 (fun a1 hf => ?_)
      refine lv_iload_n hx hb d13 rfl (lv_at hl 1 rfl) ?_
      refine x_iald C0 hR hf d14 (fun i2 hf => ?_)
      refine lv_goto (tgt := 19) hx hb d15 (by decide) ?_
      exact s_X5_trackCount_b19 C0 hxt _ _ _ _ _ hR hS (lv_sub hl [] rfl) hf
def f_X5_isAcross_b25  (h : HP) (t0 : Int32) : Option XR :=
  x_rZ h t0
def f_X5_isAcross_b24  (h : HP)  : Option XR :=
  f_X5_isAcross_b25 h 0
def f_X5_isAcross (h : HP) (r0 : Nat) (x1 : Int32) (x2 : Int32) (x3 : Int32) : Option XR :=
  x_rc h r0 5 <| x_cI (f_X5_firstTrack h r0 x1 x2) fun h2 i1 =>
  if x3 < i1 then
    (
      f_X5_isAcross_b24 h2
    )
  else
    (
      x_rc h2 r0 5 <| x_cI (f_X5_lastTrack h2 r0 x1 x2) fun h4 i3 =>
      if i3 < x3 then
        (
          f_X5_isAcross_b24 h4
        )
      else
        (
          f_X5_isAcross_b25 h4 1
        )
    )
set_option maxRecDepth 100000 in
set_option maxHeartbeats 4000000 in
theorem s_X5_isAcross_b25 {p : Program} {l : Launch} {e : Env} {s : State} {m : MethodId} {args : Array Value} {below : List Frame} {meth : Method} {c : Code} {E : XE} {z : XR} (C0 : x_C E p l s m meth c args cX5_isAcross 4 "GridEngine$Placement" "isAcross" (some .boolean)) (hxt : ∀ x ∈ c.exceptionTable.toList, False)  : ∀ (h : HP) (t0 : Int32) (H : Heap) (locs : List Loc) (ls : Array Slot), x_Rep E h H → va_S (x_A E) s.heap H locs → lv_has ls 4 [] → f_X5_isAcross_b25 h t0 = some z → W p l e ({ frames := 10, cells := 0, slots := 0, locals := 176 } : Room) s m args below meth c H locs 0 0 (x_Q E below args s 0 0 z) (F0 m 25 ls [.int t0]) := by
  intro h t0 H locs ls hR hS hl hf
  obtain ⟨hx, hb, -⟩ := id C0
  unfold f_X5_isAcross_b25 at hf
  have h0 : x_by cX5_isAcross 25 [172] := by unfold x_by; decide +kernel
  obtain ⟨d25, h0⟩ := de_ireturn h0
  exact x_zret C0 hR hS hf (Nat.le_of_ble_eq_true rfl) (Nat.le_of_ble_eq_true rfl) d25
set_option maxRecDepth 100000 in
set_option maxHeartbeats 4000000 in
theorem s_X5_isAcross_b24 {p : Program} {l : Launch} {e : Env} {s : State} {m : MethodId} {args : Array Value} {below : List Frame} {meth : Method} {c : Code} {E : XE} {z : XR} (C0 : x_C E p l s m meth c args cX5_isAcross 4 "GridEngine$Placement" "isAcross" (some .boolean)) (hxt : ∀ x ∈ c.exceptionTable.toList, False)  : ∀ (h : HP)  (H : Heap) (locs : List Loc) (ls : Array Slot), x_Rep E h H → va_S (x_A E) s.heap H locs → lv_has ls 4 [] → f_X5_isAcross_b24 h  = some z → W p l e ({ frames := 10, cells := 0, slots := 0, locals := 176 } : Room) s m args below meth c H locs 0 0 (x_Q E below args s 0 0 z) (F0 m 24 ls []) := by
  intro h  H locs ls hR hS hl hf
  obtain ⟨hx, hb, -⟩ := id C0
  unfold f_X5_isAcross_b24 at hf
  have h0 : x_by cX5_isAcross 24 [3] := by unfold x_by; decide +kernel
  obtain ⟨d24, h0⟩ := de_iconst_0 h0
  refine lv_iconst (v := 0) hx hb d24 (by decide) ?_
  exact s_X5_isAcross_b25 C0 hxt _ _ _ _ _ hR hS (lv_sub hl [] rfl) hf
set_option maxRecDepth 100000 in
set_option maxHeartbeats 4000000 in
theorem ct_X5_isAcross (E : XE) (l : Launch) (hl0 : l.stackTraces = false) (h : HP) (r0 : Nat) (x1 : Int32) (x2 : Int32) (x3 : Int32) : x_ct E l yX5_isAcross (Cond.code yX5_isAcross cX5_isAcross 4 (some .boolean)) 10 176 0 0 [.ref (xa E r0), .int x1, .int x2, .int x3] h (f_X5_isAcross h r0 x1 x2 x3) := by
  refine x_ofW hl0 (by decide +kernel) ?_
  intro z hf p e s m args below meth c C0 hxt hargs hR
  subst hargs
  have C0 : x_C E p l s m meth c ([.ref (xa E r0), .int x1, .int x2, .int x3] : List Value).toArray cX5_isAcross 4 "GridEngine$Placement" "isAcross" (some .boolean) := C0
  obtain ⟨hx, hb, -⟩ := id C0
  have hS : va_S (x_A E) s.heap s.heap [] := va_S.rf
  have hl := lv_entry ([.ref (xa E r0), .int x1, .int x2, .int x3]) (n := 4) (Nat.le_of_ble_eq_true rfl)
  rw [lg_entry_eq]
  generalize (lg_sl ([.ref (xa E r0), .int x1, .int x2, .int x3]) ++ List.replicate (4 - (lg_sl ([.ref (xa E r0), .int x1, .int x2, .int x3])).length) Slot.unset).toArray = ls at hl ⊢
  have hl : lv_has ls 4 [(0, .ref (xa E r0)), (1, .int x1), (2, .int x2), (3, .int x3)] := hl
  unfold f_X5_isAcross at hf
  have h0 : x_by cX5_isAcross 0 [42, 27, 28, 182, 0, 69, 29, 163, 0, 17] := by unfold x_by; decide +kernel
  obtain ⟨d0, h0⟩ := de_aload_n0 h0
  obtain ⟨d1, h0⟩ := de_iload_n1 h0
  obtain ⟨d2, h0⟩ := de_iload_n2 h0
  obtain ⟨d3, h0⟩ := de_invokevirtual 69 (by decide) h0
  obtain ⟨d6, h0⟩ := de_iload_n3 h0
  obtain ⟨d7, h0⟩ := de_icmp_gt (17) (by decide) h0
  refine lv_aload_n hx hb d0 rfl (lv_at hl 0 rfl) ?_
  refine lv_iload_n hx hb d1 rfl (lv_at hl 1 rfl) ?_
  refine lv_iload_n hx hb d2 rfl (lv_at hl 2 rfl) ?_
  obtain ⟨hs9, hf⟩ := x_if hf
  refine x_thenI C0 hxt hS hf (fun z0 e0 => x_runV C0 hR hS me_X5_firstTrack wi_X5_firstTrack wl_X5_firstTrack ml_X5_69 hs9 xcl_5 (As := [.int x1, .int x2]) (ct_X5_firstTrack E l C0.2.2.2.2.2.2.2.1 _ r0 x1 x2) rfl rfl hl.1 (Nat.le_of_ble_eq_true rfl) d3 ⟨(Nat.le_of_ble_eq_true rfl), (Nat.le_of_ble_eq_true rfl)⟩ ⟨(Nat.le_of_ble_eq_true rfl), (Nat.le_of_ble_eq_true rfl)⟩ e0) (Nat.le_of_ble_eq_true rfl) (Nat.le_of_ble_eq_true rfl) (fun h9 i1 H locs hR hS hf => ?_)
  refine lv_iload_n hx hb d6 rfl (lv_at hl 3 rfl) ?_
  refine lv_icmp_gt (tgt := 24) hx hb d7 (by decide) (fun q => ?_) (fun q => ?_)
  · have hf := x_pos q hf
    exact s_X5_isAcross_b24 C0 hxt _ _ _ _ hR hS (lv_sub hl [] rfl) hf
  · have hf := x_neg q hf
    have h0 : x_by cX5_isAcross 10 [29, 42, 27, 28, 182, 0, 80, 163, 0, 7] := by unfold x_by; decide +kernel
    obtain ⟨d10, h0⟩ := de_iload_n3 h0
    obtain ⟨d11, h0⟩ := de_aload_n0 h0
    obtain ⟨d12, h0⟩ := de_iload_n1 h0
    obtain ⟨d13, h0⟩ := de_iload_n2 h0
    obtain ⟨d14, h0⟩ := de_invokevirtual 80 (by decide) h0
    obtain ⟨d17, h0⟩ := de_icmp_gt (7) (by decide) h0
    refine lv_iload_n hx hb d10 rfl (lv_at hl 3 rfl) ?_
    refine lv_aload_n hx hb d11 rfl (lv_at hl 0 rfl) ?_
    refine lv_iload_n hx hb d12 rfl (lv_at hl 1 rfl) ?_
    refine lv_iload_n hx hb d13 rfl (lv_at hl 2 rfl) ?_
    obtain ⟨hs9, hf⟩ := x_if hf
    refine x_thenI C0 hxt hS hf (fun z0 e0 => x_runV C0 hR hS me_X5_lastTrack wi_X5_lastTrack wl_X5_lastTrack ml_X5_80 hs9 xcl_5 (As := [.int x1, .int x2]) (ct_X5_lastTrack E l C0.2.2.2.2.2.2.2.1 _ r0 x1 x2) rfl rfl hl.1 (Nat.le_of_ble_eq_true rfl) d14 ⟨(Nat.le_of_ble_eq_true rfl), (Nat.le_of_ble_eq_true rfl)⟩ ⟨(Nat.le_of_ble_eq_true rfl), (Nat.le_of_ble_eq_true rfl)⟩ e0) (Nat.le_of_ble_eq_true rfl) (Nat.le_of_ble_eq_true rfl) (fun h9 i3 H locs hR hS hf => ?_)
    refine lv_icmp_gt (tgt := 24) hx hb d17 (by decide) (fun q => ?_) (fun q => ?_)
    · have hf := x_pos q hf
      exact s_X5_isAcross_b24 C0 hxt _ _ _ _ hR hS (lv_sub hl [] rfl) hf
    · have hf := x_neg q hf
      have h0 : x_by cX5_isAcross 20 [4, 167, 0, 4] := by unfold x_by; decide +kernel
      obtain ⟨d20, h0⟩ := de_iconst_1 h0
      obtain ⟨d21, h0⟩ := de_goto (4) (by decide) h0
      refine lv_iconst (v := 1) hx hb d20 (by decide) ?_
      refine lv_goto (tgt := 25) hx hb d21 (by decide) ?_
      exact s_X5_isAcross_b25 C0 hxt _ _ _ _ _ hR hS (lv_sub hl [] rfl) hf
def f_X5_isCovering_b25  (h : HP) (t0 : Int32) : Option XR :=
  x_rZ h t0
def f_X5_isCovering_b24  (h : HP)  : Option XR :=
  f_X5_isCovering_b25 h 0
def f_X5_isCovering (h : HP) (r0 : Nat) (x1 : Int32) (x2 : Int32) (x3 : Int32) : Option XR :=
  x_rc h r0 5 <| x_cI (f_X5_isAcross h r0 x1 0 x2) fun h2 i1 =>
  if i1 = 0 then
    (
      f_X5_isCovering_b24 h2
    )
  else
    (
      x_rc h2 r0 5 <| x_cI (f_X5_isAcross h2 r0 x1 1 x3) fun h4 i3 =>
      if i3 = 0 then
        (
          f_X5_isCovering_b24 h4
        )
      else
        (
          f_X5_isCovering_b25 h4 1
        )
    )
set_option maxRecDepth 100000 in
set_option maxHeartbeats 4000000 in
theorem s_X5_isCovering_b25 {p : Program} {l : Launch} {e : Env} {s : State} {m : MethodId} {args : Array Value} {below : List Frame} {meth : Method} {c : Code} {E : XE} {z : XR} (C0 : x_C E p l s m meth c args cX5_isCovering 4 "GridEngine$Placement" "isCovering" (some .boolean)) (hxt : ∀ x ∈ c.exceptionTable.toList, False)  : ∀ (h : HP) (t0 : Int32) (H : Heap) (locs : List Loc) (ls : Array Slot), x_Rep E h H → va_S (x_A E) s.heap H locs → lv_has ls 4 [] → f_X5_isCovering_b25 h t0 = some z → W p l e ({ frames := 11, cells := 0, slots := 0, locals := 199 } : Room) s m args below meth c H locs 0 0 (x_Q E below args s 0 0 z) (F0 m 25 ls [.int t0]) := by
  intro h t0 H locs ls hR hS hl hf
  obtain ⟨hx, hb, -⟩ := id C0
  unfold f_X5_isCovering_b25 at hf
  have h0 : x_by cX5_isCovering 25 [172] := by unfold x_by; decide +kernel
  obtain ⟨d25, h0⟩ := de_ireturn h0
  exact x_zret C0 hR hS hf (Nat.le_of_ble_eq_true rfl) (Nat.le_of_ble_eq_true rfl) d25
set_option maxRecDepth 100000 in
set_option maxHeartbeats 4000000 in
theorem s_X5_isCovering_b24 {p : Program} {l : Launch} {e : Env} {s : State} {m : MethodId} {args : Array Value} {below : List Frame} {meth : Method} {c : Code} {E : XE} {z : XR} (C0 : x_C E p l s m meth c args cX5_isCovering 4 "GridEngine$Placement" "isCovering" (some .boolean)) (hxt : ∀ x ∈ c.exceptionTable.toList, False)  : ∀ (h : HP)  (H : Heap) (locs : List Loc) (ls : Array Slot), x_Rep E h H → va_S (x_A E) s.heap H locs → lv_has ls 4 [] → f_X5_isCovering_b24 h  = some z → W p l e ({ frames := 11, cells := 0, slots := 0, locals := 199 } : Room) s m args below meth c H locs 0 0 (x_Q E below args s 0 0 z) (F0 m 24 ls []) := by
  intro h  H locs ls hR hS hl hf
  obtain ⟨hx, hb, -⟩ := id C0
  unfold f_X5_isCovering_b24 at hf
  have h0 : x_by cX5_isCovering 24 [3] := by unfold x_by; decide +kernel
  obtain ⟨d24, h0⟩ := de_iconst_0 h0
  refine lv_iconst (v := 0) hx hb d24 (by decide) ?_
  exact s_X5_isCovering_b25 C0 hxt _ _ _ _ _ hR hS (lv_sub hl [] rfl) hf
set_option maxRecDepth 100000 in
set_option maxHeartbeats 4000000 in
theorem ct_X5_isCovering (E : XE) (l : Launch) (hl0 : l.stackTraces = false) (h : HP) (r0 : Nat) (x1 : Int32) (x2 : Int32) (x3 : Int32) : x_ct E l yX5_isCovering (Cond.code yX5_isCovering cX5_isCovering 4 (some .boolean)) 11 199 0 0 [.ref (xa E r0), .int x1, .int x2, .int x3] h (f_X5_isCovering h r0 x1 x2 x3) := by
  refine x_ofW hl0 (by decide +kernel) ?_
  intro z hf p e s m args below meth c C0 hxt hargs hR
  subst hargs
  have C0 : x_C E p l s m meth c ([.ref (xa E r0), .int x1, .int x2, .int x3] : List Value).toArray cX5_isCovering 4 "GridEngine$Placement" "isCovering" (some .boolean) := C0
  obtain ⟨hx, hb, -⟩ := id C0
  have hS : va_S (x_A E) s.heap s.heap [] := va_S.rf
  have hl := lv_entry ([.ref (xa E r0), .int x1, .int x2, .int x3]) (n := 4) (Nat.le_of_ble_eq_true rfl)
  rw [lg_entry_eq]
  generalize (lg_sl ([.ref (xa E r0), .int x1, .int x2, .int x3]) ++ List.replicate (4 - (lg_sl ([.ref (xa E r0), .int x1, .int x2, .int x3])).length) Slot.unset).toArray = ls at hl ⊢
  have hl : lv_has ls 4 [(0, .ref (xa E r0)), (1, .int x1), (2, .int x2), (3, .int x3)] := hl
  unfold f_X5_isCovering at hf
  have h0 : x_by cX5_isCovering 0 [42, 27, 3, 28, 182, 0, 76, 153, 0, 17] := by unfold x_by; decide +kernel
  obtain ⟨d0, h0⟩ := de_aload_n0 h0
  obtain ⟨d1, h0⟩ := de_iload_n1 h0
  obtain ⟨d2, h0⟩ := de_iconst_0 h0
  obtain ⟨d3, h0⟩ := de_iload_n2 h0
  obtain ⟨d4, h0⟩ := de_invokevirtual 76 (by decide) h0
  obtain ⟨d7, h0⟩ := de_if_eq (17) (by decide) h0
  refine lv_aload_n hx hb d0 rfl (lv_at hl 0 rfl) ?_
  refine lv_iload_n hx hb d1 rfl (lv_at hl 1 rfl) ?_
  refine lv_iconst (v := 0) hx hb d2 (by decide) ?_
  refine lv_iload_n hx hb d3 rfl (lv_at hl 2 rfl) ?_
  obtain ⟨hs9, hf⟩ := x_if hf
  refine x_thenI C0 hxt hS hf (fun z0 e0 => x_runV C0 hR hS me_X5_isAcross wi_X5_isAcross wl_X5_isAcross ml_X5_76 hs9 xcl_5 (As := [.int x1, .int 0, .int x2]) (ct_X5_isAcross E l C0.2.2.2.2.2.2.2.1 _ r0 x1 0 x2) rfl rfl hl.1 (Nat.le_of_ble_eq_true rfl) d4 ⟨(Nat.le_of_ble_eq_true rfl), (Nat.le_of_ble_eq_true rfl)⟩ ⟨(Nat.le_of_ble_eq_true rfl), (Nat.le_of_ble_eq_true rfl)⟩ e0) (Nat.le_of_ble_eq_true rfl) (Nat.le_of_ble_eq_true rfl) (fun h9 i1 H locs hR hS hf => ?_)
  refine lv_if_eq (tgt := 24) hx hb d7 (by decide) (fun q => ?_) (fun q => ?_)
  · have hf := x_pos q hf
    exact s_X5_isCovering_b24 C0 hxt _ _ _ _ hR hS (lv_sub hl [] rfl) hf
  · have hf := x_neg q hf
    have h0 : x_by cX5_isCovering 10 [42, 27, 4, 29, 182, 0, 76, 153, 0, 7] := by unfold x_by; decide +kernel
    obtain ⟨d10, h0⟩ := de_aload_n0 h0
    obtain ⟨d11, h0⟩ := de_iload_n1 h0
    obtain ⟨d12, h0⟩ := de_iconst_1 h0
    obtain ⟨d13, h0⟩ := de_iload_n3 h0
    obtain ⟨d14, h0⟩ := de_invokevirtual 76 (by decide) h0
    obtain ⟨d17, h0⟩ := de_if_eq (7) (by decide) h0
    refine lv_aload_n hx hb d10 rfl (lv_at hl 0 rfl) ?_
    refine lv_iload_n hx hb d11 rfl (lv_at hl 1 rfl) ?_
    refine lv_iconst (v := 1) hx hb d12 (by decide) ?_
    refine lv_iload_n hx hb d13 rfl (lv_at hl 3 rfl) ?_
    obtain ⟨hs9, hf⟩ := x_if hf
    refine x_thenI C0 hxt hS hf (fun z0 e0 => x_runV C0 hR hS me_X5_isAcross wi_X5_isAcross wl_X5_isAcross ml_X5_76 hs9 xcl_5 (As := [.int x1, .int 1, .int x3]) (ct_X5_isAcross E l C0.2.2.2.2.2.2.2.1 _ r0 x1 1 x3) rfl rfl hl.1 (Nat.le_of_ble_eq_true rfl) d14 ⟨(Nat.le_of_ble_eq_true rfl), (Nat.le_of_ble_eq_true rfl)⟩ ⟨(Nat.le_of_ble_eq_true rfl), (Nat.le_of_ble_eq_true rfl)⟩ e0) (Nat.le_of_ble_eq_true rfl) (Nat.le_of_ble_eq_true rfl) (fun h9 i3 H locs hR hS hf => ?_)
    refine lv_if_eq (tgt := 24) hx hb d17 (by decide) (fun q => ?_) (fun q => ?_)
    · have hf := x_pos q hf
      exact s_X5_isCovering_b24 C0 hxt _ _ _ _ hR hS (lv_sub hl [] rfl) hf
    · have hf := x_neg q hf
      have h0 : x_by cX5_isCovering 20 [4, 167, 0, 4] := by unfold x_by; decide +kernel
      obtain ⟨d20, h0⟩ := de_iconst_1 h0
      obtain ⟨d21, h0⟩ := de_goto (4) (by decide) h0
      refine lv_iconst (v := 1) hx hb d20 (by decide) ?_
      refine lv_goto (tgt := 25) hx hb d21 (by decide) ?_
      exact s_X5_isCovering_b25 C0 hxt _ _ _ _ _ hR hS (lv_sub hl [] rfl) hf
def f_X5_countCovers_b31 (k5 : HP → Nat → Int32 → Int32 → Int32 → Int32 → Option XR) (h : HP) (r0 : Nat) (x1 : Int32) (x2 : Int32) (x3 : Int32) (x4 : Int32) : Option XR :=
  k5 h r0 x1 x2 x3 (x4 + 1)
def f_X5_countCovers_b5 (k5 : HP → Nat → Int32 → Int32 → Int32 → Int32 → Option XR) (h : HP) (r0 : Nat) (x1 : Int32) (x2 : Int32) (x3 : Int32) (x4 : Int32) : Option XR :=
  x_gR h r0 5 0 fun a1 =>
  x_gI h a1 4 4 fun i2 =>
  if i2 ≤ x4 then
    (
      some (h, xi x3)
    )
  else
    (
      x_rc h r0 5 <| x_cI (f_X5_isCovering h r0 x4 x1 x2) fun h4 i3 =>
      if i3 = 0 then
        (
          f_X5_countCovers_b31 k5 h4 r0 x1 x2 x3 x4
        )
      else
        (
          f_X5_countCovers_b31 k5 h4 r0 x1 x2 (x3 + 1) x4
        )
    )
def f_X5_countCovers_L5  : Nat → HP → Nat → Int32 → Int32 → Int32 → Int32 → Option XR
  | 0 => fun _ _ _ _ _ _ => none
  | n + 1 => f_X5_countCovers_b5 (f_X5_countCovers_L5 n)
def f_X5_countCovers (h : HP) (r0 : Nat) (x1 : Int32) (x2 : Int32) : Option XR :=
  f_X5_countCovers_L5 FU h r0 x1 x2 0 0
set_option maxRecDepth 100000 in
set_option maxHeartbeats 4000000 in
theorem s_X5_countCovers_b31 {p : Program} {l : Launch} {e : Env} {s : State} {m : MethodId} {args : Array Value} {below : List Frame} {meth : Method} {c : Code} {E : XE} {z : XR} (C0 : x_C E p l s m meth c args cX5_countCovers 5 "GridEngine$Placement" "countCovers" (some .int)) (hxt : ∀ x ∈ c.exceptionTable.toList, False) {k5 : HP → Nat → Int32 → Int32 → Int32 → Int32 → Option XR} (hk5 : ∀ (h : HP) (r0 : Nat) (x1 : Int32) (x2 : Int32) (x3 : Int32) (x4 : Int32) (H : Heap) (locs : List Loc) (ls : Array Slot), x_Rep E h H → va_S (x_A E) s.heap H locs → lv_has ls 5 [(0, .ref (xa E r0)), (1, .int x1), (2, .int x2), (3, .int x3), (4, .int x4)] → k5 h r0 x1 x2 x3 x4 = some z → W p l e ({ frames := 12, cells := 0, slots := 0, locals := 222 } : Room) s m args below meth c H locs 0 0 (x_Q E below args s 0 0 z) (F0 m 5 ls [])) : ∀ (h : HP) (r0 : Nat) (x1 : Int32) (x2 : Int32) (x3 : Int32) (x4 : Int32) (H : Heap) (locs : List Loc) (ls : Array Slot), x_Rep E h H → va_S (x_A E) s.heap H locs → lv_has ls 5 [(0, .ref (xa E r0)), (1, .int x1), (2, .int x2), (3, .int x3), (4, .int x4)] → f_X5_countCovers_b31 k5 h r0 x1 x2 x3 x4 = some z → W p l e ({ frames := 12, cells := 0, slots := 0, locals := 222 } : Room) s m args below meth c H locs 0 0 (x_Q E below args s 0 0 z) (F0 m 31 ls []) := by
  intro h r0 x1 x2 x3 x4 H locs ls hR hS hl hf
  obtain ⟨hx, hb, -⟩ := id C0
  unfold f_X5_countCovers_b31 at hf
  have h0 : x_by cX5_countCovers 31 [132, 4, 1, 167, 255, 227] := by unfold x_by; decide +kernel
  obtain ⟨d31, h0⟩ := de_iinc (1) (by decide) h0
  obtain ⟨d34, h0⟩ := de_goto (-29) (by decide) h0
  refine lv_iinc (v := (x4 + 1)) (lv' := [(4, .int (x4 + 1)), (0, .ref (xa E r0)), (1, .int x1), (2, .int x2), (3, .int x3)]) hx hb d31 hl (k := 4) rfl rfl (by decide) rfl (fun ls hl => ?_)
  refine lv_goto (tgt := 5) hx hb d34 (by decide) ?_
  exact hk5 _ _ _ _ _ _ _ _ _ hR hS (lv_sub hl [1, 2, 3, 4, 0] rfl) hf
set_option maxRecDepth 100000 in
set_option maxHeartbeats 4000000 in
theorem s_X5_countCovers_b5 {p : Program} {l : Launch} {e : Env} {s : State} {m : MethodId} {args : Array Value} {below : List Frame} {meth : Method} {c : Code} {E : XE} {z : XR} (C0 : x_C E p l s m meth c args cX5_countCovers 5 "GridEngine$Placement" "countCovers" (some .int)) (hxt : ∀ x ∈ c.exceptionTable.toList, False) {k5 : HP → Nat → Int32 → Int32 → Int32 → Int32 → Option XR} (hk5 : ∀ (h : HP) (r0 : Nat) (x1 : Int32) (x2 : Int32) (x3 : Int32) (x4 : Int32) (H : Heap) (locs : List Loc) (ls : Array Slot), x_Rep E h H → va_S (x_A E) s.heap H locs → lv_has ls 5 [(0, .ref (xa E r0)), (1, .int x1), (2, .int x2), (3, .int x3), (4, .int x4)] → k5 h r0 x1 x2 x3 x4 = some z → W p l e ({ frames := 12, cells := 0, slots := 0, locals := 222 } : Room) s m args below meth c H locs 0 0 (x_Q E below args s 0 0 z) (F0 m 5 ls [])) : ∀ (h : HP) (r0 : Nat) (x1 : Int32) (x2 : Int32) (x3 : Int32) (x4 : Int32) (H : Heap) (locs : List Loc) (ls : Array Slot), x_Rep E h H → va_S (x_A E) s.heap H locs → lv_has ls 5 [(0, .ref (xa E r0)), (1, .int x1), (2, .int x2), (3, .int x3), (4, .int x4)] → f_X5_countCovers_b5 k5 h r0 x1 x2 x3 x4 = some z → W p l e ({ frames := 12, cells := 0, slots := 0, locals := 222 } : Room) s m args below meth c H locs 0 0 (x_Q E below args s 0 0 z) (F0 m 5 ls []) := by
  intro h r0 x1 x2 x3 x4 H locs ls hR hS hl hf
  obtain ⟨hx, hb, -⟩ := id C0
  unfold f_X5_countCovers_b5 at hf
  have h0 : x_by cX5_countCovers 5 [21, 4, 42, 180, 0, 38, 180, 0, 86, 162, 0, 23] := by unfold x_by; decide +kernel
  obtain ⟨d5, h0⟩ := de_iload h0
  obtain ⟨d7, h0⟩ := de_aload_n0 h0
  obtain ⟨d8, h0⟩ := de_getfield 38 (by decide) h0
  obtain ⟨d11, h0⟩ := de_getfield 86 (by decide) h0
  obtain ⟨d14, h0⟩ := de_icmp_ge (23) (by decide) h0
  refine lv_iload hx hb d5 (lv_at hl 4 rfl) ?_
  refine lv_aload_n hx hb d7 rfl (lv_at hl 0 rfl) ?_
  refine x_getR C0 hR hf xcl_5 (Nat.le_of_ble_eq_true rfl) rfl fl_X5_38 d8 (fun a1 hf => ?_)
  refine x_getI C0 hR hf xcl_4 (Nat.le_of_ble_eq_true rfl) rfl fl_X5_86 d11 (fun i2 hf => ?_)
  refine lv_icmp_ge (tgt := 37) hx hb d14 (by decide) (fun q => ?_) (fun q => ?_)
  · have hf := x_pos q hf
    have h0 : x_by cX5_countCovers 37 [29, 172] := by unfold x_by; decide +kernel
    obtain ⟨d37, h0⟩ := de_iload_n3 h0
    obtain ⟨d38, h0⟩ := de_ireturn h0
    refine lv_iload_n hx hb d37 rfl (lv_at hl 3 rfl) ?_
    exact x_iret C0 hR hS hf (Nat.le_of_ble_eq_true rfl) (Nat.le_of_ble_eq_true rfl) d38
  · have hf := x_neg q hf
    have h0 : x_by cX5_countCovers 17 [42, 21, 4, 27, 28, 182, 0, 89, 153, 0, 6] := by unfold x_by; decide +kernel
    obtain ⟨d17, h0⟩ := de_aload_n0 h0
    obtain ⟨d18, h0⟩ := de_iload h0
    obtain ⟨d20, h0⟩ := de_iload_n1 h0
    obtain ⟨d21, h0⟩ := de_iload_n2 h0
    obtain ⟨d22, h0⟩ := de_invokevirtual 89 (by decide) h0
    obtain ⟨d25, h0⟩ := de_if_eq (6) (by decide) h0
    refine lv_aload_n hx hb d17 rfl (lv_at hl 0 rfl) ?_
    refine lv_iload hx hb d18 (lv_at hl 4 rfl) ?_
    refine lv_iload_n hx hb d20 rfl (lv_at hl 1 rfl) ?_
    refine lv_iload_n hx hb d21 rfl (lv_at hl 2 rfl) ?_
    obtain ⟨hs9, hf⟩ := x_if hf
    refine x_thenI C0 hxt hS hf (fun z0 e0 => x_runV C0 hR hS me_X5_isCovering wi_X5_isCovering wl_X5_isCovering ml_X5_89 hs9 xcl_5 (As := [.int x4, .int x1, .int x2]) (ct_X5_isCovering E l C0.2.2.2.2.2.2.2.1 _ r0 x4 x1 x2) rfl rfl hl.1 (Nat.le_of_ble_eq_true rfl) d22 ⟨(Nat.le_of_ble_eq_true rfl), (Nat.le_of_ble_eq_true rfl)⟩ ⟨(Nat.le_of_ble_eq_true rfl), (Nat.le_of_ble_eq_true rfl)⟩ e0) (Nat.le_of_ble_eq_true rfl) (Nat.le_of_ble_eq_true rfl) (fun h9 i3 H locs hR hS hf => ?_)
    refine lv_if_eq (tgt := 31) hx hb d25 (by decide) (fun q => ?_) (fun q => ?_)
    · have hf := x_pos q hf
      exact s_X5_countCovers_b31 C0 hxt hk5 _ _ _ _ _ _ _ _ _ hR hS (lv_sub hl [0, 1, 2, 3, 4] rfl) hf
    · have hf := x_neg q hf
      have h0 : x_by cX5_countCovers 28 [132, 3, 1] := by unfold x_by; decide +kernel
      obtain ⟨d28, h0⟩ := de_iinc (1) (by decide) h0
      refine lv_iinc (v := (x3 + 1)) (lv' := [(3, .int (x3 + 1)), (0, .ref (xa E r0)), (1, .int x1), (2, .int x2), (4, .int x4)]) hx hb d28 hl (k := 3) rfl rfl (by decide) rfl (fun ls hl => ?_)
      exact s_X5_countCovers_b31 C0 hxt hk5 _ _ _ _ _ _ _ _ _ hR hS (lv_sub hl [1, 2, 3, 0, 4] rfl) hf
theorem s_X5_countCovers_L5 {p : Program} {l : Launch} {e : Env} {s : State} {m : MethodId} {args : Array Value} {below : List Frame} {meth : Method} {c : Code} {E : XE} {z : XR} (C0 : x_C E p l s m meth c args cX5_countCovers 5 "GridEngine$Placement" "countCovers" (some .int)) (hxt : ∀ x ∈ c.exceptionTable.toList, False)  : ∀ n : Nat, ∀ (h : HP) (r0 : Nat) (x1 : Int32) (x2 : Int32) (x3 : Int32) (x4 : Int32) (H : Heap) (locs : List Loc) (ls : Array Slot), x_Rep E h H → va_S (x_A E) s.heap H locs → lv_has ls 5 [(0, .ref (xa E r0)), (1, .int x1), (2, .int x2), (3, .int x3), (4, .int x4)] → f_X5_countCovers_L5 n h r0 x1 x2 x3 x4 = some z → W p l e ({ frames := 12, cells := 0, slots := 0, locals := 222 } : Room) s m args below meth c H locs 0 0 (x_Q E below args s 0 0 z) (F0 m 5 ls []) := by
  intro n
  induction n with
  | zero => intro h r0 x1 x2 x3 x4 H locs ls hR hS hl hf; cases (show (none : Option XR) = some z from hf)
  | succ n ih => intro h r0 x1 x2 x3 x4 H locs ls hR hS hl hf; exact s_X5_countCovers_b5 C0 hxt ih h r0 x1 x2 x3 x4 H locs ls hR hS hl (show f_X5_countCovers_b5 (f_X5_countCovers_L5 n) h r0 x1 x2 x3 x4 = some z from hf)
set_option maxRecDepth 100000 in
set_option maxHeartbeats 4000000 in
theorem ct_X5_countCovers (E : XE) (l : Launch) (hl0 : l.stackTraces = false) (h : HP) (r0 : Nat) (x1 : Int32) (x2 : Int32) : x_ct E l yX5_countCovers (Cond.code yX5_countCovers cX5_countCovers 5 (some .int)) 12 222 0 0 [.ref (xa E r0), .int x1, .int x2] h (f_X5_countCovers h r0 x1 x2) := by
  refine x_ofW hl0 (by decide +kernel) ?_
  intro z hf p e s m args below meth c C0 hxt hargs hR
  subst hargs
  have C0 : x_C E p l s m meth c ([.ref (xa E r0), .int x1, .int x2] : List Value).toArray cX5_countCovers 5 "GridEngine$Placement" "countCovers" (some .int) := C0
  obtain ⟨hx, hb, -⟩ := id C0
  have hS : va_S (x_A E) s.heap s.heap [] := va_S.rf
  have hl := lv_entry ([.ref (xa E r0), .int x1, .int x2]) (n := 5) (Nat.le_of_ble_eq_true rfl)
  rw [lg_entry_eq]
  generalize (lg_sl ([.ref (xa E r0), .int x1, .int x2]) ++ List.replicate (5 - (lg_sl ([.ref (xa E r0), .int x1, .int x2])).length) Slot.unset).toArray = ls at hl ⊢
  have hl : lv_has ls 5 [(0, .ref (xa E r0)), (1, .int x1), (2, .int x2)] := hl
  unfold f_X5_countCovers at hf
  have h0 : x_by cX5_countCovers 0 [3, 62, 3, 54, 4] := by unfold x_by; decide +kernel
  obtain ⟨d0, h0⟩ := de_iconst_0 h0
  obtain ⟨d1, h0⟩ := de_istore_n3 h0
  obtain ⟨d2, h0⟩ := de_iconst_0 h0
  obtain ⟨d3, h0⟩ := de_istore h0
  refine lv_iconst (v := 0) hx hb d0 (by decide) ?_
  refine lv_istore_n (lv' := [(3, .int 0), (0, .ref (xa E r0)), (1, .int x1), (2, .int x2)]) hx hb d1 rfl hl (by decide) rfl (fun ls hl => ?_)
  refine lv_iconst (v := 0) hx hb d2 (by decide) ?_
  refine lv_istore (lv' := [(4, .int 0), (3, .int 0), (0, .ref (xa E r0)), (1, .int x1), (2, .int x2)]) hx hb d3 hl (by decide) rfl (fun ls hl => ?_)
  exact s_X5_countCovers_L5 C0 hxt FU _ _ _ _ _ _ _ _ _ hR hS (lv_sub hl [2, 3, 4, 1, 0] rfl) hf
def f_X5_countCells_b58 (k4 : HP → Nat → Int32 → Int32 → Int32 → Option XR) (k17 : HP → Nat → Int32 → Int32 → Int32 → Int32 → Option XR) (h : HP) (r0 : Nat) (x1 : Int32) (x2 : Int32) (x3 : Int32) (x4 : Int32) : Option XR :=
  k17 h r0 x1 x2 x3 (x4 + 1)
def f_X5_countCells_b55 (k4 : HP → Nat → Int32 → Int32 → Int32 → Option XR) (k17 : HP → Nat → Int32 → Int32 → Int32 → Int32 → Option XR) (h : HP) (r0 : Nat) (x1 : Int32) (x2 : Int32) (x3 : Int32) (x4 : Int32) : Option XR :=
  f_X5_countCells_b58 k4 k17 h r0 x1 (x2 + 1) x3 x4
def f_X5_countCells_b17 (k4 : HP → Nat → Int32 → Int32 → Int32 → Option XR) (k17 : HP → Nat → Int32 → Int32 → Int32 → Int32 → Option XR) (h : HP) (r0 : Nat) (x1 : Int32) (x2 : Int32) (x3 : Int32) (x4 : Int32) : Option XR :=
  x_gR h r0 5 3 fun a1 =>
  x_aI h 100 a1 0 fun i2 =>
  if i2 < x4 then
    (
      k4 h r0 x1 x2 (x3 + 1)
    )
  else
    (
      x_rc h r0 5 <| x_cI (f_X5_countCovers h r0 x4 x3) fun h4 i3 =>
      if x1 = 0 then
        (
          if i3 = 0 then
            (
              f_X5_countCells_b55 k4 k17 h4 r0 x1 x2 x3 x4
            )
          else
            (
              f_X5_countCells_b58 k4 k17 h4 r0 x1 x2 x3 x4
            )
        )
      else
        (
          if i3 ≤ 1 then
            (
              f_X5_countCells_b58 k4 k17 h4 r0 x1 x2 x3 x4
            )
          else
            (
              f_X5_countCells_b55 k4 k17 h4 r0 x1 x2 x3 x4
            )
        )
    )
def f_X5_countCells_L17 (k4 : HP → Nat → Int32 → Int32 → Int32 → Option XR) : Nat → HP → Nat → Int32 → Int32 → Int32 → Int32 → Option XR
  | 0 => fun _ _ _ _ _ _ => none
  | n + 1 => f_X5_countCells_b17 k4 (f_X5_countCells_L17 k4 n)
def f_X5_countCells_b4 (k4 : HP → Nat → Int32 → Int32 → Int32 → Option XR) (h : HP) (r0 : Nat) (x1 : Int32) (x2 : Int32) (x3 : Int32) : Option XR :=
  x_gR h r0 5 3 fun a1 =>
  x_aI h 100 a1 1 fun i2 =>
  if i2 < x3 then
    (
      some (h, xi x2)
    )
  else
    (
      f_X5_countCells_L17 k4 FU h r0 x1 x2 x3 1
    )
def f_X5_countCells_L4  : Nat → HP → Nat → Int32 → Int32 → Int32 → Option XR
  | 0 => fun _ _ _ _ _ => none
  | n + 1 => f_X5_countCells_b4 (f_X5_countCells_L4 n)
def f_X5_countCells (h : HP) (r0 : Nat) (x1 : Int32) : Option XR :=
  f_X5_countCells_L4 FU h r0 x1 0 1
set_option maxRecDepth 100000 in
set_option maxHeartbeats 4000000 in
theorem s_X5_countCells_b58 {p : Program} {l : Launch} {e : Env} {s : State} {m : MethodId} {args : Array Value} {below : List Frame} {meth : Method} {c : Code} {E : XE} {z : XR} (C0 : x_C E p l s m meth c args cX5_countCells 6 "GridEngine$Placement" "countCells" (some .int)) (hxt : ∀ x ∈ c.exceptionTable.toList, False) {k4 : HP → Nat → Int32 → Int32 → Int32 → Option XR} (hk4 : ∀ (h : HP) (r0 : Nat) (x1 : Int32) (x2 : Int32) (x3 : Int32) (H : Heap) (locs : List Loc) (ls : Array Slot), x_Rep E h H → va_S (x_A E) s.heap H locs → lv_has ls 6 [(0, .ref (xa E r0)), (1, .int x1), (2, .int x2), (3, .int x3)] → k4 h r0 x1 x2 x3 = some z → W p l e ({ frames := 13, cells := 0, slots := 0, locals := 246 } : Room) s m args below meth c H locs 0 0 (x_Q E below args s 0 0 z) (F0 m 4 ls [])) {k17 : HP → Nat → Int32 → Int32 → Int32 → Int32 → Option XR} (hk17 : ∀ (h : HP) (r0 : Nat) (x1 : Int32) (x2 : Int32) (x3 : Int32) (x4 : Int32) (H : Heap) (locs : List Loc) (ls : Array Slot), x_Rep E h H → va_S (x_A E) s.heap H locs → lv_has ls 6 [(0, .ref (xa E r0)), (1, .int x1), (2, .int x2), (3, .int x3), (4, .int x4)] → k17 h r0 x1 x2 x3 x4 = some z → W p l e ({ frames := 13, cells := 0, slots := 0, locals := 246 } : Room) s m args below meth c H locs 0 0 (x_Q E below args s 0 0 z) (F0 m 17 ls [])) : ∀ (h : HP) (r0 : Nat) (x1 : Int32) (x2 : Int32) (x3 : Int32) (x4 : Int32) (H : Heap) (locs : List Loc) (ls : Array Slot), x_Rep E h H → va_S (x_A E) s.heap H locs → lv_has ls 6 [(0, .ref (xa E r0)), (1, .int x1), (2, .int x2), (3, .int x3), (4, .int x4)] → f_X5_countCells_b58 k4 k17 h r0 x1 x2 x3 x4 = some z → W p l e ({ frames := 13, cells := 0, slots := 0, locals := 246 } : Room) s m args below meth c H locs 0 0 (x_Q E below args s 0 0 z) (F0 m 58 ls []) := by
  intro h r0 x1 x2 x3 x4 H locs ls hR hS hl hf
  obtain ⟨hx, hb, -⟩ := id C0
  unfold f_X5_countCells_b58 at hf
  have h0 : x_by cX5_countCells 58 [132, 4, 1, 167, 255, 212] := by unfold x_by; decide +kernel
  obtain ⟨d58, h0⟩ := de_iinc (1) (by decide) h0
  obtain ⟨d61, h0⟩ := de_goto (-44) (by decide) h0
  refine lv_iinc (v := (x4 + 1)) (lv' := [(4, .int (x4 + 1)), (0, .ref (xa E r0)), (1, .int x1), (2, .int x2), (3, .int x3)]) hx hb d58 hl (k := 4) rfl rfl (by decide) rfl (fun ls hl => ?_)
  refine lv_goto (tgt := 17) hx hb d61 (by decide) ?_
  exact hk17 _ _ _ _ _ _ _ _ _ hR hS (lv_sub hl [1, 2, 3, 4, 0] rfl) hf
set_option maxRecDepth 100000 in
set_option maxHeartbeats 4000000 in
theorem s_X5_countCells_b55 {p : Program} {l : Launch} {e : Env} {s : State} {m : MethodId} {args : Array Value} {below : List Frame} {meth : Method} {c : Code} {E : XE} {z : XR} (C0 : x_C E p l s m meth c args cX5_countCells 6 "GridEngine$Placement" "countCells" (some .int)) (hxt : ∀ x ∈ c.exceptionTable.toList, False) {k4 : HP → Nat → Int32 → Int32 → Int32 → Option XR} (hk4 : ∀ (h : HP) (r0 : Nat) (x1 : Int32) (x2 : Int32) (x3 : Int32) (H : Heap) (locs : List Loc) (ls : Array Slot), x_Rep E h H → va_S (x_A E) s.heap H locs → lv_has ls 6 [(0, .ref (xa E r0)), (1, .int x1), (2, .int x2), (3, .int x3)] → k4 h r0 x1 x2 x3 = some z → W p l e ({ frames := 13, cells := 0, slots := 0, locals := 246 } : Room) s m args below meth c H locs 0 0 (x_Q E below args s 0 0 z) (F0 m 4 ls [])) {k17 : HP → Nat → Int32 → Int32 → Int32 → Int32 → Option XR} (hk17 : ∀ (h : HP) (r0 : Nat) (x1 : Int32) (x2 : Int32) (x3 : Int32) (x4 : Int32) (H : Heap) (locs : List Loc) (ls : Array Slot), x_Rep E h H → va_S (x_A E) s.heap H locs → lv_has ls 6 [(0, .ref (xa E r0)), (1, .int x1), (2, .int x2), (3, .int x3), (4, .int x4)] → k17 h r0 x1 x2 x3 x4 = some z → W p l e ({ frames := 13, cells := 0, slots := 0, locals := 246 } : Room) s m args below meth c H locs 0 0 (x_Q E below args s 0 0 z) (F0 m 17 ls [])) : ∀ (h : HP) (r0 : Nat) (x1 : Int32) (x2 : Int32) (x3 : Int32) (x4 : Int32) (H : Heap) (locs : List Loc) (ls : Array Slot), x_Rep E h H → va_S (x_A E) s.heap H locs → lv_has ls 6 [(0, .ref (xa E r0)), (1, .int x1), (2, .int x2), (3, .int x3), (4, .int x4)] → f_X5_countCells_b55 k4 k17 h r0 x1 x2 x3 x4 = some z → W p l e ({ frames := 13, cells := 0, slots := 0, locals := 246 } : Room) s m args below meth c H locs 0 0 (x_Q E below args s 0 0 z) (F0 m 55 ls []) := by
  intro h r0 x1 x2 x3 x4 H locs ls hR hS hl hf
  obtain ⟨hx, hb, -⟩ := id C0
  unfold f_X5_countCells_b55 at hf
  have h0 : x_by cX5_countCells 55 [132, 2, 1] := by unfold x_by; decide +kernel
  obtain ⟨d55, h0⟩ := de_iinc (1) (by decide) h0
  refine lv_iinc (v := (x2 + 1)) (lv' := [(2, .int (x2 + 1)), (0, .ref (xa E r0)), (1, .int x1), (3, .int x3), (4, .int x4)]) hx hb d55 hl (k := 2) rfl rfl (by decide) rfl (fun ls hl => ?_)
  exact s_X5_countCells_b58 C0 hxt hk4 hk17 _ _ _ _ _ _ _ _ _ hR hS (lv_sub hl [1, 2, 0, 3, 4] rfl) hf
set_option maxRecDepth 100000 in
set_option maxHeartbeats 4000000 in
theorem s_X5_countCells_b17 {p : Program} {l : Launch} {e : Env} {s : State} {m : MethodId} {args : Array Value} {below : List Frame} {meth : Method} {c : Code} {E : XE} {z : XR} (C0 : x_C E p l s m meth c args cX5_countCells 6 "GridEngine$Placement" "countCells" (some .int)) (hxt : ∀ x ∈ c.exceptionTable.toList, False) {k4 : HP → Nat → Int32 → Int32 → Int32 → Option XR} (hk4 : ∀ (h : HP) (r0 : Nat) (x1 : Int32) (x2 : Int32) (x3 : Int32) (H : Heap) (locs : List Loc) (ls : Array Slot), x_Rep E h H → va_S (x_A E) s.heap H locs → lv_has ls 6 [(0, .ref (xa E r0)), (1, .int x1), (2, .int x2), (3, .int x3)] → k4 h r0 x1 x2 x3 = some z → W p l e ({ frames := 13, cells := 0, slots := 0, locals := 246 } : Room) s m args below meth c H locs 0 0 (x_Q E below args s 0 0 z) (F0 m 4 ls [])) {k17 : HP → Nat → Int32 → Int32 → Int32 → Int32 → Option XR} (hk17 : ∀ (h : HP) (r0 : Nat) (x1 : Int32) (x2 : Int32) (x3 : Int32) (x4 : Int32) (H : Heap) (locs : List Loc) (ls : Array Slot), x_Rep E h H → va_S (x_A E) s.heap H locs → lv_has ls 6 [(0, .ref (xa E r0)), (1, .int x1), (2, .int x2), (3, .int x3), (4, .int x4)] → k17 h r0 x1 x2 x3 x4 = some z → W p l e ({ frames := 13, cells := 0, slots := 0, locals := 246 } : Room) s m args below meth c H locs 0 0 (x_Q E below args s 0 0 z) (F0 m 17 ls [])) : ∀ (h : HP) (r0 : Nat) (x1 : Int32) (x2 : Int32) (x3 : Int32) (x4 : Int32) (H : Heap) (locs : List Loc) (ls : Array Slot), x_Rep E h H → va_S (x_A E) s.heap H locs → lv_has ls 6 [(0, .ref (xa E r0)), (1, .int x1), (2, .int x2), (3, .int x3), (4, .int x4)] → f_X5_countCells_b17 k4 k17 h r0 x1 x2 x3 x4 = some z → W p l e ({ frames := 13, cells := 0, slots := 0, locals := 246 } : Room) s m args below meth c H locs 0 0 (x_Q E below args s 0 0 z) (F0 m 17 ls []) := by
  intro h r0 x1 x2 x3 x4 H locs ls hR hS hl hf
  obtain ⟨hx, hb, -⟩ := id C0
  unfold f_X5_countCells_b17 at hf
  have h0 : x_by cX5_countCells 17 [21, 4, 42, 180, 0, 19, 3, 46, 163, 0, 39] := by unfold x_by; decide +kernel
  obtain ⟨d17, h0⟩ := de_iload h0
  obtain ⟨d19, h0⟩ := de_aload_n0 h0
  obtain ⟨d20, h0⟩ := de_getfield 19 (by decide) h0
  obtain ⟨d23, h0⟩ := de_iconst_0 h0
  obtain ⟨d24, h0⟩ := de_iaload h0
  obtain ⟨d25, h0⟩ := de_icmp_gt (39) (by decide) h0
  refine lv_iload hx hb d17 (lv_at hl 4 rfl) ?_
  refine lv_aload_n hx hb d19 rfl (lv_at hl 0 rfl) ?_
  refine x_getR C0 hR hf xcl_5 (Nat.le_of_ble_eq_true rfl) rfl fl_X5_19 d20 (fun a1 hf => ?_)
  refine lv_iconst (v := 0) hx hb d23 (by decide) ?_
  refine x_iald C0 hR hf d24 (fun i2 hf => ?_)
  refine lv_icmp_gt (tgt := 64) hx hb d25 (by decide) (fun q => ?_) (fun q => ?_)
  · have hf := x_pos q hf
    have h0 : x_by cX5_countCells 64 [132, 3, 1, 167, 255, 193] := by unfold x_by; decide +kernel
    obtain ⟨d64, h0⟩ := de_iinc (1) (by decide) h0
    obtain ⟨d67, h0⟩ := de_goto (-63) (by decide) h0
    refine lv_iinc (v := (x3 + 1)) (lv' := [(3, .int (x3 + 1)), (0, .ref (xa E r0)), (1, .int x1), (2, .int x2), (4, .int x4)]) hx hb d64 hl (k := 3) rfl rfl (by decide) rfl (fun ls hl => ?_)
    refine lv_goto (tgt := 4) hx hb d67 (by decide) ?_
    exact hk4 _ _ _ _ _ _ _ _ hR hS (lv_sub hl [1, 2, 3, 0] rfl) hf
  · have hf := x_neg q hf
    have h0 : x_by cX5_countCells 28 [42, 21, 4, 29, 182, 0, 83, 54, 5, 27, 153, 0, 12] := by unfold x_by; decide +kernel
    obtain ⟨d28, h0⟩ := de_aload_n0 h0
    obtain ⟨d29, h0⟩ := de_iload h0
    obtain ⟨d31, h0⟩ := de_iload_n3 h0
    obtain ⟨d32, h0⟩ := de_invokevirtual 83 (by decide) h0
    obtain ⟨d35, h0⟩ := de_istore h0
    obtain ⟨d37, h0⟩ := de_iload_n1 h0
    obtain ⟨d38, h0⟩ := de_if_eq (12) (by decide) h0
    refine lv_aload_n hx hb d28 rfl (lv_at hl 0 rfl) ?_
    refine lv_iload hx hb d29 (lv_at hl 4 rfl) ?_
    refine lv_iload_n hx hb d31 rfl (lv_at hl 3 rfl) ?_
    obtain ⟨hs9, hf⟩ := x_if hf
    refine x_thenI C0 hxt hS hf (fun z0 e0 => x_runV C0 hR hS me_X5_countCovers wi_X5_countCovers wl_X5_countCovers ml_X5_83 hs9 xcl_5 (As := [.int x4, .int x3]) (ct_X5_countCovers E l C0.2.2.2.2.2.2.2.1 _ r0 x4 x3) rfl rfl hl.1 (Nat.le_of_ble_eq_true rfl) d32 ⟨(Nat.le_of_ble_eq_true rfl), (Nat.le_of_ble_eq_true rfl)⟩ ⟨(Nat.le_of_ble_eq_true rfl), (Nat.le_of_ble_eq_true rfl)⟩ e0) (Nat.le_of_ble_eq_true rfl) (Nat.le_of_ble_eq_true rfl) (fun h9 i3 H locs hR hS hf => ?_)
    refine lv_istore (lv' := [(5, .int i3), (0, .ref (xa E r0)), (1, .int x1), (2, .int x2), (3, .int x3), (4, .int x4)]) hx hb d35 hl (by decide) rfl (fun ls hl => ?_)
    refine lv_iload_n hx hb d37 rfl (lv_at hl 2 rfl) ?_
    refine lv_if_eq (tgt := 50) hx hb d38 (by decide) (fun q => ?_) (fun q => ?_)
    · have hf := x_pos q hf
      have h0 : x_by cX5_countCells 50 [21, 5, 154, 0, 6] := by unfold x_by; decide +kernel
      obtain ⟨d50, h0⟩ := de_iload h0
      obtain ⟨d52, h0⟩ := de_if_ne (6) (by decide) h0
      refine lv_iload hx hb d50 (lv_at hl 0 rfl) ?_
      refine lv_if_ne (tgt := 58) hx hb d52 (by decide) (fun q => ?_) (fun q => ?_)
      · have hf := x_neg q hf
        exact s_X5_countCells_b58 C0 hxt hk4 hk17 _ _ _ _ _ _ _ _ _ hR hS (lv_sub hl [1, 2, 3, 4, 5] rfl) hf
      · have hf := x_pos q hf
        exact s_X5_countCells_b55 C0 hxt hk4 hk17 _ _ _ _ _ _ _ _ _ hR hS (lv_sub hl [1, 2, 3, 4, 5] rfl) hf
    · have hf := x_neg q hf
      have h0 : x_by cX5_countCells 41 [21, 5, 4, 164, 0, 14] := by unfold x_by; decide +kernel
      obtain ⟨d41, h0⟩ := de_iload h0
      obtain ⟨d43, h0⟩ := de_iconst_1 h0
      obtain ⟨d44, h0⟩ := de_icmp_le (14) (by decide) h0
      refine lv_iload hx hb d41 (lv_at hl 0 rfl) ?_
      refine lv_iconst (v := 1) hx hb d43 (by decide) ?_
      refine lv_icmp_le (tgt := 58) hx hb d44 (by decide) (fun q => ?_) (fun q => ?_)
      · have hf := x_pos q hf
        exact s_X5_countCells_b58 C0 hxt hk4 hk17 _ _ _ _ _ _ _ _ _ hR hS (lv_sub hl [1, 2, 3, 4, 5] rfl) hf
      · have hf := x_neg q hf
        have h0 : x_by cX5_countCells 47 [167, 0, 8] := by unfold x_by; decide +kernel
        obtain ⟨d47, h0⟩ := de_goto (8) (by decide) h0
        refine lv_goto (tgt := 55) hx hb d47 (by decide) ?_
        exact s_X5_countCells_b55 C0 hxt hk4 hk17 _ _ _ _ _ _ _ _ _ hR hS (lv_sub hl [1, 2, 3, 4, 5] rfl) hf
theorem s_X5_countCells_L17 {p : Program} {l : Launch} {e : Env} {s : State} {m : MethodId} {args : Array Value} {below : List Frame} {meth : Method} {c : Code} {E : XE} {z : XR} (C0 : x_C E p l s m meth c args cX5_countCells 6 "GridEngine$Placement" "countCells" (some .int)) (hxt : ∀ x ∈ c.exceptionTable.toList, False) {k4 : HP → Nat → Int32 → Int32 → Int32 → Option XR} (hk4 : ∀ (h : HP) (r0 : Nat) (x1 : Int32) (x2 : Int32) (x3 : Int32) (H : Heap) (locs : List Loc) (ls : Array Slot), x_Rep E h H → va_S (x_A E) s.heap H locs → lv_has ls 6 [(0, .ref (xa E r0)), (1, .int x1), (2, .int x2), (3, .int x3)] → k4 h r0 x1 x2 x3 = some z → W p l e ({ frames := 13, cells := 0, slots := 0, locals := 246 } : Room) s m args below meth c H locs 0 0 (x_Q E below args s 0 0 z) (F0 m 4 ls [])) : ∀ n : Nat, ∀ (h : HP) (r0 : Nat) (x1 : Int32) (x2 : Int32) (x3 : Int32) (x4 : Int32) (H : Heap) (locs : List Loc) (ls : Array Slot), x_Rep E h H → va_S (x_A E) s.heap H locs → lv_has ls 6 [(0, .ref (xa E r0)), (1, .int x1), (2, .int x2), (3, .int x3), (4, .int x4)] → f_X5_countCells_L17 k4 n h r0 x1 x2 x3 x4 = some z → W p l e ({ frames := 13, cells := 0, slots := 0, locals := 246 } : Room) s m args below meth c H locs 0 0 (x_Q E below args s 0 0 z) (F0 m 17 ls []) := by
  intro n
  induction n with
  | zero => intro h r0 x1 x2 x3 x4 H locs ls hR hS hl hf; cases (show (none : Option XR) = some z from hf)
  | succ n ih => intro h r0 x1 x2 x3 x4 H locs ls hR hS hl hf; exact s_X5_countCells_b17 C0 hxt hk4 ih h r0 x1 x2 x3 x4 H locs ls hR hS hl (show f_X5_countCells_b17 k4 (f_X5_countCells_L17 k4 n) h r0 x1 x2 x3 x4 = some z from hf)
set_option maxRecDepth 100000 in
set_option maxHeartbeats 4000000 in
theorem s_X5_countCells_b4 {p : Program} {l : Launch} {e : Env} {s : State} {m : MethodId} {args : Array Value} {below : List Frame} {meth : Method} {c : Code} {E : XE} {z : XR} (C0 : x_C E p l s m meth c args cX5_countCells 6 "GridEngine$Placement" "countCells" (some .int)) (hxt : ∀ x ∈ c.exceptionTable.toList, False) {k4 : HP → Nat → Int32 → Int32 → Int32 → Option XR} (hk4 : ∀ (h : HP) (r0 : Nat) (x1 : Int32) (x2 : Int32) (x3 : Int32) (H : Heap) (locs : List Loc) (ls : Array Slot), x_Rep E h H → va_S (x_A E) s.heap H locs → lv_has ls 6 [(0, .ref (xa E r0)), (1, .int x1), (2, .int x2), (3, .int x3)] → k4 h r0 x1 x2 x3 = some z → W p l e ({ frames := 13, cells := 0, slots := 0, locals := 246 } : Room) s m args below meth c H locs 0 0 (x_Q E below args s 0 0 z) (F0 m 4 ls [])) : ∀ (h : HP) (r0 : Nat) (x1 : Int32) (x2 : Int32) (x3 : Int32) (H : Heap) (locs : List Loc) (ls : Array Slot), x_Rep E h H → va_S (x_A E) s.heap H locs → lv_has ls 6 [(0, .ref (xa E r0)), (1, .int x1), (2, .int x2), (3, .int x3)] → f_X5_countCells_b4 k4 h r0 x1 x2 x3 = some z → W p l e ({ frames := 13, cells := 0, slots := 0, locals := 246 } : Room) s m args below meth c H locs 0 0 (x_Q E below args s 0 0 z) (F0 m 4 ls []) := by
  intro h r0 x1 x2 x3 H locs ls hR hS hl hf
  obtain ⟨hx, hb, -⟩ := id C0
  unfold f_X5_countCells_b4 at hf
  have h0 : x_by cX5_countCells 4 [29, 42, 180, 0, 19, 4, 46, 163, 0, 59] := by unfold x_by; decide +kernel
  obtain ⟨d4, h0⟩ := de_iload_n3 h0
  obtain ⟨d5, h0⟩ := de_aload_n0 h0
  obtain ⟨d6, h0⟩ := de_getfield 19 (by decide) h0
  obtain ⟨d9, h0⟩ := de_iconst_1 h0
  obtain ⟨d10, h0⟩ := de_iaload h0
  obtain ⟨d11, h0⟩ := de_icmp_gt (59) (by decide) h0
  refine lv_iload_n hx hb d4 rfl (lv_at hl 3 rfl) ?_
  refine lv_aload_n hx hb d5 rfl (lv_at hl 0 rfl) ?_
  refine x_getR C0 hR hf xcl_5 (Nat.le_of_ble_eq_true rfl) rfl fl_X5_19 d6 (fun a1 hf => ?_)
  refine lv_iconst (v := 1) hx hb d9 (by decide) ?_
  refine x_iald C0 hR hf d10 (fun i2 hf => ?_)
  refine lv_icmp_gt (tgt := 70) hx hb d11 (by decide) (fun q => ?_) (fun q => ?_)
  · have hf := x_pos q hf
    have h0 : x_by cX5_countCells 70 [28, 172] := by unfold x_by; decide +kernel
    obtain ⟨d70, h0⟩ := de_iload_n2 h0
    obtain ⟨d71, h0⟩ := de_ireturn h0
    refine lv_iload_n hx hb d70 rfl (lv_at hl 2 rfl) ?_
    exact x_iret C0 hR hS hf (Nat.le_of_ble_eq_true rfl) (Nat.le_of_ble_eq_true rfl) d71
  · have hf := x_neg q hf
    have h0 : x_by cX5_countCells 14 [4, 54, 4] := by unfold x_by; decide +kernel
    obtain ⟨d14, h0⟩ := de_iconst_1 h0
    obtain ⟨d15, h0⟩ := de_istore h0
    refine lv_iconst (v := 1) hx hb d14 (by decide) ?_
    refine lv_istore (lv' := [(4, .int 1), (0, .ref (xa E r0)), (1, .int x1), (2, .int x2), (3, .int x3)]) hx hb d15 hl (by decide) rfl (fun ls hl => ?_)
    exact s_X5_countCells_L17 C0 hxt hk4 FU _ _ _ _ _ _ _ _ _ hR hS (lv_sub hl [1, 2, 3, 4, 0] rfl) hf
theorem s_X5_countCells_L4 {p : Program} {l : Launch} {e : Env} {s : State} {m : MethodId} {args : Array Value} {below : List Frame} {meth : Method} {c : Code} {E : XE} {z : XR} (C0 : x_C E p l s m meth c args cX5_countCells 6 "GridEngine$Placement" "countCells" (some .int)) (hxt : ∀ x ∈ c.exceptionTable.toList, False)  : ∀ n : Nat, ∀ (h : HP) (r0 : Nat) (x1 : Int32) (x2 : Int32) (x3 : Int32) (H : Heap) (locs : List Loc) (ls : Array Slot), x_Rep E h H → va_S (x_A E) s.heap H locs → lv_has ls 6 [(0, .ref (xa E r0)), (1, .int x1), (2, .int x2), (3, .int x3)] → f_X5_countCells_L4 n h r0 x1 x2 x3 = some z → W p l e ({ frames := 13, cells := 0, slots := 0, locals := 246 } : Room) s m args below meth c H locs 0 0 (x_Q E below args s 0 0 z) (F0 m 4 ls []) := by
  intro n
  induction n with
  | zero => intro h r0 x1 x2 x3 H locs ls hR hS hl hf; cases (show (none : Option XR) = some z from hf)
  | succ n ih => intro h r0 x1 x2 x3 H locs ls hR hS hl hf; exact s_X5_countCells_b4 C0 hxt ih h r0 x1 x2 x3 H locs ls hR hS hl (show f_X5_countCells_b4 (f_X5_countCells_L4 n) h r0 x1 x2 x3 = some z from hf)
set_option maxRecDepth 100000 in
set_option maxHeartbeats 4000000 in
theorem ct_X5_countCells (E : XE) (l : Launch) (hl0 : l.stackTraces = false) (h : HP) (r0 : Nat) (x1 : Int32) : x_ct E l yX5_countCells (Cond.code yX5_countCells cX5_countCells 6 (some .int)) 13 246 0 0 [.ref (xa E r0), .int x1] h (f_X5_countCells h r0 x1) := by
  refine x_ofW hl0 (by decide +kernel) ?_
  intro z hf p e s m args below meth c C0 hxt hargs hR
  subst hargs
  have C0 : x_C E p l s m meth c ([.ref (xa E r0), .int x1] : List Value).toArray cX5_countCells 6 "GridEngine$Placement" "countCells" (some .int) := C0
  obtain ⟨hx, hb, -⟩ := id C0
  have hS : va_S (x_A E) s.heap s.heap [] := va_S.rf
  have hl := lv_entry ([.ref (xa E r0), .int x1]) (n := 6) (Nat.le_of_ble_eq_true rfl)
  rw [lg_entry_eq]
  generalize (lg_sl ([.ref (xa E r0), .int x1]) ++ List.replicate (6 - (lg_sl ([.ref (xa E r0), .int x1])).length) Slot.unset).toArray = ls at hl ⊢
  have hl : lv_has ls 6 [(0, .ref (xa E r0)), (1, .int x1)] := hl
  unfold f_X5_countCells at hf
  have h0 : x_by cX5_countCells 0 [3, 61, 4, 62] := by unfold x_by; decide +kernel
  obtain ⟨d0, h0⟩ := de_iconst_0 h0
  obtain ⟨d1, h0⟩ := de_istore_n2 h0
  obtain ⟨d2, h0⟩ := de_iconst_1 h0
  obtain ⟨d3, h0⟩ := de_istore_n3 h0
  refine lv_iconst (v := 0) hx hb d0 (by decide) ?_
  refine lv_istore_n (lv' := [(2, .int 0), (0, .ref (xa E r0)), (1, .int x1)]) hx hb d1 rfl hl (by decide) rfl (fun ls hl => ?_)
  refine lv_iconst (v := 1) hx hb d2 (by decide) ?_
  refine lv_istore_n (lv' := [(3, .int 1), (2, .int 0), (0, .ref (xa E r0)), (1, .int x1)]) hx hb d3 rfl hl (by decide) rfl (fun ls hl => ?_)
  exact s_X5_countCells_L4 C0 hxt FU _ _ _ _ _ _ _ _ hR hS (lv_sub hl [2, 3, 1, 0] rfl) hf

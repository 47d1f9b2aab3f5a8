def f_X0_init (h : HP) (r0 : Nat) (x1 : Int32) (r2 : Nat) (r3 : Nat) : Option XR :=
  x_na h 2 65 fun h2 a1 =>
  x_pR h2 r0 0 3 a1 fun h3 =>
  x_na h3 0 65 fun h5 a4 =>
  x_pR h5 r0 0 4 a4 fun h6 =>
  x_na h6 0 65 fun h8 a7 =>
  x_pR h8 r0 0 5 a7 fun h9 =>
  x_na h9 0 65 fun h11 a10 =>
  x_pR h11 r0 0 6 a10 fun h12 =>
  x_na h12 0 65 fun h14 a13 =>
  x_pR h14 r0 0 7 a13 fun h15 =>
  x_na h15 0 65 fun h17 a16 =>
  x_pR h17 r0 0 8 a16 fun h18 =>
  x_na h18 0 65 fun h20 a19 =>
  x_pR h20 r0 0 9 a19 fun h21 =>
  x_pI h21 r0 0 10 0 fun h22 =>
  x_pI h22 r0 0 11 0 fun h23 =>
  x_pI h23 r0 0 12 0 fun h24 =>
  x_pI h24 r0 0 13 0 fun h25 =>
  x_pI h25 r0 0 14 (-1) fun h26 =>
  x_pI h26 r0 0 15 0 fun h27 =>
  x_pI h27 r0 0 0 x1 fun h28 =>
  x_pR h28 r0 0 1 r2 fun h29 =>
  x_pR h29 r0 0 2 r3 fun h30 =>
  some (h30, xv)
set_option maxRecDepth 100000 in
set_option maxHeartbeats 4000000 in
theorem ct_X0_init (E : XE) (l : Launch) (hl0 : l.stackTraces = false) (h : HP) (r0 : Nat) (x1 : Int32) (r2 : Nat) (r3 : Nat) : x_ct E l yX0_init (Cond.code yX0_init cX0_init 4 none) 8 130 7 455 [.ref (xa E r0), .int x1, .ref (xa E r2), .ref (xa E r3)] h (f_X0_init h r0 x1 r2 r3) := by
  refine x_ofW hl0 (by decide +kernel) ?_
  intro z hf p e s m args below meth c C0 hxt hargs hR
  subst hargs
  have C0 : x_C E p l s m meth c ([.ref (xa E r0), .int x1, .ref (xa E r2), .ref (xa E r3)] : List Value).toArray cX0_init 4 "GridEngine$AxisLayout" "<init>" none := C0
  obtain ⟨hx, hb, -⟩ := id C0
  have hS : va_S (x_A E) s.heap s.heap [] := va_S.rf
  have hl := lv_entry ([.ref (xa E r0), .int x1, .ref (xa E r2), .ref (xa E r3)]) (n := 4) (Nat.le_of_ble_eq_true rfl)
  rw [lg_entry_eq]
  generalize (lg_sl ([.ref (xa E r0), .int x1, .ref (xa E r2), .ref (xa E r3)]) ++ List.replicate (4 - (lg_sl ([.ref (xa E r0), .int x1, .ref (xa E r2), .ref (xa E r3)])).length) Slot.unset).toArray = ls at hl ⊢
  have hl : lv_has ls 4 [(0, .ref (xa E r0)), (1, .int x1), (2, .ref (xa E r2)), (3, .ref (xa E r3))] := hl
  unfold f_X0_init at hf
  have h0 : x_by cX0_init 0 [42, 183, 0, 3, 42, 16, 65, 188, 4, 181, 0, 9, 42, 16, 65, 188, 10, 181, 0, 15, 42, 16, 65, 188, 10, 181, 0, 19, 42, 16, 65, 188, 10, 181, 0, 22, 42, 16, 65, 188, 10, 181, 0, 25, 42, 16, 65, 188, 10, 181, 0, 28, 42, 16, 65, 188, 10, 181, 0, 31, 42, 3, 181, 0, 34, 42, 3, 181, 0, 38, 42, 3, 181, 0, 41, 42, 3, 181, 0, 44, 42, 2, 181, 0, 47, 42, 3, 181, 0, 50, 42, 27, 181, 0, 53, 42, 44, 181, 0, 56, 42, 45, 181, 0, 60, 177] := by unfold x_by; decide +kernel
  obtain ⟨d0, h0⟩ := de_aload_n0 h0
  obtain ⟨d1, h0⟩ := de_invokespecial 3 (by decide) h0
  obtain ⟨d4, h0⟩ := de_aload_n0 h0
  obtain ⟨d5, h0⟩ := de_bipush (65) (by decide) h0
  obtain ⟨d7, h0⟩ := de_newarray_boolean h0
  obtain ⟨d9, h0⟩ := de_putfield 9 (by decide) h0
  obtain ⟨d12, h0⟩ := de_aload_n0 h0
  obtain ⟨d13, h0⟩ := de_bipush (65) (by decide) h0
  obtain ⟨d15, h0⟩ := de_newarray_int h0
  obtain ⟨d17, h0⟩ := de_putfield 15 (by decide) h0
  obtain ⟨d20, h0⟩ := de_aload_n0 h0
  obtain ⟨d21, h0⟩ := de_bipush (65) (by decide) h0
  obtain ⟨d23, h0⟩ := de_newarray_int h0
  obtain ⟨d25, h0⟩ := de_putfield 19 (by decide) h0
  obtain ⟨d28, h0⟩ := de_aload_n0 h0
  obtain ⟨d29, h0⟩ := de_bipush (65) (by decide) h0
  obtain ⟨d31, h0⟩ := de_newarray_int h0
  obtain ⟨d33, h0⟩ := de_putfield 22 (by decide) h0
  obtain ⟨d36, h0⟩ := de_aload_n0 h0
  obtain ⟨d37, h0⟩ := de_bipush (65) (by decide) h0
  obtain ⟨d39, h0⟩ := de_newarray_int h0
  obtain ⟨d41, h0⟩ := de_putfield 25 (by decide) h0
  obtain ⟨d44, h0⟩ := de_aload_n0 h0
  obtain ⟨d45, h0⟩ := de_bipush (65) (by decide) h0
  obtain ⟨d47, h0⟩ := de_newarray_int h0
  obtain ⟨d49, h0⟩ := de_putfield 28 (by decide) h0
  obtain ⟨d52, h0⟩ := de_aload_n0 h0
  obtain ⟨d53, h0⟩ := de_bipush (65) (by decide) h0
  obtain ⟨d55, h0⟩ := de_newarray_int h0
  obtain ⟨d57, h0⟩ := de_putfield 31 (by decide) h0
  obtain ⟨d60, h0⟩ := de_aload_n0 h0
  obtain ⟨d61, h0⟩ := de_iconst_0 h0
  obtain ⟨d62, h0⟩ := de_putfield 34 (by decide) h0
  obtain ⟨d65, h0⟩ := de_aload_n0 h0
  obtain ⟨d66, h0⟩ := de_iconst_0 h0
  obtain ⟨d67, h0⟩ := de_putfield 38 (by decide) h0
  obtain ⟨d70, h0⟩ := de_aload_n0 h0
  obtain ⟨d71, h0⟩ := de_iconst_0 h0
  obtain ⟨d72, h0⟩ := de_putfield 41 (by decide) h0
  obtain ⟨d75, h0⟩ := de_aload_n0 h0
  obtain ⟨d76, h0⟩ := de_iconst_0 h0
  obtain ⟨d77, h0⟩ := de_putfield 44 (by decide) h0
  obtain ⟨d80, h0⟩ := de_aload_n0 h0
  obtain ⟨d81, h0⟩ := de_iconst_m1 h0
  obtain ⟨d82, h0⟩ := de_putfield 47 (by decide) h0
  obtain ⟨d85, h0⟩ := de_aload_n0 h0
  obtain ⟨d86, h0⟩ := de_iconst_0 h0
  obtain ⟨d87, h0⟩ := de_putfield 50 (by decide) h0
  obtain ⟨d90, h0⟩ := de_aload_n0 h0
  obtain ⟨d91, h0⟩ := de_iload_n1 h0
  obtain ⟨d92, h0⟩ := de_putfield 53 (by decide) h0
  obtain ⟨d95, h0⟩ := de_aload_n0 h0
  obtain ⟨d96, h0⟩ := de_aload_n2 h0
  obtain ⟨d97, h0⟩ := de_putfield 56 (by decide) h0
  obtain ⟨d100, h0⟩ := de_aload_n0 h0
  obtain ⟨d101, h0⟩ := de_aload_n3 h0
  obtain ⟨d102, h0⟩ := de_putfield 60 (by decide) h0
  obtain ⟨d105, h0⟩ := de_return h0
  refine lv_aload_n hx hb d0 rfl (lv_at hl 0 rfl) ?_
  refine x_oinit C0 hl.1 ml_X0_3 lib_oinit (Nat.le_of_ble_eq_true rfl) (Nat.le_of_ble_eq_true rfl) d1 ?_
  refine lv_aload_n hx hb d4 rfl (lv_at hl 0 rfl) ?_
  refine lv_bipush (v := 65) hx hb d5 (by decide) ?_
  refine x_newa (t := 2) C0 hR hS hf rfl (by decide) ac_2 (N := 65) (by decide) (Nat.le_of_ble_eq_true rfl) (Nat.le_of_ble_eq_true rfl) d7 (fun H a1 hR hS hf => ?_)
  refine x_putR C0 hR hS hf xcl_0 (Nat.le_of_ble_eq_true rfl) rfl fl_X0_9 (Or.inr ⟨rfl, rfl, fm_X0_9⟩) d9 (fun H locs hR hS hf => ?_)
  refine lv_aload_n hx hb d12 rfl (lv_at hl 0 rfl) ?_
  refine lv_bipush (v := 65) hx hb d13 (by decide) ?_
  refine x_newa (t := 0) C0 hR hS hf rfl (by decide) ac_0 (N := 65) (by decide) (Nat.le_of_ble_eq_true rfl) (Nat.le_of_ble_eq_true rfl) d15 (fun H a4 hR hS hf => ?_)
  refine x_putR C0 hR hS hf xcl_0 (Nat.le_of_ble_eq_true rfl) rfl fl_X0_15 (Or.inr ⟨rfl, rfl, fm_X0_15⟩) d17 (fun H locs hR hS hf => ?_)
  refine lv_aload_n hx hb d20 rfl (lv_at hl 0 rfl) ?_
  refine lv_bipush (v := 65) hx hb d21 (by decide) ?_
  refine x_newa (t := 0) C0 hR hS hf rfl (by decide) ac_0 (N := 65) (by decide) (Nat.le_of_ble_eq_true rfl) (Nat.le_of_ble_eq_true rfl) d23 (fun H a7 hR hS hf => ?_)
  refine x_putR C0 hR hS hf xcl_0 (Nat.le_of_ble_eq_true rfl) rfl fl_X0_19 (Or.inr ⟨rfl, rfl, fm_X0_19⟩) d25 (fun H locs hR hS hf => ?_)
  refine lv_aload_n hx hb d28 rfl (lv_at hl 0 rfl) ?_
  refine lv_bipush (v := 65) hx hb d29 (by decide) ?_
  refine x_newa (t := 0) C0 hR hS hf rfl (by decide) ac_0 (N := 65) (by decide) (Nat.le_of_ble_eq_true rfl) (Nat.le_of_ble_eq_true rfl) d31 (fun H a10 hR hS hf => ?_)
  refine x_putR C0 hR hS hf xcl_0 (Nat.le_of_ble_eq_true rfl) rfl fl_X0_22 (Or.inr ⟨rfl, rfl, fm_X0_22⟩) d33 (fun H locs hR hS hf => ?_)
  refine lv_aload_n hx hb d36 rfl (lv_at hl 0 rfl) ?_
  refine lv_bipush (v := 65) hx hb d37 (by decide) ?_
  refine x_newa (t := 0) C0 hR hS hf rfl (by decide) ac_0 (N := 65) (by decide) (Nat.le_of_ble_eq_true rfl) (Nat.le_of_ble_eq_true rfl) d39 (fun H a13 hR hS hf => ?_)
  refine x_putR C0 hR hS hf xcl_0 (Nat.le_of_ble_eq_true rfl) rfl fl_X0_25 (Or.inr ⟨rfl, rfl, fm_X0_25⟩) d41 (fun H locs hR hS hf => ?_)
  refine lv_aload_n hx hb d44 rfl (lv_at hl 0 rfl) ?_
  refine lv_bipush (v := 65) hx hb d45 (by decide) ?_
  refine x_newa (t := 0) C0 hR hS hf rfl (by decide) ac_0 (N := 65) (by decide) (Nat.le_of_ble_eq_true rfl) (Nat.le_of_ble_eq_true rfl) d47 (fun H a16 hR hS hf => ?_)
  refine x_putR C0 hR hS hf xcl_0 (Nat.le_of_ble_eq_true rfl) rfl fl_X0_28 (Or.inr ⟨rfl, rfl, fm_X0_28⟩) d49 (fun H locs hR hS hf => ?_)
  refine lv_aload_n hx hb d52 rfl (lv_at hl 0 rfl) ?_
  refine lv_bipush (v := 65) hx hb d53 (by decide) ?_
  refine x_newa (t := 0) C0 hR hS hf rfl (by decide) ac_0 (N := 65) (by decide) (Nat.le_of_ble_eq_true rfl) (Nat.le_of_ble_eq_true rfl) d55 (fun H a19 hR hS hf => ?_)
  refine x_putR C0 hR hS hf xcl_0 (Nat.le_of_ble_eq_true rfl) rfl fl_X0_31 (Or.inr ⟨rfl, rfl, fm_X0_31⟩) d57 (fun H locs hR hS hf => ?_)
  refine lv_aload_n hx hb d60 rfl (lv_at hl 0 rfl) ?_
  refine lv_iconst (v := 0) hx hb d61 (by decide) ?_
  refine x_putI C0 hR hS hf xcl_0 (Nat.le_of_ble_eq_true rfl) rfl fl_X0_34 (Or.inl rfl) d62 (fun H locs hR hS hf => ?_)
  refine lv_aload_n hx hb d65 rfl (lv_at hl 0 rfl) ?_
  refine lv_iconst (v := 0) hx hb d66 (by decide) ?_
  refine x_putI C0 hR hS hf xcl_0 (Nat.le_of_ble_eq_true rfl) rfl fl_X0_38 (Or.inl rfl) d67 (fun H locs hR hS hf => ?_)
  refine lv_aload_n hx hb d70 rfl (lv_at hl 0 rfl) ?_
  refine lv_iconst (v := 0) hx hb d71 (by decide) ?_
  refine x_putI C0 hR hS hf xcl_0 (Nat.le_of_ble_eq_true rfl) rfl fl_X0_41 (Or.inl rfl) d72 (fun H locs hR hS hf => ?_)
  refine lv_aload_n hx hb d75 rfl (lv_at hl 0 rfl) ?_
  refine lv_iconst (v := 0) hx hb d76 (by decide) ?_
  refine x_putI C0 hR hS hf xcl_0 (Nat.le_of_ble_eq_true rfl) rfl fl_X0_44 (Or.inl rfl) d77 (fun H locs hR hS hf => ?_)
  refine lv_aload_n hx hb d80 rfl (lv_at hl 0 rfl) ?_
  refine lv_iconst (v := -1) hx hb d81 (by decide) ?_
  refine x_putI C0 hR hS hf xcl_0 (Nat.le_of_ble_eq_true rfl) rfl fl_X0_47 (Or.inl rfl) d82 (fun H locs hR hS hf => ?_)
  refine lv_aload_n hx hb d85 rfl (lv_at hl 0 rfl) ?_
  refine lv_iconst (v := 0) hx hb d86 (by decide) ?_
  refine x_putI C0 hR hS hf xcl_0 (Nat.le_of_ble_eq_true rfl) rfl fl_X0_50 (Or.inl rfl) d87 (fun H locs hR hS hf => ?_)
  refine lv_aload_n hx hb d90 rfl (lv_at hl 0 rfl) ?_
  refine lv_iload_n hx hb d91 rfl (lv_at hl 1 rfl) ?_
  refine x_putI C0 hR hS hf xcl_0 (Nat.le_of_ble_eq_true rfl) rfl fl_X0_53 (Or.inr ⟨rfl, rfl, fm_X0_53⟩) d92 (fun H locs hR hS hf => ?_)
  refine lv_aload_n hx hb d95 rfl (lv_at hl 0 rfl) ?_
  refine lv_aload_n hx hb d96 rfl (lv_at hl 2 rfl) ?_
  refine x_putR C0 hR hS hf xcl_0 (Nat.le_of_ble_eq_true rfl) rfl fl_X0_56 (Or.inr ⟨rfl, rfl, fm_X0_56⟩) d97 (fun H locs hR hS hf => ?_)
  refine lv_aload_n hx hb d100 rfl (lv_at hl 0 rfl) ?_
  refine lv_aload_n hx hb d101 rfl (lv_at hl 3 rfl) ?_
  refine x_putR C0 hR hS hf xcl_0 (Nat.le_of_ble_eq_true rfl) rfl fl_X0_60 (Or.inr ⟨rfl, rfl, fm_X0_60⟩) d102 (fun H locs hR hS hf => ?_)
  exact x_vret C0 hR hS hf (Nat.le_of_ble_eq_true rfl) (Nat.le_of_ble_eq_true rfl) d105
def f_X0_part (h : HP) (r0 : Nat) (x1 : Int32) (x2 : Int32) : Option XR :=
  x_gR h r0 0 1 fun a1 =>
  x_gI h r0 0 0 fun i2 =>
  x_rc h a1 4 <| x_cI (f_X4_trackPart h a1 i2 x1 x2) fun h4 i3 =>
  some (h4, xi i3)
set_option maxRecDepth 100000 in
set_option maxHeartbeats 4000000 in
theorem ct_X0_part (E : XE) (l : Launch) (hl0 : l.stackTraces = false) (h : HP) (r0 : Nat) (x1 : Int32) (x2 : Int32) : x_ct E l yX0_part (Cond.code yX0_part cX0_part 3 (some .int)) 9 155 0 0 [.ref (xa E r0), .int x1, .int x2] h (f_X0_part h r0 x1 x2) := by
  refine x_ofW hl0 (by decide +kernel) ?_
  intro z hf p e s m args below meth c C0 hxt hargs hR
  subst hargs
  have C0 : x_C E p l s m meth c ([.ref (xa E r0), .int x1, .int x2] : List Value).toArray cX0_part 3 "GridEngine$AxisLayout" "part" (some .int) := C0
  obtain ⟨hx, hb, -⟩ := id C0
  have hS : va_S (x_A E) s.heap s.heap [] := va_S.rf
  have hl := lv_entry ([.ref (xa E r0), .int x1, .int x2]) (n := 3) (Nat.le_of_ble_eq_true rfl)
  rw [lg_entry_eq]
  generalize (lg_sl ([.ref (xa E r0), .int x1, .int x2]) ++ List.replicate (3 - (lg_sl ([.ref (xa E r0), .int x1, .int x2])).length) Slot.unset).toArray = ls at hl ⊢
  have hl : lv_has ls 3 [(0, .ref (xa E r0)), (1, .int x1), (2, .int x2)] := hl
  unfold f_X0_part at hf
  have h0 : x_by cX0_part 0 [42, 180, 0, 56, 42, 180, 0, 53, 27, 28, 182, 0, 64, 172] := by unfold x_by; decide +kernel
  obtain ⟨d0, h0⟩ := de_aload_n0 h0
  obtain ⟨d1, h0⟩ := de_getfield 56 (by decide) h0
  obtain ⟨d4, h0⟩ := de_aload_n0 h0
  obtain ⟨d5, h0⟩ := de_getfield 53 (by decide) h0
  obtain ⟨d8, h0⟩ := de_iload_n1 h0
  obtain ⟨d9, h0⟩ := de_iload_n2 h0
  obtain ⟨d10, h0⟩ := de_invokevirtual 64 (by decide) h0
  obtain ⟨d13, h0⟩ := de_ireturn h0
  refine lv_aload_n hx hb d0 rfl (lv_at hl 0 rfl) ?_
  refine x_getR C0 hR hf xcl_0 (Nat.le_of_ble_eq_true rfl) rfl fl_X0_56 d1 (fun a1 hf => ?_)
  refine lv_aload_n hx hb d4 rfl (lv_at hl 0 rfl) ?_
  refine x_getI C0 hR hf xcl_0 (Nat.le_of_ble_eq_true rfl) rfl fl_X0_53 d5 (fun i2 hf => ?_)
  refine lv_iload_n hx hb d8 rfl (lv_at hl 1 rfl) ?_
  refine lv_iload_n hx hb d9 rfl (lv_at hl 2 rfl) ?_
  obtain ⟨hs9, hf⟩ := x_if hf
  refine x_thenI C0 hxt hS hf (fun z0 e0 => x_runV C0 hR hS me_X4_trackPart wi_X4_trackPart wl_X4_trackPart ml_X0_64 hs9 xcl_4 (As := [.int i2, .int x1, .int x2]) (ct_X4_trackPart E l C0.2.2.2.2.2.2.2.1 _ a1 i2 x1 x2) rfl rfl hl.1 (Nat.le_of_ble_eq_true rfl) d10 ⟨(Nat.le_of_ble_eq_true rfl), (Nat.le_of_ble_eq_true rfl)⟩ ⟨(Nat.le_of_ble_eq_true rfl), (Nat.le_of_ble_eq_true rfl)⟩ e0) (Nat.le_of_ble_eq_true rfl) (Nat.le_of_ble_eq_true rfl) (fun h9 i3 H locs hR hS hf => ?_)
  exact x_iret C0 hR hS hf (Nat.le_of_ble_eq_true rfl) (Nat.le_of_ble_eq_true rfl) d13
def f_X0_itemCount (h : HP) (r0 : Nat) : Option XR :=
  x_gR h r0 0 1 fun a1 =>
  x_gI h a1 4 4 fun i2 =>
  some (h, xi i2)
set_option maxRecDepth 100000 in
set_option maxHeartbeats 4000000 in
theorem ct_X0_itemCount (E : XE) (l : Launch) (hl0 : l.stackTraces = false) (h : HP) (r0 : Nat) : x_ct E l yX0_itemCount (Cond.code yX0_itemCount cX0_itemCount 1 (some .int)) 8 130 0 0 [.ref (xa E r0)] h (f_X0_itemCount h r0) := by
  refine x_ofW hl0 (by decide +kernel) ?_
  intro z hf p e s m args below meth c C0 hxt hargs hR
  subst hargs
  have C0 : x_C E p l s m meth c ([.ref (xa E r0)] : List Value).toArray cX0_itemCount 1 "GridEngine$AxisLayout" "itemCount" (some .int) := C0
  obtain ⟨hx, hb, -⟩ := id C0
  have hS : va_S (x_A E) s.heap s.heap [] := va_S.rf
  have hl := lv_entry ([.ref (xa E r0)]) (n := 1) (Nat.le_of_ble_eq_true rfl)
  rw [lg_entry_eq]
  generalize (lg_sl ([.ref (xa E r0)]) ++ List.replicate (1 - (lg_sl ([.ref (xa E r0)])).length) Slot.unset).toArray = ls at hl ⊢
  have hl : lv_has ls 1 [(0, .ref (xa E r0))] := hl
  unfold f_X0_itemCount at hf
  have h0 : x_by cX0_itemCount 0 [42, 180, 0, 56, 180, 0, 70, 172] := by unfold x_by; decide +kernel
  obtain ⟨d0, h0⟩ := de_aload_n0 h0
  obtain ⟨d1, h0⟩ := de_getfield 56 (by decide) h0
  obtain ⟨d4, h0⟩ := de_getfield 70 (by decide) h0
  obtain ⟨d7, h0⟩ := de_ireturn h0
  refine lv_aload_n hx hb d0 rfl (lv_at hl 0 rfl) ?_
  refine x_getR C0 hR hf xcl_0 (Nat.le_of_ble_eq_true rfl) rfl fl_X0_56 d1 (fun a1 hf => ?_)
  refine x_getI C0 hR hf xcl_4 (Nat.le_of_ble_eq_true rfl) rfl fl_X0_70 d4 (fun i2 hf => ?_)
  exact x_iret C0 hR hS hf (Nat.le_of_ble_eq_true rfl) (Nat.le_of_ble_eq_true rfl) d7
def f_X0_itemField (h : HP) (r0 : Nat) (x1 : Int32) (x2 : Int32) : Option XR :=
  x_gR h r0 0 1 fun a1 =>
  x_gI h r0 0 0 fun i2 =>
  x_rc h a1 4 <| x_cI (f_X4_itemField h a1 x1 i2 x2) fun h4 i3 =>
  some (h4, xi i3)
set_option maxRecDepth 100000 in
set_option maxHeartbeats 4000000 in
theorem ct_X0_itemField (E : XE) (l : Launch) (hl0 : l.stackTraces = false) (h : HP) (r0 : Nat) (x1 : Int32) (x2 : Int32) : x_ct E l yX0_itemField (Cond.code yX0_itemField cX0_itemField 3 (some .int)) 9 154 0 0 [.ref (xa E r0), .int x1, .int x2] h (f_X0_itemField h r0 x1 x2) := by
  refine x_ofW hl0 (by decide +kernel) ?_
  intro z hf p e s m args below meth c C0 hxt hargs hR
  subst hargs
  have C0 : x_C E p l s m meth c ([.ref (xa E r0), .int x1, .int x2] : List Value).toArray cX0_itemField 3 "GridEngine$AxisLayout" "itemField" (some .int) := C0
  obtain ⟨hx, hb, -⟩ := id C0
  have hS : va_S (x_A E) s.heap s.heap [] := va_S.rf
  have hl := lv_entry ([.ref (xa E r0), .int x1, .int x2]) (n := 3) (Nat.le_of_ble_eq_true rfl)
  rw [lg_entry_eq]
  generalize (lg_sl ([.ref (xa E r0), .int x1, .int x2]) ++ List.replicate (3 - (lg_sl ([.ref (xa E r0), .int x1, .int x2])).length) Slot.unset).toArray = ls at hl ⊢
  have hl : lv_has ls 3 [(0, .ref (xa E r0)), (1, .int x1), (2, .int x2)] := hl
  unfold f_X0_itemField at hf
  have h0 : x_by cX0_itemField 0 [42, 180, 0, 56, 27, 42, 180, 0, 53, 28, 182, 0, 73, 172] := by unfold x_by; decide +kernel
  obtain ⟨d0, h0⟩ := de_aload_n0 h0
  obtain ⟨d1, h0⟩ := de_getfield 56 (by decide) h0
  obtain ⟨d4, h0⟩ := de_iload_n1 h0
  obtain ⟨d5, h0⟩ := de_aload_n0 h0
  obtain ⟨d6, h0⟩ := de_getfield 53 (by decide) h0
  obtain ⟨d9, h0⟩ := de_iload_n2 h0
  obtain ⟨d10, h0⟩ := de_invokevirtual 73 (by decide) h0
  obtain ⟨d13, h0⟩ := de_ireturn h0
  refine lv_aload_n hx hb d0 rfl (lv_at hl 0 rfl) ?_
  refine x_getR C0 hR hf xcl_0 (Nat.le_of_ble_eq_true rfl) rfl fl_X0_56 d1 (fun a1 hf => ?_)
  refine lv_iload_n hx hb d4 rfl (lv_at hl 1 rfl) ?_
  refine lv_aload_n hx hb d5 rfl (lv_at hl 0 rfl) ?_
  refine x_getI C0 hR hf xcl_0 (Nat.le_of_ble_eq_true rfl) rfl fl_X0_53 d6 (fun i2 hf => ?_)
  refine lv_iload_n hx hb d9 rfl (lv_at hl 2 rfl) ?_
  obtain ⟨hs9, hf⟩ := x_if hf
  refine x_thenI C0 hxt hS hf (fun z0 e0 => x_runV C0 hR hS me_X4_itemField wi_X4_itemField wl_X4_itemField ml_X0_73 hs9 xcl_4 (As := [.int x1, .int i2, .int x2]) (ct_X4_itemField E l C0.2.2.2.2.2.2.2.1 _ a1 x1 i2 x2) rfl rfl hl.1 (Nat.le_of_ble_eq_true rfl) d10 ⟨(Nat.le_of_ble_eq_true rfl), (Nat.le_of_ble_eq_true rfl)⟩ ⟨(Nat.le_of_ble_eq_true rfl), (Nat.le_of_ble_eq_true rfl)⟩ e0) (Nat.le_of_ble_eq_true rfl) (Nat.le_of_ble_eq_true rfl) (fun h9 i3 H locs hR hS hf => ?_)
  exact x_iret C0 hR hS hf (Nat.le_of_ble_eq_true rfl) (Nat.le_of_ble_eq_true rfl) d13
def f_X0_firstTrack (h : HP) (r0 : Nat) (x1 : Int32) : Option XR :=
  x_gR h r0 0 2 fun a1 =>
  x_gI h r0 0 0 fun i2 =>
  x_rc h a1 5 <| x_cI (f_X5_firstTrack h a1 x1 i2) fun h4 i3 =>
  some (h4, xi (if 1 < i3 then i3 else 1))
set_option maxRecDepth 100000 in
set_option maxHeartbeats 4000000 in
theorem ct_X0_firstTrack (E : XE) (l : Launch) (hl0 : l.stackTraces = false) (h : HP) (r0 : Nat) (x1 : Int32) : x_ct E l yX0_firstTrack (Cond.code yX0_firstTrack cX0_firstTrack 2 (some .int)) 9 153 0 0 [.ref (xa E r0), .int x1] h (f_X0_firstTrack h r0 x1) := by
  refine x_ofW hl0 (by decide +kernel) ?_
  intro z hf p e s m args below meth c C0 hxt hargs hR
  subst hargs
  have C0 : x_C E p l s m meth c ([.ref (xa E r0), .int x1] : List Value).toArray cX0_firstTrack 2 "GridEngine$AxisLayout" "firstTrack" (some .int) := C0
  obtain ⟨hx, hb, -⟩ := id C0
  have hS : va_S (x_A E) s.heap s.heap [] := va_S.rf
  have hl := lv_entry ([.ref (xa E r0), .int x1]) (n := 2) (Nat.le_of_ble_eq_true rfl)
  rw [lg_entry_eq]
  generalize (lg_sl ([.ref (xa E r0), .int x1]) ++ List.replicate (2 - (lg_sl ([.ref (xa E r0), .int x1])).length) Slot.unset).toArray = ls at hl ⊢
  have hl : lv_has ls 2 [(0, .ref (xa E r0)), (1, .int x1)] := hl
  unfold f_X0_firstTrack at hf
  have h0 : x_by cX0_firstTrack 0 [4, 42, 180, 0, 60, 27, 42, 180, 0, 53, 182, 0, 76, 184, 0, 82, 172] := by unfold x_by; decide +kernel
  obtain ⟨d0, h0⟩ := de_iconst_1 h0
  obtain ⟨d1, h0⟩ := de_aload_n0 h0
  obtain ⟨d2, h0⟩ := de_getfield 60 (by decide) h0
  obtain ⟨d5, h0⟩ := de_iload_n1 h0
  obtain ⟨d6, h0⟩ := de_aload_n0 h0
  obtain ⟨d7, h0⟩ := de_getfield 53 (by decide) h0
  obtain ⟨d10, h0⟩ := de_invokevirtual 76 (by decide) h0
  obtain ⟨d13, h0⟩ := de_invokestatic 82 (by decide) h0
  obtain ⟨d16, h0⟩ := de_ireturn h0
  refine lv_iconst (v := 1) hx hb d0 (by decide) ?_
  refine lv_aload_n hx hb d1 rfl (lv_at hl 0 rfl) ?_
  refine x_getR C0 hR hf xcl_0 (Nat.le_of_ble_eq_true rfl) rfl fl_X0_60 d2 (fun a1 hf => ?_)
  refine lv_iload_n hx hb d5 rfl (lv_at hl 1 rfl) ?_
  refine lv_aload_n hx hb d6 rfl (lv_at hl 0 rfl) ?_
  refine x_getI C0 hR hf xcl_0 (Nat.le_of_ble_eq_true rfl) rfl fl_X0_53 d7 (fun i2 hf => ?_)
  obtain ⟨hs9, hf⟩ := x_if hf
  refine x_thenI C0 hxt hS hf (fun z0 e0 => x_runV C0 hR hS me_X5_firstTrack wi_X5_firstTrack wl_X5_firstTrack ml_X0_76 hs9 xcl_5 (As := [.int x1, .int i2]) (ct_X5_firstTrack E l C0.2.2.2.2.2.2.2.1 _ a1 x1 i2) rfl rfl hl.1 (Nat.le_of_ble_eq_true rfl) d10 ⟨(Nat.le_of_ble_eq_true rfl), (Nat.le_of_ble_eq_true rfl)⟩ ⟨(Nat.le_of_ble_eq_true rfl), (Nat.le_of_ble_eq_true rfl)⟩ e0) (Nat.le_of_ble_eq_true rfl) (Nat.le_of_ble_eq_true rfl) (fun h9 i3 H locs hR hS hf => ?_)
  refine x_mmax C0 hl.1 ml_X0_82 lib_max (Nat.le_of_ble_eq_true rfl) (Nat.le_of_ble_eq_true rfl) (Nat.le_of_ble_eq_true rfl) (Nat.le_of_ble_eq_true rfl) d13 ?_
  exact x_iret C0 hR hS hf (Nat.le_of_ble_eq_true rfl) (Nat.le_of_ble_eq_true rfl) d16
def f_X0_lastTrack (h : HP) (r0 : Nat) (x1 : Int32) : Option XR :=
  x_gI h r0 0 10 fun i1 =>
  x_gR h r0 0 2 fun a2 =>
  x_gI h r0 0 0 fun i3 =>
  x_rc h a2 5 <| x_cI (f_X5_lastTrack h a2 x1 i3) fun h5 i4 =>
  some (h5, xi (if i4 < i1 then i4 else i1))
set_option maxRecDepth 100000 in
set_option maxHeartbeats 4000000 in
theorem ct_X0_lastTrack (E : XE) (l : Launch) (hl0 : l.stackTraces = false) (h : HP) (r0 : Nat) (x1 : Int32) : x_ct E l yX0_lastTrack (Cond.code yX0_lastTrack cX0_lastTrack 2 (some .int)) 10 176 0 0 [.ref (xa E r0), .int x1] h (f_X0_lastTrack h r0 x1) := by
  refine x_ofW hl0 (by decide +kernel) ?_
  intro z hf p e s m args below meth c C0 hxt hargs hR
  subst hargs
  have C0 : x_C E p l s m meth c ([.ref (xa E r0), .int x1] : List Value).toArray cX0_lastTrack 2 "GridEngine$AxisLayout" "lastTrack" (some .int) := C0
  obtain ⟨hx, hb, -⟩ := id C0
  have hS : va_S (x_A E) s.heap s.heap [] := va_S.rf
  have hl := lv_entry ([.ref (xa E r0), .int x1]) (n := 2) (Nat.le_of_ble_eq_true rfl)
  rw [lg_entry_eq]
  generalize (lg_sl ([.ref (xa E r0), .int x1]) ++ List.replicate (2 - (lg_sl ([.ref (xa E r0), .int x1])).length) Slot.unset).toArray = ls at hl ⊢
  have hl : lv_has ls 2 [(0, .ref (xa E r0)), (1, .int x1)] := hl
  unfold f_X0_lastTrack at hf
  have h0 : x_by cX0_lastTrack 0 [42, 180, 0, 34, 42, 180, 0, 60, 27, 42, 180, 0, 53, 182, 0, 87, 184, 0, 90, 172] := by unfold x_by; decide +kernel
  obtain ⟨d0, h0⟩ := de_aload_n0 h0
  obtain ⟨d1, h0⟩ := de_getfield 34 (by decide) h0
  obtain ⟨d4, h0⟩ := de_aload_n0 h0
  obtain ⟨d5, h0⟩ := de_getfield 60 (by decide) h0
  obtain ⟨d8, h0⟩ := de_iload_n1 h0
  obtain ⟨d9, h0⟩ := de_aload_n0 h0
  obtain ⟨d10, h0⟩ := de_getfield 53 (by decide) h0
  obtain ⟨d13, h0⟩ := de_invokevirtual 87 (by decide) h0
  obtain ⟨d16, h0⟩ := de_invokestatic 90 (by decide) h0
  obtain ⟨d19, h0⟩ := de_ireturn h0
  refine lv_aload_n hx hb d0 rfl (lv_at hl 0 rfl) ?_
  refine x_getI C0 hR hf xcl_0 (Nat.le_of_ble_eq_true rfl) rfl fl_X0_34 d1 (fun i1 hf => ?_)
  refine lv_aload_n hx hb d4 rfl (lv_at hl 0 rfl) ?_
  refine x_getR C0 hR hf xcl_0 (Nat.le_of_ble_eq_true rfl) rfl fl_X0_60 d5 (fun a2 hf => ?_)
  refine lv_iload_n hx hb d8 rfl (lv_at hl 1 rfl) ?_
  refine lv_aload_n hx hb d9 rfl (lv_at hl 0 rfl) ?_
  refine x_getI C0 hR hf xcl_0 (Nat.le_of_ble_eq_true rfl) rfl fl_X0_53 d10 (fun i3 hf => ?_)
  obtain ⟨hs9, hf⟩ := x_if hf
  refine x_thenI C0 hxt hS hf (fun z0 e0 => x_runV C0 hR hS me_X5_lastTrack wi_X5_lastTrack wl_X5_lastTrack ml_X0_87 hs9 xcl_5 (As := [.int x1, .int i3]) (ct_X5_lastTrack E l C0.2.2.2.2.2.2.2.1 _ a2 x1 i3) rfl rfl hl.1 (Nat.le_of_ble_eq_true rfl) d13 ⟨(Nat.le_of_ble_eq_true rfl), (Nat.le_of_ble_eq_true rfl)⟩ ⟨(Nat.le_of_ble_eq_true rfl), (Nat.le_of_ble_eq_true rfl)⟩ e0) (Nat.le_of_ble_eq_true rfl) (Nat.le_of_ble_eq_true rfl) (fun h9 i4 H locs hR hS hf => ?_)
  refine x_mmin C0 hl.1 ml_X0_90 lib_min (Nat.le_of_ble_eq_true rfl) (Nat.le_of_ble_eq_true rfl) (Nat.le_of_ble_eq_true rfl) (Nat.le_of_ble_eq_true rfl) d16 ?_
  exact x_iret C0 hR hS hf (Nat.le_of_ble_eq_true rfl) (Nat.le_of_ble_eq_true rfl) d19
def f_X0_guttersWithin (h : HP) (r0 : Nat) (x1 : Int32) : Option XR :=
  x_gI h r0 0 12 fun i1 =>
  x_rc h r0 0 <| x_cI (f_X0_itemField h r0 x1 3) fun h3 i2 =>
  some (h3, xi (i1 * (i2 - 1)))
set_option maxRecDepth 100000 in
set_option maxHeartbeats 4000000 in
theorem ct_X0_guttersWithin (E : XE) (l : Launch) (hl0 : l.stackTraces = false) (h : HP) (r0 : Nat) (x1 : Int32) : x_ct E l yX0_guttersWithin (Cond.code yX0_guttersWithin cX0_guttersWithin 2 (some .int)) 10 176 0 0 [.ref (xa E r0), .int x1] h (f_X0_guttersWithin h r0 x1) := by
  refine x_ofW hl0 (by decide +kernel) ?_
  intro z hf p e s m args below meth c C0 hxt hargs hR
  subst hargs
  have C0 : x_C E p l s m meth c ([.ref (xa E r0), .int x1] : List Value).toArray cX0_guttersWithin 2 "GridEngine$AxisLayout" "guttersWithin" (some .int) := C0
  obtain ⟨hx, hb, -⟩ := id C0
  have hS : va_S (x_A E) s.heap s.heap [] := va_S.rf
  have hl := lv_entry ([.ref (xa E r0), .int x1]) (n := 2) (Nat.le_of_ble_eq_true rfl)
  rw [lg_entry_eq]
  generalize (lg_sl ([.ref (xa E r0), .int x1]) ++ List.replicate (2 - (lg_sl ([.ref (xa E r0), .int x1])).length) Slot.unset).toArray = ls at hl ⊢
  have hl : lv_has ls 2 [(0, .ref (xa E r0)), (1, .int x1)] := hl
  unfold f_X0_guttersWithin at hf
  have h0 : x_by cX0_guttersWithin 0 [42, 180, 0, 41, 42, 27, 6, 182, 0, 93, 4, 100, 104, 172] := by unfold x_by; decide +kernel
  obtain ⟨d0, h0⟩ := de_aload_n0 h0
  obtain ⟨d1, h0⟩ := de_getfield 41 (by decide) h0
  obtain ⟨d4, h0⟩ := de_aload_n0 h0
  obtain ⟨d5, h0⟩ := de_iload_n1 h0
  obtain ⟨d6, h0⟩ := de_iconst_3 h0
  obtain ⟨d7, h0⟩ := de_invokevirtual 93 (by decide) h0
  obtain ⟨d10, h0⟩ := de_iconst_1 h0
  obtain ⟨d11, h0⟩ := de_isub h0
  obtain ⟨d12, h0⟩ := de_imul h0
  obtain ⟨d13, h0⟩ := de_ireturn h0
  refine lv_aload_n hx hb d0 rfl (lv_at hl 0 rfl) ?_
  refine x_getI C0 hR hf xcl_0 (Nat.le_of_ble_eq_true rfl) rfl fl_X0_41 d1 (fun i1 hf => ?_)
  refine lv_aload_n hx hb d4 rfl (lv_at hl 0 rfl) ?_
  refine lv_iload_n hx hb d5 rfl (lv_at hl 1 rfl) ?_
  refine lv_iconst (v := 3) hx hb d6 (by decide) ?_
  obtain ⟨hs9, hf⟩ := x_if hf
  refine x_thenI C0 hxt hS hf (fun z0 e0 => x_runV C0 hR hS me_X0_itemField wi_X0_itemField wl_X0_itemField ml_X0_93 hs9 xcl_0 (As := [.int x1, .int 3]) (ct_X0_itemField E l C0.2.2.2.2.2.2.2.1 _ r0 x1 3) rfl rfl hl.1 (Nat.le_of_ble_eq_true rfl) d7 ⟨(Nat.le_of_ble_eq_true rfl), (Nat.le_of_ble_eq_true rfl)⟩ ⟨(Nat.le_of_ble_eq_true rfl), (Nat.le_of_ble_eq_true rfl)⟩ e0) (Nat.le_of_ble_eq_true rfl) (Nat.le_of_ble_eq_true rfl) (fun h9 i2 H locs hR hS hf => ?_)
  refine lv_iconst (v := 1) hx hb d10 (by decide) ?_
  refine lv_isub hx hb d11 ?_
  refine lv_imul hx hb d12 ?_
  exact x_iret C0 hR hS hf (Nat.le_of_ble_eq_true rfl) (Nat.le_of_ble_eq_true rfl) d13
def f_X0_isFlexible_b15  (h : HP) (t0 : Int32) : Option XR :=
  x_rZ h t0
def f_X0_isFlexible (h : HP) (r0 : Nat) (x1 : Int32) : Option XR :=
  x_rc h r0 0 <| x_cI (f_X0_part h r0 x1 2) fun h2 i1 =>
  if i1 = 5 then
    (
      f_X0_isFlexible_b15 h2 1
    )
  else
    (
      f_X0_isFlexible_b15 h2 0
    )
set_option maxRecDepth 100000 in
set_option maxHeartbeats 4000000 in
theorem s_X0_isFlexible_b15 {p : Program} {l : Launch} {e : Env} {s : State} {m : MethodId} {args : Array Value} {below : List Frame} {meth : Method} {c : Code} {E : XE} {z : XR} (C0 : x_C E p l s m meth c args cX0_isFlexible 2 "GridEngine$AxisLayout" "isFlexible" (some .boolean)) (hxt : ∀ x ∈ c.exceptionTable.toList, False)  : ∀ (h : HP) (t0 : Int32) (H : Heap) (locs : List Loc) (ls : Array Slot), x_Rep E h H → va_S (x_A E) s.heap H locs → lv_has ls 2 [] → f_X0_isFlexible_b15 h t0 = some z → W p l e ({ frames := 10, cells := 0, slots := 0, locals := 177 } : Room) s m args below meth c H locs 0 0 (x_Q E below args s 0 0 z) (F0 m 15 ls [.int t0]) := by
  intro h t0 H locs ls hR hS hl hf
  obtain ⟨hx, hb, -⟩ := id C0
  unfold f_X0_isFlexible_b15 at hf
  have h0 : x_by cX0_isFlexible 15 [172] := by unfold x_by; decide +kernel
  obtain ⟨d15, h0⟩ := de_ireturn h0
  exact x_zret C0 hR hS hf (Nat.le_of_ble_eq_true rfl) (Nat.le_of_ble_eq_true rfl) d15
set_option maxRecDepth 100000 in
set_option maxHeartbeats 4000000 in
theorem ct_X0_isFlexible (E : XE) (l : Launch) (hl0 : l.stackTraces = false) (h : HP) (r0 : Nat) (x1 : Int32) : x_ct E l yX0_isFlexible (Cond.code yX0_isFlexible cX0_isFlexible 2 (some .boolean)) 10 177 0 0 [.ref (xa E r0), .int x1] h (f_X0_isFlexible h r0 x1) := by
  refine x_ofW hl0 (by decide +kernel) ?_
  intro z hf p e s m args below meth c C0 hxt hargs hR
  subst hargs
  have C0 : x_C E p l s m meth c ([.ref (xa E r0), .int x1] : List Value).toArray cX0_isFlexible 2 "GridEngine$AxisLayout" "isFlexible" (some .boolean) := C0
  obtain ⟨hx, hb, -⟩ := id C0
  have hS : va_S (x_A E) s.heap s.heap [] := va_S.rf
  have hl := lv_entry ([.ref (xa E r0), .int x1]) (n := 2) (Nat.le_of_ble_eq_true rfl)
  rw [lg_entry_eq]
  generalize (lg_sl ([.ref (xa E r0), .int x1]) ++ List.replicate (2 - (lg_sl ([.ref (xa E r0), .int x1])).length) Slot.unset).toArray = ls at hl ⊢
  have hl : lv_has ls 2 [(0, .ref (xa E r0)), (1, .int x1)] := hl
  unfold f_X0_isFlexible at hf
  have h0 : x_by cX0_isFlexible 0 [42, 27, 5, 182, 0, 95, 8, 160, 0, 7] := by unfold x_by; decide +kernel
  obtain ⟨d0, h0⟩ := de_aload_n0 h0
  obtain ⟨d1, h0⟩ := de_iload_n1 h0
  obtain ⟨d2, h0⟩ := de_iconst_2 h0
  obtain ⟨d3, h0⟩ := de_invokevirtual 95 (by decide) h0
  obtain ⟨d6, h0⟩ := de_iconst_5 h0
  obtain ⟨d7, h0⟩ := de_icmp_ne (7) (by decide) h0
  refine lv_aload_n hx hb d0 rfl (lv_at hl 0 rfl) ?_
  refine lv_iload_n hx hb d1 rfl (lv_at hl 1 rfl) ?_
  refine lv_iconst (v := 2) hx hb d2 (by decide) ?_
  obtain ⟨hs9, hf⟩ := x_if hf
  refine x_thenI C0 hxt hS hf (fun z0 e0 => x_runV C0 hR hS me_X0_part wi_X0_part wl_X0_part ml_X0_95 hs9 xcl_0 (As := [.int x1, .int 2]) (ct_X0_part E l C0.2.2.2.2.2.2.2.1 _ r0 x1 2) rfl rfl hl.1 (Nat.le_of_ble_eq_true rfl) d3 ⟨(Nat.le_of_ble_eq_true rfl), (Nat.le_of_ble_eq_true rfl)⟩ ⟨(Nat.le_of_ble_eq_true rfl), (Nat.le_of_ble_eq_true rfl)⟩ e0) (Nat.le_of_ble_eq_true rfl) (Nat.le_of_ble_eq_true rfl) (fun h9 i1 H locs hR hS hf => ?_)
  refine lv_iconst (v := 5) hx hb d6 (by decide) ?_
  refine lv_icmp_ne (tgt := 14) hx hb d7 (by decide) (fun q => ?_) (fun q => ?_)
  · have hf := x_neg q hf
    have h0 : x_by cX0_isFlexible 14 [3] := by unfold x_by; decide +kernel
    obtain ⟨d14, h0⟩ := de_iconst_0 h0
    refine lv_iconst (v := 0) hx hb d14 (by decide) ?_
    exact s_X0_isFlexible_b15 C0 hxt _ _ _ _ _ hR hS (lv_sub hl [] rfl) hf
  · have hf := x_pos q hf
    have h0 : x_by cX0_isFlexible 10 [4, 167, 0, 4] := by unfold x_by; decide +kernel
    obtain ⟨d10, h0⟩ := de_iconst_1 h0
    obtain ⟨d11, h0⟩ := de_goto (4) (by decide) h0
    refine lv_iconst (v := 1) hx hb d10 (by decide) ?_
    refine lv_goto (tgt := 15) hx hb d11 (by decide) ?_
    exact s_X0_isFlexible_b15 C0 hxt _ _ _ _ _ hR hS (lv_sub hl [] rfl) hf
def f_X0_isOpen_b25  (h : HP) (t0 : Int32) : Option XR :=
  x_rZ h t0
def f_X0_isOpen_b24  (h : HP)  : Option XR :=
  f_X0_isOpen_b25 h 0
def f_X0_isOpen (h : HP) (r0 : Nat) (x1 : Int32) : Option XR :=
  if x1 < 1 then
    (
      f_X0_isOpen_b24 h
    )
  else
    (
      if 64 < x1 then
        (
          f_X0_isOpen_b24 h
        )
      else
        (
          x_gR h r0 0 3 fun a1 =>
          x_aI h 102 a1 x1 fun i2 =>
          if i2 = 0 then
            (
              f_X0_isOpen_b25 h 1
            )
          else
            (
              f_X0_isOpen_b24 h
            )
        )
    )
set_option maxRecDepth 100000 in
set_option maxHeartbeats 4000000 in
theorem s_X0_isOpen_b25 {p : Program} {l : Launch} {e : Env} {s : State} {m : MethodId} {args : Array Value} {below : List Frame} {meth : Method} {c : Code} {E : XE} {z : XR} (C0 : x_C E p l s m meth c args cX0_isOpen 2 "GridEngine$AxisLayout" "isOpen" (some .boolean)) (hxt : ∀ x ∈ c.exceptionTable.toList, False)  : ∀ (h : HP) (t0 : Int32) (H : Heap) (locs : List Loc) (ls : Array Slot), x_Rep E h H → va_S (x_A E) s.heap H locs → lv_has ls 2 [] → f_X0_isOpen_b25 h t0 = some z → W p l e ({ frames := 8, cells := 0, slots := 0, locals := 130 } : Room) s m args below meth c H locs 0 0 (x_Q E below args s 0 0 z) (F0 m 25 ls [.int t0]) := by
  intro h t0 H locs ls hR hS hl hf
  obtain ⟨hx, hb, -⟩ := id C0
  unfold f_X0_isOpen_b25 at hf
  have h0 : x_by cX0_isOpen 25 [172] := by unfold x_by; decide +kernel
  obtain ⟨d25, h0⟩ := de_ireturn h0
  exact x_zret C0 hR hS hf (Nat.le_of_ble_eq_true rfl) (Nat.le_of_ble_eq_true rfl) d25
set_option maxRecDepth 100000 in
set_option maxHeartbeats 4000000 in
theorem s_X0_isOpen_b24 {p : Program} {l : Launch} {e : Env} {s : State} {m : MethodId} {args : Array Value} {below : List Frame} {meth : Method} {c : Code} {E : XE} {z : XR} (C0 : x_C E p l s m meth c args cX0_isOpen 2 "GridEngine$AxisLayout" "isOpen" (some .boolean)) (hxt : ∀ x ∈ c.exceptionTable.toList, False)  : ∀ (h : HP)  (H : Heap) (locs : List Loc) (ls : Array Slot), x_Rep E h H → va_S (x_A E) s.heap H locs → lv_has ls 2 [] → f_X0_isOpen_b24 h  = some z → W p l e ({ frames := 8, cells := 0, slots := 0, locals := 130 } : Room) s m args below meth c H locs 0 0 (x_Q E below args s 0 0 z) (F0 m 24 ls []) := by
  intro h  H locs ls hR hS hl hf
  obtain ⟨hx, hb, -⟩ := id C0
  unfold f_X0_isOpen_b24 at hf
  have h0 : x_by cX0_isOpen 24 [3] := by unfold x_by; decide +kernel
  obtain ⟨d24, h0⟩ := de_iconst_0 h0
  refine lv_iconst (v := 0) hx hb d24 (by decide) ?_
  exact s_X0_isOpen_b25 C0 hxt _ _ _ _ _ hR hS (lv_sub hl [] rfl) hf
set_option maxRecDepth 100000 in
set_option maxHeartbeats 4000000 in
theorem ct_X0_isOpen (E : XE) (l : Launch) (hl0 : l.stackTraces = false) (h : HP) (r0 : Nat) (x1 : Int32) : x_ct E l yX0_isOpen (Cond.code yX0_isOpen cX0_isOpen 2 (some .boolean)) 8 130 0 0 [.ref (xa E r0), .int x1] h (f_X0_isOpen h r0 x1) := by
  refine x_ofW hl0 (by decide +kernel) ?_
  intro z hf p e s m args below meth c C0 hxt hargs hR
  subst hargs
  have C0 : x_C E p l s m meth c ([.ref (xa E r0), .int x1] : List Value).toArray cX0_isOpen 2 "GridEngine$AxisLayout" "isOpen" (some .boolean) := C0
  obtain ⟨hx, hb, -⟩ := id C0
  have hS : va_S (x_A E) s.heap s.heap [] := va_S.rf
  have hl := lv_entry ([.ref (xa E r0), .int x1]) (n := 2) (Nat.le_of_ble_eq_true rfl)
  rw [lg_entry_eq]
  generalize (lg_sl ([.ref (xa E r0), .int x1]) ++ List.replicate (2 - (lg_sl ([.ref (xa E r0), .int x1])).length) Slot.unset).toArray = ls at hl ⊢
  have hl : lv_has ls 2 [(0, .ref (xa E r0)), (1, .int x1)] := hl
  unfold f_X0_isOpen at hf
  have h0 : x_by cX0_isOpen 0 [27, 4, 161, 0, 22] := by unfold x_by; decide +kernel
  obtain ⟨d0, h0⟩ := de_iload_n1 h0
  obtain ⟨d1, h0⟩ := de_iconst_1 h0
  obtain ⟨d2, h0⟩ := de_icmp_lt (22) (by decide) h0
  refine lv_iload_n hx hb d0 rfl (lv_at hl 1 rfl) ?_
  refine lv_iconst (v := 1) hx hb d1 (by decide) ?_
  refine lv_icmp_lt (tgt := 24) hx hb d2 (by decide) (fun q => ?_) (fun q => ?_)
  · have hf := x_pos q hf
    exact s_X0_isOpen_b24 C0 hxt _ _ _ _ hR hS (lv_sub hl [] rfl) hf
  · have hf := x_neg q hf
    have h0 : x_by cX0_isOpen 5 [27, 16, 64, 163, 0, 16] := by unfold x_by; decide +kernel
    obtain ⟨d5, h0⟩ := de_iload_n1 h0
    obtain ⟨d6, h0⟩ := de_bipush (64) (by decide) h0
    obtain ⟨d8, h0⟩ := de_icmp_gt (16) (by decide) h0
    refine lv_iload_n hx hb d5 rfl (lv_at hl 1 rfl) ?_
    refine lv_bipush (v := 64) hx hb d6 (by decide) ?_
    refine lv_icmp_gt (tgt := 24) hx hb d8 (by decide) (fun q => ?_) (fun q => ?_)
    · have hf := x_pos q hf
      exact s_X0_isOpen_b24 C0 hxt _ _ _ _ hR hS (lv_sub hl [] rfl) hf
    · have hf := x_neg q hf
      have h0 : x_by cX0_isOpen 11 [42, 180, 0, 9, 27, 51, 154, 0, 7] := by unfold x_by; decide +kernel
      obtain ⟨d11, h0⟩ := de_aload_n0 h0
      obtain ⟨d12, h0⟩ := de_getfield 9 (by decide) h0
      obtain ⟨d15, h0⟩ := de_iload_n1 h0
      obtain ⟨d16, h0⟩ := de_baload h0
      obtain ⟨d17, h0⟩ := de_if_ne (7) (by decide) h0
      refine lv_aload_n hx hb d11 rfl (lv_at hl 0 rfl) ?_
      refine x_getR C0 hR hf xcl_0 (Nat.le_of_ble_eq_true rfl) rfl fl_X0_9 d12 (fun a1 hf => ?_)
      refine lv_iload_n hx hb d15 rfl (lv_at hl 1 rfl) ?_
      refine x_zald C0 hR hf d16 (fun i2 hf => ?_)
      refine lv_if_ne (tgt := 24) hx hb d17 (by decide) (fun q => ?_) (fun q => ?_)
      · have hf := x_neg q hf
        exact s_X0_isOpen_b24 C0 hxt _ _ _ _ hR hS (lv_sub hl [] rfl) hf
      · have hf := x_pos q hf
        have h0 : x_by cX0_isOpen 20 [4, 167, 0, 4] := by unfold x_by; decide +kernel
        obtain ⟨d20, h0⟩ := de_iconst_1 h0
        obtain ⟨d21, h0⟩ := de_goto (4) (by decide) h0
        refine lv_iconst (v := 1) hx hb d20 (by decide) ?_
        refine lv_goto (tgt := 25) hx hb d21 (by decide) ?_
        exact s_X0_isOpen_b25 C0 hxt _ _ _ _ _ hR hS (lv_sub hl [] rfl) hf
def f_X0_isOnFlexible_b6 (k6 : HP → Nat → Int32 → Int32 → Option XR) (h : HP) (r0 : Nat) (x1 : Int32) (x2 : Int32) : Option XR :=
  x_rc h r0 0 <| x_cI (f_X0_lastTrack h r0 x1) fun h2 i1 =>
  if i1 < x2 then
    (
      x_rZ h2 0
    )
  else
    (
      x_rc h2 r0 0 <| x_cI (f_X0_isFlexible h2 r0 x2) fun h4 i3 =>
      if i3 = 0 then
        (
          k6 h4 r0 x1 (x2 + 1)
        )
      else
        (
          x_rZ h4 1
        )
    )
def f_X0_isOnFlexible_L6  : Nat → HP → Nat → Int32 → Int32 → Option XR
  | 0 => fun _ _ _ _ => none
  | n + 1 => f_X0_isOnFlexible_b6 (f_X0_isOnFlexible_L6 n)
def f_X0_isOnFlexible (h : HP) (r0 : Nat) (x1 : Int32) : Option XR :=
  x_rc h r0 0 <| x_cI (f_X0_firstTrack h r0 x1) fun h2 i1 =>
  f_X0_isOnFlexible_L6 FU h2 r0 x1 i1
set_option maxRecDepth 100000 in
set_option maxHeartbeats 4000000 in
theorem s_X0_isOnFlexible_b6 {p : Program} {l : Launch} {e : Env} {s : State} {m : MethodId} {args : Array Value} {below : List Frame} {meth : Method} {c : Code} {E : XE} {z : XR} (C0 : x_C E p l s m meth c args cX0_isOnFlexible 3 "GridEngine$AxisLayout" "isOnFlexible" (some .boolean)) (hxt : ∀ x ∈ c.exceptionTable.toList, False) {k6 : HP → Nat → Int32 → Int32 → Option XR} (hk6 : ∀ (h : HP) (r0 : Nat) (x1 : Int32) (x2 : Int32) (H : Heap) (locs : List Loc) (ls : Array Slot), x_Rep E h H → va_S (x_A E) s.heap H locs → lv_has ls 3 [(0, .ref (xa E r0)), (1, .int x1), (2, .int x2)] → k6 h r0 x1 x2 = some z → W p l e ({ frames := 11, cells := 0, slots := 0, locals := 198 } : Room) s m args below meth c H locs 0 0 (x_Q E below args s 0 0 z) (F0 m 6 ls [])) : ∀ (h : HP) (r0 : Nat) (x1 : Int32) (x2 : Int32) (H : Heap) (locs : List Loc) (ls : Array Slot), x_Rep E h H → va_S (x_A E) s.heap H locs → lv_has ls 3 [(0, .ref (xa E r0)), (1, .int x1), (2, .int x2)] → f_X0_isOnFlexible_b6 k6 h r0 x1 x2 = some z → W p l e ({ frames := 11, cells := 0, slots := 0, locals := 198 } : Room) s m args below meth c H locs 0 0 (x_Q E below args s 0 0 z) (F0 m 6 ls []) := by
  intro h r0 x1 x2 H locs ls hR hS hl hf
  obtain ⟨hx, hb, -⟩ := id C0
  unfold f_X0_isOnFlexible_b6 at hf
  have h0 : x_by cX0_isOnFlexible 6 [28, 42, 27, 182, 0, 101, 163, 0, 19] := by unfold x_by; decide +kernel
  obtain ⟨d6, h0⟩ := de_iload_n2 h0
  obtain ⟨d7, h0⟩ := de_aload_n0 h0
  obtain ⟨d8, h0⟩ := de_iload_n1 h0
  obtain ⟨d9, h0⟩ := de_invokevirtual 101 (by decide) h0
  obtain ⟨d12, h0⟩ := de_icmp_gt (19) (by decide) h0
  refine lv_iload_n hx hb d6 rfl (lv_at hl 2 rfl) ?_
  refine lv_aload_n hx hb d7 rfl (lv_at hl 0 rfl) ?_
  refine lv_iload_n hx hb d8 rfl (lv_at hl 1 rfl) ?_
  obtain ⟨hs9, hf⟩ := x_if hf
  refine x_thenI C0 hxt hS hf (fun z0 e0 => x_runV C0 hR hS me_X0_lastTrack wi_X0_lastTrack wl_X0_lastTrack ml_X0_101 hs9 xcl_0 (As := [.int x1]) (ct_X0_lastTrack E l C0.2.2.2.2.2.2.2.1 _ r0 x1) rfl rfl hl.1 (Nat.le_of_ble_eq_true rfl) d9 ⟨(Nat.le_of_ble_eq_true rfl), (Nat.le_of_ble_eq_true rfl)⟩ ⟨(Nat.le_of_ble_eq_true rfl), (Nat.le_of_ble_eq_true rfl)⟩ e0) (Nat.le_of_ble_eq_true rfl) (Nat.le_of_ble_eq_true rfl) (fun h9 i1 H locs hR hS hf => ?_)
  refine lv_icmp_gt (tgt := 31) hx hb d12 (by decide) (fun q => ?_) (fun q => ?_)
  · have hf := x_pos q hf
    have h0 : x_by cX0_isOnFlexible 31 [3, 172] := by unfold x_by; decide +kernel
    obtain ⟨d31, h0⟩ := de_iconst_0 h0
    obtain ⟨d32, h0⟩ := de_ireturn h0
    refine lv_iconst (v := 0) hx hb d31 (by decide) ?_
    exact x_zret C0 hR hS hf (Nat.le_of_ble_eq_true rfl) (Nat.le_of_ble_eq_true rfl) d32
  · have hf := x_neg q hf
    have h0 : x_by cX0_isOnFlexible 15 [42, 28, 182, 0, 103, 153, 0, 5] := by unfold x_by; decide +kernel
    obtain ⟨d15, h0⟩ := de_aload_n0 h0
    obtain ⟨d16, h0⟩ := de_iload_n2 h0
    obtain ⟨d17, h0⟩ := de_invokevirtual 103 (by decide) h0
    obtain ⟨d20, h0⟩ := de_if_eq (5) (by decide) h0
    refine lv_aload_n hx hb d15 rfl (lv_at hl 0 rfl) ?_
    refine lv_iload_n hx hb d16 rfl (lv_at hl 2 rfl) ?_
    obtain ⟨hs9, hf⟩ := x_if hf
    refine x_thenI C0 hxt hS hf (fun z0 e0 => x_runV C0 hR hS me_X0_isFlexible wi_X0_isFlexible wl_X0_isFlexible ml_X0_103 hs9 xcl_0 (As := [.int x2]) (ct_X0_isFlexible E l C0.2.2.2.2.2.2.2.1 _ r0 x2) rfl rfl hl.1 (Nat.le_of_ble_eq_true rfl) d17 ⟨(Nat.le_of_ble_eq_true rfl), (Nat.le_of_ble_eq_true rfl)⟩ ⟨(Nat.le_of_ble_eq_true rfl), (Nat.le_of_ble_eq_true rfl)⟩ e0) (Nat.le_of_ble_eq_true rfl) (Nat.le_of_ble_eq_true rfl) (fun h9 i3 H locs hR hS hf => ?_)
    refine lv_if_eq (tgt := 25) hx hb d20 (by decide) (fun q => ?_) (fun q => ?_)
    · have hf := x_pos q hf
      have h0 : x_by cX0_isOnFlexible 25 [132, 2, 1, 167, 255, 234] := by unfold x_by; decide +kernel
      obtain ⟨d25, h0⟩ := de_iinc (1) (by decide) h0
      obtain ⟨d28, h0⟩ := de_goto (-22) (by decide) h0
      refine lv_iinc (v := (x2 + 1)) (lv' := [(2, .int (x2 + 1)), (0, .ref (xa E r0)), (1, .int x1)]) hx hb d25 hl (k := 2) rfl rfl (by decide) rfl (fun ls hl => ?_)
      refine lv_goto (tgt := 6) hx hb d28 (by decide) ?_
      exact hk6 _ _ _ _ _ _ _ hR hS (lv_sub hl [1, 2, 0] rfl) hf
    · have hf := x_neg q hf
      have h0 : x_by cX0_isOnFlexible 23 [4, 172] := by unfold x_by; decide +kernel
      obtain ⟨d23, h0⟩ := de_iconst_1 h0
      obtain ⟨d24, h0⟩ := de_ireturn h0
      refine lv_iconst (v := 1) hx hb d23 (by decide) ?_
      exact x_zret C0 hR hS hf (Nat.le_of_ble_eq_true rfl) (Nat.le_of_ble_eq_true rfl) d24
theorem s_X0_isOnFlexible_L6 {p : Program} {l : Launch} {e : Env} {s : State} {m : MethodId} {args : Array Value} {below : List Frame} {meth : Method} {c : Code} {E : XE} {z : XR} (C0 : x_C E p l s m meth c args cX0_isOnFlexible 3 "GridEngine$AxisLayout" "isOnFlexible" (some .boolean)) (hxt : ∀ x ∈ c.exceptionTable.toList, False)  : ∀ n : Nat, ∀ (h : HP) (r0 : Nat) (x1 : Int32) (x2 : Int32) (H : Heap) (locs : List Loc) (ls : Array Slot), x_Rep E h H → va_S (x_A E) s.heap H locs → lv_has ls 3 [(0, .ref (xa E r0)), (1, .int x1), (2, .int x2)] → f_X0_isOnFlexible_L6 n h r0 x1 x2 = some z → W p l e ({ frames := 11, cells := 0, slots := 0, locals := 198 } : Room) s m args below meth c H locs 0 0 (x_Q E below args s 0 0 z) (F0 m 6 ls []) := by
  intro n
  induction n with
  | zero => intro h r0 x1 x2 H locs ls hR hS hl hf; cases (show (none : Option XR) = some z from hf)
  | succ n ih => intro h r0 x1 x2 H locs ls hR hS hl hf; exact s_X0_isOnFlexible_b6 C0 hxt ih h r0 x1 x2 H locs ls hR hS hl (show f_X0_isOnFlexible_b6 (f_X0_isOnFlexible_L6 n) h r0 x1 x2 = some z from hf)
set_option maxRecDepth 100000 in
set_option maxHeartbeats 4000000 in
theorem ct_X0_isOnFlexible (E : XE) (l : Launch) (hl0 : l.stackTraces = false) (h : HP) (r0 : Nat) (x1 : Int32) : x_ct E l yX0_isOnFlexible (Cond.code yX0_isOnFlexible cX0_isOnFlexible 3 (some .boolean)) 11 198 0 0 [.ref (xa E r0), .int x1] h (f_X0_isOnFlexible h r0 x1) := by
  refine x_ofW hl0 (by decide +kernel) ?_
  intro z hf p e s m args below meth c C0 hxt hargs hR
  subst hargs
  have C0 : x_C E p l s m meth c ([.ref (xa E r0), .int x1] : List Value).toArray cX0_isOnFlexible 3 "GridEngine$AxisLayout" "isOnFlexible" (some .boolean) := C0
  obtain ⟨hx, hb, -⟩ := id C0
  have hS : va_S (x_A E) s.heap s.heap [] := va_S.rf
  have hl := lv_entry ([.ref (xa E r0), .int x1]) (n := 3) (Nat.le_of_ble_eq_true rfl)
  rw [lg_entry_eq]
  generalize (lg_sl ([.ref (xa E r0), .int x1]) ++ List.replicate (3 - (lg_sl ([.ref (xa E r0), .int x1])).length) Slot.unset).toArray = ls at hl ⊢
  have hl : lv_has ls 3 [(0, .ref (xa E r0)), (1, .int x1)] := hl
  unfold f_X0_isOnFlexible at hf
  have h0 : x_by cX0_isOnFlexible 0 [42, 27, 182, 0, 98, 61] := by unfold x_by; decide +kernel
  obtain ⟨d0, h0⟩ := de_aload_n0 h0
  obtain ⟨d1, h0⟩ := de_iload_n1 h0
  obtain ⟨d2, h0⟩ := de_invokevirtual 98 (by decide) h0
  obtain ⟨d5, h0⟩ := de_istore_n2 h0
  refine lv_aload_n hx hb d0 rfl (lv_at hl 0 rfl) ?_
  refine lv_iload_n hx hb d1 rfl (lv_at hl 1 rfl) ?_
  obtain ⟨hs9, hf⟩ := x_if hf
  refine x_thenI C0 hxt hS hf (fun z0 e0 => x_runV C0 hR hS me_X0_firstTrack wi_X0_firstTrack wl_X0_firstTrack ml_X0_98 hs9 xcl_0 (As := [.int x1]) (ct_X0_firstTrack E l C0.2.2.2.2.2.2.2.1 _ r0 x1) rfl rfl hl.1 (Nat.le_of_ble_eq_true rfl) d2 ⟨(Nat.le_of_ble_eq_true rfl), (Nat.le_of_ble_eq_true rfl)⟩ ⟨(Nat.le_of_ble_eq_true rfl), (Nat.le_of_ble_eq_true rfl)⟩ e0) (Nat.le_of_ble_eq_true rfl) (Nat.le_of_ble_eq_true rfl) (fun h9 i1 H locs hR hS hf => ?_)
  refine lv_istore_n (lv' := [(2, .int i1), (0, .ref (xa E r0)), (1, .int x1)]) hx hb d5 rfl hl (by decide) rfl (fun ls hl => ?_)
  exact s_X0_isOnFlexible_L6 C0 hxt FU _ _ _ _ _ _ _ hR hS (lv_sub hl [1, 2, 0] rfl) hf
def f_X0_isCovered_b2 (k2 : HP → Nat → Int32 → Int32 → Option XR) (h : HP) (r0 : Nat) (x1 : Int32) (x2 : Int32) : Option XR :=
  x_gR h r0 0 1 fun a1 =>
  x_gI h a1 4 4 fun i2 =>
  if i2 ≤ x2 then
    (
      x_rZ h 0
    )
  else
    (
      x_gR h r0 0 2 fun a3 =>
      x_gI h r0 0 0 fun i4 =>
      x_rc h a3 5 <| x_cI (f_X5_isAcross h a3 x2 i4 x1) fun h6 i5 =>
      if i5 = 0 then
        (
          k2 h6 r0 x1 (x2 + 1)
        )
      else
        (
          x_rZ h6 1
        )
    )
def f_X0_isCovered_L2  : Nat → HP → Nat → Int32 → Int32 → Option XR
  | 0 => fun _ _ _ _ => none
  | n + 1 => f_X0_isCovered_b2 (f_X0_isCovered_L2 n)
def f_X0_isCovered (h : HP) (r0 : Nat) (x1 : Int32) : Option XR :=
  f_X0_isCovered_L2 FU h r0 x1 0
set_option maxRecDepth 100000 in
set_option maxHeartbeats 4000000 in
theorem s_X0_isCovered_b2 {p : Program} {l : Launch} {e : Env} {s : State} {m : MethodId} {args : Array Value} {below : List Frame} {meth : Method} {c : Code} {E : XE} {z : XR} (C0 : x_C E p l s m meth c args cX0_isCovered 3 "GridEngine$AxisLayout" "isCovered" (some .boolean)) (hxt : ∀ x ∈ c.exceptionTable.toList, False) {k2 : HP → Nat → Int32 → Int32 → Option XR} (hk2 : ∀ (h : HP) (r0 : Nat) (x1 : Int32) (x2 : Int32) (H : Heap) (locs : List Loc) (ls : Array Slot), x_Rep E h H → va_S (x_A E) s.heap H locs → lv_has ls 3 [(0, .ref (xa E r0)), (1, .int x1), (2, .int x2)] → k2 h r0 x1 x2 = some z → W p l e ({ frames := 11, cells := 0, slots := 0, locals := 199 } : Room) s m args below meth c H locs 0 0 (x_Q E below args s 0 0 z) (F0 m 2 ls [])) : ∀ (h : HP) (r0 : Nat) (x1 : Int32) (x2 : Int32) (H : Heap) (locs : List Loc) (ls : Array Slot), x_Rep E h H → va_S (x_A E) s.heap H locs → lv_has ls 3 [(0, .ref (xa E r0)), (1, .int x1), (2, .int x2)] → f_X0_isCovered_b2 k2 h r0 x1 x2 = some z → W p l e ({ frames := 11, cells := 0, slots := 0, locals := 199 } : Room) s m args below meth c H locs 0 0 (x_Q E below args s 0 0 z) (F0 m 2 ls []) := by
  intro h r0 x1 x2 H locs ls hR hS hl hf
  obtain ⟨hx, hb, -⟩ := id C0
  unfold f_X0_isCovered_b2 at hf
  have h0 : x_by cX0_isCovered 2 [28, 42, 180, 0, 56, 180, 0, 70, 162, 0, 27] := by unfold x_by; decide +kernel
  obtain ⟨d2, h0⟩ := de_iload_n2 h0
  obtain ⟨d3, h0⟩ := de_aload_n0 h0
  obtain ⟨d4, h0⟩ := de_getfield 56 (by decide) h0
  obtain ⟨d7, h0⟩ := de_getfield 70 (by decide) h0
  obtain ⟨d10, h0⟩ := de_icmp_ge (27) (by decide) h0
  refine lv_iload_n hx hb d2 rfl (lv_at hl 2 rfl) ?_
  refine lv_aload_n hx hb d3 rfl (lv_at hl 0 rfl) ?_
  refine x_getR C0 hR hf xcl_0 (Nat.le_of_ble_eq_true rfl) rfl fl_X0_56 d4 (fun a1 hf => ?_)
  refine x_getI C0 hR hf xcl_4 (Nat.le_of_ble_eq_true rfl) rfl fl_X0_70 d7 (fun i2 hf => ?_)
  refine lv_icmp_ge (tgt := 37) hx hb d10 (by decide) (fun q => ?_) (fun q => ?_)
  · have hf := x_pos q hf
    have h0 : x_by cX0_isCovered 37 [3, 172] := by unfold x_by; decide +kernel
    obtain ⟨d37, h0⟩ := de_iconst_0 h0
    obtain ⟨d38, h0⟩ := de_ireturn h0
    refine lv_iconst (v := 0) hx hb d37 (by decide) ?_
    exact x_zret C0 hR hS hf (Nat.le_of_ble_eq_true rfl) (Nat.le_of_ble_eq_true rfl) d38
  · have hf := x_neg q hf
    have h0 : x_by cX0_isCovered 13 [42, 180, 0, 60, 28, 42, 180, 0, 53, 27, 182, 0, 115, 153, 0, 5] := by unfold x_by; decide +kernel
    obtain ⟨d13, h0⟩ := de_aload_n0 h0
    obtain ⟨d14, h0⟩ := de_getfield 60 (by decide) h0
    obtain ⟨d17, h0⟩ := de_iload_n2 h0
    obtain ⟨d18, h0⟩ := de_aload_n0 h0
    obtain ⟨d19, h0⟩ := de_getfield 53 (by decide) h0
    obtain ⟨d22, h0⟩ := de_iload_n1 h0
    obtain ⟨d23, h0⟩ := de_invokevirtual 115 (by decide) h0
    obtain ⟨d26, h0⟩ := de_if_eq (5) (by decide) h0
    refine lv_aload_n hx hb d13 rfl (lv_at hl 0 rfl) ?_
    refine x_getR C0 hR hf xcl_0 (Nat.le_of_ble_eq_true rfl) rfl fl_X0_60 d14 (fun a3 hf => ?_)
    refine lv_iload_n hx hb d17 rfl (lv_at hl 2 rfl) ?_
    refine lv_aload_n hx hb d18 rfl (lv_at hl 0 rfl) ?_
    refine x_getI C0 hR hf xcl_0 (Nat.le_of_ble_eq_true rfl) rfl fl_X0_53 d19 (fun i4 hf => ?_)
    refine lv_iload_n hx hb d22 rfl (lv_at hl 1 rfl) ?_
    obtain ⟨hs9, hf⟩ := x_if hf
    refine x_thenI C0 hxt hS hf (fun z0 e0 => x_runV C0 hR hS me_X5_isAcross wi_X5_isAcross wl_X5_isAcross ml_X0_115 hs9 xcl_5 (As := [.int x2, .int i4, .int x1]) (ct_X5_isAcross E l C0.2.2.2.2.2.2.2.1 _ a3 x2 i4 x1) rfl rfl hl.1 (Nat.le_of_ble_eq_true rfl) d23 ⟨(Nat.le_of_ble_eq_true rfl), (Nat.le_of_ble_eq_true rfl)⟩ ⟨(Nat.le_of_ble_eq_true rfl), (Nat.le_of_ble_eq_true rfl)⟩ e0) (Nat.le_of_ble_eq_true rfl) (Nat.le_of_ble_eq_true rfl) (fun h9 i5 H locs hR hS hf => ?_)
    refine lv_if_eq (tgt := 31) hx hb d26 (by decide) (fun q => ?_) (fun q => ?_)
    · have hf := x_pos q hf
      have h0 : x_by cX0_isCovered 31 [132, 2, 1, 167, 255, 224] := by unfold x_by; decide +kernel
      obtain ⟨d31, h0⟩ := de_iinc (1) (by decide) h0
      obtain ⟨d34, h0⟩ := de_goto (-32) (by decide) h0
      refine lv_iinc (v := (x2 + 1)) (lv' := [(2, .int (x2 + 1)), (0, .ref (xa E r0)), (1, .int x1)]) hx hb d31 hl (k := 2) rfl rfl (by decide) rfl (fun ls hl => ?_)
      refine lv_goto (tgt := 2) hx hb d34 (by decide) ?_
      exact hk2 _ _ _ _ _ _ _ hR hS (lv_sub hl [1, 2, 0] rfl) hf
    · have hf := x_neg q hf
      have h0 : x_by cX0_isCovered 29 [4, 172] := by unfold x_by; decide +kernel
      obtain ⟨d29, h0⟩ := de_iconst_1 h0
      obtain ⟨d30, h0⟩ := de_ireturn h0
      refine lv_iconst (v := 1) hx hb d29 (by decide) ?_
      exact x_zret C0 hR hS hf (Nat.le_of_ble_eq_true rfl) (Nat.le_of_ble_eq_true rfl) d30
theorem s_X0_isCovered_L2 {p : Program} {l : Launch} {e : Env} {s : State} {m : MethodId} {args : Array Value} {below : List Frame} {meth : Method} {c : Code} {E : XE} {z : XR} (C0 : x_C E p l s m meth c args cX0_isCovered 3 "GridEngine$AxisLayout" "isCovered" (some .boolean)) (hxt : ∀ x ∈ c.exceptionTable.toList, False)  : ∀ n : Nat, ∀ (h : HP) (r0 : Nat) (x1 : Int32) (x2 : Int32) (H : Heap) (locs : List Loc) (ls : Array Slot), x_Rep E h H → va_S (x_A E) s.heap H locs → lv_has ls 3 [(0, .ref (xa E r0)), (1, .int x1), (2, .int x2)] → f_X0_isCovered_L2 n h r0 x1 x2 = some z → W p l e ({ frames := 11, cells := 0, slots := 0, locals := 199 } : Room) s m args below meth c H locs 0 0 (x_Q E below args s 0 0 z) (F0 m 2 ls []) := by
  intro n
  induction n with
  | zero => intro h r0 x1 x2 H locs ls hR hS hl hf; cases (show (none : Option XR) = some z from hf)
  | succ n ih => intro h r0 x1 x2 H locs ls hR hS hl hf; exact s_X0_isCovered_b2 C0 hxt ih h r0 x1 x2 H locs ls hR hS hl (show f_X0_isCovered_b2 (f_X0_isCovered_L2 n) h r0 x1 x2 = some z from hf)
set_option maxRecDepth 100000 in
set_option maxHeartbeats 4000000 in
theorem ct_X0_isCovered (E : XE) (l : Launch) (hl0 : l.stackTraces = false) (h : HP) (r0 : Nat) (x1 : Int32) : x_ct E l yX0_isCovered (Cond.code yX0_isCovered cX0_isCovered 3 (some .boolean)) 11 199 0 0 [.ref (xa E r0), .int x1] h (f_X0_isCovered h r0 x1) := by
  refine x_ofW hl0 (by decide +kernel) ?_
  intro z hf p e s m args below meth c C0 hxt hargs hR
  subst hargs
  have C0 : x_C E p l s m meth c ([.ref (xa E r0), .int x1] : List Value).toArray cX0_isCovered 3 "GridEngine$AxisLayout" "isCovered" (some .boolean) := C0
  obtain ⟨hx, hb, -⟩ := id C0
  have hS : va_S (x_A E) s.heap s.heap [] := va_S.rf
  have hl := lv_entry ([.ref (xa E r0), .int x1]) (n := 3) (Nat.le_of_ble_eq_true rfl)
  rw [lg_entry_eq]
  generalize (lg_sl ([.ref (xa E r0), .int x1]) ++ List.replicate (3 - (lg_sl ([.ref (xa E r0), .int x1])).length) Slot.unset).toArray = ls at hl ⊢
  have hl : lv_has ls 3 [(0, .ref (xa E r0)), (1, .int x1)] := hl
  unfold f_X0_isCovered at hf
  have h0 : x_by cX0_isCovered 0 [3, 61] := by unfold x_by; decide +kernel
  obtain ⟨d0, h0⟩ := de_iconst_0 h0
  obtain ⟨d1, h0⟩ := de_istore_n2 h0
  refine lv_iconst (v := 0) hx hb d0 (by decide) ?_
  refine lv_istore_n (lv' := [(2, .int 0), (0, .ref (xa E r0)), (1, .int x1)]) hx hb d1 rfl hl (by decide) rfl (fun ls hl => ?_)
  exact s_X0_isCovered_L2 C0 hxt FU _ _ _ _ _ _ _ hR hS (lv_sub hl [1, 2, 0] rfl) hf
def f_X0_collapseTracks_b119 (k63 : HP → Nat → Int32 → Option XR) (h : HP) (r0 : Nat) (x1 : Int32) : Option XR :=
  k63 h r0 (x1 + 1)
def f_X0_collapseTracks_b99 (k63 : HP → Nat → Int32 → Option XR) (h : HP) (t0 : Int32) (t1 : Int32) (t2 : Nat) (r0 : Nat) (x1 : Int32) : Option XR :=
  x_sZ h t2 t1 t0 fun h1 =>
  x_gR h1 r0 0 3 fun a2 =>
  x_aI h1 102 a2 x1 fun i3 =>
  if i3 = 0 then
    (
      x_gI h1 r0 0 11 fun i4 =>
      x_pI h1 r0 0 11 (i4 + 1) fun h5 =>
      f_X0_collapseTracks_b119 k63 h5 r0 x1
    )
  else
    (
      f_X0_collapseTracks_b119 k63 h1 r0 x1
    )
def f_X0_collapseTracks_b98 (k63 : HP → Nat → Int32 → Option XR) (h : HP) (t0 : Int32) (t1 : Nat) (r0 : Nat) (x1 : Int32) : Option XR :=
  f_X0_collapseTracks_b99 k63 h 0 t0 t1 r0 x1
def f_X0_collapseTracks_b148  (h : HP) (t0 : Int32) (t1 : Nat) : Option XR :=
  x_pI h t1 0 13 t0 fun h1 =>
  some (h1, xv)
def f_X0_collapseTracks_b63 (k63 : HP → Nat → Int32 → Option XR) (h : HP) (r0 : Nat) (x1 : Int32) : Option XR :=
  x_gI h r0 0 10 fun i1 =>
  if i1 < x1 then
    (
      x_gI h r0 0 11 fun i2 =>
      if i2 ≤ 0 then
        (
          f_X0_collapseTracks_b148 h 0 r0
        )
      else
        (
          x_gI h r0 0 12 fun i3 =>
          x_gI h r0 0 11 fun i4 =>
          f_X0_collapseTracks_b148 h (i3 * (i4 - 1)) r0
        )
    )
  else
    (
      x_gR h r0 0 3 fun a5 =>
      x_rc h r0 0 <| x_cI (f_X0_part h r0 x1 4) fun h7 i6 =>
      if i6 = 1 then
        (
          x_rc h7 r0 0 <| x_cI (f_X0_isCovered h7 r0 x1) fun h9 i8 =>
          if i8 = 0 then
            (
              f_X0_collapseTracks_b99 k63 h9 1 x1 a5 r0 x1
            )
          else
            (
              f_X0_collapseTracks_b98 k63 h9 x1 a5 r0 x1
            )
        )
      else
        (
          f_X0_collapseTracks_b98 k63 h7 x1 a5 r0 x1
        )
    )
def f_X0_collapseTracks_L63  : Nat → HP → Nat → Int32 → Option XR
  | 0 => fun _ _ _ => none
  | n + 1 => f_X0_collapseTracks_b63 (f_X0_collapseTracks_L63 n)
def f_X0_collapseTracks (h : HP) (r0 : Nat) : Option XR :=
  x_gR h r0 0 2 fun a1 =>
  x_gI h r0 0 0 fun i2 =>
  x_rc h a1 5 <| x_cI (f_X5_trackCount h a1 i2) fun h4 i3 =>
  x_pI h4 r0 0 10 (if 0 < (if i3 < 64 then i3 else 64) then (if i3 < 64 then i3 else 64) else 0) fun h5 =>
  x_gR h5 r0 0 1 fun a6 =>
  x_gI h5 r0 0 0 fun i7 =>
  x_rc h5 a6 4 <| x_cI (f_X4_setting h5 a6 i7 1) fun h9 i8 =>
  x_pI h9 r0 0 12 i8 fun h10 =>
  x_gR h10 r0 0 1 fun a11 =>
  x_gI h10 r0 0 0 fun i12 =>
  x_rc h10 a11 4 <| x_cI (f_X4_setting h10 a11 i12 0) fun h14 i13 =>
  x_pI h14 r0 0 14 i13 fun h15 =>
  x_pI h15 r0 0 11 0 fun h16 =>
  f_X0_collapseTracks_L63 FU h16 r0 1
set_option maxRecDepth 100000 in
set_option maxHeartbeats 4000000 in
theorem s_X0_collapseTracks_b119 {p : Program} {l : Launch} {e : Env} {s : State} {m : MethodId} {args : Array Value} {below : List Frame} {meth : Method} {c : Code} {E : XE} {z : XR} (C0 : x_C E p l s m meth c args cX0_collapseTracks 2 "GridEngine$AxisLayout" "collapseTracks" none) (hxt : ∀ x ∈ c.exceptionTable.toList, False) {k63 : HP → Nat → Int32 → Option XR} (hk63 : ∀ (h : HP) (r0 : Nat) (x1 : Int32) (H : Heap) (locs : List Loc) (ls : Array Slot), x_Rep E h H → va_S (x_A E) s.heap H locs → lv_has ls 2 [(0, .ref (xa E r0)), (1, .int x1)] → k63 h r0 x1 = some z → W p l e ({ frames := 12, cells := 0, slots := 0, locals := 221 } : Room) s m args below meth c H locs 0 0 (x_Q E below args s 0 0 z) (F0 m 63 ls [])) : ∀ (h : HP) (r0 : Nat) (x1 : Int32) (H : Heap) (locs : List Loc) (ls : Array Slot), x_Rep E h H → va_S (x_A E) s.heap H locs → lv_has ls 2 [(0, .ref (xa E r0)), (1, .int x1)] → f_X0_collapseTracks_b119 k63 h r0 x1 = some z → W p l e ({ frames := 12, cells := 0, slots := 0, locals := 221 } : Room) s m args below meth c H locs 0 0 (x_Q E below args s 0 0 z) (F0 m 119 ls []) := by
  intro h r0 x1 H locs ls hR hS hl hf
  obtain ⟨hx, hb, -⟩ := id C0
  unfold f_X0_collapseTracks_b119 at hf
  have h0 : x_by cX0_collapseTracks 119 [132, 1, 1, 167, 255, 197] := by unfold x_by; decide +kernel
  obtain ⟨d119, h0⟩ := de_iinc (1) (by decide) h0
  obtain ⟨d122, h0⟩ := de_goto (-59) (by decide) h0
  refine lv_iinc (v := (x1 + 1)) (lv' := [(1, .int (x1 + 1)), (0, .ref (xa E r0))]) hx hb d119 hl (k := 1) rfl rfl (by decide) rfl (fun ls hl => ?_)
  refine lv_goto (tgt := 63) hx hb d122 (by decide) ?_
  exact hk63 _ _ _ _ _ _ hR hS (lv_sub hl [1, 0] rfl) hf
set_option maxRecDepth 100000 in
set_option maxHeartbeats 4000000 in
theorem s_X0_collapseTracks_b99 {p : Program} {l : Launch} {e : Env} {s : State} {m : MethodId} {args : Array Value} {below : List Frame} {meth : Method} {c : Code} {E : XE} {z : XR} (C0 : x_C E p l s m meth c args cX0_collapseTracks 2 "GridEngine$AxisLayout" "collapseTracks" none) (hxt : ∀ x ∈ c.exceptionTable.toList, False) {k63 : HP → Nat → Int32 → Option XR} (hk63 : ∀ (h : HP) (r0 : Nat) (x1 : Int32) (H : Heap) (locs : List Loc) (ls : Array Slot), x_Rep E h H → va_S (x_A E) s.heap H locs → lv_has ls 2 [(0, .ref (xa E r0)), (1, .int x1)] → k63 h r0 x1 = some z → W p l e ({ frames := 12, cells := 0, slots := 0, locals := 221 } : Room) s m args below meth c H locs 0 0 (x_Q E below args s 0 0 z) (F0 m 63 ls [])) : ∀ (h : HP) (t0 : Int32) (t1 : Int32) (t2 : Nat) (r0 : Nat) (x1 : Int32) (H : Heap) (locs : List Loc) (ls : Array Slot), x_Rep E h H → va_S (x_A E) s.heap H locs → lv_has ls 2 [(0, .ref (xa E r0)), (1, .int x1)] → f_X0_collapseTracks_b99 k63 h t0 t1 t2 r0 x1 = some z → W p l e ({ frames := 12, cells := 0, slots := 0, locals := 221 } : Room) s m args below meth c H locs 0 0 (x_Q E below args s 0 0 z) (F0 m 99 ls [.int t0, .int t1, .ref (xa E t2)]) := by
  intro h t0 t1 t2 r0 x1 H locs ls hR hS hl hf
  obtain ⟨hx, hb, -⟩ := id C0
  unfold f_X0_collapseTracks_b99 at hf
  have h0 : x_by cX0_collapseTracks 99 [84, 42, 180, 0, 9, 27, 51, 154, 0, 13] := by unfold x_by; decide +kernel
  obtain ⟨d99, h0⟩ := de_bastore h0
  obtain ⟨d100, h0⟩ := de_aload_n0 h0
  obtain ⟨d101, h0⟩ := de_getfield 9 (by decide) h0
  obtain ⟨d104, h0⟩ := de_iload_n1 h0
  obtain ⟨d105, h0⟩ := de_baload h0
  obtain ⟨d106, h0⟩ := de_if_ne (13) (by decide) h0
  refine x_zast C0 hR hS hf d99 (fun H locs hR hS hf => ?_)
  refine lv_aload_n hx hb d100 rfl (lv_at hl 0 rfl) ?_
  refine x_getR C0 hR hf xcl_0 (Nat.le_of_ble_eq_true rfl) rfl fl_X0_9 d101 (fun a2 hf => ?_)
  refine lv_iload_n hx hb d104 rfl (lv_at hl 1 rfl) ?_
  refine x_zald C0 hR hf d105 (fun i3 hf => ?_)
  refine lv_if_ne (tgt := 119) hx hb d106 (by decide) (fun q => ?_) (fun q => ?_)
  · have hf := x_neg q hf
    exact s_X0_collapseTracks_b119 C0 hxt hk63 _ _ _ _ _ _ hR hS (lv_sub hl [0, 1] rfl) hf
  · have hf := x_pos q hf
    have h0 : x_by cX0_collapseTracks 109 [42, 89, 180, 0, 38, 4, 96, 181, 0, 38] := by unfold x_by; decide +kernel
    obtain ⟨d109, h0⟩ := de_aload_n0 h0
    obtain ⟨d110, h0⟩ := de_dup h0
    obtain ⟨d111, h0⟩ := de_getfield 38 (by decide) h0
    obtain ⟨d114, h0⟩ := de_iconst_1 h0
    obtain ⟨d115, h0⟩ := de_iadd h0
    obtain ⟨d116, h0⟩ := de_putfield 38 (by decide) h0
    refine lv_aload_n hx hb d109 rfl (lv_at hl 0 rfl) ?_
    refine lv_dup hx hb d110 rfl ?_
    refine x_getI C0 hR hf xcl_0 (Nat.le_of_ble_eq_true rfl) rfl fl_X0_38 d111 (fun i4 hf => ?_)
    refine lv_iconst (v := 1) hx hb d114 (by decide) ?_
    refine lv_iadd hx hb d115 ?_
    refine x_putI C0 hR hS hf xcl_0 (Nat.le_of_ble_eq_true rfl) rfl fl_X0_38 (Or.inl rfl) d116 (fun H locs hR hS hf => ?_)
    exact s_X0_collapseTracks_b119 C0 hxt hk63 _ _ _ _ _ _ hR hS (lv_sub hl [0, 1] rfl) hf
set_option maxRecDepth 100000 in
set_option maxHeartbeats 4000000 in
theorem s_X0_collapseTracks_b98 {p : Program} {l : Launch} {e : Env} {s : State} {m : MethodId} {args : Array Value} {below : List Frame} {meth : Method} {c : Code} {E : XE} {z : XR} (C0 : x_C E p l s m meth c args cX0_collapseTracks 2 "GridEngine$AxisLayout" "collapseTracks" none) (hxt : ∀ x ∈ c.exceptionTable.toList, False) {k63 : HP → Nat → Int32 → Option XR} (hk63 : ∀ (h : HP) (r0 : Nat) (x1 : Int32) (H : Heap) (locs : List Loc) (ls : Array Slot), x_Rep E h H → va_S (x_A E) s.heap H locs → lv_has ls 2 [(0, .ref (xa E r0)), (1, .int x1)] → k63 h r0 x1 = some z → W p l e ({ frames := 12, cells := 0, slots := 0, locals := 221 } : Room) s m args below meth c H locs 0 0 (x_Q E below args s 0 0 z) (F0 m 63 ls [])) : ∀ (h : HP) (t0 : Int32) (t1 : Nat) (r0 : Nat) (x1 : Int32) (H : Heap) (locs : List Loc) (ls : Array Slot), x_Rep E h H → va_S (x_A E) s.heap H locs → lv_has ls 2 [(0, .ref (xa E r0)), (1, .int x1)] → f_X0_collapseTracks_b98 k63 h t0 t1 r0 x1 = some z → W p l e ({ frames := 12, cells := 0, slots := 0, locals := 221 } : Room) s m args below meth c H locs 0 0 (x_Q E below args s 0 0 z) (F0 m 98 ls [.int t0, .ref (xa E t1)]) := by
  intro h t0 t1 r0 x1 H locs ls hR hS hl hf
  obtain ⟨hx, hb, -⟩ := id C0
  unfold f_X0_collapseTracks_b98 at hf
  have h0 : x_by cX0_collapseTracks 98 [3] := by unfold x_by; decide +kernel
  obtain ⟨d98, h0⟩ := de_iconst_0 h0
  refine lv_iconst (v := 0) hx hb d98 (by decide) ?_
  exact s_X0_collapseTracks_b99 C0 hxt hk63 _ _ _ _ _ _ _ _ _ hR hS (lv_sub hl [0, 1] rfl) hf
set_option maxRecDepth 100000 in
set_option maxHeartbeats 4000000 in
theorem s_X0_collapseTracks_b148 {p : Program} {l : Launch} {e : Env} {s : State} {m : MethodId} {args : Array Value} {below : List Frame} {meth : Method} {c : Code} {E : XE} {z : XR} (C0 : x_C E p l s m meth c args cX0_collapseTracks 2 "GridEngine$AxisLayout" "collapseTracks" none) (hxt : ∀ x ∈ c.exceptionTable.toList, False)  : ∀ (h : HP) (t0 : Int32) (t1 : Nat) (H : Heap) (locs : List Loc) (ls : Array Slot), x_Rep E h H → va_S (x_A E) s.heap H locs → lv_has ls 2 [] → f_X0_collapseTracks_b148 h t0 t1 = some z → W p l e ({ frames := 12, cells := 0, slots := 0, locals := 221 } : Room) s m args below meth c H locs 0 0 (x_Q E below args s 0 0 z) (F0 m 148 ls [.int t0, .ref (xa E t1)]) := by
  intro h t0 t1 H locs ls hR hS hl hf
  obtain ⟨hx, hb, -⟩ := id C0
  unfold f_X0_collapseTracks_b148 at hf
  have h0 : x_by cX0_collapseTracks 148 [181, 0, 44, 177] := by unfold x_by; decide +kernel
  obtain ⟨d148, h0⟩ := de_putfield 44 (by decide) h0
  obtain ⟨d151, h0⟩ := de_return h0
  refine x_putI C0 hR hS hf xcl_0 (Nat.le_of_ble_eq_true rfl) rfl fl_X0_44 (Or.inl rfl) d148 (fun H locs hR hS hf => ?_)
  exact x_vret C0 hR hS hf (Nat.le_of_ble_eq_true rfl) (Nat.le_of_ble_eq_true rfl) d151
set_option maxRecDepth 100000 in
set_option maxHeartbeats 4000000 in
theorem s_X0_collapseTracks_b63 {p : Program} {l : Launch} {e : Env} {s : State} {m : MethodId} {args : Array Value} {below : List Frame} {meth : Method} {c : Code} {E : XE} {z : XR} (C0 : x_C E p l s m meth c args cX0_collapseTracks 2 "GridEngine$AxisLayout" "collapseTracks" none) (hxt : ∀ x ∈ c.exceptionTable.toList, False) {k63 : HP → Nat → Int32 → Option XR} (hk63 : ∀ (h : HP) (r0 : Nat) (x1 : Int32) (H : Heap) (locs : List Loc) (ls : Array Slot), x_Rep E h H → va_S (x_A E) s.heap H locs → lv_has ls 2 [(0, .ref (xa E r0)), (1, .int x1)] → k63 h r0 x1 = some z → W p l e ({ frames := 12, cells := 0, slots := 0, locals := 221 } : Room) s m args below meth c H locs 0 0 (x_Q E below args s 0 0 z) (F0 m 63 ls [])) : ∀ (h : HP) (r0 : Nat) (x1 : Int32) (H : Heap) (locs : List Loc) (ls : Array Slot), x_Rep E h H → va_S (x_A E) s.heap H locs → lv_has ls 2 [(0, .ref (xa E r0)), (1, .int x1)] → f_X0_collapseTracks_b63 k63 h r0 x1 = some z → W p l e ({ frames := 12, cells := 0, slots := 0, locals := 221 } : Room) s m args below meth c H locs 0 0 (x_Q E below args s 0 0 z) (F0 m 63 ls []) := by
  intro h r0 x1 H locs ls hR hS hl hf
  obtain ⟨hx, hb, -⟩ := id C0
  unfold f_X0_collapseTracks_b63 at hf
  have h0 : x_by cX0_collapseTracks 63 [27, 42, 180, 0, 34, 163, 0, 57] := by unfold x_by; decide +kernel
  obtain ⟨d63, h0⟩ := de_iload_n1 h0
  obtain ⟨d64, h0⟩ := de_aload_n0 h0
  obtain ⟨d65, h0⟩ := de_getfield 34 (by decide) h0
  obtain ⟨d68, h0⟩ := de_icmp_gt (57) (by decide) h0
  refine lv_iload_n hx hb d63 rfl (lv_at hl 1 rfl) ?_
  refine lv_aload_n hx hb d64 rfl (lv_at hl 0 rfl) ?_
  refine x_getI C0 hR hf xcl_0 (Nat.le_of_ble_eq_true rfl) rfl fl_X0_34 d65 (fun i1 hf => ?_)
  refine lv_icmp_gt (tgt := 125) hx hb d68 (by decide) (fun q => ?_) (fun q => ?_)
  · have hf := x_pos q hf
    have h0 : x_by cX0_collapseTracks 125 [42, 42, 180, 0, 38, 158, 0, 17] := by unfold x_by; decide +kernel
    obtain ⟨d125, h0⟩ := de_aload_n0 h0
    obtain ⟨d126, h0⟩ := de_aload_n0 h0
    obtain ⟨d127, h0⟩ := de_getfield 38 (by decide) h0
    obtain ⟨d130, h0⟩ := de_if_le (17) (by decide) h0
    refine lv_aload_n hx hb d125 rfl (lv_at hl 0 rfl) ?_
    refine lv_aload_n hx hb d126 rfl (lv_at hl 0 rfl) ?_
    refine x_getI C0 hR hf xcl_0 (Nat.le_of_ble_eq_true rfl) rfl fl_X0_38 d127 (fun i2 hf => ?_)
    refine lv_if_le (tgt := 147) hx hb d130 (by decide) (fun q => ?_) (fun q => ?_)
    · have hf := x_pos q hf
      have h0 : x_by cX0_collapseTracks 147 [3] := by unfold x_by; decide +kernel
      obtain ⟨d147, h0⟩ := de_iconst_0 h0
      refine lv_iconst (v := 0) hx hb d147 (by decide) ?_
      exact s_X0_collapseTracks_b148 C0 hxt _ _ _ _ _ _ hR hS (lv_sub hl [] rfl) hf
    · have hf := x_neg q hf
      have h0 : x_by cX0_collapseTracks 133 [42, 180, 0, 41, 42, 180, 0, 38, 4, 100, 104, 167, 0, 4] := by unfold x_by; decide +kernel
      obtain ⟨d133, h0⟩ := de_aload_n0 h0
      obtain ⟨d134, h0⟩ := de_getfield 41 (by decide) h0
      obtain ⟨d137, h0⟩ := de_aload_n0 h0
      obtain ⟨d138, h0⟩ := de_getfield 38 (by decide) h0
      obtain ⟨d141, h0⟩ := de_iconst_1 h0
      obtain ⟨d142, h0⟩ := de_isub h0
      obtain ⟨d143, h0⟩ := de_imul h0
      obtain ⟨d144, h0⟩ := de_goto (4) (by decide) h0
      refine lv_aload_n hx hb d133 rfl (lv_at hl 0 rfl) ?_
      refine x_getI C0 hR hf xcl_0 (Nat.le_of_ble_eq_true rfl) rfl fl_X0_41 d134 (fun i3 hf => ?_)
      refine lv_aload_n hx hb d137 rfl (lv_at hl 0 rfl) ?_
      refine x_getI C0 hR hf xcl_0 (Nat.le_of_ble_eq_true rfl) rfl fl_X0_38 d138 (fun i4 hf => ?_)
      refine lv_iconst (v := 1) hx hb d141 (by decide) ?_
      refine lv_isub hx hb d142 ?_
      refine lv_imul hx hb d143 ?_
      refine lv_goto (tgt := 148) hx hb d144 (by decide) ?_
      exact s_X0_collapseTracks_b148 C0 hxt _ _ _ _ _ _ hR hS (lv_sub hl [] rfl) hf
  · have hf := x_neg q hf
    have h0 : x_by cX0_collapseTracks 71 [42, 180, 0, 9, 27, 42, 27, 7, 182, 0, 95, 4, 160, 0, 15] := by unfold x_by; decide +kernel
    obtain ⟨d71, h0⟩ := de_aload_n0 h0
    obtain ⟨d72, h0⟩ := de_getfield 9 (by decide) h0
    obtain ⟨d75, h0⟩ := de_iload_n1 h0
    obtain ⟨d76, h0⟩ := de_aload_n0 h0
    obtain ⟨d77, h0⟩ := de_iload_n1 h0
    obtain ⟨d78, h0⟩ := de_iconst_4 h0
    obtain ⟨d79, h0⟩ := de_invokevirtual 95 (by decide) h0
    obtain ⟨d82, h0⟩ := de_iconst_1 h0
    obtain ⟨d83, h0⟩ := de_icmp_ne (15) (by decide) h0
    refine lv_aload_n hx hb d71 rfl (lv_at hl 0 rfl) ?_
    refine x_getR C0 hR hf xcl_0 (Nat.le_of_ble_eq_true rfl) rfl fl_X0_9 d72 (fun a5 hf => ?_)
    refine lv_iload_n hx hb d75 rfl (lv_at hl 1 rfl) ?_
    refine lv_aload_n hx hb d76 rfl (lv_at hl 0 rfl) ?_
    refine lv_iload_n hx hb d77 rfl (lv_at hl 1 rfl) ?_
    refine lv_iconst (v := 4) hx hb d78 (by decide) ?_
    obtain ⟨hs9, hf⟩ := x_if hf
    refine x_thenI C0 hxt hS hf (fun z0 e0 => x_runV C0 hR hS me_X0_part wi_X0_part wl_X0_part ml_X0_95 hs9 xcl_0 (As := [.int x1, .int 4]) (ct_X0_part E l C0.2.2.2.2.2.2.2.1 _ r0 x1 4) rfl rfl hl.1 (Nat.le_of_ble_eq_true rfl) d79 ⟨(Nat.le_of_ble_eq_true rfl), (Nat.le_of_ble_eq_true rfl)⟩ ⟨(Nat.le_of_ble_eq_true rfl), (Nat.le_of_ble_eq_true rfl)⟩ e0) (Nat.le_of_ble_eq_true rfl) (Nat.le_of_ble_eq_true rfl) (fun h9 i6 H locs hR hS hf => ?_)
    refine lv_iconst (v := 1) hx hb d82 (by decide) ?_
    refine lv_icmp_ne (tgt := 98) hx hb d83 (by decide) (fun q => ?_) (fun q => ?_)
    · have hf := x_neg q hf
      exact s_X0_collapseTracks_b98 C0 hxt hk63 _ _ _ _ _ _ _ _ hR hS (lv_sub hl [0, 1] rfl) hf
    · have hf := x_pos q hf
      have h0 : x_by cX0_collapseTracks 86 [42, 27, 182, 0, 112, 154, 0, 7] := by unfold x_by; decide +kernel
      obtain ⟨d86, h0⟩ := de_aload_n0 h0
      obtain ⟨d87, h0⟩ := de_iload_n1 h0
      obtain ⟨d88, h0⟩ := de_invokevirtual 112 (by decide) h0
      obtain ⟨d91, h0⟩ := de_if_ne (7) (by decide) h0
      refine lv_aload_n hx hb d86 rfl (lv_at hl 0 rfl) ?_
      refine lv_iload_n hx hb d87 rfl (lv_at hl 1 rfl) ?_
      obtain ⟨hs9, hf⟩ := x_if hf
      refine x_thenI C0 hxt hS hf (fun z0 e0 => x_runV C0 hR hS me_X0_isCovered wi_X0_isCovered wl_X0_isCovered ml_X0_112 hs9 xcl_0 (As := [.int x1]) (ct_X0_isCovered E l C0.2.2.2.2.2.2.2.1 _ r0 x1) rfl rfl hl.1 (Nat.le_of_ble_eq_true rfl) d88 ⟨(Nat.le_of_ble_eq_true rfl), (Nat.le_of_ble_eq_true rfl)⟩ ⟨(Nat.le_of_ble_eq_true rfl), (Nat.le_of_ble_eq_true rfl)⟩ e0) (Nat.le_of_ble_eq_true rfl) (Nat.le_of_ble_eq_true rfl) (fun h9 i8 H locs hR hS hf => ?_)
      refine lv_if_ne (tgt := 98) hx hb d91 (by decide) (fun q => ?_) (fun q => ?_)
      · have hf := x_neg q hf
        exact s_X0_collapseTracks_b98 C0 hxt hk63 _ _ _ _ _ _ _ _ hR hS (lv_sub hl [0, 1] rfl) hf
      · have hf := x_pos q hf
        have h0 : x_by cX0_collapseTracks 94 [4, 167, 0, 4] := by unfold x_by; decide +kernel
        obtain ⟨d94, h0⟩ := de_iconst_1 h0
        obtain ⟨d95, h0⟩ := de_goto (4) (by decide) h0
        refine lv_iconst (v := 1) hx hb d94 (by decide) ?_
        refine lv_goto (tgt := 99) hx hb d95 (by decide) ?_
        exact s_X0_collapseTracks_b99 C0 hxt hk63 _ _ _ _ _ _ _ _ _ hR hS (lv_sub hl [0, 1] rfl) hf
theorem s_X0_collapseTracks_L63 {p : Program} {l : Launch} {e : Env} {s : State} {m : MethodId} {args : Array Value} {below : List Frame} {meth : Method} {c : Code} {E : XE} {z : XR} (C0 : x_C E p l s m meth c args cX0_collapseTracks 2 "GridEngine$AxisLayout" "collapseTracks" none) (hxt : ∀ x ∈ c.exceptionTable.toList, False)  : ∀ n : Nat, ∀ (h : HP) (r0 : Nat) (x1 : Int32) (H : Heap) (locs : List Loc) (ls : Array Slot), x_Rep E h H → va_S (x_A E) s.heap H locs → lv_has ls 2 [(0, .ref (xa E r0)), (1, .int x1)] → f_X0_collapseTracks_L63 n h r0 x1 = some z → W p l e ({ frames := 12, cells := 0, slots := 0, locals := 221 } : Room) s m args below meth c H locs 0 0 (x_Q E below args s 0 0 z) (F0 m 63 ls []) := by
  intro n
  induction n with
  | zero => intro h r0 x1 H locs ls hR hS hl hf; cases (show (none : Option XR) = some z from hf)
  | succ n ih => intro h r0 x1 H locs ls hR hS hl hf; exact s_X0_collapseTracks_b63 C0 hxt ih h r0 x1 H locs ls hR hS hl (show f_X0_collapseTracks_b63 (f_X0_collapseTracks_L63 n) h r0 x1 = some z from hf)
set_option maxRecDepth 100000 in
set_option maxHeartbeats 4000000 in
theorem ct_X0_collapseTracks (E : XE) (l : Launch) (hl0 : l.stackTraces = false) (h : HP) (r0 : Nat) : x_ct E l yX0_collapseTracks (Cond.code yX0_collapseTracks cX0_collapseTracks 2 none) 12 221 0 0 [.ref (xa E r0)] h (f_X0_collapseTracks h r0) := by
  refine x_ofW hl0 (by decide +kernel) ?_
  intro z hf p e s m args below meth c C0 hxt hargs hR
  subst hargs
  have C0 : x_C E p l s m meth c ([.ref (xa E r0)] : List Value).toArray cX0_collapseTracks 2 "GridEngine$AxisLayout" "collapseTracks" none := C0
  obtain ⟨hx, hb, -⟩ := id C0
  have hS : va_S (x_A E) s.heap s.heap [] := va_S.rf
  have hl := lv_entry ([.ref (xa E r0)]) (n := 2) (Nat.le_of_ble_eq_true rfl)
  rw [lg_entry_eq]
  generalize (lg_sl ([.ref (xa E r0)]) ++ List.replicate (2 - (lg_sl ([.ref (xa E r0)])).length) Slot.unset).toArray = ls at hl ⊢
  have hl : lv_has ls 2 [(0, .ref (xa E r0))] := hl
  unfold f_X0_collapseTracks at hf
  have h0 : x_by cX0_collapseTracks 0 [42, 3, 16, 64, 42, 180, 0, 60, 42, 180, 0, 53, 182, 0, 107, 184, 0, 90, 184, 0, 82, 181, 0, 34, 42, 42, 180, 0, 56, 42, 180, 0, 53, 4, 182, 0, 109, 181, 0, 41, 42, 42, 180, 0, 56, 42, 180, 0, 53, 3, 182, 0, 109, 181, 0, 47, 42, 3, 181, 0, 38, 4, 60] := by unfold x_by; decide +kernel
  obtain ⟨d0, h0⟩ := de_aload_n0 h0
  obtain ⟨d1, h0⟩ := de_iconst_0 h0
  obtain ⟨d2, h0⟩ := de_bipush (64) (by decide) h0
  obtain ⟨d4, h0⟩ := de_aload_n0 h0
  obtain ⟨d5, h0⟩ := de_getfield 60 (by decide) h0
  obtain ⟨d8, h0⟩ := de_aload_n0 h0
  obtain ⟨d9, h0⟩ := de_getfield 53 (by decide) h0
  obtain ⟨d12, h0⟩ := de_invokevirtual 107 (by decide) h0
  obtain ⟨d15, h0⟩ := de_invokestatic 90 (by decide) h0
  obtain ⟨d18, h0⟩ := de_invokestatic 82 (by decide) h0
  obtain ⟨d21, h0⟩ := de_putfield 34 (by decide) h0
  obtain ⟨d24, h0⟩ := de_aload_n0 h0
  obtain ⟨d25, h0⟩ := de_aload_n0 h0
  obtain ⟨d26, h0⟩ := de_getfield 56 (by decide) h0
  obtain ⟨d29, h0⟩ := de_aload_n0 h0
  obtain ⟨d30, h0⟩ := de_getfield 53 (by decide) h0
  obtain ⟨d33, h0⟩ := de_iconst_1 h0
  obtain ⟨d34, h0⟩ := de_invokevirtual 109 (by decide) h0
  obtain ⟨d37, h0⟩ := de_putfield 41 (by decide) h0
  obtain ⟨d40, h0⟩ := de_aload_n0 h0
  obtain ⟨d41, h0⟩ := de_aload_n0 h0
  obtain ⟨d42, h0⟩ := de_getfield 56 (by decide) h0
  obtain ⟨d45, h0⟩ := de_aload_n0 h0
  obtain ⟨d46, h0⟩ := de_getfield 53 (by decide) h0
  obtain ⟨d49, h0⟩ := de_iconst_0 h0
  obtain ⟨d50, h0⟩ := de_invokevirtual 109 (by decide) h0
  obtain ⟨d53, h0⟩ := de_putfield 47 (by decide) h0
  obtain ⟨d56, h0⟩ := de_aload_n0 h0
  obtain ⟨d57, h0⟩ := de_iconst_0 h0
  obtain ⟨d58, h0⟩ := de_putfield 38 (by decide) h0
  obtain ⟨d61, h0⟩ := de_iconst_1 h0
  obtain ⟨d62, h0⟩ := de_istore_n1 h0
  refine lv_aload_n hx hb d0 rfl (lv_at hl 0 rfl) ?_
  refine lv_iconst (v := 0) hx hb d1 (by decide) ?_
  refine lv_bipush (v := 64) hx hb d2 (by decide) ?_
  refine lv_aload_n hx hb d4 rfl (lv_at hl 0 rfl) ?_
  refine x_getR C0 hR hf xcl_0 (Nat.le_of_ble_eq_true rfl) rfl fl_X0_60 d5 (fun a1 hf => ?_)
  refine lv_aload_n hx hb d8 rfl (lv_at hl 0 rfl) ?_
  refine x_getI C0 hR hf xcl_0 (Nat.le_of_ble_eq_true rfl) rfl fl_X0_53 d9 (fun i2 hf => ?_)
  obtain ⟨hs9, hf⟩ := x_if hf
  refine x_thenI C0 hxt hS hf (fun z0 e0 => x_runV C0 hR hS me_X5_trackCount wi_X5_trackCount wl_X5_trackCount ml_X0_107 hs9 xcl_5 (As := [.int i2]) (ct_X5_trackCount E l C0.2.2.2.2.2.2.2.1 _ a1 i2) rfl rfl hl.1 (Nat.le_of_ble_eq_true rfl) d12 ⟨(Nat.le_of_ble_eq_true rfl), (Nat.le_of_ble_eq_true rfl)⟩ ⟨(Nat.le_of_ble_eq_true rfl), (Nat.le_of_ble_eq_true rfl)⟩ e0) (Nat.le_of_ble_eq_true rfl) (Nat.le_of_ble_eq_true rfl) (fun h9 i3 H locs hR hS hf => ?_)
  refine x_mmin C0 hl.1 ml_X0_90 lib_min (Nat.le_of_ble_eq_true rfl) (Nat.le_of_ble_eq_true rfl) (Nat.le_of_ble_eq_true rfl) (Nat.le_of_ble_eq_true rfl) d15 ?_
  refine x_mmax C0 hl.1 ml_X0_82 lib_max (Nat.le_of_ble_eq_true rfl) (Nat.le_of_ble_eq_true rfl) (Nat.le_of_ble_eq_true rfl) (Nat.le_of_ble_eq_true rfl) d18 ?_
  refine x_putI C0 hR hS hf xcl_0 (Nat.le_of_ble_eq_true rfl) rfl fl_X0_34 (Or.inl rfl) d21 (fun H locs hR hS hf => ?_)
  refine lv_aload_n hx hb d24 rfl (lv_at hl 0 rfl) ?_
  refine lv_aload_n hx hb d25 rfl (lv_at hl 0 rfl) ?_
  refine x_getR C0 hR hf xcl_0 (Nat.le_of_ble_eq_true rfl) rfl fl_X0_56 d26 (fun a6 hf => ?_)
  refine lv_aload_n hx hb d29 rfl (lv_at hl 0 rfl) ?_
  refine x_getI C0 hR hf xcl_0 (Nat.le_of_ble_eq_true rfl) rfl fl_X0_53 d30 (fun i7 hf => ?_)
  refine lv_iconst (v := 1) hx hb d33 (by decide) ?_
  obtain ⟨hs9, hf⟩ := x_if hf
  refine x_thenI C0 hxt hS hf (fun z0 e0 => x_runV C0 hR hS me_X4_setting wi_X4_setting wl_X4_setting ml_X0_109 hs9 xcl_4 (As := [.int i7, .int 1]) (ct_X4_setting E l C0.2.2.2.2.2.2.2.1 _ a6 i7 1) rfl rfl hl.1 (Nat.le_of_ble_eq_true rfl) d34 ⟨(Nat.le_of_ble_eq_true rfl), (Nat.le_of_ble_eq_true rfl)⟩ ⟨(Nat.le_of_ble_eq_true rfl), (Nat.le_of_ble_eq_true rfl)⟩ e0) (Nat.le_of_ble_eq_true rfl) (Nat.le_of_ble_eq_true rfl) (fun h9 i8 H locs hR hS hf => ?_)
  refine x_putI C0 hR hS hf xcl_0 (Nat.le_of_ble_eq_true rfl) rfl fl_X0_41 (Or.inl rfl) d37 (fun H locs hR hS hf => ?_)
  refine lv_aload_n hx hb d40 rfl (lv_at hl 0 rfl) ?_
  refine lv_aload_n hx hb d41 rfl (lv_at hl 0 rfl) ?_
  refine x_getR C0 hR hf xcl_0 (Nat.le_of_ble_eq_true rfl) rfl fl_X0_56 d42 (fun a11 hf => ?_)
  refine lv_aload_n hx hb d45 rfl (lv_at hl 0 rfl) ?_
  refine x_getI C0 hR hf xcl_0 (Nat.le_of_ble_eq_true rfl) rfl fl_X0_53 d46 (fun i12 hf => ?_)
  refine lv_iconst (v := 0) hx hb d49 (by decide) ?_
  obtain ⟨hs9, hf⟩ := x_if hf
  refine x_thenI C0 hxt hS hf (fun z0 e0 => x_runV C0 hR hS me_X4_setting wi_X4_setting wl_X4_setting ml_X0_109 hs9 xcl_4 (As := [.int i12, .int 0]) (ct_X4_setting E l C0.2.2.2.2.2.2.2.1 _ a11 i12 0) rfl rfl hl.1 (Nat.le_of_ble_eq_true rfl) d50 ⟨(Nat.le_of_ble_eq_true rfl), (Nat.le_of_ble_eq_true rfl)⟩ ⟨(Nat.le_of_ble_eq_true rfl), (Nat.le_of_ble_eq_true rfl)⟩ e0) (Nat.le_of_ble_eq_true rfl) (Nat.le_of_ble_eq_true rfl) (fun h9 i13 H locs hR hS hf => ?_)
  refine x_putI C0 hR hS hf xcl_0 (Nat.le_of_ble_eq_true rfl) rfl fl_X0_47 (Or.inl rfl) d53 (fun H locs hR hS hf => ?_)
  refine lv_aload_n hx hb d56 rfl (lv_at hl 0 rfl) ?_
  refine lv_iconst (v := 0) hx hb d57 (by decide) ?_
  refine x_putI C0 hR hS hf xcl_0 (Nat.le_of_ble_eq_true rfl) rfl fl_X0_38 (Or.inl rfl) d58 (fun H locs hR hS hf => ?_)
  refine lv_iconst (v := 1) hx hb d61 (by decide) ?_
  refine lv_istore_n (lv' := [(1, .int 1), (0, .ref (xa E r0))]) hx hb d62 rfl hl (by decide) rfl (fun ls hl => ?_)
  exact s_X0_collapseTracks_L63 C0 hxt FU _ _ _ _ _ _ hR hS (lv_sub hl [1, 0] rfl) hf
def f_X0_sizesOf (h : HP) (r0 : Nat) (x1 : Int32) : Option XR :=
  if x1 = 1 then
    (
      x_gR h r0 0 4 fun a1 =>
      some (h, xq a1)
    )
  else
    (
    if x1 = 2 then
      (
        x_gR h r0 0 5 fun a2 =>
        some (h, xq a2)
      )
    else
      (
      if x1 = 3 then
        (
          x_gR h r0 0 6 fun a3 =>
          some (h, xq a3)
        )
      else
        (
        if x1 = 4 then
          (
            x_gR h r0 0 7 fun a4 =>
            some (h, xq a4)
          )
        else
          (
          x_gR h r0 0 8 fun a5 =>
          some (h, xq a5)
          )
        )
      )
    )
set_option maxRecDepth 100000 in
set_option maxHeartbeats 4000000 in
theorem ct_X0_sizesOf (E : XE) (l : Launch) (hl0 : l.stackTraces = false) (h : HP) (r0 : Nat) (x1 : Int32) : x_ct E l yX0_sizesOf (Cond.code yX0_sizesOf cX0_sizesOf 2 (some (.array .int))) 8 130 0 0 [.ref (xa E r0), .int x1] h (f_X0_sizesOf h r0 x1) := by
  refine x_ofW hl0 (by decide +kernel) ?_
  intro z hf p e s m args below meth c C0 hxt hargs hR
  subst hargs
  have C0 : x_C E p l s m meth c ([.ref (xa E r0), .int x1] : List Value).toArray cX0_sizesOf 2 "GridEngine$AxisLayout" "sizesOf" (some (.array .int)) := C0
  obtain ⟨hx, hb, -⟩ := id C0
  have hS : va_S (x_A E) s.heap s.heap [] := va_S.rf
  have hl := lv_entry ([.ref (xa E r0), .int x1]) (n := 2) (Nat.le_of_ble_eq_true rfl)
  rw [lg_entry_eq]
  generalize (lg_sl ([.ref (xa E r0), .int x1]) ++ List.replicate (2 - (lg_sl ([.ref (xa E r0), .int x1])).length) Slot.unset).toArray = ls at hl ⊢
  have hl : lv_has ls 2 [(0, .ref (xa E r0)), (1, .int x1)] := hl
  unfold f_X0_sizesOf at hf
  have h0 : x_by cX0_sizesOf 0 [27] := by unfold x_by; decide +kernel
  obtain ⟨d0, h0⟩ := de_iload_n1 h0
  have d1 : decode cX0_sizesOf 1 = .ok (.tableswitch 51 1 4 #[31, 36, 41, 46], 31) := by decide +kernel
  refine lv_iload_n hx hb d0 rfl (lv_at hl 1 rfl) ?_
  by_cases q0 : x1 = 1
  · have hf := x_pos q0 hf
    refine lv_tableIn (tgt := 32) hx hb d1 (by rw [q0]; decide) (by rw [q0]; decide) (by rw [q0]; first | done | rfl) (by decide) ?_
    have h0 : x_by cX0_sizesOf 32 [42, 180, 0, 15, 176] := by unfold x_by; decide +kernel
    obtain ⟨d32, h0⟩ := de_aload_n0 h0
    obtain ⟨d33, h0⟩ := de_getfield 15 (by decide) h0
    obtain ⟨d36, h0⟩ := de_areturn h0
    refine lv_aload_n hx hb d32 rfl (lv_at hl 0 rfl) ?_
    refine x_getR C0 hR hf xcl_0 (Nat.le_of_ble_eq_true rfl) rfl fl_X0_15 d33 (fun a1 hf => ?_)
    exact x_aret C0 (by first | exact Or.inl ⟨_, rfl⟩ | exact Or.inr ⟨_, rfl⟩) hR hS hf (Nat.le_of_ble_eq_true rfl) (Nat.le_of_ble_eq_true rfl) d36
  · have hf := x_neg q0 hf
    by_cases q1 : x1 = 2
    · have hf := x_pos q1 hf
      refine lv_tableIn (tgt := 37) hx hb d1 (by rw [q1]; decide) (by rw [q1]; decide) (by rw [q1]; first | done | rfl) (by decide) ?_
      have h0 : x_by cX0_sizesOf 37 [42, 180, 0, 19, 176] := by unfold x_by; decide +kernel
      obtain ⟨d37, h0⟩ := de_aload_n0 h0
      obtain ⟨d38, h0⟩ := de_getfield 19 (by decide) h0
      obtain ⟨d41, h0⟩ := de_areturn h0
      refine lv_aload_n hx hb d37 rfl (lv_at hl 0 rfl) ?_
      refine x_getR C0 hR hf xcl_0 (Nat.le_of_ble_eq_true rfl) rfl fl_X0_19 d38 (fun a2 hf => ?_)
      exact x_aret C0 (by first | exact Or.inl ⟨_, rfl⟩ | exact Or.inr ⟨_, rfl⟩) hR hS hf (Nat.le_of_ble_eq_true rfl) (Nat.le_of_ble_eq_true rfl) d41
    · have hf := x_neg q1 hf
      by_cases q2 : x1 = 3
      · have hf := x_pos q2 hf
        refine lv_tableIn (tgt := 42) hx hb d1 (by rw [q2]; decide) (by rw [q2]; decide) (by rw [q2]; first | done | rfl) (by decide) ?_
        have h0 : x_by cX0_sizesOf 42 [42, 180, 0, 22, 176] := by unfold x_by; decide +kernel
        obtain ⟨d42, h0⟩ := de_aload_n0 h0
        obtain ⟨d43, h0⟩ := de_getfield 22 (by decide) h0
        obtain ⟨d46, h0⟩ := de_areturn h0
        refine lv_aload_n hx hb d42 rfl (lv_at hl 0 rfl) ?_
        refine x_getR C0 hR hf xcl_0 (Nat.le_of_ble_eq_true rfl) rfl fl_X0_22 d43 (fun a3 hf => ?_)
        exact x_aret C0 (by first | exact Or.inl ⟨_, rfl⟩ | exact Or.inr ⟨_, rfl⟩) hR hS hf (Nat.le_of_ble_eq_true rfl) (Nat.le_of_ble_eq_true rfl) d46
      · have hf := x_neg q2 hf
        by_cases q3 : x1 = 4
        · have hf := x_pos q3 hf
          refine lv_tableIn (tgt := 47) hx hb d1 (by rw [q3]; decide) (by rw [q3]; decide) (by rw [q3]; first | done | rfl) (by decide) ?_
          have h0 : x_by cX0_sizesOf 47 [42, 180, 0, 25, 176] := by unfold x_by; decide +kernel
          obtain ⟨d47, h0⟩ := de_aload_n0 h0
          obtain ⟨d48, h0⟩ := de_getfield 25 (by decide) h0
          obtain ⟨d51, h0⟩ := de_areturn h0
          refine lv_aload_n hx hb d47 rfl (lv_at hl 0 rfl) ?_
          refine x_getR C0 hR hf xcl_0 (Nat.le_of_ble_eq_true rfl) rfl fl_X0_25 d48 (fun a4 hf => ?_)
          exact x_aret C0 (by first | exact Or.inl ⟨_, rfl⟩ | exact Or.inr ⟨_, rfl⟩) hR hS hf (Nat.le_of_ble_eq_true rfl) (Nat.le_of_ble_eq_true rfl) d51
        · have hf := x_neg q3 hf
          have g0 : (x1).toInt ≠ 1 := fun e9 => q0 (Int32.toInt_inj.mp (e9.trans (by decide)))
          have g1 : (x1).toInt ≠ 2 := fun e9 => q1 (Int32.toInt_inj.mp (e9.trans (by decide)))
          have g2 : (x1).toInt ≠ 3 := fun e9 => q2 (Int32.toInt_inj.mp (e9.trans (by decide)))
          have g3 : (x1).toInt ≠ 4 := fun e9 => q3 (Int32.toInt_inj.mp (e9.trans (by decide)))
          refine lv_tableOut (tgt := 52) hx hb d1 (by omega) (by decide) ?_
          have h0 : x_by cX0_sizesOf 52 [42, 180, 0, 28, 176] := by unfold x_by; decide +kernel
          obtain ⟨d52, h0⟩ := de_aload_n0 h0
          obtain ⟨d53, h0⟩ := de_getfield 28 (by decide) h0
          obtain ⟨d56, h0⟩ := de_areturn h0
          refine lv_aload_n hx hb d52 rfl (lv_at hl 0 rfl) ?_
          refine x_getR C0 hR hf xcl_0 (Nat.le_of_ble_eq_true rfl) rfl fl_X0_28 d53 (fun a5 hf => ?_)
          exact x_aret C0 (by first | exact Or.inl ⟨_, rfl⟩ | exact Or.inr ⟨_, rfl⟩) hR hS hf (Nat.le_of_ble_eq_true rfl) (Nat.le_of_ble_eq_true rfl) d56
def f_X0_trackSize_b27  (h : HP) (t0 : Int32) : Option XR :=
  some (h, xi t0)
def f_X0_trackSize_b26  (h : HP)  : Option XR :=
  f_X0_trackSize_b27 h 0
def f_X0_trackSize (h : HP) (r0 : Nat) (x1 : Int32) (x2 : Int32) : Option XR :=
  x_rc h r0 0 <| x_cQ (f_X0_sizesOf h r0 x2) fun h2 a1 =>
  x_rc h2 r0 0 <| x_cI (f_X0_isOpen h2 r0 x1) fun h4 i3 =>
  if i3 = 0 then
    (
      f_X0_trackSize_b26 h4
    )
  else
    (
      x_ln h4 a1 fun i5 =>
      if i5 ≤ x1 then
        (
          f_X0_trackSize_b26 h4
        )
      else
        (
          x_aI h4 100 a1 x1 fun i6 =>
          f_X0_trackSize_b27 h4 i6
        )
    )
set_option maxRecDepth 100000 in
set_option maxHeartbeats 4000000 in
theorem s_X0_trackSize_b27 {p : Program} {l : Launch} {e : Env} {s : State} {m : MethodId} {args : Array Value} {below : List Frame} {meth : Method} {c : Code} {E : XE} {z : XR} (C0 : x_C E p l s m meth c args cX0_trackSize 4 "GridEngine$AxisLayout" "trackSize" (some .int)) (hxt : ∀ x ∈ c.exceptionTable.toList, False)  : ∀ (h : HP) (t0 : Int32) (H : Heap) (locs : List Loc) (ls : Array Slot), x_Rep E h H → va_S (x_A E) s.heap H locs → lv_has ls 4 [] → f_X0_trackSize_b27 h t0 = some z → W p l e ({ frames := 9, cells := 0, slots := 0, locals := 151 } : Room) s m args below meth c H locs 0 0 (x_Q E below args s 0 0 z) (F0 m 27 ls [.int t0]) := by
  intro h t0 H locs ls hR hS hl hf
  obtain ⟨hx, hb, -⟩ := id C0
  unfold f_X0_trackSize_b27 at hf
  have h0 : x_by cX0_trackSize 27 [172] := by unfold x_by; decide +kernel
  obtain ⟨d27, h0⟩ := de_ireturn h0
  exact x_iret C0 hR hS hf (Nat.le_of_ble_eq_true rfl) (Nat.le_of_ble_eq_true rfl) d27
set_option maxRecDepth 100000 in
set_option maxHeartbeats 4000000 in
theorem s_X0_trackSize_b26 {p : Program} {l : Launch} {e : Env} {s : State} {m : MethodId} {args : Array Value} {below : List Frame} {meth : Method} {c : Code} {E : XE} {z : XR} (C0 : x_C E p l s m meth c args cX0_trackSize 4 "GridEngine$AxisLayout" "trackSize" (some .int)) (hxt : ∀ x ∈ c.exceptionTable.toList, False)  : ∀ (h : HP)  (H : Heap) (locs : List Loc) (ls : Array Slot), x_Rep E h H → va_S (x_A E) s.heap H locs → lv_has ls 4 [] → f_X0_trackSize_b26 h  = some z → W p l e ({ frames := 9, cells := 0, slots := 0, locals := 151 } : Room) s m args below meth c H locs 0 0 (x_Q E below args s 0 0 z) (F0 m 26 ls []) := by
  intro h  H locs ls hR hS hl hf
  obtain ⟨hx, hb, -⟩ := id C0
  unfold f_X0_trackSize_b26 at hf
  have h0 : x_by cX0_trackSize 26 [3] := by unfold x_by; decide +kernel
  obtain ⟨d26, h0⟩ := de_iconst_0 h0
  refine lv_iconst (v := 0) hx hb d26 (by decide) ?_
  exact s_X0_trackSize_b27 C0 hxt _ _ _ _ _ hR hS (lv_sub hl [] rfl) hf
set_option maxRecDepth 100000 in
set_option maxHeartbeats 4000000 in
theorem ct_X0_trackSize (E : XE) (l : Launch) (hl0 : l.stackTraces = false) (h : HP) (r0 : Nat) (x1 : Int32) (x2 : Int32) : x_ct E l yX0_trackSize (Cond.code yX0_trackSize cX0_trackSize 4 (some .int)) 9 151 0 0 [.ref (xa E r0), .int x1, .int x2] h (f_X0_trackSize h r0 x1 x2) := by
  refine x_ofW hl0 (by decide +kernel) ?_
  intro z hf p e s m args below meth c C0 hxt hargs hR
  subst hargs
  have C0 : x_C E p l s m meth c ([.ref (xa E r0), .int x1, .int x2] : List Value).toArray cX0_trackSize 4 "GridEngine$AxisLayout" "trackSize" (some .int) := C0
  obtain ⟨hx, hb, -⟩ := id C0
  have hS : va_S (x_A E) s.heap s.heap [] := va_S.rf
  have hl := lv_entry ([.ref (xa E r0), .int x1, .int x2]) (n := 4) (Nat.le_of_ble_eq_true rfl)
  rw [lg_entry_eq]
  generalize (lg_sl ([.ref (xa E r0), .int x1, .int x2]) ++ List.replicate (4 - (lg_sl ([.ref (xa E r0), .int x1, .int x2])).length) Slot.unset).toArray = ls at hl ⊢
  have hl : lv_has ls 4 [(0, .ref (xa E r0)), (1, .int x1), (2, .int x2)] := hl
  unfold f_X0_trackSize at hf
  have h0 : x_by cX0_trackSize 0 [42, 28, 182, 0, 153, 78, 42, 27, 182, 0, 130, 153, 0, 15] := by unfold x_by; decide +kernel
  obtain ⟨d0, h0⟩ := de_aload_n0 h0
  obtain ⟨d1, h0⟩ := de_iload_n2 h0
  obtain ⟨d2, h0⟩ := de_invokevirtual 153 (by decide) h0
  obtain ⟨d5, h0⟩ := de_astore_n3 h0
  obtain ⟨d6, h0⟩ := de_aload_n0 h0
  obtain ⟨d7, h0⟩ := de_iload_n1 h0
  obtain ⟨d8, h0⟩ := de_invokevirtual 130 (by decide) h0
  obtain ⟨d11, h0⟩ := de_if_eq (15) (by decide) h0
  refine lv_aload_n hx hb d0 rfl (lv_at hl 0 rfl) ?_
  refine lv_iload_n hx hb d1 rfl (lv_at hl 2 rfl) ?_
  obtain ⟨hs9, hf⟩ := x_if hf
  refine x_thenQ C0 hxt hS hf (fun z0 e0 => x_runV C0 hR hS me_X0_sizesOf wi_X0_sizesOf wl_X0_sizesOf ml_X0_153 hs9 xcl_0 (As := [.int x2]) (ct_X0_sizesOf E l C0.2.2.2.2.2.2.2.1 _ r0 x2) rfl rfl hl.1 (Nat.le_of_ble_eq_true rfl) d2 ⟨(Nat.le_of_ble_eq_true rfl), (Nat.le_of_ble_eq_true rfl)⟩ ⟨(Nat.le_of_ble_eq_true rfl), (Nat.le_of_ble_eq_true rfl)⟩ e0) (Nat.le_of_ble_eq_true rfl) (Nat.le_of_ble_eq_true rfl) (fun h9 a1 H locs hR hS hf => ?_)
  refine lv_astore_n (lv' := [(3, .ref (xa E a1)), (0, .ref (xa E r0)), (1, .int x1), (2, .int x2)]) hx hb d5 rfl hl (by decide) rfl (fun ls hl => ?_)
  refine lv_aload_n hx hb d6 rfl (lv_at hl 1 rfl) ?_
  refine lv_iload_n hx hb d7 rfl (lv_at hl 2 rfl) ?_
  obtain ⟨hs9, hf⟩ := x_if hf
  refine x_thenI C0 hxt hS hf (fun z0 e0 => x_runV C0 hR hS me_X0_isOpen wi_X0_isOpen wl_X0_isOpen ml_X0_130 hs9 xcl_0 (As := [.int x1]) (ct_X0_isOpen E l C0.2.2.2.2.2.2.2.1 _ r0 x1) rfl rfl hl.1 (Nat.le_of_ble_eq_true rfl) d8 ⟨(Nat.le_of_ble_eq_true rfl), (Nat.le_of_ble_eq_true rfl)⟩ ⟨(Nat.le_of_ble_eq_true rfl), (Nat.le_of_ble_eq_true rfl)⟩ e0) (Nat.le_of_ble_eq_true rfl) (Nat.le_of_ble_eq_true rfl) (fun h9 i3 H locs hR hS hf => ?_)
  refine lv_if_eq (tgt := 26) hx hb d11 (by decide) (fun q => ?_) (fun q => ?_)
  · have hf := x_pos q hf
    exact s_X0_trackSize_b26 C0 hxt _ _ _ _ hR hS (lv_sub hl [] rfl) hf
  · have hf := x_neg q hf
    have h0 : x_by cX0_trackSize 14 [27, 45, 190, 162, 0, 9] := by unfold x_by; decide +kernel
    obtain ⟨d14, h0⟩ := de_iload_n1 h0
    obtain ⟨d15, h0⟩ := de_aload_n3 h0
    obtain ⟨d16, h0⟩ := de_arraylength h0
    obtain ⟨d17, h0⟩ := de_icmp_ge (9) (by decide) h0
    refine lv_iload_n hx hb d14 rfl (lv_at hl 2 rfl) ?_
    refine lv_aload_n hx hb d15 rfl (lv_at hl 0 rfl) ?_
    refine x_alen C0 hR hf d16 (fun i5 hf => ?_)
    refine lv_icmp_ge (tgt := 26) hx hb d17 (by decide) (fun q => ?_) (fun q => ?_)
    · have hf := x_pos q hf
      exact s_X0_trackSize_b26 C0 hxt _ _ _ _ hR hS (lv_sub hl [] rfl) hf
    · have hf := x_neg q hf
      have h0 : x_by cX0_trackSize 20 [45, 27, 46, 167, 0, 4] := by unfold x_by; decide +kernel
      obtain ⟨d20, h0⟩ := de_aload_n3 h0
      obtain ⟨d21, h0⟩ := de_iload_n1 h0
      obtain ⟨d22, h0⟩ := de_iaload h0
      obtain ⟨d23, h0⟩ := de_goto (4) (by decide) h0
      refine lv_aload_n hx hb d20 rfl (lv_at hl 0 rfl) ?_
      refine lv_iload_n hx hb d21 rfl (lv_at hl 2 rfl) ?_
      refine x_iald C0 hR hf d22 (fun i6 hf => ?_)
      refine lv_goto (tgt := 27) hx hb d23 (by decide) ?_
      exact s_X0_trackSize_b27 C0 hxt _ _ _ _ _ hR hS (lv_sub hl [] rfl) hf
def f_X0_sumWithGutters_b7 (k7 : HP → Nat → Int32 → Int32 → Int32 → Option XR) (h : HP) (r0 : Nat) (x1 : Int32) (x2 : Int32) (x3 : Int32) : Option XR :=
  x_gI h r0 0 10 fun i1 =>
  if i1 < x3 then
    (
      some (h, xi x2)
    )
  else
    (
      x_rc h r0 0 <| x_cI (f_X0_trackSize h r0 x3 x1) fun h3 i2 =>
      x_lI (x2 + i2) fun i4 =>
      k7 h3 r0 x1 i4 (x3 + 1)
    )
def f_X0_sumWithGutters_L7  : Nat → HP → Nat → Int32 → Int32 → Int32 → Option XR
  | 0 => fun _ _ _ _ _ => none
  | n + 1 => f_X0_sumWithGutters_b7 (f_X0_sumWithGutters_L7 n)
def f_X0_sumWithGutters (h : HP) (r0 : Nat) (x1 : Int32) : Option XR :=
  x_gI h r0 0 13 fun i1 =>
  f_X0_sumWithGutters_L7 FU h r0 x1 i1 1
set_option maxRecDepth 100000 in
set_option maxHeartbeats 4000000 in
theorem s_X0_sumWithGutters_b7 {p : Program} {l : Launch} {e : Env} {s : State} {m : MethodId} {args : Array Value} {below : List Frame} {meth : Method} {c : Code} {E : XE} {z : XR} (C0 : x_C E p l s m meth c args cX0_sumWithGutters 4 "GridEngine$AxisLayout" "sumWithGutters" (some .int)) (hxt : ∀ x ∈ c.exceptionTable.toList, False) {k7 : HP → Nat → Int32 → Int32 → Int32 → Option XR} (hk7 : ∀ (h : HP) (r0 : Nat) (x1 : Int32) (x2 : Int32) (x3 : Int32) (H : Heap) (locs : List Loc) (ls : Array Slot), x_Rep E h H → va_S (x_A E) s.heap H locs → lv_has ls 4 [(0, .ref (xa E r0)), (1, .int x1), (2, .int x2), (3, .int x3)] → k7 h r0 x1 x2 x3 = some z → W p l e ({ frames := 10, cells := 0, slots := 0, locals := 174 } : Room) s m args below meth c H locs 0 0 (x_Q E below args s 0 0 z) (F0 m 7 ls [])) : ∀ (h : HP) (r0 : Nat) (x1 : Int32) (x2 : Int32) (x3 : Int32) (H : Heap) (locs : List Loc) (ls : Array Slot), x_Rep E h H → va_S (x_A E) s.heap H locs → lv_has ls 4 [(0, .ref (xa E r0)), (1, .int x1), (2, .int x2), (3, .int x3)] → f_X0_sumWithGutters_b7 k7 h r0 x1 x2 x3 = some z → W p l e ({ frames := 10, cells := 0, slots := 0, locals := 174 } : Room) s m args below meth c H locs 0 0 (x_Q E below args s 0 0 z) (F0 m 7 ls []) := by
  intro h r0 x1 x2 x3 H locs ls hR hS hl hf
  obtain ⟨hx, hb, -⟩ := id C0
  unfold f_X0_sumWithGutters_b7 at hf
  have h0 : x_by cX0_sumWithGutters 7 [29, 42, 180, 0, 34, 163, 0, 18] := by unfold x_by; decide +kernel
  obtain ⟨d7, h0⟩ := de_iload_n3 h0
  obtain ⟨d8, h0⟩ := de_aload_n0 h0
  obtain ⟨d9, h0⟩ := de_getfield 34 (by decide) h0
  obtain ⟨d12, h0⟩ := de_icmp_gt (18) (by decide) h0
  refine lv_iload_n hx hb d7 rfl (lv_at hl 3 rfl) ?_
  refine lv_aload_n hx hb d8 rfl (lv_at hl 0 rfl) ?_
  refine x_getI C0 hR hf xcl_0 (Nat.le_of_ble_eq_true rfl) rfl fl_X0_34 d9 (fun i1 hf => ?_)
  refine lv_icmp_gt (tgt := 30) hx hb d12 (by decide) (fun q => ?_) (fun q => ?_)
  · have hf := x_pos q hf
    have h0 : x_by cX0_sumWithGutters 30 [28, 172] := by unfold x_by; decide +kernel
    obtain ⟨d30, h0⟩ := de_iload_n2 h0
    obtain ⟨d31, h0⟩ := de_ireturn h0
    refine lv_iload_n hx hb d30 rfl (lv_at hl 2 rfl) ?_
    exact x_iret C0 hR hS hf (Nat.le_of_ble_eq_true rfl) (Nat.le_of_ble_eq_true rfl) d31
  · have hf := x_neg q hf
    have h0 : x_by cX0_sumWithGutters 15 [28, 42, 29, 27, 182, 0, 157, 96, 61, 132, 3, 1, 167, 255, 236] := by unfold x_by; decide +kernel
    obtain ⟨d15, h0⟩ := de_iload_n2 h0
    obtain ⟨d16, h0⟩ := de_aload_n0 h0
    obtain ⟨d17, h0⟩ := de_iload_n3 h0
    obtain ⟨d18, h0⟩ := de_iload_n1 h0
    obtain ⟨d19, h0⟩ := de_invokevirtual 157 (by decide) h0
    obtain ⟨d22, h0⟩ := de_iadd h0
    obtain ⟨d23, h0⟩ := de_istore_n2 h0
    obtain ⟨d24, h0⟩ := de_iinc (1) (by decide) h0
    obtain ⟨d27, h0⟩ := de_goto (-20) (by decide) h0
    refine lv_iload_n hx hb d15 rfl (lv_at hl 2 rfl) ?_
    refine lv_aload_n hx hb d16 rfl (lv_at hl 0 rfl) ?_
    refine lv_iload_n hx hb d17 rfl (lv_at hl 3 rfl) ?_
    refine lv_iload_n hx hb d18 rfl (lv_at hl 1 rfl) ?_
    obtain ⟨hs9, hf⟩ := x_if hf
    refine x_thenI C0 hxt hS hf (fun z0 e0 => x_runV C0 hR hS me_X0_trackSize wi_X0_trackSize wl_X0_trackSize ml_X0_157 hs9 xcl_0 (As := [.int x3, .int x1]) (ct_X0_trackSize E l C0.2.2.2.2.2.2.2.1 _ r0 x3 x1) rfl rfl hl.1 (Nat.le_of_ble_eq_true rfl) d19 ⟨(Nat.le_of_ble_eq_true rfl), (Nat.le_of_ble_eq_true rfl)⟩ ⟨(Nat.le_of_ble_eq_true rfl), (Nat.le_of_ble_eq_true rfl)⟩ e0) (Nat.le_of_ble_eq_true rfl) (Nat.le_of_ble_eq_true rfl) (fun h9 i2 H locs hR hS hf => ?_)
    refine lv_iadd hx hb d22 ?_
    refine lv_topi (fun i4 ei4 => ?_)
    have hf := x_lI_el ei4 hf
    refine lv_istore_n (lv' := [(2, .int i4), (0, .ref (xa E r0)), (1, .int x1), (3, .int x3)]) hx hb d23 rfl hl (by decide) rfl (fun ls hl => ?_)
    refine lv_iinc (v := (x3 + 1)) (lv' := [(3, .int (x3 + 1)), (2, .int i4), (0, .ref (xa E r0)), (1, .int x1)]) hx hb d24 hl (k := 3) rfl rfl (by decide) rfl (fun ls hl => ?_)
    refine lv_goto (tgt := 7) hx hb d27 (by decide) ?_
    exact hk7 _ _ _ _ _ _ _ _ hR hS (lv_sub hl [2, 3, 1, 0] rfl) hf
theorem s_X0_sumWithGutters_L7 {p : Program} {l : Launch} {e : Env} {s : State} {m : MethodId} {args : Array Value} {below : List Frame} {meth : Method} {c : Code} {E : XE} {z : XR} (C0 : x_C E p l s m meth c args cX0_sumWithGutters 4 "GridEngine$AxisLayout" "sumWithGutters" (some .int)) (hxt : ∀ x ∈ c.exceptionTable.toList, False)  : ∀ n : Nat, ∀ (h : HP) (r0 : Nat) (x1 : Int32) (x2 : Int32) (x3 : Int32) (H : Heap) (locs : List Loc) (ls : Array Slot), x_Rep E h H → va_S (x_A E) s.heap H locs → lv_has ls 4 [(0, .ref (xa E r0)), (1, .int x1), (2, .int x2), (3, .int x3)] → f_X0_sumWithGutters_L7 n h r0 x1 x2 x3 = some z → W p l e ({ frames := 10, cells := 0, slots := 0, locals := 174 } : Room) s m args below meth c H locs 0 0 (x_Q E below args s 0 0 z) (F0 m 7 ls []) := by
  intro n
  induction n with
  | zero => intro h r0 x1 x2 x3 H locs ls hR hS hl hf; cases (show (none : Option XR) = some z from hf)
  | succ n ih => intro h r0 x1 x2 x3 H locs ls hR hS hl hf; exact s_X0_sumWithGutters_b7 C0 hxt ih h r0 x1 x2 x3 H locs ls hR hS hl (show f_X0_sumWithGutters_b7 (f_X0_sumWithGutters_L7 n) h r0 x1 x2 x3 = some z from hf)
set_option maxRecDepth 100000 in
set_option maxHeartbeats 4000000 in
theorem ct_X0_sumWithGutters (E : XE) (l : Launch) (hl0 : l.stackTraces = false) (h : HP) (r0 : Nat) (x1 : Int32) : x_ct E l yX0_sumWithGutters (Cond.code yX0_sumWithGutters cX0_sumWithGutters 4 (some .int)) 10 174 0 0 [.ref (xa E r0), .int x1] h (f_X0_sumWithGutters h r0 x1) := by
  refine x_ofW hl0 (by decide +kernel) ?_
  intro z hf p e s m args below meth c C0 hxt hargs hR
  subst hargs
  have C0 : x_C E p l s m meth c ([.ref (xa E r0), .int x1] : List Value).toArray cX0_sumWithGutters 4 "GridEngine$AxisLayout" "sumWithGutters" (some .int) := C0
  obtain ⟨hx, hb, -⟩ := id C0
  have hS : va_S (x_A E) s.heap s.heap [] := va_S.rf
  have hl := lv_entry ([.ref (xa E r0), .int x1]) (n := 4) (Nat.le_of_ble_eq_true rfl)
  rw [lg_entry_eq]
  generalize (lg_sl ([.ref (xa E r0), .int x1]) ++ List.replicate (4 - (lg_sl ([.ref (xa E r0), .int x1])).length) Slot.unset).toArray = ls at hl ⊢
  have hl : lv_has ls 4 [(0, .ref (xa E r0)), (1, .int x1)] := hl
  unfold f_X0_sumWithGutters at hf
  have h0 : x_by cX0_sumWithGutters 0 [42, 180, 0, 44, 61, 4, 62] := by unfold x_by; decide +kernel
  obtain ⟨d0, h0⟩ := de_aload_n0 h0
  obtain ⟨d1, h0⟩ := de_getfield 44 (by decide) h0
  obtain ⟨d4, h0⟩ := de_istore_n2 h0
  obtain ⟨d5, h0⟩ := de_iconst_1 h0
  obtain ⟨d6, h0⟩ := de_istore_n3 h0
  refine lv_aload_n hx hb d0 rfl (lv_at hl 0 rfl) ?_
  refine x_getI C0 hR hf xcl_0 (Nat.le_of_ble_eq_true rfl) rfl fl_X0_44 d1 (fun i1 hf => ?_)
  refine lv_istore_n (lv' := [(2, .int i1), (0, .ref (xa E r0)), (1, .int x1)]) hx hb d4 rfl hl (by decide) rfl (fun ls hl => ?_)
  refine lv_iconst (v := 1) hx hb d5 (by decide) ?_
  refine lv_istore_n (lv' := [(3, .int 1), (2, .int i1), (0, .ref (xa E r0)), (1, .int x1)]) hx hb d6 rfl hl (by decide) rfl (fun ls hl => ?_)
  exact s_X0_sumWithGutters_L7 C0 hxt FU _ _ _ _ _ _ _ _ hR hS (lv_sub hl [2, 3, 1, 0] rfl) hf
def f_X0_growTracks_b86 (k51 : HP → Nat → Nat → Int32 → Option XR) (h : HP) (r0 : Nat) (r1 : Nat) (x2 : Int32) : Option XR :=
  k51 h r0 r1 (x2 + 1)
def f_X0_growTracks_b51 (k51 : HP → Nat → Nat → Int32 → Option XR) (h : HP) (r0 : Nat) (r1 : Nat) (x2 : Int32) : Option XR :=
  x_gI h r0 0 10 fun i1 =>
  if i1 < x2 then
    (
      x_gI h r0 0 14 fun i2 =>
      x_rc h r0 0 <| x_cI (f_X0_sumWithGutters h r0 1) fun h4 i3 =>
      x_rc h4 r1 2 <| x_cI (f_X2_pour h4 r1 (i2 - i3)) fun h6 i5 =>
      x_gR h6 r0 0 4 fun a7 =>
      x_gR h6 r0 0 6 fun a8 =>
      x_rc h6 r1 2 <| x_cV (f_X2_raise h6 r1 a7 a8) fun h9 =>
      some (h9, xv)
    )
  else
    (
      x_rc h r0 0 <| x_cI (f_X0_isOpen h r0 x2) fun h11 i10 =>
      if i10 = 0 then
        (
          f_X0_growTracks_b86 k51 h11 r0 r1 x2
        )
      else
        (
          x_gR h11 r0 0 5 fun a12 =>
          x_aI h11 100 a12 x2 fun i13 =>
          x_gR h11 r0 0 4 fun a14 =>
          x_aI h11 100 a14 x2 fun i15 =>
          x_rc h11 r1 2 <| x_cV (f_X2_admit h11 r1 x2 1 (i13 - i15)) fun h16 =>
          f_X0_growTracks_b86 k51 h16 r0 r1 x2
        )
    )
def f_X0_growTracks_L51  : Nat → HP → Nat → Nat → Int32 → Option XR
  | 0 => fun _ _ _ _ => none
  | n + 1 => f_X0_growTracks_b51 (f_X0_growTracks_L51 n)
def f_X0_growTracks (h : HP) (r0 : Nat) (r1 : Nat) : Option XR :=
  x_gI h r0 0 14 fun i1 =>
  if i1 = (-1) then
    (
      x_gR h r0 0 5 fun a8 =>
      x_gR h r0 0 6 fun a9 =>
      x_gR h r0 0 6 fun a10 =>
      x_ln h a10 fun i11 =>
      x_cp h a8 0 a9 0 i11 fun h12 =>
      some (h12, xv)
    )
  else
    (
      x_gR h r0 0 4 fun a2 =>
      x_gR h r0 0 6 fun a3 =>
      x_gR h r0 0 6 fun a4 =>
      x_ln h a4 fun i5 =>
      x_cp h a2 0 a3 0 i5 fun h6 =>
      x_rc h6 r1 2 <| x_cV (f_X2_startAnew h6 r1) fun h7 =>
      f_X0_growTracks_L51 FU h7 r0 r1 1
    )
set_option maxRecDepth 100000 in
set_option maxHeartbeats 4000000 in
theorem s_X0_growTracks_b86 {p : Program} {l : Launch} {e : Env} {s : State} {m : MethodId} {args : Array Value} {below : List Frame} {meth : Method} {c : Code} {E : XE} {z : XR} (C0 : x_C E p l s m meth c args cX0_growTracks 3 "GridEngine$AxisLayout" "growTracks" none) (hxt : ∀ x ∈ c.exceptionTable.toList, False) {k51 : HP → Nat → Nat → Int32 → Option XR} (hk51 : ∀ (h : HP) (r0 : Nat) (r1 : Nat) (x2 : Int32) (H : Heap) (locs : List Loc) (ls : Array Slot), x_Rep E h H → va_S (x_A E) s.heap H locs → lv_has ls 3 [(0, .ref (xa E r0)), (1, .ref (xa E r1)), (2, .int x2)] → k51 h r0 r1 x2 = some z → W p l e ({ frames := 12, cells := 0, slots := 0, locals := 224 } : Room) s m args below meth c H locs 0 0 (x_Q E below args s 0 0 z) (F0 m 51 ls [])) : ∀ (h : HP) (r0 : Nat) (r1 : Nat) (x2 : Int32) (H : Heap) (locs : List Loc) (ls : Array Slot), x_Rep E h H → va_S (x_A E) s.heap H locs → lv_has ls 3 [(0, .ref (xa E r0)), (1, .ref (xa E r1)), (2, .int x2)] → f_X0_growTracks_b86 k51 h r0 r1 x2 = some z → W p l e ({ frames := 12, cells := 0, slots := 0, locals := 224 } : Room) s m args below meth c H locs 0 0 (x_Q E below args s 0 0 z) (F0 m 86 ls []) := by
  intro h r0 r1 x2 H locs ls hR hS hl hf
  obtain ⟨hx, hb, -⟩ := id C0
  unfold f_X0_growTracks_b86 at hf
  have h0 : x_by cX0_growTracks 86 [132, 2, 1, 167, 255, 218] := by unfold x_by; decide +kernel
  obtain ⟨d86, h0⟩ := de_iinc (1) (by decide) h0
  obtain ⟨d89, h0⟩ := de_goto (-38) (by decide) h0
  refine lv_iinc (v := (x2 + 1)) (lv' := [(2, .int (x2 + 1)), (0, .ref (xa E r0)), (1, .ref (xa E r1))]) hx hb d86 hl (k := 2) rfl rfl (by decide) rfl (fun ls hl => ?_)
  refine lv_goto (tgt := 51) hx hb d89 (by decide) ?_
  exact hk51 _ _ _ _ _ _ _ hR hS (lv_sub hl [1, 2, 0] rfl) hf
set_option maxRecDepth 100000 in
set_option maxHeartbeats 4000000 in
theorem s_X0_growTracks_b51 {p : Program} {l : Launch} {e : Env} {s : State} {m : MethodId} {args : Array Value} {below : List Frame} {meth : Method} {c : Code} {E : XE} {z : XR} (C0 : x_C E p l s m meth c args cX0_growTracks 3 "GridEngine$AxisLayout" "growTracks" none) (hxt : ∀ x ∈ c.exceptionTable.toList, False) {k51 : HP → Nat → Nat → Int32 → Option XR} (hk51 : ∀ (h : HP) (r0 : Nat) (r1 : Nat) (x2 : Int32) (H : Heap) (locs : List Loc) (ls : Array Slot), x_Rep E h H → va_S (x_A E) s.heap H locs → lv_has ls 3 [(0, .ref (xa E r0)), (1, .ref (xa E r1)), (2, .int x2)] → k51 h r0 r1 x2 = some z → W p l e ({ frames := 12, cells := 0, slots := 0, locals := 224 } : Room) s m args below meth c H locs 0 0 (x_Q E below args s 0 0 z) (F0 m 51 ls [])) : ∀ (h : HP) (r0 : Nat) (r1 : Nat) (x2 : Int32) (H : Heap) (locs : List Loc) (ls : Array Slot), x_Rep E h H → va_S (x_A E) s.heap H locs → lv_has ls 3 [(0, .ref (xa E r0)), (1, .ref (xa E r1)), (2, .int x2)] → f_X0_growTracks_b51 k51 h r0 r1 x2 = some z → W p l e ({ frames := 12, cells := 0, slots := 0, locals := 224 } : Room) s m args below meth c H locs 0 0 (x_Q E below args s 0 0 z) (F0 m 51 ls []) := by
  intro h r0 r1 x2 H locs ls hR hS hl hf
  obtain ⟨hx, hb, -⟩ := id C0
  unfold f_X0_growTracks_b51 at hf
  have h0 : x_by cX0_growTracks 51 [28, 42, 180, 0, 34, 163, 0, 36] := by unfold x_by; decide +kernel
  obtain ⟨d51, h0⟩ := de_iload_n2 h0
  obtain ⟨d52, h0⟩ := de_aload_n0 h0
  obtain ⟨d53, h0⟩ := de_getfield 34 (by decide) h0
  obtain ⟨d56, h0⟩ := de_icmp_gt (36) (by decide) h0
  refine lv_iload_n hx hb d51 rfl (lv_at hl 2 rfl) ?_
  refine lv_aload_n hx hb d52 rfl (lv_at hl 0 rfl) ?_
  refine x_getI C0 hR hf xcl_0 (Nat.le_of_ble_eq_true rfl) rfl fl_X0_34 d53 (fun i1 hf => ?_)
  refine lv_icmp_gt (tgt := 92) hx hb d56 (by decide) (fun q => ?_) (fun q => ?_)
  · have hf := x_pos q hf
    have h0 : x_by cX0_growTracks 92 [43, 42, 180, 0, 47, 42, 4, 182, 0, 137, 100, 182, 0, 140, 87, 43, 42, 180, 0, 15, 42, 180, 0, 22, 182, 0, 143, 177] := by unfold x_by; decide +kernel
    obtain ⟨d92, h0⟩ := de_aload_n1 h0
    obtain ⟨d93, h0⟩ := de_aload_n0 h0
    obtain ⟨d94, h0⟩ := de_getfield 47 (by decide) h0
    obtain ⟨d97, h0⟩ := de_aload_n0 h0
    obtain ⟨d98, h0⟩ := de_iconst_1 h0
    obtain ⟨d99, h0⟩ := de_invokevirtual 137 (by decide) h0
    obtain ⟨d102, h0⟩ := de_isub h0
    obtain ⟨d103, h0⟩ := de_invokevirtual 140 (by decide) h0
    obtain ⟨d106, h0⟩ := de_pop h0
    obtain ⟨d107, h0⟩ := de_aload_n1 h0
    obtain ⟨d108, h0⟩ := de_aload_n0 h0
    obtain ⟨d109, h0⟩ := de_getfield 15 (by decide) h0
    obtain ⟨d112, h0⟩ := de_aload_n0 h0
    obtain ⟨d113, h0⟩ := de_getfield 22 (by decide) h0
    obtain ⟨d116, h0⟩ := de_invokevirtual 143 (by decide) h0
    obtain ⟨d119, h0⟩ := de_return h0
    refine lv_aload_n hx hb d92 rfl (lv_at hl 1 rfl) ?_
    refine lv_aload_n hx hb d93 rfl (lv_at hl 0 rfl) ?_
    refine x_getI C0 hR hf xcl_0 (Nat.le_of_ble_eq_true rfl) rfl fl_X0_47 d94 (fun i2 hf => ?_)
    refine lv_aload_n hx hb d97 rfl (lv_at hl 0 rfl) ?_
    refine lv_iconst (v := 1) hx hb d98 (by decide) ?_
    obtain ⟨hs9, hf⟩ := x_if hf
    refine x_thenI C0 hxt hS hf (fun z0 e0 => x_runV C0 hR hS me_X0_sumWithGutters wi_X0_sumWithGutters wl_X0_sumWithGutters ml_X0_137 hs9 xcl_0 (As := [.int 1]) (ct_X0_sumWithGutters E l C0.2.2.2.2.2.2.2.1 _ r0 1) rfl rfl hl.1 (Nat.le_of_ble_eq_true rfl) d99 ⟨(Nat.le_of_ble_eq_true rfl), (Nat.le_of_ble_eq_true rfl)⟩ ⟨(Nat.le_of_ble_eq_true rfl), (Nat.le_of_ble_eq_true rfl)⟩ e0) (Nat.le_of_ble_eq_true rfl) (Nat.le_of_ble_eq_true rfl) (fun h9 i3 H locs hR hS hf => ?_)
    refine lv_isub hx hb d102 ?_
    obtain ⟨hs9, hf⟩ := x_if hf
    refine x_thenI C0 hxt hS hf (fun z0 e0 => x_runV C0 hR hS me_X2_pour wi_X2_pour wl_X2_pour ml_X0_140 hs9 xcl_2 (As := [.int (i2 - i3)]) (ct_X2_pour E l C0.2.2.2.2.2.2.2.1 _ r1 (i2 - i3)) rfl rfl hl.1 (Nat.le_of_ble_eq_true rfl) d103 ⟨(Nat.le_of_ble_eq_true rfl), (Nat.le_of_ble_eq_true rfl)⟩ ⟨(Nat.le_of_ble_eq_true rfl), (Nat.le_of_ble_eq_true rfl)⟩ e0) (Nat.le_of_ble_eq_true rfl) (Nat.le_of_ble_eq_true rfl) (fun h9 i5 H locs hR hS hf => ?_)
    refine lv_pop hx hb d106 rfl ?_
    refine lv_aload_n hx hb d107 rfl (lv_at hl 1 rfl) ?_
    refine lv_aload_n hx hb d108 rfl (lv_at hl 0 rfl) ?_
    refine x_getR C0 hR hf xcl_0 (Nat.le_of_ble_eq_true rfl) rfl fl_X0_15 d109 (fun a7 hf => ?_)
    refine lv_aload_n hx hb d112 rfl (lv_at hl 0 rfl) ?_
    refine x_getR C0 hR hf xcl_0 (Nat.le_of_ble_eq_true rfl) rfl fl_X0_22 d113 (fun a8 hf => ?_)
    obtain ⟨hs9, hf⟩ := x_if hf
    refine x_thenV C0 hxt hS hf (fun z0 e0 => x_runV C0 hR hS me_X2_raise wi_X2_raise wl_X2_raise ml_X0_143 hs9 xcl_2 (As := [.ref (xa E a7), .ref (xa E a8)]) (ct_X2_raise E l C0.2.2.2.2.2.2.2.1 _ r1 a7 a8) rfl rfl hl.1 (Nat.le_of_ble_eq_true rfl) d116 ⟨(Nat.le_of_ble_eq_true rfl), (Nat.le_of_ble_eq_true rfl)⟩ ⟨(Nat.le_of_ble_eq_true rfl), (Nat.le_of_ble_eq_true rfl)⟩ e0) (Nat.le_of_ble_eq_true rfl) (Nat.le_of_ble_eq_true rfl) (fun h9 H locs hR hS hf => ?_)
    exact x_vret C0 hR hS hf (Nat.le_of_ble_eq_true rfl) (Nat.le_of_ble_eq_true rfl) d119
  · have hf := x_neg q hf
    have h0 : x_by cX0_growTracks 59 [42, 28, 182, 0, 130, 153, 0, 22] := by unfold x_by; decide +kernel
    obtain ⟨d59, h0⟩ := de_aload_n0 h0
    obtain ⟨d60, h0⟩ := de_iload_n2 h0
    obtain ⟨d61, h0⟩ := de_invokevirtual 130 (by decide) h0
    obtain ⟨d64, h0⟩ := de_if_eq (22) (by decide) h0
    refine lv_aload_n hx hb d59 rfl (lv_at hl 0 rfl) ?_
    refine lv_iload_n hx hb d60 rfl (lv_at hl 2 rfl) ?_
    obtain ⟨hs9, hf⟩ := x_if hf
    refine x_thenI C0 hxt hS hf (fun z0 e0 => x_runV C0 hR hS me_X0_isOpen wi_X0_isOpen wl_X0_isOpen ml_X0_130 hs9 xcl_0 (As := [.int x2]) (ct_X0_isOpen E l C0.2.2.2.2.2.2.2.1 _ r0 x2) rfl rfl hl.1 (Nat.le_of_ble_eq_true rfl) d61 ⟨(Nat.le_of_ble_eq_true rfl), (Nat.le_of_ble_eq_true rfl)⟩ ⟨(Nat.le_of_ble_eq_true rfl), (Nat.le_of_ble_eq_true rfl)⟩ e0) (Nat.le_of_ble_eq_true rfl) (Nat.le_of_ble_eq_true rfl) (fun h9 i10 H locs hR hS hf => ?_)
    refine lv_if_eq (tgt := 86) hx hb d64 (by decide) (fun q => ?_) (fun q => ?_)
    · have hf := x_pos q hf
      exact s_X0_growTracks_b86 C0 hxt hk51 _ _ _ _ _ _ _ hR hS (lv_sub hl [0, 1, 2] rfl) hf
    · have hf := x_neg q hf
      have h0 : x_by cX0_growTracks 67 [43, 28, 4, 42, 180, 0, 19, 28, 46, 42, 180, 0, 15, 28, 46, 100, 182, 0, 133] := by unfold x_by; decide +kernel
      obtain ⟨d67, h0⟩ := de_aload_n1 h0
      obtain ⟨d68, h0⟩ := de_iload_n2 h0
      obtain ⟨d69, h0⟩ := de_iconst_1 h0
      obtain ⟨d70, h0⟩ := de_aload_n0 h0
      obtain ⟨d71, h0⟩ := de_getfield 19 (by decide) h0
      obtain ⟨d74, h0⟩ := de_iload_n2 h0
      obtain ⟨d75, h0⟩ := de_iaload h0
      obtain ⟨d76, h0⟩ := de_aload_n0 h0
      obtain ⟨d77, h0⟩ := de_getfield 15 (by decide) h0
      obtain ⟨d80, h0⟩ := de_iload_n2 h0
      obtain ⟨d81, h0⟩ := de_iaload h0
      obtain ⟨d82, h0⟩ := de_isub h0
      obtain ⟨d83, h0⟩ := de_invokevirtual 133 (by decide) h0
      refine lv_aload_n hx hb d67 rfl (lv_at hl 1 rfl) ?_
      refine lv_iload_n hx hb d68 rfl (lv_at hl 2 rfl) ?_
      refine lv_iconst (v := 1) hx hb d69 (by decide) ?_
      refine lv_aload_n hx hb d70 rfl (lv_at hl 0 rfl) ?_
      refine x_getR C0 hR hf xcl_0 (Nat.le_of_ble_eq_true rfl) rfl fl_X0_19 d71 (fun a12 hf => ?_)
      refine lv_iload_n hx hb d74 rfl (lv_at hl 2 rfl) ?_
      refine x_iald C0 hR hf d75 (fun i13 hf => ?_)
      refine lv_aload_n hx hb d76 rfl (lv_at hl 0 rfl) ?_
      refine x_getR C0 hR hf xcl_0 (Nat.le_of_ble_eq_true rfl) rfl fl_X0_15 d77 (fun a14 hf => ?_)
      refine lv_iload_n hx hb d80 rfl (lv_at hl 2 rfl) ?_
      refine x_iald C0 hR hf d81 (fun i15 hf => ?_)
      refine lv_isub hx hb d82 ?_
      obtain ⟨hs9, hf⟩ := x_if hf
      refine x_thenV C0 hxt hS hf (fun z0 e0 => x_runV C0 hR hS me_X2_admit wi_X2_admit wl_X2_admit ml_X0_133 hs9 xcl_2 (As := [.int x2, .int 1, .int (i13 - i15)]) (ct_X2_admit E l C0.2.2.2.2.2.2.2.1 _ r1 x2 1 (i13 - i15)) rfl rfl hl.1 (Nat.le_of_ble_eq_true rfl) d83 ⟨(Nat.le_of_ble_eq_true rfl), (Nat.le_of_ble_eq_true rfl)⟩ ⟨(Nat.le_of_ble_eq_true rfl), (Nat.le_of_ble_eq_true rfl)⟩ e0) (Nat.le_of_ble_eq_true rfl) (Nat.le_of_ble_eq_true rfl) (fun h9 H locs hR hS hf => ?_)
      exact s_X0_growTracks_b86 C0 hxt hk51 _ _ _ _ _ _ _ hR hS (lv_sub hl [0, 1, 2] rfl) hf
theorem s_X0_growTracks_L51 {p : Program} {l : Launch} {e : Env} {s : State} {m : MethodId} {args : Array Value} {below : List Frame} {meth : Method} {c : Code} {E : XE} {z : XR} (C0 : x_C E p l s m meth c args cX0_growTracks 3 "GridEngine$AxisLayout" "growTracks" none) (hxt : ∀ x ∈ c.exceptionTable.toList, False)  : ∀ n : Nat, ∀ (h : HP) (r0 : Nat) (r1 : Nat) (x2 : Int32) (H : Heap) (locs : List Loc) (ls : Array Slot), x_Rep E h H → va_S (x_A E) s.heap H locs → lv_has ls 3 [(0, .ref (xa E r0)), (1, .ref (xa E r1)), (2, .int x2)] → f_X0_growTracks_L51 n h r0 r1 x2 = some z → W p l e ({ frames := 12, cells := 0, slots := 0, locals := 224 } : Room) s m args below meth c H locs 0 0 (x_Q E below args s 0 0 z) (F0 m 51 ls []) := by
  intro n
  induction n with
  | zero => intro h r0 r1 x2 H locs ls hR hS hl hf; cases (show (none : Option XR) = some z from hf)
  | succ n ih => intro h r0 r1 x2 H locs ls hR hS hl hf; exact s_X0_growTracks_b51 C0 hxt ih h r0 r1 x2 H locs ls hR hS hl (show f_X0_growTracks_b51 (f_X0_growTracks_L51 n) h r0 r1 x2 = some z from hf)
set_option maxRecDepth 100000 in
set_option maxHeartbeats 4000000 in
theorem ct_X0_growTracks (E : XE) (l : Launch) (hl0 : l.stackTraces = false) (h : HP) (r0 : Nat) (r1 : Nat) : x_ct E l yX0_growTracks (Cond.code yX0_growTracks cX0_growTracks 3 none) 12 224 0 0 [.ref (xa E r0), .ref (xa E r1)] h (f_X0_growTracks h r0 r1) := by
  refine x_ofW hl0 (by decide +kernel) ?_
  intro z hf p e s m args below meth c C0 hxt hargs hR
  subst hargs
  have C0 : x_C E p l s m meth c ([.ref (xa E r0), .ref (xa E r1)] : List Value).toArray cX0_growTracks 3 "GridEngine$AxisLayout" "growTracks" none := C0
  obtain ⟨hx, hb, -⟩ := id C0
  have hS : va_S (x_A E) s.heap s.heap [] := va_S.rf
  have hl := lv_entry ([.ref (xa E r0), .ref (xa E r1)]) (n := 3) (Nat.le_of_ble_eq_true rfl)
  rw [lg_entry_eq]
  generalize (lg_sl ([.ref (xa E r0), .ref (xa E r1)]) ++ List.replicate (3 - (lg_sl ([.ref (xa E r0), .ref (xa E r1)])).length) Slot.unset).toArray = ls at hl ⊢
  have hl : lv_has ls 3 [(0, .ref (xa E r0)), (1, .ref (xa E r1))] := hl
  unfold f_X0_growTracks at hf
  have h0 : x_by cX0_growTracks 0 [42, 180, 0, 47, 2, 160, 0, 22] := by unfold x_by; decide +kernel
  obtain ⟨d0, h0⟩ := de_aload_n0 h0
  obtain ⟨d1, h0⟩ := de_getfield 47 (by decide) h0
  obtain ⟨d4, h0⟩ := de_iconst_m1 h0
  obtain ⟨d5, h0⟩ := de_icmp_ne (22) (by decide) h0
  refine lv_aload_n hx hb d0 rfl (lv_at hl 0 rfl) ?_
  refine x_getI C0 hR hf xcl_0 (Nat.le_of_ble_eq_true rfl) rfl fl_X0_47 d1 (fun i1 hf => ?_)
  refine lv_iconst (v := -1) hx hb d4 (by decide) ?_
  refine lv_icmp_ne (tgt := 27) hx hb d5 (by decide) (fun q => ?_) (fun q => ?_)
  · have hf := x_neg q hf
    have h0 : x_by cX0_growTracks 27 [42, 180, 0, 15, 3, 42, 180, 0, 22, 3, 42, 180, 0, 22, 190, 184, 0, 119, 43, 182, 0, 125, 4, 61] := by unfold x_by; decide +kernel
    obtain ⟨d27, h0⟩ := de_aload_n0 h0
    obtain ⟨d28, h0⟩ := de_getfield 15 (by decide) h0
    obtain ⟨d31, h0⟩ := de_iconst_0 h0
    obtain ⟨d32, h0⟩ := de_aload_n0 h0
    obtain ⟨d33, h0⟩ := de_getfield 22 (by decide) h0
    obtain ⟨d36, h0⟩ := de_iconst_0 h0
    obtain ⟨d37, h0⟩ := de_aload_n0 h0
    obtain ⟨d38, h0⟩ := de_getfield 22 (by decide) h0
    obtain ⟨d41, h0⟩ := de_arraylength h0
    obtain ⟨d42, h0⟩ := de_invokestatic 119 (by decide) h0
    obtain ⟨d45, h0⟩ := de_aload_n1 h0
    obtain ⟨d46, h0⟩ := de_invokevirtual 125 (by decide) h0
    obtain ⟨d49, h0⟩ := de_iconst_1 h0
    obtain ⟨d50, h0⟩ := de_istore_n2 h0
    refine lv_aload_n hx hb d27 rfl (lv_at hl 0 rfl) ?_
    refine x_getR C0 hR hf xcl_0 (Nat.le_of_ble_eq_true rfl) rfl fl_X0_15 d28 (fun a2 hf => ?_)
    refine lv_iconst (v := 0) hx hb d31 (by decide) ?_
    refine lv_aload_n hx hb d32 rfl (lv_at hl 0 rfl) ?_
    refine x_getR C0 hR hf xcl_0 (Nat.le_of_ble_eq_true rfl) rfl fl_X0_22 d33 (fun a3 hf => ?_)
    refine lv_iconst (v := 0) hx hb d36 (by decide) ?_
    refine lv_aload_n hx hb d37 rfl (lv_at hl 0 rfl) ?_
    refine x_getR C0 hR hf xcl_0 (Nat.le_of_ble_eq_true rfl) rfl fl_X0_22 d38 (fun a4 hf => ?_)
    refine x_alen C0 hR hf d41 (fun i5 hf => ?_)
    refine x_acopy C0 hR hS hl.1 hf ml_X0_119 lib_acopy (Nat.le_of_ble_eq_true rfl) (Nat.le_of_ble_eq_true rfl) d42 (fun H locs hR hS hf => ?_)
    refine lv_aload_n hx hb d45 rfl (lv_at hl 1 rfl) ?_
    obtain ⟨hs9, hf⟩ := x_if hf
    refine x_thenV C0 hxt hS hf (fun z0 e0 => x_runV C0 hR hS me_X2_startAnew wi_X2_startAnew wl_X2_startAnew ml_X0_125 hs9 xcl_2 (As := []) (ct_X2_startAnew E l C0.2.2.2.2.2.2.2.1 _ r1) rfl rfl hl.1 (Nat.le_of_ble_eq_true rfl) d46 ⟨(Nat.le_of_ble_eq_true rfl), (Nat.le_of_ble_eq_true rfl)⟩ ⟨(Nat.le_of_ble_eq_true rfl), (Nat.le_of_ble_eq_true rfl)⟩ e0) (Nat.le_of_ble_eq_true rfl) (Nat.le_of_ble_eq_true rfl) (fun h9 H locs hR hS hf => ?_)
    refine lv_iconst (v := 1) hx hb d49 (by decide) ?_
    refine lv_istore_n (lv' := [(2, .int 1), (0, .ref (xa E r0)), (1, .ref (xa E r1))]) hx hb d50 rfl hl (by decide) rfl (fun ls hl => ?_)
    exact s_X0_growTracks_L51 C0 hxt FU _ _ _ _ _ _ _ hR hS (lv_sub hl [1, 2, 0] rfl) hf
  · have hf := x_pos q hf
    have h0 : x_by cX0_growTracks 8 [42, 180, 0, 19, 3, 42, 180, 0, 22, 3, 42, 180, 0, 22, 190, 184, 0, 119, 177] := by unfold x_by; decide +kernel
    obtain ⟨d8, h0⟩ := de_aload_n0 h0
    obtain ⟨d9, h0⟩ := de_getfield 19 (by decide) h0
    obtain ⟨d12, h0⟩ := de_iconst_0 h0
    obtain ⟨d13, h0⟩ := de_aload_n0 h0
    obtain ⟨d14, h0⟩ := de_getfield 22 (by decide) h0
    obtain ⟨d17, h0⟩ := de_iconst_0 h0
    obtain ⟨d18, h0⟩ := de_aload_n0 h0
    obtain ⟨d19, h0⟩ := de_getfield 22 (by decide) h0
    obtain ⟨d22, h0⟩ := de_arraylength h0
    obtain ⟨d23, h0⟩ := de_invokestatic 119 (by decide) h0
    obtain ⟨d26, h0⟩ := de_return h0
    refine lv_aload_n hx hb d8 rfl (lv_at hl 0 rfl) ?_
    refine x_getR C0 hR hf xcl_0 (Nat.le_of_ble_eq_true rfl) rfl fl_X0_19 d9 (fun a8 hf => ?_)
    refine lv_iconst (v := 0) hx hb d12 (by decide) ?_
    refine lv_aload_n hx hb d13 rfl (lv_at hl 0 rfl) ?_
    refine x_getR C0 hR hf xcl_0 (Nat.le_of_ble_eq_true rfl) rfl fl_X0_22 d14 (fun a9 hf => ?_)
    refine lv_iconst (v := 0) hx hb d17 (by decide) ?_
    refine lv_aload_n hx hb d18 rfl (lv_at hl 0 rfl) ?_
    refine x_getR C0 hR hf xcl_0 (Nat.le_of_ble_eq_true rfl) rfl fl_X0_22 d19 (fun a10 hf => ?_)
    refine x_alen C0 hR hf d22 (fun i11 hf => ?_)
    refine x_acopy C0 hR hS hl.1 hf ml_X0_119 lib_acopy (Nat.le_of_ble_eq_true rfl) (Nat.le_of_ble_eq_true rfl) d23 (fun H locs hR hS hf => ?_)
    exact x_vret C0 hR hS hf (Nat.le_of_ble_eq_true rfl) (Nat.le_of_ble_eq_true rfl) d26
def f_X0_stretchTracks_b41  (h : HP)  : Option XR :=
  some (h, xv)
def f_X0_stretchTracks_b83 (k48 : HP → Nat → Nat → Int32 → Option XR) (h : HP) (r0 : Nat) (r1 : Nat) (x2 : Int32) : Option XR :=
  k48 h r0 r1 (x2 + 1)
def f_X0_stretchTracks_b48 (k48 : HP → Nat → Nat → Int32 → Option XR) (h : HP) (r0 : Nat) (r1 : Nat) (x2 : Int32) : Option XR :=
  x_gI h r0 0 10 fun i1 =>
  if i1 < x2 then
    (
      x_gI h r0 0 14 fun i2 =>
      x_rc h r0 0 <| x_cI (f_X0_sumWithGutters h r0 4) fun h4 i3 =>
      x_rc h4 r1 2 <| x_cI (f_X2_pour h4 r1 (i2 - i3)) fun h6 i5 =>
      x_gR h6 r0 0 7 fun a7 =>
      x_gR h6 r0 0 8 fun a8 =>
      x_rc h6 r1 2 <| x_cV (f_X2_raise h6 r1 a7 a8) fun h9 =>
      some (h9, xv)
    )
  else
    (
      x_rc h r0 0 <| x_cI (f_X0_isOpen h r0 x2) fun h11 i10 =>
      if i10 = 0 then
        (
          f_X0_stretchTracks_b83 k48 h11 r0 r1 x2
        )
      else
        (
          x_rc h11 r0 0 <| x_cI (f_X0_part h11 r0 x2 2) fun h13 i12 =>
          if i12 = 3 then
            (
              x_rc h13 r1 2 <| x_cV (f_X2_admit h13 r1 x2 1 9999) fun h14 =>
              f_X0_stretchTracks_b83 k48 h14 r0 r1 x2
            )
          else
            (
              f_X0_stretchTracks_b83 k48 h13 r0 r1 x2
            )
        )
    )
def f_X0_stretchTracks_L48  : Nat → HP → Nat → Nat → Int32 → Option XR
  | 0 => fun _ _ _ _ => none
  | n + 1 => f_X0_stretchTracks_b48 (f_X0_stretchTracks_L48 n)
def f_X0_stretchTracks (h : HP) (r0 : Nat) (r1 : Nat) : Option XR :=
  x_gR h r0 0 7 fun a1 =>
  x_gR h r0 0 8 fun a2 =>
  x_gR h r0 0 8 fun a3 =>
  x_ln h a3 fun i4 =>
  x_cp h a1 0 a2 0 i4 fun h5 =>
  x_gI h5 r0 0 14 fun i6 =>
  if i6 = (-1) then
    (
      f_X0_stretchTracks_b41 h5
    )
  else
    (
      x_gR h5 r0 0 1 fun a7 =>
      x_gI h5 r0 0 0 fun i8 =>
      x_rc h5 a7 4 <| x_cI (f_X4_setting h5 a7 i8 2) fun h10 i9 =>
      if i9 = 0 then
        (
          x_rc h10 r1 2 <| x_cV (f_X2_startAnew h10 r1) fun h11 =>
          f_X0_stretchTracks_L48 FU h11 r0 r1 1
        )
      else
        (
          f_X0_stretchTracks_b41 h10
        )
    )
set_option maxRecDepth 100000 in
set_option maxHeartbeats 4000000 in
theorem s_X0_stretchTracks_b41 {p : Program} {l : Launch} {e : Env} {s : State} {m : MethodId} {args : Array Value} {below : List Frame} {meth : Method} {c : Code} {E : XE} {z : XR} (C0 : x_C E p l s m meth c args cX0_stretchTracks 3 "GridEngine$AxisLayout" "stretchTracks" none) (hxt : ∀ x ∈ c.exceptionTable.toList, False)  : ∀ (h : HP)  (H : Heap) (locs : List Loc) (ls : Array Slot), x_Rep E h H → va_S (x_A E) s.heap H locs → lv_has ls 3 [] → f_X0_stretchTracks_b41 h  = some z → W p l e ({ frames := 12, cells := 0, slots := 0, locals := 224 } : Room) s m args below meth c H locs 0 0 (x_Q E below args s 0 0 z) (F0 m 41 ls []) := by
  intro h  H locs ls hR hS hl hf
  obtain ⟨hx, hb, -⟩ := id C0
  unfold f_X0_stretchTracks_b41 at hf
  have h0 : x_by cX0_stretchTracks 41 [177] := by unfold x_by; decide +kernel
  obtain ⟨d41, h0⟩ := de_return h0
  exact x_vret C0 hR hS hf (Nat.le_of_ble_eq_true rfl) (Nat.le_of_ble_eq_true rfl) d41
set_option maxRecDepth 100000 in
set_option maxHeartbeats 4000000 in
theorem s_X0_stretchTracks_b83 {p : Program} {l : Launch} {e : Env} {s : State} {m : MethodId} {args : Array Value} {below : List Frame} {meth : Method} {c : Code} {E : XE} {z : XR} (C0 : x_C E p l s m meth c args cX0_stretchTracks 3 "GridEngine$AxisLayout" "stretchTracks" none) (hxt : ∀ x ∈ c.exceptionTable.toList, False) {k48 : HP → Nat → Nat → Int32 → Option XR} (hk48 : ∀ (h : HP) (r0 : Nat) (r1 : Nat) (x2 : Int32) (H : Heap) (locs : List Loc) (ls : Array Slot), x_Rep E h H → va_S (x_A E) s.heap H locs → lv_has ls 3 [(0, .ref (xa E r0)), (1, .ref (xa E r1)), (2, .int x2)] → k48 h r0 r1 x2 = some z → W p l e ({ frames := 12, cells := 0, slots := 0, locals := 224 } : Room) s m args below meth c H locs 0 0 (x_Q E below args s 0 0 z) (F0 m 48 ls [])) : ∀ (h : HP) (r0 : Nat) (r1 : Nat) (x2 : Int32) (H : Heap) (locs : List Loc) (ls : Array Slot), x_Rep E h H → va_S (x_A E) s.heap H locs → lv_has ls 3 [(0, .ref (xa E r0)), (1, .ref (xa E r1)), (2, .int x2)] → f_X0_stretchTracks_b83 k48 h r0 r1 x2 = some z → W p l e ({ frames := 12, cells := 0, slots := 0, locals := 224 } : Room) s m args below meth c H locs 0 0 (x_Q E below args s 0 0 z) (F0 m 83 ls []) := by
  intro h r0 r1 x2 H locs ls hR hS hl hf
  obtain ⟨hx, hb, -⟩ := id C0
  unfold f_X0_stretchTracks_b83 at hf
  have h0 : x_by cX0_stretchTracks 83 [132, 2, 1, 167, 255, 218] := by unfold x_by; decide +kernel
  obtain ⟨d83, h0⟩ := de_iinc (1) (by decide) h0
  obtain ⟨d86, h0⟩ := de_goto (-38) (by decide) h0
  refine lv_iinc (v := (x2 + 1)) (lv' := [(2, .int (x2 + 1)), (0, .ref (xa E r0)), (1, .ref (xa E r1))]) hx hb d83 hl (k := 2) rfl rfl (by decide) rfl (fun ls hl => ?_)
  refine lv_goto (tgt := 48) hx hb d86 (by decide) ?_
  exact hk48 _ _ _ _ _ _ _ hR hS (lv_sub hl [1, 2, 0] rfl) hf
set_option maxRecDepth 100000 in
set_option maxHeartbeats 4000000 in
theorem s_X0_stretchTracks_b48 {p : Program} {l : Launch} {e : Env} {s : State} {m : MethodId} {args : Array Value} {below : List Frame} {meth : Method} {c : Code} {E : XE} {z : XR} (C0 : x_C E p l s m meth c args cX0_stretchTracks 3 "GridEngine$AxisLayout" "stretchTracks" none) (hxt : ∀ x ∈ c.exceptionTable.toList, False) {k48 : HP → Nat → Nat → Int32 → Option XR} (hk48 : ∀ (h : HP) (r0 : Nat) (r1 : Nat) (x2 : Int32) (H : Heap) (locs : List Loc) (ls : Array Slot), x_Rep E h H → va_S (x_A E) s.heap H locs → lv_has ls 3 [(0, .ref (xa E r0)), (1, .ref (xa E r1)), (2, .int x2)] → k48 h r0 r1 x2 = some z → W p l e ({ frames := 12, cells := 0, slots := 0, locals := 224 } : Room) s m args below meth c H locs 0 0 (x_Q E below args s 0 0 z) (F0 m 48 ls [])) : ∀ (h : HP) (r0 : Nat) (r1 : Nat) (x2 : Int32) (H : Heap) (locs : List Loc) (ls : Array Slot), x_Rep E h H → va_S (x_A E) s.heap H locs → lv_has ls 3 [(0, .ref (xa E r0)), (1, .ref (xa E r1)), (2, .int x2)] → f_X0_stretchTracks_b48 k48 h r0 r1 x2 = some z → W p l e ({ frames := 12, cells := 0, slots := 0, locals := 224 } : Room) s m args below meth c H locs 0 0 (x_Q E below args s 0 0 z) (F0 m 48 ls []) := by
  intro h r0 r1 x2 H locs ls hR hS hl hf
  obtain ⟨hx, hb, -⟩ := id C0
  unfold f_X0_stretchTracks_b48 at hf
  have h0 : x_by cX0_stretchTracks 48 [28, 42, 180, 0, 34, 163, 0, 36] := by unfold x_by; decide +kernel
  obtain ⟨d48, h0⟩ := de_iload_n2 h0
  obtain ⟨d49, h0⟩ := de_aload_n0 h0
  obtain ⟨d50, h0⟩ := de_getfield 34 (by decide) h0
  obtain ⟨d53, h0⟩ := de_icmp_gt (36) (by decide) h0
  refine lv_iload_n hx hb d48 rfl (lv_at hl 2 rfl) ?_
  refine lv_aload_n hx hb d49 rfl (lv_at hl 0 rfl) ?_
  refine x_getI C0 hR hf xcl_0 (Nat.le_of_ble_eq_true rfl) rfl fl_X0_34 d50 (fun i1 hf => ?_)
  refine lv_icmp_gt (tgt := 89) hx hb d53 (by decide) (fun q => ?_) (fun q => ?_)
  · have hf := x_pos q hf
    have h0 : x_by cX0_stretchTracks 89 [43, 42, 180, 0, 47, 42, 7, 182, 0, 137, 100, 182, 0, 140, 87, 43, 42, 180, 0, 25, 42, 180, 0, 28, 182, 0, 143, 177] := by unfold x_by; decide +kernel
    obtain ⟨d89, h0⟩ := de_aload_n1 h0
    obtain ⟨d90, h0⟩ := de_aload_n0 h0
    obtain ⟨d91, h0⟩ := de_getfield 47 (by decide) h0
    obtain ⟨d94, h0⟩ := de_aload_n0 h0
    obtain ⟨d95, h0⟩ := de_iconst_4 h0
    obtain ⟨d96, h0⟩ := de_invokevirtual 137 (by decide) h0
    obtain ⟨d99, h0⟩ := de_isub h0
    obtain ⟨d100, h0⟩ := de_invokevirtual 140 (by decide) h0
    obtain ⟨d103, h0⟩ := de_pop h0
    obtain ⟨d104, h0⟩ := de_aload_n1 h0
    obtain ⟨d105, h0⟩ := de_aload_n0 h0
    obtain ⟨d106, h0⟩ := de_getfield 25 (by decide) h0
    obtain ⟨d109, h0⟩ := de_aload_n0 h0
    obtain ⟨d110, h0⟩ := de_getfield 28 (by decide) h0
    obtain ⟨d113, h0⟩ := de_invokevirtual 143 (by decide) h0
    obtain ⟨d116, h0⟩ := de_return h0
    refine lv_aload_n hx hb d89 rfl (lv_at hl 1 rfl) ?_
    refine lv_aload_n hx hb d90 rfl (lv_at hl 0 rfl) ?_
    refine x_getI C0 hR hf xcl_0 (Nat.le_of_ble_eq_true rfl) rfl fl_X0_47 d91 (fun i2 hf => ?_)
    refine lv_aload_n hx hb d94 rfl (lv_at hl 0 rfl) ?_
    refine lv_iconst (v := 4) hx hb d95 (by decide) ?_
    obtain ⟨hs9, hf⟩ := x_if hf
    refine x_thenI C0 hxt hS hf (fun z0 e0 => x_runV C0 hR hS me_X0_sumWithGutters wi_X0_sumWithGutters wl_X0_sumWithGutters ml_X0_137 hs9 xcl_0 (As := [.int 4]) (ct_X0_sumWithGutters E l C0.2.2.2.2.2.2.2.1 _ r0 4) rfl rfl hl.1 (Nat.le_of_ble_eq_true rfl) d96 ⟨(Nat.le_of_ble_eq_true rfl), (Nat.le_of_ble_eq_true rfl)⟩ ⟨(Nat.le_of_ble_eq_true rfl), (Nat.le_of_ble_eq_true rfl)⟩ e0) (Nat.le_of_ble_eq_true rfl) (Nat.le_of_ble_eq_true rfl) (fun h9 i3 H locs hR hS hf => ?_)
    refine lv_isub hx hb d99 ?_
    obtain ⟨hs9, hf⟩ := x_if hf
    refine x_thenI C0 hxt hS hf (fun z0 e0 => x_runV C0 hR hS me_X2_pour wi_X2_pour wl_X2_pour ml_X0_140 hs9 xcl_2 (As := [.int (i2 - i3)]) (ct_X2_pour E l C0.2.2.2.2.2.2.2.1 _ r1 (i2 - i3)) rfl rfl hl.1 (Nat.le_of_ble_eq_true rfl) d100 ⟨(Nat.le_of_ble_eq_true rfl), (Nat.le_of_ble_eq_true rfl)⟩ ⟨(Nat.le_of_ble_eq_true rfl), (Nat.le_of_ble_eq_true rfl)⟩ e0) (Nat.le_of_ble_eq_true rfl) (Nat.le_of_ble_eq_true rfl) (fun h9 i5 H locs hR hS hf => ?_)
    refine lv_pop hx hb d103 rfl ?_
    refine lv_aload_n hx hb d104 rfl (lv_at hl 1 rfl) ?_
    refine lv_aload_n hx hb d105 rfl (lv_at hl 0 rfl) ?_
    refine x_getR C0 hR hf xcl_0 (Nat.le_of_ble_eq_true rfl) rfl fl_X0_25 d106 (fun a7 hf => ?_)
    refine lv_aload_n hx hb d109 rfl (lv_at hl 0 rfl) ?_
    refine x_getR C0 hR hf xcl_0 (Nat.le_of_ble_eq_true rfl) rfl fl_X0_28 d110 (fun a8 hf => ?_)
    obtain ⟨hs9, hf⟩ := x_if hf
    refine x_thenV C0 hxt hS hf (fun z0 e0 => x_runV C0 hR hS me_X2_raise wi_X2_raise wl_X2_raise ml_X0_143 hs9 xcl_2 (As := [.ref (xa E a7), .ref (xa E a8)]) (ct_X2_raise E l C0.2.2.2.2.2.2.2.1 _ r1 a7 a8) rfl rfl hl.1 (Nat.le_of_ble_eq_true rfl) d113 ⟨(Nat.le_of_ble_eq_true rfl), (Nat.le_of_ble_eq_true rfl)⟩ ⟨(Nat.le_of_ble_eq_true rfl), (Nat.le_of_ble_eq_true rfl)⟩ e0) (Nat.le_of_ble_eq_true rfl) (Nat.le_of_ble_eq_true rfl) (fun h9 H locs hR hS hf => ?_)
    exact x_vret C0 hR hS hf (Nat.le_of_ble_eq_true rfl) (Nat.le_of_ble_eq_true rfl) d116
  · have hf := x_neg q hf
    have h0 : x_by cX0_stretchTracks 56 [42, 28, 182, 0, 130, 153, 0, 22] := by unfold x_by; decide +kernel
    obtain ⟨d56, h0⟩ := de_aload_n0 h0
    obtain ⟨d57, h0⟩ := de_iload_n2 h0
    obtain ⟨d58, h0⟩ := de_invokevirtual 130 (by decide) h0
    obtain ⟨d61, h0⟩ := de_if_eq (22) (by decide) h0
    refine lv_aload_n hx hb d56 rfl (lv_at hl 0 rfl) ?_
    refine lv_iload_n hx hb d57 rfl (lv_at hl 2 rfl) ?_
    obtain ⟨hs9, hf⟩ := x_if hf
    refine x_thenI C0 hxt hS hf (fun z0 e0 => x_runV C0 hR hS me_X0_isOpen wi_X0_isOpen wl_X0_isOpen ml_X0_130 hs9 xcl_0 (As := [.int x2]) (ct_X0_isOpen E l C0.2.2.2.2.2.2.2.1 _ r0 x2) rfl rfl hl.1 (Nat.le_of_ble_eq_true rfl) d58 ⟨(Nat.le_of_ble_eq_true rfl), (Nat.le_of_ble_eq_true rfl)⟩ ⟨(Nat.le_of_ble_eq_true rfl), (Nat.le_of_ble_eq_true rfl)⟩ e0) (Nat.le_of_ble_eq_true rfl) (Nat.le_of_ble_eq_true rfl) (fun h9 i10 H locs hR hS hf => ?_)
    refine lv_if_eq (tgt := 83) hx hb d61 (by decide) (fun q => ?_) (fun q => ?_)
    · have hf := x_pos q hf
      exact s_X0_stretchTracks_b83 C0 hxt hk48 _ _ _ _ _ _ _ hR hS (lv_sub hl [0, 1, 2] rfl) hf
    · have hf := x_neg q hf
      have h0 : x_by cX0_stretchTracks 64 [42, 28, 5, 182, 0, 95, 6, 160, 0, 12] := by unfold x_by; decide +kernel
      obtain ⟨d64, h0⟩ := de_aload_n0 h0
      obtain ⟨d65, h0⟩ := de_iload_n2 h0
      obtain ⟨d66, h0⟩ := de_iconst_2 h0
      obtain ⟨d67, h0⟩ := de_invokevirtual 95 (by decide) h0
      obtain ⟨d70, h0⟩ := de_iconst_3 h0
      obtain ⟨d71, h0⟩ := de_icmp_ne (12) (by decide) h0
      refine lv_aload_n hx hb d64 rfl (lv_at hl 0 rfl) ?_
      refine lv_iload_n hx hb d65 rfl (lv_at hl 2 rfl) ?_
      refine lv_iconst (v := 2) hx hb d66 (by decide) ?_
      obtain ⟨hs9, hf⟩ := x_if hf
      refine x_thenI C0 hxt hS hf (fun z0 e0 => x_runV C0 hR hS me_X0_part wi_X0_part wl_X0_part ml_X0_95 hs9 xcl_0 (As := [.int x2, .int 2]) (ct_X0_part E l C0.2.2.2.2.2.2.2.1 _ r0 x2 2) rfl rfl hl.1 (Nat.le_of_ble_eq_true rfl) d67 ⟨(Nat.le_of_ble_eq_true rfl), (Nat.le_of_ble_eq_true rfl)⟩ ⟨(Nat.le_of_ble_eq_true rfl), (Nat.le_of_ble_eq_true rfl)⟩ e0) (Nat.le_of_ble_eq_true rfl) (Nat.le_of_ble_eq_true rfl) (fun h9 i12 H locs hR hS hf => ?_)
      refine lv_iconst (v := 3) hx hb d70 (by decide) ?_
      refine lv_icmp_ne (tgt := 83) hx hb d71 (by decide) (fun q => ?_) (fun q => ?_)
      · have hf := x_neg q hf
        exact s_X0_stretchTracks_b83 C0 hxt hk48 _ _ _ _ _ _ _ hR hS (lv_sub hl [0, 1, 2] rfl) hf
      · have hf := x_pos q hf
        have h0 : x_by cX0_stretchTracks 74 [43, 28, 4, 17, 39, 15, 182, 0, 133] := by unfold x_by; decide +kernel
        obtain ⟨d74, h0⟩ := de_aload_n1 h0
        obtain ⟨d75, h0⟩ := de_iload_n2 h0
        obtain ⟨d76, h0⟩ := de_iconst_1 h0
        obtain ⟨d77, h0⟩ := de_sipush (9999) (by decide) h0
        obtain ⟨d80, h0⟩ := de_invokevirtual 133 (by decide) h0
        refine lv_aload_n hx hb d74 rfl (lv_at hl 1 rfl) ?_
        refine lv_iload_n hx hb d75 rfl (lv_at hl 2 rfl) ?_
        refine lv_iconst (v := 1) hx hb d76 (by decide) ?_
        refine lv_sipush (v := 9999) hx hb d77 (by decide) ?_
        obtain ⟨hs9, hf⟩ := x_if hf
        refine x_thenV C0 hxt hS hf (fun z0 e0 => x_runV C0 hR hS me_X2_admit wi_X2_admit wl_X2_admit ml_X0_133 hs9 xcl_2 (As := [.int x2, .int 1, .int 9999]) (ct_X2_admit E l C0.2.2.2.2.2.2.2.1 _ r1 x2 1 9999) rfl rfl hl.1 (Nat.le_of_ble_eq_true rfl) d80 ⟨(Nat.le_of_ble_eq_true rfl), (Nat.le_of_ble_eq_true rfl)⟩ ⟨(Nat.le_of_ble_eq_true rfl), (Nat.le_of_ble_eq_true rfl)⟩ e0) (Nat.le_of_ble_eq_true rfl) (Nat.le_of_ble_eq_true rfl) (fun h9 H locs hR hS hf => ?_)
        exact s_X0_stretchTracks_b83 C0 hxt hk48 _ _ _ _ _ _ _ hR hS (lv_sub hl [0, 1, 2] rfl) hf
theorem s_X0_stretchTracks_L48 {p : Program} {l : Launch} {e : Env} {s : State} {m : MethodId} {args : Array Value} {below : List Frame} {meth : Method} {c : Code} {E : XE} {z : XR} (C0 : x_C E p l s m meth c args cX0_stretchTracks 3 "GridEngine$AxisLayout" "stretchTracks" none) (hxt : ∀ x ∈ c.exceptionTable.toList, False)  : ∀ n : Nat, ∀ (h : HP) (r0 : Nat) (r1 : Nat) (x2 : Int32) (H : Heap) (locs : List Loc) (ls : Array Slot), x_Rep E h H → va_S (x_A E) s.heap H locs → lv_has ls 3 [(0, .ref (xa E r0)), (1, .ref (xa E r1)), (2, .int x2)] → f_X0_stretchTracks_L48 n h r0 r1 x2 = some z → W p l e ({ frames := 12, cells := 0, slots := 0, locals := 224 } : Room) s m args below meth c H locs 0 0 (x_Q E below args s 0 0 z) (F0 m 48 ls []) := by
  intro n
  induction n with
  | zero => intro h r0 r1 x2 H locs ls hR hS hl hf; cases (show (none : Option XR) = some z from hf)
  | succ n ih => intro h r0 r1 x2 H locs ls hR hS hl hf; exact s_X0_stretchTracks_b48 C0 hxt ih h r0 r1 x2 H locs ls hR hS hl (show f_X0_stretchTracks_b48 (f_X0_stretchTracks_L48 n) h r0 r1 x2 = some z from hf)
set_option maxRecDepth 100000 in
set_option maxHeartbeats 4000000 in
theorem ct_X0_stretchTracks (E : XE) (l : Launch) (hl0 : l.stackTraces = false) (h : HP) (r0 : Nat) (r1 : Nat) : x_ct E l yX0_stretchTracks (Cond.code yX0_stretchTracks cX0_stretchTracks 3 none) 12 224 0 0 [.ref (xa E r0), .ref (xa E r1)] h (f_X0_stretchTracks h r0 r1) := by
  refine x_ofW hl0 (by decide +kernel) ?_
  intro z hf p e s m args below meth c C0 hxt hargs hR
  subst hargs
  have C0 : x_C E p l s m meth c ([.ref (xa E r0), .ref (xa E r1)] : List Value).toArray cX0_stretchTracks 3 "GridEngine$AxisLayout" "stretchTracks" none := C0
  obtain ⟨hx, hb, -⟩ := id C0
  have hS : va_S (x_A E) s.heap s.heap [] := va_S.rf
  have hl := lv_entry ([.ref (xa E r0), .ref (xa E r1)]) (n := 3) (Nat.le_of_ble_eq_true rfl)
  rw [lg_entry_eq]
  generalize (lg_sl ([.ref (xa E r0), .ref (xa E r1)]) ++ List.replicate (3 - (lg_sl ([.ref (xa E r0), .ref (xa E r1)])).length) Slot.unset).toArray = ls at hl ⊢
  have hl : lv_has ls 3 [(0, .ref (xa E r0)), (1, .ref (xa E r1))] := hl
  unfold f_X0_stretchTracks at hf
  have h0 : x_by cX0_stretchTracks 0 [42, 180, 0, 25, 3, 42, 180, 0, 28, 3, 42, 180, 0, 28, 190, 184, 0, 119, 42, 180, 0, 47, 2, 159, 0, 18] := by unfold x_by; decide +kernel
  obtain ⟨d0, h0⟩ := de_aload_n0 h0
  obtain ⟨d1, h0⟩ := de_getfield 25 (by decide) h0
  obtain ⟨d4, h0⟩ := de_iconst_0 h0
  obtain ⟨d5, h0⟩ := de_aload_n0 h0
  obtain ⟨d6, h0⟩ := de_getfield 28 (by decide) h0
  obtain ⟨d9, h0⟩ := de_iconst_0 h0
  obtain ⟨d10, h0⟩ := de_aload_n0 h0
  obtain ⟨d11, h0⟩ := de_getfield 28 (by decide) h0
  obtain ⟨d14, h0⟩ := de_arraylength h0
  obtain ⟨d15, h0⟩ := de_invokestatic 119 (by decide) h0
  obtain ⟨d18, h0⟩ := de_aload_n0 h0
  obtain ⟨d19, h0⟩ := de_getfield 47 (by decide) h0
  obtain ⟨d22, h0⟩ := de_iconst_m1 h0
  obtain ⟨d23, h0⟩ := de_icmp_eq (18) (by decide) h0
  refine lv_aload_n hx hb d0 rfl (lv_at hl 0 rfl) ?_
  refine x_getR C0 hR hf xcl_0 (Nat.le_of_ble_eq_true rfl) rfl fl_X0_25 d1 (fun a1 hf => ?_)
  refine lv_iconst (v := 0) hx hb d4 (by decide) ?_
  refine lv_aload_n hx hb d5 rfl (lv_at hl 0 rfl) ?_
  refine x_getR C0 hR hf xcl_0 (Nat.le_of_ble_eq_true rfl) rfl fl_X0_28 d6 (fun a2 hf => ?_)
  refine lv_iconst (v := 0) hx hb d9 (by decide) ?_
  refine lv_aload_n hx hb d10 rfl (lv_at hl 0 rfl) ?_
  refine x_getR C0 hR hf xcl_0 (Nat.le_of_ble_eq_true rfl) rfl fl_X0_28 d11 (fun a3 hf => ?_)
  refine x_alen C0 hR hf d14 (fun i4 hf => ?_)
  refine x_acopy C0 hR hS hl.1 hf ml_X0_119 lib_acopy (Nat.le_of_ble_eq_true rfl) (Nat.le_of_ble_eq_true rfl) d15 (fun H locs hR hS hf => ?_)
  refine lv_aload_n hx hb d18 rfl (lv_at hl 0 rfl) ?_
  refine x_getI C0 hR hf xcl_0 (Nat.le_of_ble_eq_true rfl) rfl fl_X0_47 d19 (fun i6 hf => ?_)
  refine lv_iconst (v := -1) hx hb d22 (by decide) ?_
  refine lv_icmp_eq (tgt := 41) hx hb d23 (by decide) (fun q => ?_) (fun q => ?_)
  · have hf := x_pos q hf
    exact s_X0_stretchTracks_b41 C0 hxt _ _ _ _ hR hS (lv_sub hl [] rfl) hf
  · have hf := x_neg q hf
    have h0 : x_by cX0_stretchTracks 26 [42, 180, 0, 56, 42, 180, 0, 53, 5, 182, 0, 109, 153, 0, 4] := by unfold x_by; decide +kernel
    obtain ⟨d26, h0⟩ := de_aload_n0 h0
    obtain ⟨d27, h0⟩ := de_getfield 56 (by decide) h0
    obtain ⟨d30, h0⟩ := de_aload_n0 h0
    obtain ⟨d31, h0⟩ := de_getfield 53 (by decide) h0
    obtain ⟨d34, h0⟩ := de_iconst_2 h0
    obtain ⟨d35, h0⟩ := de_invokevirtual 109 (by decide) h0
    obtain ⟨d38, h0⟩ := de_if_eq (4) (by decide) h0
    refine lv_aload_n hx hb d26 rfl (lv_at hl 0 rfl) ?_
    refine x_getR C0 hR hf xcl_0 (Nat.le_of_ble_eq_true rfl) rfl fl_X0_56 d27 (fun a7 hf => ?_)
    refine lv_aload_n hx hb d30 rfl (lv_at hl 0 rfl) ?_
    refine x_getI C0 hR hf xcl_0 (Nat.le_of_ble_eq_true rfl) rfl fl_X0_53 d31 (fun i8 hf => ?_)
    refine lv_iconst (v := 2) hx hb d34 (by decide) ?_
    obtain ⟨hs9, hf⟩ := x_if hf
    refine x_thenI C0 hxt hS hf (fun z0 e0 => x_runV C0 hR hS me_X4_setting wi_X4_setting wl_X4_setting ml_X0_109 hs9 xcl_4 (As := [.int i8, .int 2]) (ct_X4_setting E l C0.2.2.2.2.2.2.2.1 _ a7 i8 2) rfl rfl hl.1 (Nat.le_of_ble_eq_true rfl) d35 ⟨(Nat.le_of_ble_eq_true rfl), (Nat.le_of_ble_eq_true rfl)⟩ ⟨(Nat.le_of_ble_eq_true rfl), (Nat.le_of_ble_eq_true rfl)⟩ e0) (Nat.le_of_ble_eq_true rfl) (Nat.le_of_ble_eq_true rfl) (fun h9 i9 H locs hR hS hf => ?_)
    refine lv_if_eq (tgt := 42) hx hb d38 (by decide) (fun q => ?_) (fun q => ?_)
    · have hf := x_pos q hf
      have h0 : x_by cX0_stretchTracks 42 [43, 182, 0, 125, 4, 61] := by unfold x_by; decide +kernel
      obtain ⟨d42, h0⟩ := de_aload_n1 h0
      obtain ⟨d43, h0⟩ := de_invokevirtual 125 (by decide) h0
      obtain ⟨d46, h0⟩ := de_iconst_1 h0
      obtain ⟨d47, h0⟩ := de_istore_n2 h0
      refine lv_aload_n hx hb d42 rfl (lv_at hl 1 rfl) ?_
      obtain ⟨hs9, hf⟩ := x_if hf
      refine x_thenV C0 hxt hS hf (fun z0 e0 => x_runV C0 hR hS me_X2_startAnew wi_X2_startAnew wl_X2_startAnew ml_X0_125 hs9 xcl_2 (As := []) (ct_X2_startAnew E l C0.2.2.2.2.2.2.2.1 _ r1) rfl rfl hl.1 (Nat.le_of_ble_eq_true rfl) d43 ⟨(Nat.le_of_ble_eq_true rfl), (Nat.le_of_ble_eq_true rfl)⟩ ⟨(Nat.le_of_ble_eq_true rfl), (Nat.le_of_ble_eq_true rfl)⟩ e0) (Nat.le_of_ble_eq_true rfl) (Nat.le_of_ble_eq_true rfl) (fun h9 H locs hR hS hf => ?_)
      refine lv_iconst (v := 1) hx hb d46 (by decide) ?_
      refine lv_istore_n (lv' := [(2, .int 1), (0, .ref (xa E r0)), (1, .ref (xa E r1))]) hx hb d47 rfl hl (by decide) rfl (fun ls hl => ?_)
      exact s_X0_stretchTracks_L48 C0 hxt FU _ _ _ _ _ _ _ hR hS (lv_sub hl [1, 2, 0] rfl) hf
    · have hf := x_neg q hf
      exact s_X0_stretchTracks_b41 C0 hxt _ _ _ _ hR hS (lv_sub hl [] rfl) hf
def f_X0_offset_b111  (h : HP) (t0 : Int32) : Option XR :=
  some (h, xi t0)
def f_X0_offset_b140  (h : HP) (t0 : Int32) : Option XR :=
  some (h, xi t0)
def f_X0_offset_b167  (h : HP) (t0 : Int32) : Option XR :=
  some (h, xi t0)
def f_X0_offset_b36  (h : HP) (r0 : Nat) (x1 : Int32) (x2 : Int32) : Option XR :=
  if x2 = 2 then
    (
      x_gI h r0 0 15 fun i1 =>
      some (h, xi i1)
    )
  else
    (
    if x2 = 3 then
      (
        x_gI h r0 0 15 fun i2 =>
        x_cI (f_J9_floorDiv_7cf53 h i2 2) fun h4 i3 =>
        some (h4, xi i3)
      )
    else
      (
      if x2 = 4 then
        (
          x_gI h r0 0 11 fun i5 =>
          if i5 ≤ 1 then
            (
              f_X0_offset_b111 h 0
            )
          else
            (
              x_gI h r0 0 15 fun i6 =>
              x_gI h r0 0 11 fun i7 =>
              x_dI (i7 - 1) <|
              f_X0_offset_b111 h ((i6 * x1) / (i7 - 1))
            )
        )
      else
        (
        if x2 = 5 then
          (
            x_gI h r0 0 11 fun i8 =>
            if i8 ≤ 0 then
              (
                f_X0_offset_b140 h 0
              )
            else
              (
                x_gI h r0 0 15 fun i9 =>
                x_gI h r0 0 11 fun i10 =>
                x_dI (2 * i10) <|
                f_X0_offset_b140 h ((i9 * ((2 * x1) + 1)) / (2 * i10))
              )
          )
        else
          (
          if x2 = 6 then
            (
              x_gI h r0 0 11 fun i11 =>
              if i11 ≤ 0 then
                (
                  f_X0_offset_b167 h 0
                )
              else
                (
                  x_gI h r0 0 15 fun i12 =>
                  x_gI h r0 0 11 fun i13 =>
                  x_dI (i13 + 1) <|
                  f_X0_offset_b167 h ((i12 * (x1 + 1)) / (i13 + 1))
                )
            )
          else
            (
            some (h, xi 0)
            )
          )
        )
      )
    )
def f_X0_offset_b35  (h : HP) (t0 : Int32) (r0 : Nat) (x1 : Int32) : Option XR :=
  f_X0_offset_b36 h r0 x1 t0
def f_X0_offset (h : HP) (r0 : Nat) (x1 : Int32) : Option XR :=
  x_gR h r0 0 1 fun a1 =>
  x_gI h r0 0 0 fun i2 =>
  x_rc h a1 4 <| x_cI (f_X4_setting h a1 i2 2) fun h4 i3 =>
  x_gI h4 r0 0 15 fun i5 =>
  if 0 ≤ i5 then
    (
      f_X0_offset_b36 h4 r0 x1 i3
    )
  else
    (
      if i3 ≤ 3 then
        (
          f_X0_offset_b36 h4 r0 x1 i3
        )
      else
        (
          if i3 = 4 then
            (
              f_X0_offset_b35 h4 1 r0 x1
            )
          else
            (
              f_X0_offset_b35 h4 3 r0 x1
            )
        )
    )
set_option maxRecDepth 100000 in
set_option maxHeartbeats 4000000 in
theorem s_X0_offset_b111 {p : Program} {l : Launch} {e : Env} {s : State} {m : MethodId} {args : Array Value} {below : List Frame} {meth : Method} {c : Code} {E : XE} {z : XR} (C0 : x_C E p l s m meth c args cX0_offset 3 "GridEngine$AxisLayout" "offset" (some .int)) (hxt : ∀ x ∈ c.exceptionTable.toList, False)  : ∀ (h : HP) (t0 : Int32) (H : Heap) (locs : List Loc) (ls : Array Slot), x_Rep E h H → va_S (x_A E) s.heap H locs → lv_has ls 3 [] → f_X0_offset_b111 h t0 = some z → W p l e ({ frames := 9, cells := 0, slots := 0, locals := 153 } : Room) s m args below meth c H locs 0 0 (x_Q E below args s 0 0 z) (F0 m 111 ls [.int t0]) := by
  intro h t0 H locs ls hR hS hl hf
  obtain ⟨hx, hb, -⟩ := id C0
  unfold f_X0_offset_b111 at hf
  have h0 : x_by cX0_offset 111 [172] := by unfold x_by; decide +kernel
  obtain ⟨d111, h0⟩ := de_ireturn h0
  exact x_iret C0 hR hS hf (Nat.le_of_ble_eq_true rfl) (Nat.le_of_ble_eq_true rfl) d111
set_option maxRecDepth 100000 in
set_option maxHeartbeats 4000000 in
theorem s_X0_offset_b140 {p : Program} {l : Launch} {e : Env} {s : State} {m : MethodId} {args : Array Value} {below : List Frame} {meth : Method} {c : Code} {E : XE} {z : XR} (C0 : x_C E p l s m meth c args cX0_offset 3 "GridEngine$AxisLayout" "offset" (some .int)) (hxt : ∀ x ∈ c.exceptionTable.toList, False)  : ∀ (h : HP) (t0 : Int32) (H : Heap) (locs : List Loc) (ls : Array Slot), x_Rep E h H → va_S (x_A E) s.heap H locs → lv_has ls 3 [] → f_X0_offset_b140 h t0 = some z → W p l e ({ frames := 9, cells := 0, slots := 0, locals := 153 } : Room) s m args below meth c H locs 0 0 (x_Q E below args s 0 0 z) (F0 m 140 ls [.int t0]) := by
  intro h t0 H locs ls hR hS hl hf
  obtain ⟨hx, hb, -⟩ := id C0
  unfold f_X0_offset_b140 at hf
  have h0 : x_by cX0_offset 140 [172] := by unfold x_by; decide +kernel
  obtain ⟨d140, h0⟩ := de_ireturn h0
  exact x_iret C0 hR hS hf (Nat.le_of_ble_eq_true rfl) (Nat.le_of_ble_eq_true rfl) d140
set_option maxRecDepth 100000 in
set_option maxHeartbeats 4000000 in
theorem s_X0_offset_b167 {p : Program} {l : Launch} {e : Env} {s : State} {m : MethodId} {args : Array Value} {below : List Frame} {meth : Method} {c : Code} {E : XE} {z : XR} (C0 : x_C E p l s m meth c args cX0_offset 3 "GridEngine$AxisLayout" "offset" (some .int)) (hxt : ∀ x ∈ c.exceptionTable.toList, False)  : ∀ (h : HP) (t0 : Int32) (H : Heap) (locs : List Loc) (ls : Array Slot), x_Rep E h H → va_S (x_A E) s.heap H locs → lv_has ls 3 [] → f_X0_offset_b167 h t0 = some z → W p l e ({ frames := 9, cells := 0, slots := 0, locals := 153 } : Room) s m args below meth c H locs 0 0 (x_Q E below args s 0 0 z) (F0 m 167 ls [.int t0]) := by
  intro h t0 H locs ls hR hS hl hf
  obtain ⟨hx, hb, -⟩ := id C0
  unfold f_X0_offset_b167 at hf
  have h0 : x_by cX0_offset 167 [172] := by unfold x_by; decide +kernel
  obtain ⟨d167, h0⟩ := de_ireturn h0
  exact x_iret C0 hR hS hf (Nat.le_of_ble_eq_true rfl) (Nat.le_of_ble_eq_true rfl) d167
set_option maxRecDepth 100000 in
set_option maxHeartbeats 4000000 in
theorem s_X0_offset_b36 {p : Program} {l : Launch} {e : Env} {s : State} {m : MethodId} {args : Array Value} {below : List Frame} {meth : Method} {c : Code} {E : XE} {z : XR} (C0 : x_C E p l s m meth c args cX0_offset 3 "GridEngine$AxisLayout" "offset" (some .int)) (hxt : ∀ x ∈ c.exceptionTable.toList, False)  : ∀ (h : HP) (r0 : Nat) (x1 : Int32) (x2 : Int32) (H : Heap) (locs : List Loc) (ls : Array Slot), x_Rep E h H → va_S (x_A E) s.heap H locs → lv_has ls 3 [(0, .ref (xa E r0)), (1, .int x1), (2, .int x2)] → f_X0_offset_b36 h r0 x1 x2 = some z → W p l e ({ frames := 9, cells := 0, slots := 0, locals := 153 } : Room) s m args below meth c H locs 0 0 (x_Q E below args s 0 0 z) (F0 m 36 ls []) := by
  intro h r0 x1 x2 H locs ls hR hS hl hf
  obtain ⟨hx, hb, -⟩ := id C0
  unfold f_X0_offset_b36 at hf
  have h0 : x_by cX0_offset 36 [28] := by unfold x_by; decide +kernel
  obtain ⟨d36, h0⟩ := de_iload_n2 h0
  have d37 : decode cX0_offset 37 = .ok (.tableswitch 131 2 6 #[35, 40, 49, 75, 104], 35) := by decide +kernel
  refine lv_iload_n hx hb d36 rfl (lv_at hl 2 rfl) ?_
  by_cases q0 : x2 = 2
  · have hf := x_pos q0 hf
    refine lv_tableIn (tgt := 72) hx hb d37 (by rw [q0]; decide) (by rw [q0]; decide) (by rw [q0]; first | done | rfl) (by decide) ?_
    have h0 : x_by cX0_offset 72 [42, 180, 0, 50, 172] := by unfold x_by; decide +kernel
    obtain ⟨d72, h0⟩ := de_aload_n0 h0
    obtain ⟨d73, h0⟩ := de_getfield 50 (by decide) h0
    obtain ⟨d76, h0⟩ := de_ireturn h0
    refine lv_aload_n hx hb d72 rfl (lv_at hl 0 rfl) ?_
    refine x_getI C0 hR hf xcl_0 (Nat.le_of_ble_eq_true rfl) rfl fl_X0_50 d73 (fun i1 hf => ?_)
    exact x_iret C0 hR hS hf (Nat.le_of_ble_eq_true rfl) (Nat.le_of_ble_eq_true rfl) d76
  · have hf := x_neg q0 hf
    by_cases q1 : x2 = 3
    · have hf := x_pos q1 hf
      refine lv_tableIn (tgt := 77) hx hb d37 (by rw [q1]; decide) (by rw [q1]; decide) (by rw [q1]; first | done | rfl) (by decide) ?_
      have h0 : x_by cX0_offset 77 [42, 180, 0, 50, 5, 184, 0, 150, 172] := by unfold x_by; decide +kernel
      obtain ⟨d77, h0⟩ := de_aload_n0 h0
      obtain ⟨d78, h0⟩ := de_getfield 50 (by decide) h0
      obtain ⟨d81, h0⟩ := de_iconst_2 h0
      obtain ⟨d82, h0⟩ := de_invokestatic 150 (by decide) h0
      obtain ⟨d85, h0⟩ := de_ireturn h0
      refine lv_aload_n hx hb d77 rfl (lv_at hl 0 rfl) ?_
      refine x_getI C0 hR hf xcl_0 (Nat.le_of_ble_eq_true rfl) rfl fl_X0_50 d78 (fun i2 hf => ?_)
      refine lv_iconst (v := 2) hx hb d81 (by decide) ?_
      refine x_thenI C0 hxt hS hf (fun z0 e0 => x_runS C0 hR hS me_J9_floorDiv_7cf53 wt_J9_floorDiv_7cf53 ml_X0_150 (As := [.int i2, .int 2]) (ct_J9_floorDiv_7cf53 E l C0.2.2.2.2.2.2.2.1 _ i2 2) rfl rfl hl.1 (Nat.le_of_ble_eq_true rfl) d82 ⟨(Nat.le_of_ble_eq_true rfl), (Nat.le_of_ble_eq_true rfl)⟩ ⟨(Nat.le_of_ble_eq_true rfl), (Nat.le_of_ble_eq_true rfl)⟩ e0) (Nat.le_of_ble_eq_true rfl) (Nat.le_of_ble_eq_true rfl) (fun h9 i3 H locs hR hS hf => ?_)
      exact x_iret C0 hR hS hf (Nat.le_of_ble_eq_true rfl) (Nat.le_of_ble_eq_true rfl) d85
    · have hf := x_neg q1 hf
      by_cases q2 : x2 = 4
      · have hf := x_pos q2 hf
        refine lv_tableIn (tgt := 86) hx hb d37 (by rw [q2]; decide) (by rw [q2]; decide) (by rw [q2]; first | done | rfl) (by decide) ?_
        have h0 : x_by cX0_offset 86 [42, 180, 0, 38, 4, 164, 0, 19] := by unfold x_by; decide +kernel
        obtain ⟨d86, h0⟩ := de_aload_n0 h0
        obtain ⟨d87, h0⟩ := de_getfield 38 (by decide) h0
        obtain ⟨d90, h0⟩ := de_iconst_1 h0
        obtain ⟨d91, h0⟩ := de_icmp_le (19) (by decide) h0
        refine lv_aload_n hx hb d86 rfl (lv_at hl 0 rfl) ?_
        refine x_getI C0 hR hf xcl_0 (Nat.le_of_ble_eq_true rfl) rfl fl_X0_38 d87 (fun i5 hf => ?_)
        refine lv_iconst (v := 1) hx hb d90 (by decide) ?_
        refine lv_icmp_le (tgt := 110) hx hb d91 (by decide) (fun q => ?_) (fun q => ?_)
        · have hf := x_pos q hf
          have h0 : x_by cX0_offset 110 [3] := by unfold x_by; decide +kernel
          obtain ⟨d110, h0⟩ := de_iconst_0 h0
          refine lv_iconst (v := 0) hx hb d110 (by decide) ?_
          exact s_X0_offset_b111 C0 hxt _ _ _ _ _ hR hS (lv_sub hl [] rfl) hf
        · have hf := x_neg q hf
          have h0 : x_by cX0_offset 94 [42, 180, 0, 50, 27, 104, 42, 180, 0, 38, 4, 100, 108, 167, 0, 4] := by unfold x_by; decide +kernel
          obtain ⟨d94, h0⟩ := de_aload_n0 h0
          obtain ⟨d95, h0⟩ := de_getfield 50 (by decide) h0
          obtain ⟨d98, h0⟩ := de_iload_n1 h0
          obtain ⟨d99, h0⟩ := de_imul h0
          obtain ⟨d100, h0⟩ := de_aload_n0 h0
          obtain ⟨d101, h0⟩ := de_getfield 38 (by decide) h0
          obtain ⟨d104, h0⟩ := de_iconst_1 h0
          obtain ⟨d105, h0⟩ := de_isub h0
          obtain ⟨d106, h0⟩ := de_idiv h0
          obtain ⟨d107, h0⟩ := de_goto (4) (by decide) h0
          refine lv_aload_n hx hb d94 rfl (lv_at hl 0 rfl) ?_
          refine x_getI C0 hR hf xcl_0 (Nat.le_of_ble_eq_true rfl) rfl fl_X0_50 d95 (fun i6 hf => ?_)
          refine lv_iload_n hx hb d98 rfl (lv_at hl 1 rfl) ?_
          refine lv_imul hx hb d99 ?_
          refine lv_aload_n hx hb d100 rfl (lv_at hl 0 rfl) ?_
          refine x_getI C0 hR hf xcl_0 (Nat.le_of_ble_eq_true rfl) rfl fl_X0_38 d101 (fun i7 hf => ?_)
          refine lv_iconst (v := 1) hx hb d104 (by decide) ?_
          refine lv_isub hx hb d105 ?_
          obtain ⟨hnz, hf⟩ := x_zd hf
          refine lv_idiv hx hb d106 hnz ?_
          refine lv_goto (tgt := 111) hx hb d107 (by decide) ?_
          exact s_X0_offset_b111 C0 hxt _ _ _ _ _ hR hS (lv_sub hl [] rfl) hf
      · have hf := x_neg q2 hf
        by_cases q3 : x2 = 5
        · have hf := x_pos q3 hf
          refine lv_tableIn (tgt := 112) hx hb d37 (by rw [q3]; decide) (by rw [q3]; decide) (by rw [q3]; first | done | rfl) (by decide) ?_
          have h0 : x_by cX0_offset 112 [42, 180, 0, 38, 158, 0, 23] := by unfold x_by; decide +kernel
          obtain ⟨d112, h0⟩ := de_aload_n0 h0
          obtain ⟨d113, h0⟩ := de_getfield 38 (by decide) h0
          obtain ⟨d116, h0⟩ := de_if_le (23) (by decide) h0
          refine lv_aload_n hx hb d112 rfl (lv_at hl 0 rfl) ?_
          refine x_getI C0 hR hf xcl_0 (Nat.le_of_ble_eq_true rfl) rfl fl_X0_38 d113 (fun i8 hf => ?_)
          refine lv_if_le (tgt := 139) hx hb d116 (by decide) (fun q => ?_) (fun q => ?_)
          · have hf := x_pos q hf
            have h0 : x_by cX0_offset 139 [3] := by unfold x_by; decide +kernel
            obtain ⟨d139, h0⟩ := de_iconst_0 h0
            refine lv_iconst (v := 0) hx hb d139 (by decide) ?_
            exact s_X0_offset_b140 C0 hxt _ _ _ _ _ hR hS (lv_sub hl [] rfl) hf
          · have hf := x_neg q hf
            have h0 : x_by cX0_offset 119 [42, 180, 0, 50, 5, 27, 104, 4, 96, 104, 5, 42, 180, 0, 38, 104, 108, 167, 0, 4] := by unfold x_by; decide +kernel
            obtain ⟨d119, h0⟩ := de_aload_n0 h0
            obtain ⟨d120, h0⟩ := de_getfield 50 (by decide) h0
            obtain ⟨d123, h0⟩ := de_iconst_2 h0
            obtain ⟨d124, h0⟩ := de_iload_n1 h0
            obtain ⟨d125, h0⟩ := de_imul h0
            obtain ⟨d126, h0⟩ := de_iconst_1 h0
            obtain ⟨d127, h0⟩ := de_iadd h0
            obtain ⟨d128, h0⟩ := de_imul h0
            obtain ⟨d129, h0⟩ := de_iconst_2 h0
            obtain ⟨d130, h0⟩ := de_aload_n0 h0
            obtain ⟨d131, h0⟩ := de_getfield 38 (by decide) h0
            obtain ⟨d134, h0⟩ := de_imul h0
            obtain ⟨d135, h0⟩ := de_idiv h0
            obtain ⟨d136, h0⟩ := de_goto (4) (by decide) h0
            refine lv_aload_n hx hb d119 rfl (lv_at hl 0 rfl) ?_
            refine x_getI C0 hR hf xcl_0 (Nat.le_of_ble_eq_true rfl) rfl fl_X0_50 d120 (fun i9 hf => ?_)
            refine lv_iconst (v := 2) hx hb d123 (by decide) ?_
            refine lv_iload_n hx hb d124 rfl (lv_at hl 1 rfl) ?_
            refine lv_imul hx hb d125 ?_
            refine lv_iconst (v := 1) hx hb d126 (by decide) ?_
            refine lv_iadd hx hb d127 ?_
            refine lv_imul hx hb d128 ?_
            refine lv_iconst (v := 2) hx hb d129 (by decide) ?_
            refine lv_aload_n hx hb d130 rfl (lv_at hl 0 rfl) ?_
            refine x_getI C0 hR hf xcl_0 (Nat.le_of_ble_eq_true rfl) rfl fl_X0_38 d131 (fun i10 hf => ?_)
            refine lv_imul hx hb d134 ?_
            obtain ⟨hnz, hf⟩ := x_zd hf
            refine lv_idiv hx hb d135 hnz ?_
            refine lv_goto (tgt := 140) hx hb d136 (by decide) ?_
            exact s_X0_offset_b140 C0 hxt _ _ _ _ _ hR hS (lv_sub hl [] rfl) hf
        · have hf := x_neg q3 hf
          by_cases q4 : x2 = 6
          · have hf := x_pos q4 hf
            refine lv_tableIn (tgt := 141) hx hb d37 (by rw [q4]; decide) (by rw [q4]; decide) (by rw [q4]; first | done | rfl) (by decide) ?_
            have h0 : x_by cX0_offset 141 [42, 180, 0, 38, 158, 0, 21] := by unfold x_by; decide +kernel
            obtain ⟨d141, h0⟩ := de_aload_n0 h0
            obtain ⟨d142, h0⟩ := de_getfield 38 (by decide) h0
            obtain ⟨d145, h0⟩ := de_if_le (21) (by decide) h0
            refine lv_aload_n hx hb d141 rfl (lv_at hl 0 rfl) ?_
            refine x_getI C0 hR hf xcl_0 (Nat.le_of_ble_eq_true rfl) rfl fl_X0_38 d142 (fun i11 hf => ?_)
            refine lv_if_le (tgt := 166) hx hb d145 (by decide) (fun q => ?_) (fun q => ?_)
            · have hf := x_pos q hf
              have h0 : x_by cX0_offset 166 [3] := by unfold x_by; decide +kernel
              obtain ⟨d166, h0⟩ := de_iconst_0 h0
              refine lv_iconst (v := 0) hx hb d166 (by decide) ?_
              exact s_X0_offset_b167 C0 hxt _ _ _ _ _ hR hS (lv_sub hl [] rfl) hf
            · have hf := x_neg q hf
              have h0 : x_by cX0_offset 148 [42, 180, 0, 50, 27, 4, 96, 104, 42, 180, 0, 38, 4, 96, 108, 167, 0, 4] := by unfold x_by; decide +kernel
              obtain ⟨d148, h0⟩ := de_aload_n0 h0
              obtain ⟨d149, h0⟩ := de_getfield 50 (by decide) h0
              obtain ⟨d152, h0⟩ := de_iload_n1 h0
              obtain ⟨d153, h0⟩ := de_iconst_1 h0
              obtain ⟨d154, h0⟩ := de_iadd h0
              obtain ⟨d155, h0⟩ := de_imul h0
              obtain ⟨d156, h0⟩ := de_aload_n0 h0
              obtain ⟨d157, h0⟩ := de_getfield 38 (by decide) h0
              obtain ⟨d160, h0⟩ := de_iconst_1 h0
              obtain ⟨d161, h0⟩ := de_iadd h0
              obtain ⟨d162, h0⟩ := de_idiv h0
              obtain ⟨d163, h0⟩ := de_goto (4) (by decide) h0
              refine lv_aload_n hx hb d148 rfl (lv_at hl 0 rfl) ?_
              refine x_getI C0 hR hf xcl_0 (Nat.le_of_ble_eq_true rfl) rfl fl_X0_50 d149 (fun i12 hf => ?_)
              refine lv_iload_n hx hb d152 rfl (lv_at hl 1 rfl) ?_
              refine lv_iconst (v := 1) hx hb d153 (by decide) ?_
              refine lv_iadd hx hb d154 ?_
              refine lv_imul hx hb d155 ?_
              refine lv_aload_n hx hb d156 rfl (lv_at hl 0 rfl) ?_
              refine x_getI C0 hR hf xcl_0 (Nat.le_of_ble_eq_true rfl) rfl fl_X0_38 d157 (fun i13 hf => ?_)
              refine lv_iconst (v := 1) hx hb d160 (by decide) ?_
              refine lv_iadd hx hb d161 ?_
              obtain ⟨hnz, hf⟩ := x_zd hf
              refine lv_idiv hx hb d162 hnz ?_
              refine lv_goto (tgt := 167) hx hb d163 (by decide) ?_
              exact s_X0_offset_b167 C0 hxt _ _ _ _ _ hR hS (lv_sub hl [] rfl) hf
          · have hf := x_neg q4 hf
            have g0 : (x2).toInt ≠ 2 := fun e9 => q0 (Int32.toInt_inj.mp (e9.trans (by decide)))
            have g1 : (x2).toInt ≠ 3 := fun e9 => q1 (Int32.toInt_inj.mp (e9.trans (by decide)))
            have g2 : (x2).toInt ≠ 4 := fun e9 => q2 (Int32.toInt_inj.mp (e9.trans (by decide)))
            have g3 : (x2).toInt ≠ 5 := fun e9 => q3 (Int32.toInt_inj.mp (e9.trans (by decide)))
            have g4 : (x2).toInt ≠ 6 := fun e9 => q4 (Int32.toInt_inj.mp (e9.trans (by decide)))
            refine lv_tableOut (tgt := 168) hx hb d37 (by omega) (by decide) ?_
            have h0 : x_by cX0_offset 168 [3, 172] := by unfold x_by; decide +kernel
            obtain ⟨d168, h0⟩ := de_iconst_0 h0
            obtain ⟨d169, h0⟩ := de_ireturn h0
            refine lv_iconst (v := 0) hx hb d168 (by decide) ?_
            exact x_iret C0 hR hS hf (Nat.le_of_ble_eq_true rfl) (Nat.le_of_ble_eq_true rfl) d169
set_option maxRecDepth 100000 in
set_option maxHeartbeats 4000000 in
theorem s_X0_offset_b35 {p : Program} {l : Launch} {e : Env} {s : State} {m : MethodId} {args : Array Value} {below : List Frame} {meth : Method} {c : Code} {E : XE} {z : XR} (C0 : x_C E p l s m meth c args cX0_offset 3 "GridEngine$AxisLayout" "offset" (some .int)) (hxt : ∀ x ∈ c.exceptionTable.toList, False)  : ∀ (h : HP) (t0 : Int32) (r0 : Nat) (x1 : Int32) (H : Heap) (locs : List Loc) (ls : Array Slot), x_Rep E h H → va_S (x_A E) s.heap H locs → lv_has ls 3 [(0, .ref (xa E r0)), (1, .int x1)] → f_X0_offset_b35 h t0 r0 x1 = some z → W p l e ({ frames := 9, cells := 0, slots := 0, locals := 153 } : Room) s m args below meth c H locs 0 0 (x_Q E below args s 0 0 z) (F0 m 35 ls [.int t0]) := by
  intro h t0 r0 x1 H locs ls hR hS hl hf
  obtain ⟨hx, hb, -⟩ := id C0
  unfold f_X0_offset_b35 at hf
  have h0 : x_by cX0_offset 35 [61] := by unfold x_by; decide +kernel
  obtain ⟨d35, h0⟩ := de_istore_n2 h0
  refine lv_istore_n (lv' := [(2, .int t0), (0, .ref (xa E r0)), (1, .int x1)]) hx hb d35 rfl hl (by decide) rfl (fun ls hl => ?_)
  exact s_X0_offset_b36 C0 hxt _ _ _ _ _ _ _ hR hS (lv_sub hl [1, 2, 0] rfl) hf
set_option maxRecDepth 100000 in
set_option maxHeartbeats 4000000 in
theorem ct_X0_offset (E : XE) (l : Launch) (hl0 : l.stackTraces = false) (h : HP) (r0 : Nat) (x1 : Int32) : x_ct E l yX0_offset (Cond.code yX0_offset cX0_offset 3 (some .int)) 9 153 0 0 [.ref (xa E r0), .int x1] h (f_X0_offset h r0 x1) := by
  refine x_ofW hl0 (by decide +kernel) ?_
  intro z hf p e s m args below meth c C0 hxt hargs hR
  subst hargs
  have C0 : x_C E p l s m meth c ([.ref (xa E r0), .int x1] : List Value).toArray cX0_offset 3 "GridEngine$AxisLayout" "offset" (some .int) := C0
  obtain ⟨hx, hb, -⟩ := id C0
  have hS : va_S (x_A E) s.heap s.heap [] := va_S.rf
  have hl := lv_entry ([.ref (xa E r0), .int x1]) (n := 3) (Nat.le_of_ble_eq_true rfl)
  rw [lg_entry_eq]
  generalize (lg_sl ([.ref (xa E r0), .int x1]) ++ List.replicate (3 - (lg_sl ([.ref (xa E r0), .int x1])).length) Slot.unset).toArray = ls at hl ⊢
  have hl : lv_has ls 3 [(0, .ref (xa E r0)), (1, .int x1)] := hl
  unfold f_X0_offset at hf
  have h0 : x_by cX0_offset 0 [42, 180, 0, 56, 42, 180, 0, 53, 5, 182, 0, 109, 61, 42, 180, 0, 50, 156, 0, 19] := by unfold x_by; decide +kernel
  obtain ⟨d0, h0⟩ := de_aload_n0 h0
  obtain ⟨d1, h0⟩ := de_getfield 56 (by decide) h0
  obtain ⟨d4, h0⟩ := de_aload_n0 h0
  obtain ⟨d5, h0⟩ := de_getfield 53 (by decide) h0
  obtain ⟨d8, h0⟩ := de_iconst_2 h0
  obtain ⟨d9, h0⟩ := de_invokevirtual 109 (by decide) h0
  obtain ⟨d12, h0⟩ := de_istore_n2 h0
  obtain ⟨d13, h0⟩ := de_aload_n0 h0
  obtain ⟨d14, h0⟩ := de_getfield 50 (by decide) h0
  obtain ⟨d17, h0⟩ := de_if_ge (19) (by decide) h0
  refine lv_aload_n hx hb d0 rfl (lv_at hl 0 rfl) ?_
  refine x_getR C0 hR hf xcl_0 (Nat.le_of_ble_eq_true rfl) rfl fl_X0_56 d1 (fun a1 hf => ?_)
  refine lv_aload_n hx hb d4 rfl (lv_at hl 0 rfl) ?_
  refine x_getI C0 hR hf xcl_0 (Nat.le_of_ble_eq_true rfl) rfl fl_X0_53 d5 (fun i2 hf => ?_)
  refine lv_iconst (v := 2) hx hb d8 (by decide) ?_
  obtain ⟨hs9, hf⟩ := x_if hf
  refine x_thenI C0 hxt hS hf (fun z0 e0 => x_runV C0 hR hS me_X4_setting wi_X4_setting wl_X4_setting ml_X0_109 hs9 xcl_4 (As := [.int i2, .int 2]) (ct_X4_setting E l C0.2.2.2.2.2.2.2.1 _ a1 i2 2) rfl rfl hl.1 (Nat.le_of_ble_eq_true rfl) d9 ⟨(Nat.le_of_ble_eq_true rfl), (Nat.le_of_ble_eq_true rfl)⟩ ⟨(Nat.le_of_ble_eq_true rfl), (Nat.le_of_ble_eq_true rfl)⟩ e0) (Nat.le_of_ble_eq_true rfl) (Nat.le_of_ble_eq_true rfl) (fun h9 i3 H locs hR hS hf => ?_)
  refine lv_istore_n (lv' := [(2, .int i3), (0, .ref (xa E r0)), (1, .int x1)]) hx hb d12 rfl hl (by decide) rfl (fun ls hl => ?_)
  refine lv_aload_n hx hb d13 rfl (lv_at hl 1 rfl) ?_
  refine x_getI C0 hR hf xcl_0 (Nat.le_of_ble_eq_true rfl) rfl fl_X0_50 d14 (fun i5 hf => ?_)
  refine lv_if_ge (tgt := 36) hx hb d17 (by decide) (fun q => ?_) (fun q => ?_)
  · have hf := x_pos q hf
    exact s_X0_offset_b36 C0 hxt _ _ _ _ _ _ _ hR hS (lv_sub hl [1, 2, 0] rfl) hf
  · have hf := x_neg q hf
    have h0 : x_by cX0_offset 20 [28, 6, 164, 0, 14] := by unfold x_by; decide +kernel
    obtain ⟨d20, h0⟩ := de_iload_n2 h0
    obtain ⟨d21, h0⟩ := de_iconst_3 h0
    obtain ⟨d22, h0⟩ := de_icmp_le (14) (by decide) h0
    refine lv_iload_n hx hb d20 rfl (lv_at hl 0 rfl) ?_
    refine lv_iconst (v := 3) hx hb d21 (by decide) ?_
    refine lv_icmp_le (tgt := 36) hx hb d22 (by decide) (fun q => ?_) (fun q => ?_)
    · have hf := x_pos q hf
      exact s_X0_offset_b36 C0 hxt _ _ _ _ _ _ _ hR hS (lv_sub hl [1, 2, 0] rfl) hf
    · have hf := x_neg q hf
      have h0 : x_by cX0_offset 25 [28, 7, 160, 0, 7] := by unfold x_by; decide +kernel
      obtain ⟨d25, h0⟩ := de_iload_n2 h0
      obtain ⟨d26, h0⟩ := de_iconst_4 h0
      obtain ⟨d27, h0⟩ := de_icmp_ne (7) (by decide) h0
      refine lv_iload_n hx hb d25 rfl (lv_at hl 0 rfl) ?_
      refine lv_iconst (v := 4) hx hb d26 (by decide) ?_
      refine lv_icmp_ne (tgt := 34) hx hb d27 (by decide) (fun q => ?_) (fun q => ?_)
      · have hf := x_neg q hf
        have h0 : x_by cX0_offset 34 [6] := by unfold x_by; decide +kernel
        obtain ⟨d34, h0⟩ := de_iconst_3 h0
        refine lv_iconst (v := 3) hx hb d34 (by decide) ?_
        exact s_X0_offset_b35 C0 hxt _ _ _ _ _ _ _ hR hS (lv_sub hl [1, 2] rfl) hf
      · have hf := x_pos q hf
        have h0 : x_by cX0_offset 30 [4, 167, 0, 4] := by unfold x_by; decide +kernel
        obtain ⟨d30, h0⟩ := de_iconst_1 h0
        obtain ⟨d31, h0⟩ := de_goto (4) (by decide) h0
        refine lv_iconst (v := 1) hx hb d30 (by decide) ?_
        refine lv_goto (tgt := 35) hx hb d31 (by decide) ?_
        exact s_X0_offset_b35 C0 hxt _ _ _ _ _ _ _ hR hS (lv_sub hl [1, 2] rfl) hf
def f_X0_findPositions_b101 (k35 : HP → Nat → Int32 → Int32 → Int32 → Int32 → Option XR) (h : HP) (r0 : Nat) (x1 : Int32) (x2 : Int32) (x3 : Int32) (x4 : Int32) : Option XR :=
  k35 h r0 x1 x2 x3 (x4 + 1)
def f_X0_findPositions_b140 (k116 : HP → Nat → Int32 → Int32 → Option XR) (h : HP) (r0 : Nat) (x5 : Int32) : Option XR :=
  x_gR h r0 0 9 fun a1 =>
  x_aI h 100 a1 x5 fun i2 =>
  k116 h r0 i2 (x5 + (-1))
def f_X0_findPositions_b116 (k116 : HP → Nat → Int32 → Int32 → Option XR) (h : HP) (r0 : Nat) (x4 : Int32) (x5 : Int32) : Option XR :=
  if x5 < 1 then
    (
      some (h, xv)
    )
  else
    (
      x_rc h r0 0 <| x_cI (f_X0_isOpen h r0 x5) fun h2 i1 =>
      if i1 = 0 then
        (
          x_gR h2 r0 0 9 fun a3 =>
          x_sI h2 a3 x5 x4 fun h4 =>
          f_X0_findPositions_b140 k116 h4 r0 x5
        )
      else
        (
          f_X0_findPositions_b140 k116 h2 r0 x5
        )
    )
def f_X0_findPositions_L116  : Nat → HP → Nat → Int32 → Int32 → Option XR
  | 0 => fun _ _ _ _ => none
  | n + 1 => f_X0_findPositions_b116 (f_X0_findPositions_L116 n)
def f_X0_findPositions_b35 (k35 : HP → Nat → Int32 → Int32 → Int32 → Int32 → Option XR) (h : HP) (r0 : Nat) (x1 : Int32) (x2 : Int32) (x3 : Int32) (x4 : Int32) : Option XR :=
  x_gI h r0 0 10 fun i1 =>
  if i1 < x4 then
    (
      x_gI h r0 0 10 fun i2 =>
      f_X0_findPositions_L116 FU h r0 x3 i2
    )
  else
    (
      x_rc h r0 0 <| x_cI (f_X0_isOpen h r0 x4) fun h4 i3 =>
      if i3 = 0 then
        (
          f_X0_findPositions_b101 k35 h4 r0 x1 x2 x3 x4
        )
      else
        (
          x_gR h4 r0 0 9 fun a5 =>
          x_rc h4 r0 0 <| x_cI (f_X0_offset h4 r0 x2) fun h7 i6 =>
          x_sI h7 a5 x4 (x1 + i6) fun h8 =>
          x_gR h8 r0 0 9 fun a9 =>
          x_aI h8 100 a9 x4 fun i10 =>
          x_gR h8 r0 0 8 fun a11 =>
          x_aI h8 100 a11 x4 fun i12 =>
          x_lI (i10 + i12) fun i13 =>
          x_gR h8 r0 0 8 fun a14 =>
          x_aI h8 100 a14 x4 fun i15 =>
          x_gI h8 r0 0 12 fun i16 =>
          x_lI (x1 + (i15 + i16)) fun i17 =>
          f_X0_findPositions_b101 k35 h8 r0 i17 (x2 + 1) i13 x4
        )
    )
def f_X0_findPositions_L35  : Nat → HP → Nat → Int32 → Int32 → Int32 → Int32 → Option XR
  | 0 => fun _ _ _ _ _ _ => none
  | n + 1 => f_X0_findPositions_b35 (f_X0_findPositions_L35 n)
def f_X0_findPositions_b23  (h : HP) (t0 : Int32) (t1 : Nat) (r0 : Nat) : Option XR :=
  x_pI h t1 0 15 t0 fun h1 =>
  f_X0_findPositions_L35 FU h1 r0 0 0 0 1
def f_X0_findPositions (h : HP) (r0 : Nat) : Option XR :=
  x_gI h r0 0 14 fun i1 =>
  if i1 = (-1) then
    (
      f_X0_findPositions_b23 h 0 r0 r0
    )
  else
    (
      x_gI h r0 0 14 fun i2 =>
      x_rc h r0 0 <| x_cI (f_X0_sumWithGutters h r0 5) fun h4 i3 =>
      f_X0_findPositions_b23 h4 (i2 - i3) r0 r0
    )
set_option maxRecDepth 100000 in
set_option maxHeartbeats 4000000 in
theorem s_X0_findPositions_b101 {p : Program} {l : Launch} {e : Env} {s : State} {m : MethodId} {args : Array Value} {below : List Frame} {meth : Method} {c : Code} {E : XE} {z : XR} (C0 : x_C E p l s m meth c args cX0_findPositions 6 "GridEngine$AxisLayout" "findPositions" none) (hxt : ∀ x ∈ c.exceptionTable.toList, False) {k35 : HP → Nat → Int32 → Int32 → Int32 → Int32 → Option XR} (hk35 : ∀ (h : HP) (r0 : Nat) (x1 : Int32) (x2 : Int32) (x3 : Int32) (x4 : Int32) (H : Heap) (locs : List Loc) (ls : Array Slot), x_Rep E h H → va_S (x_A E) s.heap H locs → lv_has ls 6 [(0, .ref (xa E r0)), (1, .int x1), (2, .int x2), (3, .int x3), (4, .int x4)] → k35 h r0 x1 x2 x3 x4 = some z → W p l e ({ frames := 11, cells := 0, slots := 0, locals := 197 } : Room) s m args below meth c H locs 0 0 (x_Q E below args s 0 0 z) (F0 m 35 ls [])) : ∀ (h : HP) (r0 : Nat) (x1 : Int32) (x2 : Int32) (x3 : Int32) (x4 : Int32) (H : Heap) (locs : List Loc) (ls : Array Slot), x_Rep E h H → va_S (x_A E) s.heap H locs → lv_has ls 6 [(0, .ref (xa E r0)), (1, .int x1), (2, .int x2), (3, .int x3), (4, .int x4)] → f_X0_findPositions_b101 k35 h r0 x1 x2 x3 x4 = some z → W p l e ({ frames := 11, cells := 0, slots := 0, locals := 197 } : Room) s m args below meth c H locs 0 0 (x_Q E below args s 0 0 z) (F0 m 101 ls []) := by
  intro h r0 x1 x2 x3 x4 H locs ls hR hS hl hf
  obtain ⟨hx, hb, -⟩ := id C0
  unfold f_X0_findPositions_b101 at hf
  have h0 : x_by cX0_findPositions 101 [132, 4, 1, 167, 255, 187] := by unfold x_by; decide +kernel
  obtain ⟨d101, h0⟩ := de_iinc (1) (by decide) h0
  obtain ⟨d104, h0⟩ := de_goto (-69) (by decide) h0
  refine lv_iinc (v := (x4 + 1)) (lv' := [(4, .int (x4 + 1)), (0, .ref (xa E r0)), (1, .int x1), (2, .int x2), (3, .int x3)]) hx hb d101 hl (k := 4) rfl rfl (by decide) rfl (fun ls hl => ?_)
  refine lv_goto (tgt := 35) hx hb d104 (by decide) ?_
  exact hk35 _ _ _ _ _ _ _ _ _ hR hS (lv_sub hl [1, 2, 3, 4, 0] rfl) hf
set_option maxRecDepth 100000 in
set_option maxHeartbeats 4000000 in
theorem s_X0_findPositions_b140 {p : Program} {l : Launch} {e : Env} {s : State} {m : MethodId} {args : Array Value} {below : List Frame} {meth : Method} {c : Code} {E : XE} {z : XR} (C0 : x_C E p l s m meth c args cX0_findPositions 6 "GridEngine$AxisLayout" "findPositions" none) (hxt : ∀ x ∈ c.exceptionTable.toList, False) {k116 : HP → Nat → Int32 → Int32 → Option XR} (hk116 : ∀ (h : HP) (r0 : Nat) (x4 : Int32) (x5 : Int32) (H : Heap) (locs : List Loc) (ls : Array Slot), x_Rep E h H → va_S (x_A E) s.heap H locs → lv_has ls 6 [(0, .ref (xa E r0)), (4, .int x4), (5, .int x5)] → k116 h r0 x4 x5 = some z → W p l e ({ frames := 11, cells := 0, slots := 0, locals := 197 } : Room) s m args below meth c H locs 0 0 (x_Q E below args s 0 0 z) (F0 m 116 ls [])) : ∀ (h : HP) (r0 : Nat) (x5 : Int32) (H : Heap) (locs : List Loc) (ls : Array Slot), x_Rep E h H → va_S (x_A E) s.heap H locs → lv_has ls 6 [(0, .ref (xa E r0)), (5, .int x5)] → f_X0_findPositions_b140 k116 h r0 x5 = some z → W p l e ({ frames := 11, cells := 0, slots := 0, locals := 197 } : Room) s m args below meth c H locs 0 0 (x_Q E below args s 0 0 z) (F0 m 140 ls []) := by
  intro h r0 x5 H locs ls hR hS hl hf
  obtain ⟨hx, hb, -⟩ := id C0
  unfold f_X0_findPositions_b140 at hf
  have h0 : x_by cX0_findPositions 140 [42, 180, 0, 31, 21, 5, 46, 54, 4, 132, 5, 255, 167, 255, 220] := by unfold x_by; decide +kernel
  obtain ⟨d140, h0⟩ := de_aload_n0 h0
  obtain ⟨d141, h0⟩ := de_getfield 31 (by decide) h0
  obtain ⟨d144, h0⟩ := de_iload h0
  obtain ⟨d146, h0⟩ := de_iaload h0
  obtain ⟨d147, h0⟩ := de_istore h0
  obtain ⟨d149, h0⟩ := de_iinc (-1) (by decide) h0
  obtain ⟨d152, h0⟩ := de_goto (-36) (by decide) h0
  refine lv_aload_n hx hb d140 rfl (lv_at hl 0 rfl) ?_
  refine x_getR C0 hR hf xcl_0 (Nat.le_of_ble_eq_true rfl) rfl fl_X0_31 d141 (fun a1 hf => ?_)
  refine lv_iload hx hb d144 (lv_at hl 1 rfl) ?_
  refine x_iald C0 hR hf d146 (fun i2 hf => ?_)
  refine lv_istore (lv' := [(4, .int i2), (0, .ref (xa E r0)), (5, .int x5)]) hx hb d147 hl (by decide) rfl (fun ls hl => ?_)
  refine lv_iinc (v := (x5 + (-1))) (lv' := [(5, .int (x5 + (-1))), (4, .int i2), (0, .ref (xa E r0))]) hx hb d149 hl (k := 2) rfl rfl (by decide) rfl (fun ls hl => ?_)
  refine lv_goto (tgt := 116) hx hb d152 (by decide) ?_
  exact hk116 _ _ _ _ _ _ _ hR hS (lv_sub hl [2, 1, 0] rfl) hf
set_option maxRecDepth 100000 in
set_option maxHeartbeats 4000000 in
theorem s_X0_findPositions_b116 {p : Program} {l : Launch} {e : Env} {s : State} {m : MethodId} {args : Array Value} {below : List Frame} {meth : Method} {c : Code} {E : XE} {z : XR} (C0 : x_C E p l s m meth c args cX0_findPositions 6 "GridEngine$AxisLayout" "findPositions" none) (hxt : ∀ x ∈ c.exceptionTable.toList, False) {k116 : HP → Nat → Int32 → Int32 → Option XR} (hk116 : ∀ (h : HP) (r0 : Nat) (x4 : Int32) (x5 : Int32) (H : Heap) (locs : List Loc) (ls : Array Slot), x_Rep E h H → va_S (x_A E) s.heap H locs → lv_has ls 6 [(0, .ref (xa E r0)), (4, .int x4), (5, .int x5)] → k116 h r0 x4 x5 = some z → W p l e ({ frames := 11, cells := 0, slots := 0, locals := 197 } : Room) s m args below meth c H locs 0 0 (x_Q E below args s 0 0 z) (F0 m 116 ls [])) : ∀ (h : HP) (r0 : Nat) (x4 : Int32) (x5 : Int32) (H : Heap) (locs : List Loc) (ls : Array Slot), x_Rep E h H → va_S (x_A E) s.heap H locs → lv_has ls 6 [(0, .ref (xa E r0)), (4, .int x4), (5, .int x5)] → f_X0_findPositions_b116 k116 h r0 x4 x5 = some z → W p l e ({ frames := 11, cells := 0, slots := 0, locals := 197 } : Room) s m args below meth c H locs 0 0 (x_Q E below args s 0 0 z) (F0 m 116 ls []) := by
  intro h r0 x4 x5 H locs ls hR hS hl hf
  obtain ⟨hx, hb, -⟩ := id C0
  unfold f_X0_findPositions_b116 at hf
  have h0 : x_by cX0_findPositions 116 [21, 5, 4, 161, 0, 36] := by unfold x_by; decide +kernel
  obtain ⟨d116, h0⟩ := de_iload h0
  obtain ⟨d118, h0⟩ := de_iconst_1 h0
  obtain ⟨d119, h0⟩ := de_icmp_lt (36) (by decide) h0
  refine lv_iload hx hb d116 (lv_at hl 2 rfl) ?_
  refine lv_iconst (v := 1) hx hb d118 (by decide) ?_
  refine lv_icmp_lt (tgt := 155) hx hb d119 (by decide) (fun q => ?_) (fun q => ?_)
  · have hf := x_pos q hf
    have h0 : x_by cX0_findPositions 155 [177] := by unfold x_by; decide +kernel
    obtain ⟨d155, h0⟩ := de_return h0
    exact x_vret C0 hR hS hf (Nat.le_of_ble_eq_true rfl) (Nat.le_of_ble_eq_true rfl) d155
  · have hf := x_neg q hf
    have h0 : x_by cX0_findPositions 122 [42, 21, 5, 182, 0, 130, 154, 0, 12] := by unfold x_by; decide +kernel
    obtain ⟨d122, h0⟩ := de_aload_n0 h0
    obtain ⟨d123, h0⟩ := de_iload h0
    obtain ⟨d125, h0⟩ := de_invokevirtual 130 (by decide) h0
    obtain ⟨d128, h0⟩ := de_if_ne (12) (by decide) h0
    refine lv_aload_n hx hb d122 rfl (lv_at hl 0 rfl) ?_
    refine lv_iload hx hb d123 (lv_at hl 2 rfl) ?_
    obtain ⟨hs9, hf⟩ := x_if hf
    refine x_thenI C0 hxt hS hf (fun z0 e0 => x_runV C0 hR hS me_X0_isOpen wi_X0_isOpen wl_X0_isOpen ml_X0_130 hs9 xcl_0 (As := [.int x5]) (ct_X0_isOpen E l C0.2.2.2.2.2.2.2.1 _ r0 x5) rfl rfl hl.1 (Nat.le_of_ble_eq_true rfl) d125 ⟨(Nat.le_of_ble_eq_true rfl), (Nat.le_of_ble_eq_true rfl)⟩ ⟨(Nat.le_of_ble_eq_true rfl), (Nat.le_of_ble_eq_true rfl)⟩ e0) (Nat.le_of_ble_eq_true rfl) (Nat.le_of_ble_eq_true rfl) (fun h9 i1 H locs hR hS hf => ?_)
    refine lv_if_ne (tgt := 140) hx hb d128 (by decide) (fun q => ?_) (fun q => ?_)
    · have hf := x_neg q hf
      exact s_X0_findPositions_b140 C0 hxt hk116 _ _ _ _ _ _ hR hS (lv_sub hl [0, 2] rfl) hf
    · have hf := x_pos q hf
      have h0 : x_by cX0_findPositions 131 [42, 180, 0, 31, 21, 5, 21, 4, 79] := by unfold x_by; decide +kernel
      obtain ⟨d131, h0⟩ := de_aload_n0 h0
      obtain ⟨d132, h0⟩ := de_getfield 31 (by decide) h0
      obtain ⟨d135, h0⟩ := de_iload h0
      obtain ⟨d137, h0⟩ := de_iload h0
      obtain ⟨d139, h0⟩ := de_iastore h0
      refine lv_aload_n hx hb d131 rfl (lv_at hl 0 rfl) ?_
      refine x_getR C0 hR hf xcl_0 (Nat.le_of_ble_eq_true rfl) rfl fl_X0_31 d132 (fun a3 hf => ?_)
      refine lv_iload hx hb d135 (lv_at hl 2 rfl) ?_
      refine lv_iload hx hb d137 (lv_at hl 1 rfl) ?_
      refine x_iast C0 hR hS hf d139 (fun H locs hR hS hf => ?_)
      exact s_X0_findPositions_b140 C0 hxt hk116 _ _ _ _ _ _ hR hS (lv_sub hl [0, 2] rfl) hf
theorem s_X0_findPositions_L116 {p : Program} {l : Launch} {e : Env} {s : State} {m : MethodId} {args : Array Value} {below : List Frame} {meth : Method} {c : Code} {E : XE} {z : XR} (C0 : x_C E p l s m meth c args cX0_findPositions 6 "GridEngine$AxisLayout" "findPositions" none) (hxt : ∀ x ∈ c.exceptionTable.toList, False)  : ∀ n : Nat, ∀ (h : HP) (r0 : Nat) (x4 : Int32) (x5 : Int32) (H : Heap) (locs : List Loc) (ls : Array Slot), x_Rep E h H → va_S (x_A E) s.heap H locs → lv_has ls 6 [(0, .ref (xa E r0)), (4, .int x4), (5, .int x5)] → f_X0_findPositions_L116 n h r0 x4 x5 = some z → W p l e ({ frames := 11, cells := 0, slots := 0, locals := 197 } : Room) s m args below meth c H locs 0 0 (x_Q E below args s 0 0 z) (F0 m 116 ls []) := by
  intro n
  induction n with
  | zero => intro h r0 x4 x5 H locs ls hR hS hl hf; cases (show (none : Option XR) = some z from hf)
  | succ n ih => intro h r0 x4 x5 H locs ls hR hS hl hf; exact s_X0_findPositions_b116 C0 hxt ih h r0 x4 x5 H locs ls hR hS hl (show f_X0_findPositions_b116 (f_X0_findPositions_L116 n) h r0 x4 x5 = some z from hf)
set_option maxRecDepth 100000 in
set_option maxHeartbeats 4000000 in
theorem s_X0_findPositions_b35 {p : Program} {l : Launch} {e : Env} {s : State} {m : MethodId} {args : Array Value} {below : List Frame} {meth : Method} {c : Code} {E : XE} {z : XR} (C0 : x_C E p l s m meth c args cX0_findPositions 6 "GridEngine$AxisLayout" "findPositions" none) (hxt : ∀ x ∈ c.exceptionTable.toList, False) {k35 : HP → Nat → Int32 → Int32 → Int32 → Int32 → Option XR} (hk35 : ∀ (h : HP) (r0 : Nat) (x1 : Int32) (x2 : Int32) (x3 : Int32) (x4 : Int32) (H : Heap) (locs : List Loc) (ls : Array Slot), x_Rep E h H → va_S (x_A E) s.heap H locs → lv_has ls 6 [(0, .ref (xa E r0)), (1, .int x1), (2, .int x2), (3, .int x3), (4, .int x4)] → k35 h r0 x1 x2 x3 x4 = some z → W p l e ({ frames := 11, cells := 0, slots := 0, locals := 197 } : Room) s m args below meth c H locs 0 0 (x_Q E below args s 0 0 z) (F0 m 35 ls [])) : ∀ (h : HP) (r0 : Nat) (x1 : Int32) (x2 : Int32) (x3 : Int32) (x4 : Int32) (H : Heap) (locs : List Loc) (ls : Array Slot), x_Rep E h H → va_S (x_A E) s.heap H locs → lv_has ls 6 [(0, .ref (xa E r0)), (1, .int x1), (2, .int x2), (3, .int x3), (4, .int x4)] → f_X0_findPositions_b35 k35 h r0 x1 x2 x3 x4 = some z → W p l e ({ frames := 11, cells := 0, slots := 0, locals := 197 } : Room) s m args below meth c H locs 0 0 (x_Q E below args s 0 0 z) (F0 m 35 ls []) := by
  intro h r0 x1 x2 x3 x4 H locs ls hR hS hl hf
  obtain ⟨hx, hb, -⟩ := id C0
  unfold f_X0_findPositions_b35 at hf
  have h0 : x_by cX0_findPositions 35 [21, 4, 42, 180, 0, 34, 163, 0, 66] := by unfold x_by; decide +kernel
  obtain ⟨d35, h0⟩ := de_iload h0
  obtain ⟨d37, h0⟩ := de_aload_n0 h0
  obtain ⟨d38, h0⟩ := de_getfield 34 (by decide) h0
  obtain ⟨d41, h0⟩ := de_icmp_gt (66) (by decide) h0
  refine lv_iload hx hb d35 (lv_at hl 4 rfl) ?_
  refine lv_aload_n hx hb d37 rfl (lv_at hl 0 rfl) ?_
  refine x_getI C0 hR hf xcl_0 (Nat.le_of_ble_eq_true rfl) rfl fl_X0_34 d38 (fun i1 hf => ?_)
  refine lv_icmp_gt (tgt := 107) hx hb d41 (by decide) (fun q => ?_) (fun q => ?_)
  · have hf := x_pos q hf
    have h0 : x_by cX0_findPositions 107 [29, 54, 4, 42, 180, 0, 34, 54, 5] := by unfold x_by; decide +kernel
    obtain ⟨d107, h0⟩ := de_iload_n3 h0
    obtain ⟨d108, h0⟩ := de_istore h0
    obtain ⟨d110, h0⟩ := de_aload_n0 h0
    obtain ⟨d111, h0⟩ := de_getfield 34 (by decide) h0
    obtain ⟨d114, h0⟩ := de_istore h0
    refine lv_iload_n hx hb d107 rfl (lv_at hl 3 rfl) ?_
    refine lv_istore (lv' := [(4, .int x3), (0, .ref (xa E r0)), (1, .int x1), (2, .int x2), (3, .int x3)]) hx hb d108 hl (by decide) rfl (fun ls hl => ?_)
    refine lv_aload_n hx hb d110 rfl (lv_at hl 1 rfl) ?_
    refine x_getI C0 hR hf xcl_0 (Nat.le_of_ble_eq_true rfl) rfl fl_X0_34 d111 (fun i2 hf => ?_)
    refine lv_istore (lv' := [(5, .int i2), (4, .int x3), (0, .ref (xa E r0)), (1, .int x1), (2, .int x2), (3, .int x3)]) hx hb d114 hl (by decide) rfl (fun ls hl => ?_)
    exact s_X0_findPositions_L116 C0 hxt FU _ _ _ _ _ _ _ hR hS (lv_sub hl [2, 1, 0] rfl) hf
  · have hf := x_neg q hf
    have h0 : x_by cX0_findPositions 44 [42, 21, 4, 182, 0, 130, 153, 0, 51] := by unfold x_by; decide +kernel
    obtain ⟨d44, h0⟩ := de_aload_n0 h0
    obtain ⟨d45, h0⟩ := de_iload h0
    obtain ⟨d47, h0⟩ := de_invokevirtual 130 (by decide) h0
    obtain ⟨d50, h0⟩ := de_if_eq (51) (by decide) h0
    refine lv_aload_n hx hb d44 rfl (lv_at hl 0 rfl) ?_
    refine lv_iload hx hb d45 (lv_at hl 4 rfl) ?_
    obtain ⟨hs9, hf⟩ := x_if hf
    refine x_thenI C0 hxt hS hf (fun z0 e0 => x_runV C0 hR hS me_X0_isOpen wi_X0_isOpen wl_X0_isOpen ml_X0_130 hs9 xcl_0 (As := [.int x4]) (ct_X0_isOpen E l C0.2.2.2.2.2.2.2.1 _ r0 x4) rfl rfl hl.1 (Nat.le_of_ble_eq_true rfl) d47 ⟨(Nat.le_of_ble_eq_true rfl), (Nat.le_of_ble_eq_true rfl)⟩ ⟨(Nat.le_of_ble_eq_true rfl), (Nat.le_of_ble_eq_true rfl)⟩ e0) (Nat.le_of_ble_eq_true rfl) (Nat.le_of_ble_eq_true rfl) (fun h9 i3 H locs hR hS hf => ?_)
    refine lv_if_eq (tgt := 101) hx hb d50 (by decide) (fun q => ?_) (fun q => ?_)
    · have hf := x_pos q hf
      exact s_X0_findPositions_b101 C0 hxt hk35 _ _ _ _ _ _ _ _ _ hR hS (lv_sub hl [0, 1, 2, 3, 4] rfl) hf
    · have hf := x_neg q hf
      have h0 : x_by cX0_findPositions 53 [42, 180, 0, 31, 21, 4, 27, 42, 28, 182, 0, 147, 96, 79, 42, 180, 0, 31, 21, 4, 46, 42, 180, 0, 28, 21, 4, 46, 96, 62, 27, 42, 180, 0, 28, 21, 4, 46, 42, 180, 0, 41, 96, 96, 60, 132, 2, 1] := by unfold x_by; decide +kernel
      obtain ⟨d53, h0⟩ := de_aload_n0 h0
      obtain ⟨d54, h0⟩ := de_getfield 31 (by decide) h0
      obtain ⟨d57, h0⟩ := de_iload h0
      obtain ⟨d59, h0⟩ := de_iload_n1 h0
      obtain ⟨d60, h0⟩ := de_aload_n0 h0
      obtain ⟨d61, h0⟩ := de_iload_n2 h0
      obtain ⟨d62, h0⟩ := de_invokevirtual 147 (by decide) h0
      obtain ⟨d65, h0⟩ := de_iadd h0
      obtain ⟨d66, h0⟩ := de_iastore h0
      obtain ⟨d67, h0⟩ := de_aload_n0 h0
      obtain ⟨d68, h0⟩ := de_getfield 31 (by decide) h0
      obtain ⟨d71, h0⟩ := de_iload h0
      obtain ⟨d73, h0⟩ := de_iaload h0
      obtain ⟨d74, h0⟩ := de_aload_n0 h0
      obtain ⟨d75, h0⟩ := de_getfield 28 (by decide) h0
      obtain ⟨d78, h0⟩ := de_iload h0
      obtain ⟨d80, h0⟩ := de_iaload h0
      obtain ⟨d81, h0⟩ := de_iadd h0
      obtain ⟨d82, h0⟩ := de_istore_n3 h0
      obtain ⟨d83, h0⟩ := de_iload_n1 h0
      obtain ⟨d84, h0⟩ := de_aload_n0 h0
      obtain ⟨d85, h0⟩ := de_getfield 28 (by decide) h0
      obtain ⟨d88, h0⟩ := de_iload h0
      obtain ⟨d90, h0⟩ := de_iaload h0
      obtain ⟨d91, h0⟩ := de_aload_n0 h0
      obtain ⟨d92, h0⟩ := de_getfield 41 (by decide) h0
      obtain ⟨d95, h0⟩ := de_iadd h0
      obtain ⟨d96, h0⟩ := de_iadd h0
      obtain ⟨d97, h0⟩ := de_istore_n1 h0
      obtain ⟨d98, h0⟩ := de_iinc (1) (by decide) h0
      refine lv_aload_n hx hb d53 rfl (lv_at hl 0 rfl) ?_
      refine x_getR C0 hR hf xcl_0 (Nat.le_of_ble_eq_true rfl) rfl fl_X0_31 d54 (fun a5 hf => ?_)
      refine lv_iload hx hb d57 (lv_at hl 4 rfl) ?_
      refine lv_iload_n hx hb d59 rfl (lv_at hl 1 rfl) ?_
      refine lv_aload_n hx hb d60 rfl (lv_at hl 0 rfl) ?_
      refine lv_iload_n hx hb d61 rfl (lv_at hl 2 rfl) ?_
      obtain ⟨hs9, hf⟩ := x_if hf
      refine x_thenI C0 hxt hS hf (fun z0 e0 => x_runV C0 hR hS me_X0_offset wi_X0_offset wl_X0_offset ml_X0_147 hs9 xcl_0 (As := [.int x2]) (ct_X0_offset E l C0.2.2.2.2.2.2.2.1 _ r0 x2) rfl rfl hl.1 (Nat.le_of_ble_eq_true rfl) d62 ⟨(Nat.le_of_ble_eq_true rfl), (Nat.le_of_ble_eq_true rfl)⟩ ⟨(Nat.le_of_ble_eq_true rfl), (Nat.le_of_ble_eq_true rfl)⟩ e0) (Nat.le_of_ble_eq_true rfl) (Nat.le_of_ble_eq_true rfl) (fun h9 i6 H locs hR hS hf => ?_)
      refine lv_iadd hx hb d65 ?_
      refine x_iast C0 hR hS hf d66 (fun H locs hR hS hf => ?_)
      refine lv_aload_n hx hb d67 rfl (lv_at hl 0 rfl) ?_
      refine x_getR C0 hR hf xcl_0 (Nat.le_of_ble_eq_true rfl) rfl fl_X0_31 d68 (fun a9 hf => ?_)
      refine lv_iload hx hb d71 (lv_at hl 4 rfl) ?_
      refine x_iald C0 hR hf d73 (fun i10 hf => ?_)
      refine lv_aload_n hx hb d74 rfl (lv_at hl 0 rfl) ?_
      refine x_getR C0 hR hf xcl_0 (Nat.le_of_ble_eq_true rfl) rfl fl_X0_28 d75 (fun a11 hf => ?_)
      refine lv_iload hx hb d78 (lv_at hl 4 rfl) ?_
      refine x_iald C0 hR hf d80 (fun i12 hf => ?_)
      refine lv_iadd hx hb d81 ?_
      refine lv_topi (fun i13 ei13 => ?_)
      have hf := x_lI_el ei13 hf
      refine lv_istore_n (lv' := [(3, .int i13), (0, .ref (xa E r0)), (1, .int x1), (2, .int x2), (4, .int x4)]) hx hb d82 rfl hl (by decide) rfl (fun ls hl => ?_)
      refine lv_iload_n hx hb d83 rfl (lv_at hl 2 rfl) ?_
      refine lv_aload_n hx hb d84 rfl (lv_at hl 1 rfl) ?_
      refine x_getR C0 hR hf xcl_0 (Nat.le_of_ble_eq_true rfl) rfl fl_X0_28 d85 (fun a14 hf => ?_)
      refine lv_iload hx hb d88 (lv_at hl 4 rfl) ?_
      refine x_iald C0 hR hf d90 (fun i15 hf => ?_)
      refine lv_aload_n hx hb d91 rfl (lv_at hl 1 rfl) ?_
      refine x_getI C0 hR hf xcl_0 (Nat.le_of_ble_eq_true rfl) rfl fl_X0_41 d92 (fun i16 hf => ?_)
      refine lv_iadd hx hb d95 ?_
      refine lv_iadd hx hb d96 ?_
      refine lv_topi (fun i17 ei17 => ?_)
      have hf := x_lI_el ei17 hf
      refine lv_istore_n (lv' := [(1, .int i17), (3, .int i13), (0, .ref (xa E r0)), (2, .int x2), (4, .int x4)]) hx hb d97 rfl hl (by decide) rfl (fun ls hl => ?_)
      refine lv_iinc (v := (x2 + 1)) (lv' := [(2, .int (x2 + 1)), (1, .int i17), (3, .int i13), (0, .ref (xa E r0)), (4, .int x4)]) hx hb d98 hl (k := 3) rfl rfl (by decide) rfl (fun ls hl => ?_)
      exact s_X0_findPositions_b101 C0 hxt hk35 _ _ _ _ _ _ _ _ _ hR hS (lv_sub hl [3, 1, 0, 2, 4] rfl) hf
theorem s_X0_findPositions_L35 {p : Program} {l : Launch} {e : Env} {s : State} {m : MethodId} {args : Array Value} {below : List Frame} {meth : Method} {c : Code} {E : XE} {z : XR} (C0 : x_C E p l s m meth c args cX0_findPositions 6 "GridEngine$AxisLayout" "findPositions" none) (hxt : ∀ x ∈ c.exceptionTable.toList, False)  : ∀ n : Nat, ∀ (h : HP) (r0 : Nat) (x1 : Int32) (x2 : Int32) (x3 : Int32) (x4 : Int32) (H : Heap) (locs : List Loc) (ls : Array Slot), x_Rep E h H → va_S (x_A E) s.heap H locs → lv_has ls 6 [(0, .ref (xa E r0)), (1, .int x1), (2, .int x2), (3, .int x3), (4, .int x4)] → f_X0_findPositions_L35 n h r0 x1 x2 x3 x4 = some z → W p l e ({ frames := 11, cells := 0, slots := 0, locals := 197 } : Room) s m args below meth c H locs 0 0 (x_Q E below args s 0 0 z) (F0 m 35 ls []) := by
  intro n
  induction n with
  | zero => intro h r0 x1 x2 x3 x4 H locs ls hR hS hl hf; cases (show (none : Option XR) = some z from hf)
  | succ n ih => intro h r0 x1 x2 x3 x4 H locs ls hR hS hl hf; exact s_X0_findPositions_b35 C0 hxt ih h r0 x1 x2 x3 x4 H locs ls hR hS hl (show f_X0_findPositions_b35 (f_X0_findPositions_L35 n) h r0 x1 x2 x3 x4 = some z from hf)
set_option maxRecDepth 100000 in
set_option maxHeartbeats 4000000 in
theorem s_X0_findPositions_b23 {p : Program} {l : Launch} {e : Env} {s : State} {m : MethodId} {args : Array Value} {below : List Frame} {meth : Method} {c : Code} {E : XE} {z : XR} (C0 : x_C E p l s m meth c args cX0_findPositions 6 "GridEngine$AxisLayout" "findPositions" none) (hxt : ∀ x ∈ c.exceptionTable.toList, False)  : ∀ (h : HP) (t0 : Int32) (t1 : Nat) (r0 : Nat) (H : Heap) (locs : List Loc) (ls : Array Slot), x_Rep E h H → va_S (x_A E) s.heap H locs → lv_has ls 6 [(0, .ref (xa E r0))] → f_X0_findPositions_b23 h t0 t1 r0 = some z → W p l e ({ frames := 11, cells := 0, slots := 0, locals := 197 } : Room) s m args below meth c H locs 0 0 (x_Q E below args s 0 0 z) (F0 m 23 ls [.int t0, .ref (xa E t1)]) := by
  intro h t0 t1 r0 H locs ls hR hS hl hf
  obtain ⟨hx, hb, -⟩ := id C0
  unfold f_X0_findPositions_b23 at hf
  have h0 : x_by cX0_findPositions 23 [181, 0, 50, 3, 60, 3, 61, 3, 62, 4, 54, 4] := by unfold x_by; decide +kernel
  obtain ⟨d23, h0⟩ := de_putfield 50 (by decide) h0
  obtain ⟨d26, h0⟩ := de_iconst_0 h0
  obtain ⟨d27, h0⟩ := de_istore_n1 h0
  obtain ⟨d28, h0⟩ := de_iconst_0 h0
  obtain ⟨d29, h0⟩ := de_istore_n2 h0
  obtain ⟨d30, h0⟩ := de_iconst_0 h0
  obtain ⟨d31, h0⟩ := de_istore_n3 h0
  obtain ⟨d32, h0⟩ := de_iconst_1 h0
  obtain ⟨d33, h0⟩ := de_istore h0
  refine x_putI C0 hR hS hf xcl_0 (Nat.le_of_ble_eq_true rfl) rfl fl_X0_50 (Or.inl rfl) d23 (fun H locs hR hS hf => ?_)
  refine lv_iconst (v := 0) hx hb d26 (by decide) ?_
  refine lv_istore_n (lv' := [(1, .int 0), (0, .ref (xa E r0))]) hx hb d27 rfl hl (by decide) rfl (fun ls hl => ?_)
  refine lv_iconst (v := 0) hx hb d28 (by decide) ?_
  refine lv_istore_n (lv' := [(2, .int 0), (1, .int 0), (0, .ref (xa E r0))]) hx hb d29 rfl hl (by decide) rfl (fun ls hl => ?_)
  refine lv_iconst (v := 0) hx hb d30 (by decide) ?_
  refine lv_istore_n (lv' := [(3, .int 0), (2, .int 0), (1, .int 0), (0, .ref (xa E r0))]) hx hb d31 rfl hl (by decide) rfl (fun ls hl => ?_)
  refine lv_iconst (v := 1) hx hb d32 (by decide) ?_
  refine lv_istore (lv' := [(4, .int 1), (3, .int 0), (2, .int 0), (1, .int 0), (0, .ref (xa E r0))]) hx hb d33 hl (by decide) rfl (fun ls hl => ?_)
  exact s_X0_findPositions_L35 C0 hxt FU _ _ _ _ _ _ _ _ _ hR hS (lv_sub hl [4, 3, 2, 1, 0] rfl) hf
set_option maxRecDepth 100000 in
set_option maxHeartbeats 4000000 in
theorem ct_X0_findPositions (E : XE) (l : Launch) (hl0 : l.stackTraces = false) (h : HP) (r0 : Nat) : x_ct E l yX0_findPositions (Cond.code yX0_findPositions cX0_findPositions 6 none) 11 197 0 0 [.ref (xa E r0)] h (f_X0_findPositions h r0) := by
  refine x_ofW hl0 (by decide +kernel) ?_
  intro z hf p e s m args below meth c C0 hxt hargs hR
  subst hargs
  have C0 : x_C E p l s m meth c ([.ref (xa E r0)] : List Value).toArray cX0_findPositions 6 "GridEngine$AxisLayout" "findPositions" none := C0
  obtain ⟨hx, hb, -⟩ := id C0
  have hS : va_S (x_A E) s.heap s.heap [] := va_S.rf
  have hl := lv_entry ([.ref (xa E r0)]) (n := 6) (Nat.le_of_ble_eq_true rfl)
  rw [lg_entry_eq]
  generalize (lg_sl ([.ref (xa E r0)]) ++ List.replicate (6 - (lg_sl ([.ref (xa E r0)])).length) Slot.unset).toArray = ls at hl ⊢
  have hl : lv_has ls 6 [(0, .ref (xa E r0))] := hl
  unfold f_X0_findPositions at hf
  have h0 : x_by cX0_findPositions 0 [42, 42, 180, 0, 47, 2, 160, 0, 7] := by unfold x_by; decide +kernel
  obtain ⟨d0, h0⟩ := de_aload_n0 h0
  obtain ⟨d1, h0⟩ := de_aload_n0 h0
  obtain ⟨d2, h0⟩ := de_getfield 47 (by decide) h0
  obtain ⟨d5, h0⟩ := de_iconst_m1 h0
  obtain ⟨d6, h0⟩ := de_icmp_ne (7) (by decide) h0
  refine lv_aload_n hx hb d0 rfl (lv_at hl 0 rfl) ?_
  refine lv_aload_n hx hb d1 rfl (lv_at hl 0 rfl) ?_
  refine x_getI C0 hR hf xcl_0 (Nat.le_of_ble_eq_true rfl) rfl fl_X0_47 d2 (fun i1 hf => ?_)
  refine lv_iconst (v := -1) hx hb d5 (by decide) ?_
  refine lv_icmp_ne (tgt := 13) hx hb d6 (by decide) (fun q => ?_) (fun q => ?_)
  · have hf := x_neg q hf
    have h0 : x_by cX0_findPositions 13 [42, 180, 0, 47, 42, 8, 182, 0, 137, 100] := by unfold x_by; decide +kernel
    obtain ⟨d13, h0⟩ := de_aload_n0 h0
    obtain ⟨d14, h0⟩ := de_getfield 47 (by decide) h0
    obtain ⟨d17, h0⟩ := de_aload_n0 h0
    obtain ⟨d18, h0⟩ := de_iconst_5 h0
    obtain ⟨d19, h0⟩ := de_invokevirtual 137 (by decide) h0
    obtain ⟨d22, h0⟩ := de_isub h0
    refine lv_aload_n hx hb d13 rfl (lv_at hl 0 rfl) ?_
    refine x_getI C0 hR hf xcl_0 (Nat.le_of_ble_eq_true rfl) rfl fl_X0_47 d14 (fun i2 hf => ?_)
    refine lv_aload_n hx hb d17 rfl (lv_at hl 0 rfl) ?_
    refine lv_iconst (v := 5) hx hb d18 (by decide) ?_
    obtain ⟨hs9, hf⟩ := x_if hf
    refine x_thenI C0 hxt hS hf (fun z0 e0 => x_runV C0 hR hS me_X0_sumWithGutters wi_X0_sumWithGutters wl_X0_sumWithGutters ml_X0_137 hs9 xcl_0 (As := [.int 5]) (ct_X0_sumWithGutters E l C0.2.2.2.2.2.2.2.1 _ r0 5) rfl rfl hl.1 (Nat.le_of_ble_eq_true rfl) d19 ⟨(Nat.le_of_ble_eq_true rfl), (Nat.le_of_ble_eq_true rfl)⟩ ⟨(Nat.le_of_ble_eq_true rfl), (Nat.le_of_ble_eq_true rfl)⟩ e0) (Nat.le_of_ble_eq_true rfl) (Nat.le_of_ble_eq_true rfl) (fun h9 i3 H locs hR hS hf => ?_)
    refine lv_isub hx hb d22 ?_
    exact s_X0_findPositions_b23 C0 hxt _ _ _ _ _ _ _ hR hS (lv_sub hl [0] rfl) hf
  · have hf := x_pos q hf
    have h0 : x_by cX0_findPositions 9 [3, 167, 0, 13] := by unfold x_by; decide +kernel
    obtain ⟨d9, h0⟩ := de_iconst_0 h0
    obtain ⟨d10, h0⟩ := de_goto (13) (by decide) h0
    refine lv_iconst (v := 0) hx hb d9 (by decide) ?_
    refine lv_goto (tgt := 23) hx hb d10 (by decide) ?_
    exact s_X0_findPositions_b23 C0 hxt _ _ _ _ _ _ _ hR hS (lv_sub hl [0] rfl) hf
def f_X0_trackBegin_b21  (h : HP) (t0 : Int32) : Option XR :=
  some (h, xi t0)
def f_X0_trackBegin_b20  (h : HP)  : Option XR :=
  f_X0_trackBegin_b21 h 0
def f_X0_trackBegin (h : HP) (r0 : Nat) (x1 : Int32) : Option XR :=
  if x1 < 1 then
    (
      f_X0_trackBegin_b20 h
    )
  else
    (
      if 64 < x1 then
        (
          f_X0_trackBegin_b20 h
        )
      else
        (
          x_gR h r0 0 9 fun a1 =>
          x_aI h 100 a1 x1 fun i2 =>
          f_X0_trackBegin_b21 h i2
        )
    )
set_option maxRecDepth 100000 in
set_option maxHeartbeats 4000000 in
theorem s_X0_trackBegin_b21 {p : Program} {l : Launch} {e : Env} {s : State} {m : MethodId} {args : Array Value} {below : List Frame} {meth : Method} {c : Code} {E : XE} {z : XR} (C0 : x_C E p l s m meth c args cX0_trackBegin 2 "GridEngine$AxisLayout" "trackBegin" (some .int)) (hxt : ∀ x ∈ c.exceptionTable.toList, False)  : ∀ (h : HP) (t0 : Int32) (H : Heap) (locs : List Loc) (ls : Array Slot), x_Rep E h H → va_S (x_A E) s.heap H locs → lv_has ls 2 [] → f_X0_trackBegin_b21 h t0 = some z → W p l e ({ frames := 8, cells := 0, slots := 0, locals := 130 } : Room) s m args below meth c H locs 0 0 (x_Q E below args s 0 0 z) (F0 m 21 ls [.int t0]) := by
  intro h t0 H locs ls hR hS hl hf
  obtain ⟨hx, hb, -⟩ := id C0
  unfold f_X0_trackBegin_b21 at hf
  have h0 : x_by cX0_trackBegin 21 [172] := by unfold x_by; decide +kernel
  obtain ⟨d21, h0⟩ := de_ireturn h0
  exact x_iret C0 hR hS hf (Nat.le_of_ble_eq_true rfl) (Nat.le_of_ble_eq_true rfl) d21
set_option maxRecDepth 100000 in
set_option maxHeartbeats 4000000 in
theorem s_X0_trackBegin_b20 {p : Program} {l : Launch} {e : Env} {s : State} {m : MethodId} {args : Array Value} {below : List Frame} {meth : Method} {c : Code} {E : XE} {z : XR} (C0 : x_C E p l s m meth c args cX0_trackBegin 2 "GridEngine$AxisLayout" "trackBegin" (some .int)) (hxt : ∀ x ∈ c.exceptionTable.toList, False)  : ∀ (h : HP)  (H : Heap) (locs : List Loc) (ls : Array Slot), x_Rep E h H → va_S (x_A E) s.heap H locs → lv_has ls 2 [] → f_X0_trackBegin_b20 h  = some z → W p l e ({ frames := 8, cells := 0, slots := 0, locals := 130 } : Room) s m args below meth c H locs 0 0 (x_Q E below args s 0 0 z) (F0 m 20 ls []) := by
  intro h  H locs ls hR hS hl hf
  obtain ⟨hx, hb, -⟩ := id C0
  unfold f_X0_trackBegin_b20 at hf
  have h0 : x_by cX0_trackBegin 20 [3] := by unfold x_by; decide +kernel
  obtain ⟨d20, h0⟩ := de_iconst_0 h0
  refine lv_iconst (v := 0) hx hb d20 (by decide) ?_
  exact s_X0_trackBegin_b21 C0 hxt _ _ _ _ _ hR hS (lv_sub hl [] rfl) hf
set_option maxRecDepth 100000 in
set_option maxHeartbeats 4000000 in
theorem ct_X0_trackBegin (E : XE) (l : Launch) (hl0 : l.stackTraces = false) (h : HP) (r0 : Nat) (x1 : Int32) : x_ct E l yX0_trackBegin (Cond.code yX0_trackBegin cX0_trackBegin 2 (some .int)) 8 130 0 0 [.ref (xa E r0), .int x1] h (f_X0_trackBegin h r0 x1) := by
  refine x_ofW hl0 (by decide +kernel) ?_
  intro z hf p e s m args below meth c C0 hxt hargs hR
  subst hargs
  have C0 : x_C E p l s m meth c ([.ref (xa E r0), .int x1] : List Value).toArray cX0_trackBegin 2 "GridEngine$AxisLayout" "trackBegin" (some .int) := C0
  obtain ⟨hx, hb, -⟩ := id C0
  have hS : va_S (x_A E) s.heap s.heap [] := va_S.rf
  have hl := lv_entry ([.ref (xa E r0), .int x1]) (n := 2) (Nat.le_of_ble_eq_true rfl)
  rw [lg_entry_eq]
  generalize (lg_sl ([.ref (xa E r0), .int x1]) ++ List.replicate (2 - (lg_sl ([.ref (xa E r0), .int x1])).length) Slot.unset).toArray = ls at hl ⊢
  have hl : lv_has ls 2 [(0, .ref (xa E r0)), (1, .int x1)] := hl
  unfold f_X0_trackBegin at hf
  have h0 : x_by cX0_trackBegin 0 [27, 4, 161, 0, 18] := by unfold x_by; decide +kernel
  obtain ⟨d0, h0⟩ := de_iload_n1 h0
  obtain ⟨d1, h0⟩ := de_iconst_1 h0
  obtain ⟨d2, h0⟩ := de_icmp_lt (18) (by decide) h0
  refine lv_iload_n hx hb d0 rfl (lv_at hl 1 rfl) ?_
  refine lv_iconst (v := 1) hx hb d1 (by decide) ?_
  refine lv_icmp_lt (tgt := 20) hx hb d2 (by decide) (fun q => ?_) (fun q => ?_)
  · have hf := x_pos q hf
    exact s_X0_trackBegin_b20 C0 hxt _ _ _ _ hR hS (lv_sub hl [] rfl) hf
  · have hf := x_neg q hf
    have h0 : x_by cX0_trackBegin 5 [27, 16, 64, 163, 0, 12] := by unfold x_by; decide +kernel
    obtain ⟨d5, h0⟩ := de_iload_n1 h0
    obtain ⟨d6, h0⟩ := de_bipush (64) (by decide) h0
    obtain ⟨d8, h0⟩ := de_icmp_gt (12) (by decide) h0
    refine lv_iload_n hx hb d5 rfl (lv_at hl 1 rfl) ?_
    refine lv_bipush (v := 64) hx hb d6 (by decide) ?_
    refine lv_icmp_gt (tgt := 20) hx hb d8 (by decide) (fun q => ?_) (fun q => ?_)
    · have hf := x_pos q hf
      exact s_X0_trackBegin_b20 C0 hxt _ _ _ _ hR hS (lv_sub hl [] rfl) hf
    · have hf := x_neg q hf
      have h0 : x_by cX0_trackBegin 11 [42, 180, 0, 31, 27, 46, 167, 0, 4] := by unfold x_by; decide +kernel
      obtain ⟨d11, h0⟩ := de_aload_n0 h0
      obtain ⟨d12, h0⟩ := de_getfield 31 (by decide) h0
      obtain ⟨d15, h0⟩ := de_iload_n1 h0
      obtain ⟨d16, h0⟩ := de_iaload h0
      obtain ⟨d17, h0⟩ := de_goto (4) (by decide) h0
      refine lv_aload_n hx hb d11 rfl (lv_at hl 0 rfl) ?_
      refine x_getR C0 hR hf xcl_0 (Nat.le_of_ble_eq_true rfl) rfl fl_X0_31 d12 (fun a1 hf => ?_)
      refine lv_iload_n hx hb d15 rfl (lv_at hl 1 rfl) ?_
      refine x_iald C0 hR hf d16 (fun i2 hf => ?_)
      refine lv_goto (tgt := 21) hx hb d17 (by decide) ?_
      exact s_X0_trackBegin_b21 C0 hxt _ _ _ _ _ hR hS (lv_sub hl [] rfl) hf
def f_X0_areaBegin (h : HP) (r0 : Nat) (x1 : Int32) : Option XR :=
  x_rc h r0 0 <| x_cI (f_X0_firstTrack h r0 x1) fun h2 i1 =>
  x_rc h2 r0 0 <| x_cI (f_X0_trackBegin h2 r0 i1) fun h4 i3 =>
  some (h4, xi i3)
set_option maxRecDepth 100000 in
set_option maxHeartbeats 4000000 in
theorem ct_X0_areaBegin (E : XE) (l : Launch) (hl0 : l.stackTraces = false) (h : HP) (r0 : Nat) (x1 : Int32) : x_ct E l yX0_areaBegin (Cond.code yX0_areaBegin cX0_areaBegin 2 (some .int)) 10 174 0 0 [.ref (xa E r0), .int x1] h (f_X0_areaBegin h r0 x1) := by
  refine x_ofW hl0 (by decide +kernel) ?_
  intro z hf p e s m args below meth c C0 hxt hargs hR
  subst hargs
  have C0 : x_C E p l s m meth c ([.ref (xa E r0), .int x1] : List Value).toArray cX0_areaBegin 2 "GridEngine$AxisLayout" "areaBegin" (some .int) := C0
  obtain ⟨hx, hb, -⟩ := id C0
  have hS : va_S (x_A E) s.heap s.heap [] := va_S.rf
  have hl := lv_entry ([.ref (xa E r0), .int x1]) (n := 2) (Nat.le_of_ble_eq_true rfl)
  rw [lg_entry_eq]
  generalize (lg_sl ([.ref (xa E r0), .int x1]) ++ List.replicate (2 - (lg_sl ([.ref (xa E r0), .int x1])).length) Slot.unset).toArray = ls at hl ⊢
  have hl : lv_has ls 2 [(0, .ref (xa E r0)), (1, .int x1)] := hl
  unfold f_X0_areaBegin at hf
  have h0 : x_by cX0_areaBegin 0 [42, 42, 27, 182, 0, 98, 182, 0, 160, 172] := by unfold x_by; decide +kernel
  obtain ⟨d0, h0⟩ := de_aload_n0 h0
  obtain ⟨d1, h0⟩ := de_aload_n0 h0
  obtain ⟨d2, h0⟩ := de_iload_n1 h0
  obtain ⟨d3, h0⟩ := de_invokevirtual 98 (by decide) h0
  obtain ⟨d6, h0⟩ := de_invokevirtual 160 (by decide) h0
  obtain ⟨d9, h0⟩ := de_ireturn h0
  refine lv_aload_n hx hb d0 rfl (lv_at hl 0 rfl) ?_
  refine lv_aload_n hx hb d1 rfl (lv_at hl 0 rfl) ?_
  refine lv_iload_n hx hb d2 rfl (lv_at hl 1 rfl) ?_
  obtain ⟨hs9, hf⟩ := x_if hf
  refine x_thenI C0 hxt hS hf (fun z0 e0 => x_runV C0 hR hS me_X0_firstTrack wi_X0_firstTrack wl_X0_firstTrack ml_X0_98 hs9 xcl_0 (As := [.int x1]) (ct_X0_firstTrack E l C0.2.2.2.2.2.2.2.1 _ r0 x1) rfl rfl hl.1 (Nat.le_of_ble_eq_true rfl) d3 ⟨(Nat.le_of_ble_eq_true rfl), (Nat.le_of_ble_eq_true rfl)⟩ ⟨(Nat.le_of_ble_eq_true rfl), (Nat.le_of_ble_eq_true rfl)⟩ e0) (Nat.le_of_ble_eq_true rfl) (Nat.le_of_ble_eq_true rfl) (fun h9 i1 H locs hR hS hf => ?_)
  obtain ⟨hs9, hf⟩ := x_if hf
  refine x_thenI C0 hxt hS hf (fun z0 e0 => x_runV C0 hR hS me_X0_trackBegin wi_X0_trackBegin wl_X0_trackBegin ml_X0_160 hs9 xcl_0 (As := [.int i1]) (ct_X0_trackBegin E l C0.2.2.2.2.2.2.2.1 _ r0 i1) rfl rfl hl.1 (Nat.le_of_ble_eq_true rfl) d6 ⟨(Nat.le_of_ble_eq_true rfl), (Nat.le_of_ble_eq_true rfl)⟩ ⟨(Nat.le_of_ble_eq_true rfl), (Nat.le_of_ble_eq_true rfl)⟩ e0) (Nat.le_of_ble_eq_true rfl) (Nat.le_of_ble_eq_true rfl) (fun h9 i3 H locs hR hS hf => ?_)
  exact x_iret C0 hR hS hf (Nat.le_of_ble_eq_true rfl) (Nat.le_of_ble_eq_true rfl) d9
def f_X0_areaSize (h : HP) (r0 : Nat) (x1 : Int32) : Option XR :=
  x_rc h r0 0 <| x_cI (f_X0_lastTrack h r0 x1) fun h2 i1 =>
  x_rc h2 r0 0 <| x_cI (f_X0_trackBegin h2 r0 i1) fun h4 i3 =>
  x_rc h4 r0 0 <| x_cI (f_X0_trackSize h4 r0 i1 5) fun h6 i5 =>
  x_rc h6 r0 0 <| x_cI (f_X0_areaBegin h6 r0 x1) fun h8 i7 =>
  some (h8, xi ((i3 + i5) - i7))
set_option maxRecDepth 100000 in
set_option maxHeartbeats 4000000 in
theorem ct_X0_areaSize (E : XE) (l : Launch) (hl0 : l.stackTraces = false) (h : HP) (r0 : Nat) (x1 : Int32) : x_ct E l yX0_areaSize (Cond.code yX0_areaSize cX0_areaSize 3 (some .int)) 11 197 0 0 [.ref (xa E r0), .int x1] h (f_X0_areaSize h r0 x1) := by
  refine x_ofW hl0 (by decide +kernel) ?_
  intro z hf p e s m args below meth c C0 hxt hargs hR
  subst hargs
  have C0 : x_C E p l s m meth c ([.ref (xa E r0), .int x1] : List Value).toArray cX0_areaSize 3 "GridEngine$AxisLayout" "areaSize" (some .int) := C0
  obtain ⟨hx, hb, -⟩ := id C0
  have hS : va_S (x_A E) s.heap s.heap [] := va_S.rf
  have hl := lv_entry ([.ref (xa E r0), .int x1]) (n := 3) (Nat.le_of_ble_eq_true rfl)
  rw [lg_entry_eq]
  generalize (lg_sl ([.ref (xa E r0), .int x1]) ++ List.replicate (3 - (lg_sl ([.ref (xa E r0), .int x1])).length) Slot.unset).toArray = ls at hl ⊢
  have hl : lv_has ls 3 [(0, .ref (xa E r0)), (1, .int x1)] := hl
  unfold f_X0_areaSize at hf
  have h0 : x_by cX0_areaSize 0 [42, 27, 182, 0, 101, 61, 42, 28, 182, 0, 160, 42, 28, 8, 182, 0, 157, 96, 42, 27, 182, 0, 163, 100, 172] := by unfold x_by; decide +kernel
  obtain ⟨d0, h0⟩ := de_aload_n0 h0
  obtain ⟨d1, h0⟩ := de_iload_n1 h0
  obtain ⟨d2, h0⟩ := de_invokevirtual 101 (by decide) h0
  obtain ⟨d5, h0⟩ := de_istore_n2 h0
  obtain ⟨d6, h0⟩ := de_aload_n0 h0
  obtain ⟨d7, h0⟩ := de_iload_n2 h0
  obtain ⟨d8, h0⟩ := de_invokevirtual 160 (by decide) h0
  obtain ⟨d11, h0⟩ := de_aload_n0 h0
  obtain ⟨d12, h0⟩ := de_iload_n2 h0
  obtain ⟨d13, h0⟩ := de_iconst_5 h0
  obtain ⟨d14, h0⟩ := de_invokevirtual 157 (by decide) h0
  obtain ⟨d17, h0⟩ := de_iadd h0
  obtain ⟨d18, h0⟩ := de_aload_n0 h0
  obtain ⟨d19, h0⟩ := de_iload_n1 h0
  obtain ⟨d20, h0⟩ := de_invokevirtual 163 (by decide) h0
  obtain ⟨d23, h0⟩ := de_isub h0
  obtain ⟨d24, h0⟩ := de_ireturn h0
  refine lv_aload_n hx hb d0 rfl (lv_at hl 0 rfl) ?_
  refine lv_iload_n hx hb d1 rfl (lv_at hl 1 rfl) ?_
  obtain ⟨hs9, hf⟩ := x_if hf
  refine x_thenI C0 hxt hS hf (fun z0 e0 => x_runV C0 hR hS me_X0_lastTrack wi_X0_lastTrack wl_X0_lastTrack ml_X0_101 hs9 xcl_0 (As := [.int x1]) (ct_X0_lastTrack E l C0.2.2.2.2.2.2.2.1 _ r0 x1) rfl rfl hl.1 (Nat.le_of_ble_eq_true rfl) d2 ⟨(Nat.le_of_ble_eq_true rfl), (Nat.le_of_ble_eq_true rfl)⟩ ⟨(Nat.le_of_ble_eq_true rfl), (Nat.le_of_ble_eq_true rfl)⟩ e0) (Nat.le_of_ble_eq_true rfl) (Nat.le_of_ble_eq_true rfl) (fun h9 i1 H locs hR hS hf => ?_)
  refine lv_istore_n (lv' := [(2, .int i1), (0, .ref (xa E r0)), (1, .int x1)]) hx hb d5 rfl hl (by decide) rfl (fun ls hl => ?_)
  refine lv_aload_n hx hb d6 rfl (lv_at hl 1 rfl) ?_
  refine lv_iload_n hx hb d7 rfl (lv_at hl 0 rfl) ?_
  obtain ⟨hs9, hf⟩ := x_if hf
  refine x_thenI C0 hxt hS hf (fun z0 e0 => x_runV C0 hR hS me_X0_trackBegin wi_X0_trackBegin wl_X0_trackBegin ml_X0_160 hs9 xcl_0 (As := [.int i1]) (ct_X0_trackBegin E l C0.2.2.2.2.2.2.2.1 _ r0 i1) rfl rfl hl.1 (Nat.le_of_ble_eq_true rfl) d8 ⟨(Nat.le_of_ble_eq_true rfl), (Nat.le_of_ble_eq_true rfl)⟩ ⟨(Nat.le_of_ble_eq_true rfl), (Nat.le_of_ble_eq_true rfl)⟩ e0) (Nat.le_of_ble_eq_true rfl) (Nat.le_of_ble_eq_true rfl) (fun h9 i3 H locs hR hS hf => ?_)
  refine lv_aload_n hx hb d11 rfl (lv_at hl 1 rfl) ?_
  refine lv_iload_n hx hb d12 rfl (lv_at hl 0 rfl) ?_
  refine lv_iconst (v := 5) hx hb d13 (by decide) ?_
  obtain ⟨hs9, hf⟩ := x_if hf
  refine x_thenI C0 hxt hS hf (fun z0 e0 => x_runV C0 hR hS me_X0_trackSize wi_X0_trackSize wl_X0_trackSize ml_X0_157 hs9 xcl_0 (As := [.int i1, .int 5]) (ct_X0_trackSize E l C0.2.2.2.2.2.2.2.1 _ r0 i1 5) rfl rfl hl.1 (Nat.le_of_ble_eq_true rfl) d14 ⟨(Nat.le_of_ble_eq_true rfl), (Nat.le_of_ble_eq_true rfl)⟩ ⟨(Nat.le_of_ble_eq_true rfl), (Nat.le_of_ble_eq_true rfl)⟩ e0) (Nat.le_of_ble_eq_true rfl) (Nat.le_of_ble_eq_true rfl) (fun h9 i5 H locs hR hS hf => ?_)
  refine lv_iadd hx hb d17 ?_
  refine lv_aload_n hx hb d18 rfl (lv_at hl 1 rfl) ?_
  refine lv_iload_n hx hb d19 rfl (lv_at hl 2 rfl) ?_
  obtain ⟨hs9, hf⟩ := x_if hf
  refine x_thenI C0 hxt hS hf (fun z0 e0 => x_runV C0 hR hS me_X0_areaBegin wi_X0_areaBegin wl_X0_areaBegin ml_X0_163 hs9 xcl_0 (As := [.int x1]) (ct_X0_areaBegin E l C0.2.2.2.2.2.2.2.1 _ r0 x1) rfl rfl hl.1 (Nat.le_of_ble_eq_true rfl) d20 ⟨(Nat.le_of_ble_eq_true rfl), (Nat.le_of_ble_eq_true rfl)⟩ ⟨(Nat.le_of_ble_eq_true rfl), (Nat.le_of_ble_eq_true rfl)⟩ e0) (Nat.le_of_ble_eq_true rfl) (Nat.le_of_ble_eq_true rfl) (fun h9 i7 H locs hR hS hf => ?_)
  refine lv_isub hx hb d23 ?_
  exact x_iret C0 hR hS hf (Nat.le_of_ble_eq_true rfl) (Nat.le_of_ble_eq_true rfl) d24
def f_X0_boxSize (h : HP) (r0 : Nat) (x1 : Int32) : Option XR :=
  x_rc h r0 0 <| x_cI (f_X0_areaSize h r0 x1) fun h2 i1 =>
  x_rc h2 r0 0 <| x_cI (f_X0_itemField h2 r0 x1 4) fun h4 i3 =>
  if i3 = 0 then
    (
      some (h4, xi i1)
    )
  else
    (
      x_rc h4 r0 0 <| x_cI (f_X0_itemField h4 r0 x1 1) fun h6 i5 =>
      x_lI (if i5 < i1 then i5 else i1) fun i7 =>
      x_rc h6 r0 0 <| x_cI (f_X0_itemField h6 r0 x1 0) fun h9 i8 =>
      some (h9, xi (if i7 < i8 then i8 else i7))
    )
set_option maxRecDepth 100000 in
set_option maxHeartbeats 4000000 in
theorem ct_X0_boxSize (E : XE) (l : Launch) (hl0 : l.stackTraces = false) (h : HP) (r0 : Nat) (x1 : Int32) : x_ct E l yX0_boxSize (Cond.code yX0_boxSize cX0_boxSize 4 (some .int)) 12 219 0 0 [.ref (xa E r0), .int x1] h (f_X0_boxSize h r0 x1) := by
  refine x_ofW hl0 (by decide +kernel) ?_
  intro z hf p e s m args below meth c C0 hxt hargs hR
  subst hargs
  have C0 : x_C E p l s m meth c ([.ref (xa E r0), .int x1] : List Value).toArray cX0_boxSize 4 "GridEngine$AxisLayout" "boxSize" (some .int) := C0
  obtain ⟨hx, hb, -⟩ := id C0
  have hS : va_S (x_A E) s.heap s.heap [] := va_S.rf
  have hl := lv_entry ([.ref (xa E r0), .int x1]) (n := 4) (Nat.le_of_ble_eq_true rfl)
  rw [lg_entry_eq]
  generalize (lg_sl ([.ref (xa E r0), .int x1]) ++ List.replicate (4 - (lg_sl ([.ref (xa E r0), .int x1])).length) Slot.unset).toArray = ls at hl ⊢
  have hl : lv_has ls 4 [(0, .ref (xa E r0)), (1, .int x1)] := hl
  unfold f_X0_boxSize at hf
  have h0 : x_by cX0_boxSize 0 [42, 27, 182, 0, 166, 61, 42, 27, 7, 182, 0, 93, 154, 0, 5] := by unfold x_by; decide +kernel
  obtain ⟨d0, h0⟩ := de_aload_n0 h0
  obtain ⟨d1, h0⟩ := de_iload_n1 h0
  obtain ⟨d2, h0⟩ := de_invokevirtual 166 (by decide) h0
  obtain ⟨d5, h0⟩ := de_istore_n2 h0
  obtain ⟨d6, h0⟩ := de_aload_n0 h0
  obtain ⟨d7, h0⟩ := de_iload_n1 h0
  obtain ⟨d8, h0⟩ := de_iconst_4 h0
  obtain ⟨d9, h0⟩ := de_invokevirtual 93 (by decide) h0
  obtain ⟨d12, h0⟩ := de_if_ne (5) (by decide) h0
  refine lv_aload_n hx hb d0 rfl (lv_at hl 0 rfl) ?_
  refine lv_iload_n hx hb d1 rfl (lv_at hl 1 rfl) ?_
  obtain ⟨hs9, hf⟩ := x_if hf
  refine x_thenI C0 hxt hS hf (fun z0 e0 => x_runV C0 hR hS me_X0_areaSize wi_X0_areaSize wl_X0_areaSize ml_X0_166 hs9 xcl_0 (As := [.int x1]) (ct_X0_areaSize E l C0.2.2.2.2.2.2.2.1 _ r0 x1) rfl rfl hl.1 (Nat.le_of_ble_eq_true rfl) d2 ⟨(Nat.le_of_ble_eq_true rfl), (Nat.le_of_ble_eq_true rfl)⟩ ⟨(Nat.le_of_ble_eq_true rfl), (Nat.le_of_ble_eq_true rfl)⟩ e0) (Nat.le_of_ble_eq_true rfl) (Nat.le_of_ble_eq_true rfl) (fun h9 i1 H locs hR hS hf => ?_)
  refine lv_istore_n (lv' := [(2, .int i1), (0, .ref (xa E r0)), (1, .int x1)]) hx hb d5 rfl hl (by decide) rfl (fun ls hl => ?_)
  refine lv_aload_n hx hb d6 rfl (lv_at hl 1 rfl) ?_
  refine lv_iload_n hx hb d7 rfl (lv_at hl 2 rfl) ?_
  refine lv_iconst (v := 4) hx hb d8 (by decide) ?_
  obtain ⟨hs9, hf⟩ := x_if hf
  refine x_thenI C0 hxt hS hf (fun z0 e0 => x_runV C0 hR hS me_X0_itemField wi_X0_itemField wl_X0_itemField ml_X0_93 hs9 xcl_0 (As := [.int x1, .int 4]) (ct_X0_itemField E l C0.2.2.2.2.2.2.2.1 _ r0 x1 4) rfl rfl hl.1 (Nat.le_of_ble_eq_true rfl) d9 ⟨(Nat.le_of_ble_eq_true rfl), (Nat.le_of_ble_eq_true rfl)⟩ ⟨(Nat.le_of_ble_eq_true rfl), (Nat.le_of_ble_eq_true rfl)⟩ e0) (Nat.le_of_ble_eq_true rfl) (Nat.le_of_ble_eq_true rfl) (fun h9 i3 H locs hR hS hf => ?_)
  refine lv_if_ne (tgt := 17) hx hb d12 (by decide) (fun q => ?_) (fun q => ?_)
  · have hf := x_neg q hf
    have h0 : x_by cX0_boxSize 17 [28, 42, 27, 4, 182, 0, 93, 184, 0, 90, 62, 29, 42, 27, 3, 182, 0, 93, 184, 0, 82, 172] := by unfold x_by; decide +kernel
    obtain ⟨d17, h0⟩ := de_iload_n2 h0
    obtain ⟨d18, h0⟩ := de_aload_n0 h0
    obtain ⟨d19, h0⟩ := de_iload_n1 h0
    obtain ⟨d20, h0⟩ := de_iconst_1 h0
    obtain ⟨d21, h0⟩ := de_invokevirtual 93 (by decide) h0
    obtain ⟨d24, h0⟩ := de_invokestatic 90 (by decide) h0
    obtain ⟨d27, h0⟩ := de_istore_n3 h0
    obtain ⟨d28, h0⟩ := de_iload_n3 h0
    obtain ⟨d29, h0⟩ := de_aload_n0 h0
    obtain ⟨d30, h0⟩ := de_iload_n1 h0
    obtain ⟨d31, h0⟩ := de_iconst_0 h0
    obtain ⟨d32, h0⟩ := de_invokevirtual 93 (by decide) h0
    obtain ⟨d35, h0⟩ := de_invokestatic 82 (by decide) h0
    obtain ⟨d38, h0⟩ := de_ireturn h0
    refine lv_iload_n hx hb d17 rfl (lv_at hl 0 rfl) ?_
    refine lv_aload_n hx hb d18 rfl (lv_at hl 1 rfl) ?_
    refine lv_iload_n hx hb d19 rfl (lv_at hl 2 rfl) ?_
    refine lv_iconst (v := 1) hx hb d20 (by decide) ?_
    obtain ⟨hs9, hf⟩ := x_if hf
    refine x_thenI C0 hxt hS hf (fun z0 e0 => x_runV C0 hR hS me_X0_itemField wi_X0_itemField wl_X0_itemField ml_X0_93 hs9 xcl_0 (As := [.int x1, .int 1]) (ct_X0_itemField E l C0.2.2.2.2.2.2.2.1 _ r0 x1 1) rfl rfl hl.1 (Nat.le_of_ble_eq_true rfl) d21 ⟨(Nat.le_of_ble_eq_true rfl), (Nat.le_of_ble_eq_true rfl)⟩ ⟨(Nat.le_of_ble_eq_true rfl), (Nat.le_of_ble_eq_true rfl)⟩ e0) (Nat.le_of_ble_eq_true rfl) (Nat.le_of_ble_eq_true rfl) (fun h9 i5 H locs hR hS hf => ?_)
    refine x_mmin C0 hl.1 ml_X0_90 lib_min (Nat.le_of_ble_eq_true rfl) (Nat.le_of_ble_eq_true rfl) (Nat.le_of_ble_eq_true rfl) (Nat.le_of_ble_eq_true rfl) d24 ?_
    refine lv_topi (fun i7 ei7 => ?_)
    have hf := x_lI_el ei7 hf
    refine lv_istore_n (lv' := [(3, .int i7), (2, .int i1), (0, .ref (xa E r0)), (1, .int x1)]) hx hb d27 rfl hl (by decide) rfl (fun ls hl => ?_)
    refine lv_iload_n hx hb d28 rfl (lv_at hl 0 rfl) ?_
    refine lv_aload_n hx hb d29 rfl (lv_at hl 2 rfl) ?_
    refine lv_iload_n hx hb d30 rfl (lv_at hl 3 rfl) ?_
    refine lv_iconst (v := 0) hx hb d31 (by decide) ?_
    obtain ⟨hs9, hf⟩ := x_if hf
    refine x_thenI C0 hxt hS hf (fun z0 e0 => x_runV C0 hR hS me_X0_itemField wi_X0_itemField wl_X0_itemField ml_X0_93 hs9 xcl_0 (As := [.int x1, .int 0]) (ct_X0_itemField E l C0.2.2.2.2.2.2.2.1 _ r0 x1 0) rfl rfl hl.1 (Nat.le_of_ble_eq_true rfl) d32 ⟨(Nat.le_of_ble_eq_true rfl), (Nat.le_of_ble_eq_true rfl)⟩ ⟨(Nat.le_of_ble_eq_true rfl), (Nat.le_of_ble_eq_true rfl)⟩ e0) (Nat.le_of_ble_eq_true rfl) (Nat.le_of_ble_eq_true rfl) (fun h9 i8 H locs hR hS hf => ?_)
    refine x_mmax C0 hl.1 ml_X0_82 lib_max (Nat.le_of_ble_eq_true rfl) (Nat.le_of_ble_eq_true rfl) (Nat.le_of_ble_eq_true rfl) (Nat.le_of_ble_eq_true rfl) d35 ?_
    exact x_iret C0 hR hS hf (Nat.le_of_ble_eq_true rfl) (Nat.le_of_ble_eq_true rfl) d38
  · have hf := x_pos q hf
    have h0 : x_by cX0_boxSize 15 [28, 172] := by unfold x_by; decide +kernel
    obtain ⟨d15, h0⟩ := de_iload_n2 h0
    obtain ⟨d16, h0⟩ := de_ireturn h0
    refine lv_iload_n hx hb d15 rfl (lv_at hl 0 rfl) ?_
    exact x_iret C0 hR hS hf (Nat.le_of_ble_eq_true rfl) (Nat.le_of_ble_eq_true rfl) d16
def f_X0_boxBegin (h : HP) (r0 : Nat) (x1 : Int32) : Option XR :=
  x_rc h r0 0 <| x_cI (f_X0_areaSize h r0 x1) fun h2 i1 =>
  x_rc h2 r0 0 <| x_cI (f_X0_boxSize h2 r0 x1) fun h4 i3 =>
  x_lI (i1 - i3) fun i5 =>
  x_rc h4 r0 0 <| x_cI (f_X0_itemField h4 r0 x1 4) fun h7 i6 =>
  if i6 = 2 then
    (
      x_rc h7 r0 0 <| x_cI (f_X0_areaBegin h7 r0 x1) fun h9 i8 =>
      some (h9, xi (i8 + i5))
    )
  else
    (
    if i6 = 3 then
      (
        x_rc h7 r0 0 <| x_cI (f_X0_areaBegin h7 r0 x1) fun h11 i10 =>
        x_cI (f_J9_floorDiv_7cf53 h11 i5 2) fun h13 i12 =>
        some (h13, xi (i10 + i12))
      )
    else
      (
      x_rc h7 r0 0 <| x_cI (f_X0_areaBegin h7 r0 x1) fun h15 i14 =>
      some (h15, xi i14)
      )
    )
set_option maxRecDepth 100000 in
set_option maxHeartbeats 4000000 in
theorem ct_X0_boxBegin (E : XE) (l : Launch) (hl0 : l.stackTraces = false) (h : HP) (r0 : Nat) (x1 : Int32) : x_ct E l yX0_boxBegin (Cond.code yX0_boxBegin cX0_boxBegin 3 (some .int)) 13 242 0 0 [.ref (xa E r0), .int x1] h (f_X0_boxBegin h r0 x1) := by
  refine x_ofW hl0 (by decide +kernel) ?_
  intro z hf p e s m args below meth c C0 hxt hargs hR
  subst hargs
  have C0 : x_C E p l s m meth c ([.ref (xa E r0), .int x1] : List Value).toArray cX0_boxBegin 3 "GridEngine$AxisLayout" "boxBegin" (some .int) := C0
  obtain ⟨hx, hb, -⟩ := id C0
  have hS : va_S (x_A E) s.heap s.heap [] := va_S.rf
  have hl := lv_entry ([.ref (xa E r0), .int x1]) (n := 3) (Nat.le_of_ble_eq_true rfl)
  rw [lg_entry_eq]
  generalize (lg_sl ([.ref (xa E r0), .int x1]) ++ List.replicate (3 - (lg_sl ([.ref (xa E r0), .int x1])).length) Slot.unset).toArray = ls at hl ⊢
  have hl : lv_has ls 3 [(0, .ref (xa E r0)), (1, .int x1)] := hl
  unfold f_X0_boxBegin at hf
  have h0 : x_by cX0_boxBegin 0 [42, 27, 182, 0, 166, 42, 27, 182, 0, 169, 100, 61, 42, 27, 7, 182, 0, 93] := by unfold x_by; decide +kernel
  obtain ⟨d0, h0⟩ := de_aload_n0 h0
  obtain ⟨d1, h0⟩ := de_iload_n1 h0
  obtain ⟨d2, h0⟩ := de_invokevirtual 166 (by decide) h0
  obtain ⟨d5, h0⟩ := de_aload_n0 h0
  obtain ⟨d6, h0⟩ := de_iload_n1 h0
  obtain ⟨d7, h0⟩ := de_invokevirtual 169 (by decide) h0
  obtain ⟨d10, h0⟩ := de_isub h0
  obtain ⟨d11, h0⟩ := de_istore_n2 h0
  obtain ⟨d12, h0⟩ := de_aload_n0 h0
  obtain ⟨d13, h0⟩ := de_iload_n1 h0
  obtain ⟨d14, h0⟩ := de_iconst_4 h0
  obtain ⟨d15, h0⟩ := de_invokevirtual 93 (by decide) h0
  have d18 : decode cX0_boxBegin 18 = .ok (.lookupswitch 46 #[(2, 26), (3, 34)], 26) := by decide +kernel
  refine lv_aload_n hx hb d0 rfl (lv_at hl 0 rfl) ?_
  refine lv_iload_n hx hb d1 rfl (lv_at hl 1 rfl) ?_
  obtain ⟨hs9, hf⟩ := x_if hf
  refine x_thenI C0 hxt hS hf (fun z0 e0 => x_runV C0 hR hS me_X0_areaSize wi_X0_areaSize wl_X0_areaSize ml_X0_166 hs9 xcl_0 (As := [.int x1]) (ct_X0_areaSize E l C0.2.2.2.2.2.2.2.1 _ r0 x1) rfl rfl hl.1 (Nat.le_of_ble_eq_true rfl) d2 ⟨(Nat.le_of_ble_eq_true rfl), (Nat.le_of_ble_eq_true rfl)⟩ ⟨(Nat.le_of_ble_eq_true rfl), (Nat.le_of_ble_eq_true rfl)⟩ e0) (Nat.le_of_ble_eq_true rfl) (Nat.le_of_ble_eq_true rfl) (fun h9 i1 H locs hR hS hf => ?_)
  refine lv_aload_n hx hb d5 rfl (lv_at hl 0 rfl) ?_
  refine lv_iload_n hx hb d6 rfl (lv_at hl 1 rfl) ?_
  obtain ⟨hs9, hf⟩ := x_if hf
  refine x_thenI C0 hxt hS hf (fun z0 e0 => x_runV C0 hR hS me_X0_boxSize wi_X0_boxSize wl_X0_boxSize ml_X0_169 hs9 xcl_0 (As := [.int x1]) (ct_X0_boxSize E l C0.2.2.2.2.2.2.2.1 _ r0 x1) rfl rfl hl.1 (Nat.le_of_ble_eq_true rfl) d7 ⟨(Nat.le_of_ble_eq_true rfl), (Nat.le_of_ble_eq_true rfl)⟩ ⟨(Nat.le_of_ble_eq_true rfl), (Nat.le_of_ble_eq_true rfl)⟩ e0) (Nat.le_of_ble_eq_true rfl) (Nat.le_of_ble_eq_true rfl) (fun h9 i3 H locs hR hS hf => ?_)
  refine lv_isub hx hb d10 ?_
  refine lv_topi (fun i5 ei5 => ?_)
  have hf := x_lI_el ei5 hf
  refine lv_istore_n (lv' := [(2, .int i5), (0, .ref (xa E r0)), (1, .int x1)]) hx hb d11 rfl hl (by decide) rfl (fun ls hl => ?_)
  refine lv_aload_n hx hb d12 rfl (lv_at hl 1 rfl) ?_
  refine lv_iload_n hx hb d13 rfl (lv_at hl 2 rfl) ?_
  refine lv_iconst (v := 4) hx hb d14 (by decide) ?_
  obtain ⟨hs9, hf⟩ := x_if hf
  refine x_thenI C0 hxt hS hf (fun z0 e0 => x_runV C0 hR hS me_X0_itemField wi_X0_itemField wl_X0_itemField ml_X0_93 hs9 xcl_0 (As := [.int x1, .int 4]) (ct_X0_itemField E l C0.2.2.2.2.2.2.2.1 _ r0 x1 4) rfl rfl hl.1 (Nat.le_of_ble_eq_true rfl) d15 ⟨(Nat.le_of_ble_eq_true rfl), (Nat.le_of_ble_eq_true rfl)⟩ ⟨(Nat.le_of_ble_eq_true rfl), (Nat.le_of_ble_eq_true rfl)⟩ e0) (Nat.le_of_ble_eq_true rfl) (Nat.le_of_ble_eq_true rfl) (fun h9 i6 H locs hR hS hf => ?_)
  by_cases q0 : i6 = 2
  · have hf := x_pos q0 hf
    refine lv_lookup (tgt := 44) hx hb d18 (by decide) (by rw [q0]; first | done | rfl) (by decide) ?_
    have h0 : x_by cX0_boxBegin 44 [42, 27, 182, 0, 163, 28, 96, 172] := by unfold x_by; decide +kernel
    obtain ⟨d44, h0⟩ := de_aload_n0 h0
    obtain ⟨d45, h0⟩ := de_iload_n1 h0
    obtain ⟨d46, h0⟩ := de_invokevirtual 163 (by decide) h0
    obtain ⟨d49, h0⟩ := de_iload_n2 h0
    obtain ⟨d50, h0⟩ := de_iadd h0
    obtain ⟨d51, h0⟩ := de_ireturn h0
    refine lv_aload_n hx hb d44 rfl (lv_at hl 1 rfl) ?_
    refine lv_iload_n hx hb d45 rfl (lv_at hl 2 rfl) ?_
    obtain ⟨hs9, hf⟩ := x_if hf
    refine x_thenI C0 hxt hS hf (fun z0 e0 => x_runV C0 hR hS me_X0_areaBegin wi_X0_areaBegin wl_X0_areaBegin ml_X0_163 hs9 xcl_0 (As := [.int x1]) (ct_X0_areaBegin E l C0.2.2.2.2.2.2.2.1 _ r0 x1) rfl rfl hl.1 (Nat.le_of_ble_eq_true rfl) d46 ⟨(Nat.le_of_ble_eq_true rfl), (Nat.le_of_ble_eq_true rfl)⟩ ⟨(Nat.le_of_ble_eq_true rfl), (Nat.le_of_ble_eq_true rfl)⟩ e0) (Nat.le_of_ble_eq_true rfl) (Nat.le_of_ble_eq_true rfl) (fun h9 i8 H locs hR hS hf => ?_)
    refine lv_iload_n hx hb d49 rfl (lv_at hl 0 rfl) ?_
    refine lv_iadd hx hb d50 ?_
    exact x_iret C0 hR hS hf (Nat.le_of_ble_eq_true rfl) (Nat.le_of_ble_eq_true rfl) d51
  · have hf := x_neg q0 hf
    by_cases q1 : i6 = 3
    · have hf := x_pos q1 hf
      refine lv_lookup (tgt := 52) hx hb d18 (by decide) (by rw [q1]; first | done | rfl) (by decide) ?_
      have h0 : x_by cX0_boxBegin 52 [42, 27, 182, 0, 163, 28, 5, 184, 0, 150, 96, 172] := by unfold x_by; decide +kernel
      obtain ⟨d52, h0⟩ := de_aload_n0 h0
      obtain ⟨d53, h0⟩ := de_iload_n1 h0
      obtain ⟨d54, h0⟩ := de_invokevirtual 163 (by decide) h0
      obtain ⟨d57, h0⟩ := de_iload_n2 h0
      obtain ⟨d58, h0⟩ := de_iconst_2 h0
      obtain ⟨d59, h0⟩ := de_invokestatic 150 (by decide) h0
      obtain ⟨d62, h0⟩ := de_iadd h0
      obtain ⟨d63, h0⟩ := de_ireturn h0
      refine lv_aload_n hx hb d52 rfl (lv_at hl 1 rfl) ?_
      refine lv_iload_n hx hb d53 rfl (lv_at hl 2 rfl) ?_
      obtain ⟨hs9, hf⟩ := x_if hf
      refine x_thenI C0 hxt hS hf (fun z0 e0 => x_runV C0 hR hS me_X0_areaBegin wi_X0_areaBegin wl_X0_areaBegin ml_X0_163 hs9 xcl_0 (As := [.int x1]) (ct_X0_areaBegin E l C0.2.2.2.2.2.2.2.1 _ r0 x1) rfl rfl hl.1 (Nat.le_of_ble_eq_true rfl) d54 ⟨(Nat.le_of_ble_eq_true rfl), (Nat.le_of_ble_eq_true rfl)⟩ ⟨(Nat.le_of_ble_eq_true rfl), (Nat.le_of_ble_eq_true rfl)⟩ e0) (Nat.le_of_ble_eq_true rfl) (Nat.le_of_ble_eq_true rfl) (fun h9 i10 H locs hR hS hf => ?_)
      refine lv_iload_n hx hb d57 rfl (lv_at hl 0 rfl) ?_
      refine lv_iconst (v := 2) hx hb d58 (by decide) ?_
      refine x_thenI C0 hxt hS hf (fun z0 e0 => x_runS C0 hR hS me_J9_floorDiv_7cf53 wt_J9_floorDiv_7cf53 ml_X0_150 (As := [.int i5, .int 2]) (ct_J9_floorDiv_7cf53 E l C0.2.2.2.2.2.2.2.1 _ i5 2) rfl rfl hl.1 (Nat.le_of_ble_eq_true rfl) d59 ⟨(Nat.le_of_ble_eq_true rfl), (Nat.le_of_ble_eq_true rfl)⟩ ⟨(Nat.le_of_ble_eq_true rfl), (Nat.le_of_ble_eq_true rfl)⟩ e0) (Nat.le_of_ble_eq_true rfl) (Nat.le_of_ble_eq_true rfl) (fun h9 i12 H locs hR hS hf => ?_)
      refine lv_iadd hx hb d62 ?_
      exact x_iret C0 hR hS hf (Nat.le_of_ble_eq_true rfl) (Nat.le_of_ble_eq_true rfl) d63
    · have hf := x_neg q1 hf
      have g0 : (i6).toInt ≠ 2 := fun e9 => q0 (Int32.toInt_inj.mp (e9.trans (by decide)))
      have g1 : (i6).toInt ≠ 3 := fun e9 => q1 (Int32.toInt_inj.mp (e9.trans (by decide)))
      refine lv_lookup (tgt := 64) hx hb d18 (by decide) (by simp [Op.lookupswitch.offset, g0, Ne.symm g0, g1, Ne.symm g1]; rfl) (by decide) ?_
      have h0 : x_by cX0_boxBegin 64 [42, 27, 182, 0, 163, 172] := by unfold x_by; decide +kernel
      obtain ⟨d64, h0⟩ := de_aload_n0 h0
      obtain ⟨d65, h0⟩ := de_iload_n1 h0
      obtain ⟨d66, h0⟩ := de_invokevirtual 163 (by decide) h0
      obtain ⟨d69, h0⟩ := de_ireturn h0
      refine lv_aload_n hx hb d64 rfl (lv_at hl 1 rfl) ?_
      refine lv_iload_n hx hb d65 rfl (lv_at hl 2 rfl) ?_
      obtain ⟨hs9, hf⟩ := x_if hf
      refine x_thenI C0 hxt hS hf (fun z0 e0 => x_runV C0 hR hS me_X0_areaBegin wi_X0_areaBegin wl_X0_areaBegin ml_X0_163 hs9 xcl_0 (As := [.int x1]) (ct_X0_areaBegin E l C0.2.2.2.2.2.2.2.1 _ r0 x1) rfl rfl hl.1 (Nat.le_of_ble_eq_true rfl) d66 ⟨(Nat.le_of_ble_eq_true rfl), (Nat.le_of_ble_eq_true rfl)⟩ ⟨(Nat.le_of_ble_eq_true rfl), (Nat.le_of_ble_eq_true rfl)⟩ e0) (Nat.le_of_ble_eq_true rfl) (Nat.le_of_ble_eq_true rfl) (fun h9 i14 H locs hR hS hf => ?_)
      exact x_iret C0 hR hS hf (Nat.le_of_ble_eq_true rfl) (Nat.le_of_ble_eq_true rfl) d69
def f_X0_isInBox_b27  (h : HP) (t0 : Int32) : Option XR :=
  x_rZ h t0
def f_X0_isInBox_b26  (h : HP)  : Option XR :=
  f_X0_isInBox_b27 h 0
def f_X0_isInBox (h : HP) (r0 : Nat) (x1 : Int32) (x2 : Int32) : Option XR :=
  x_rc h r0 0 <| x_cI (f_X0_boxBegin h r0 x1) fun h2 i1 =>
  if x2 < i1 then
    (
      f_X0_isInBox_b26 h2
    )
  else
    (
      x_rc h2 r0 0 <| x_cI (f_X0_boxSize h2 r0 x1) fun h4 i3 =>
      if (i1 + i3) ≤ x2 then
        (
          f_X0_isInBox_b26 h4
        )
      else
        (
          f_X0_isInBox_b27 h4 1
        )
    )
set_option maxRecDepth 100000 in
set_option maxHeartbeats 4000000 in
theorem s_X0_isInBox_b27 {p : Program} {l : Launch} {e : Env} {s : State} {m : MethodId} {args : Array Value} {below : List Frame} {meth : Method} {c : Code} {E : XE} {z : XR} (C0 : x_C E p l s m meth c args cX0_isInBox 4 "GridEngine$AxisLayout" "isInBox" (some .boolean)) (hxt : ∀ x ∈ c.exceptionTable.toList, False)  : ∀ (h : HP) (t0 : Int32) (H : Heap) (locs : List Loc) (ls : Array Slot), x_Rep E h H → va_S (x_A E) s.heap H locs → lv_has ls 4 [] → f_X0_isInBox_b27 h t0 = some z → W p l e ({ frames := 14, cells := 0, slots := 0, locals := 264 } : Room) s m args below meth c H locs 0 0 (x_Q E below args s 0 0 z) (F0 m 27 ls [.int t0]) := by
  intro h t0 H locs ls hR hS hl hf
  obtain ⟨hx, hb, -⟩ := id C0
  unfold f_X0_isInBox_b27 at hf
  have h0 : x_by cX0_isInBox 27 [172] := by unfold x_by; decide +kernel
  obtain ⟨d27, h0⟩ := de_ireturn h0
  exact x_zret C0 hR hS hf (Nat.le_of_ble_eq_true rfl) (Nat.le_of_ble_eq_true rfl) d27
set_option maxRecDepth 100000 in
set_option maxHeartbeats 4000000 in
theorem s_X0_isInBox_b26 {p : Program} {l : Launch} {e : Env} {s : State} {m : MethodId} {args : Array Value} {below : List Frame} {meth : Method} {c : Code} {E : XE} {z : XR} (C0 : x_C E p l s m meth c args cX0_isInBox 4 "GridEngine$AxisLayout" "isInBox" (some .boolean)) (hxt : ∀ x ∈ c.exceptionTable.toList, False)  : ∀ (h : HP)  (H : Heap) (locs : List Loc) (ls : Array Slot), x_Rep E h H → va_S (x_A E) s.heap H locs → lv_has ls 4 [] → f_X0_isInBox_b26 h  = some z → W p l e ({ frames := 14, cells := 0, slots := 0, locals := 264 } : Room) s m args below meth c H locs 0 0 (x_Q E below args s 0 0 z) (F0 m 26 ls []) := by
  intro h  H locs ls hR hS hl hf
  obtain ⟨hx, hb, -⟩ := id C0
  unfold f_X0_isInBox_b26 at hf
  have h0 : x_by cX0_isInBox 26 [3] := by unfold x_by; decide +kernel
  obtain ⟨d26, h0⟩ := de_iconst_0 h0
  refine lv_iconst (v := 0) hx hb d26 (by decide) ?_
  exact s_X0_isInBox_b27 C0 hxt _ _ _ _ _ hR hS (lv_sub hl [] rfl) hf
set_option maxRecDepth 100000 in
set_option maxHeartbeats 4000000 in
theorem ct_X0_isInBox (E : XE) (l : Launch) (hl0 : l.stackTraces = false) (h : HP) (r0 : Nat) (x1 : Int32) (x2 : Int32) : x_ct E l yX0_isInBox (Cond.code yX0_isInBox cX0_isInBox 4 (some .boolean)) 14 264 0 0 [.ref (xa E r0), .int x1, .int x2] h (f_X0_isInBox h r0 x1 x2) := by
  refine x_ofW hl0 (by decide +kernel) ?_
  intro z hf p e s m args below meth c C0 hxt hargs hR
  subst hargs
  have C0 : x_C E p l s m meth c ([.ref (xa E r0), .int x1, .int x2] : List Value).toArray cX0_isInBox 4 "GridEngine$AxisLayout" "isInBox" (some .boolean) := C0
  obtain ⟨hx, hb, -⟩ := id C0
  have hS : va_S (x_A E) s.heap s.heap [] := va_S.rf
  have hl := lv_entry ([.ref (xa E r0), .int x1, .int x2]) (n := 4) (Nat.le_of_ble_eq_true rfl)
  rw [lg_entry_eq]
  generalize (lg_sl ([.ref (xa E r0), .int x1, .int x2]) ++ List.replicate (4 - (lg_sl ([.ref (xa E r0), .int x1, .int x2])).length) Slot.unset).toArray = ls at hl ⊢
  have hl : lv_has ls 4 [(0, .ref (xa E r0)), (1, .int x1), (2, .int x2)] := hl
  unfold f_X0_isInBox at hf
  have h0 : x_by cX0_isInBox 0 [42, 27, 182, 0, 172, 62, 29, 28, 163, 0, 18] := by unfold x_by; decide +kernel
  obtain ⟨d0, h0⟩ := de_aload_n0 h0
  obtain ⟨d1, h0⟩ := de_iload_n1 h0
  obtain ⟨d2, h0⟩ := de_invokevirtual 172 (by decide) h0
  obtain ⟨d5, h0⟩ := de_istore_n3 h0
  obtain ⟨d6, h0⟩ := de_iload_n3 h0
  obtain ⟨d7, h0⟩ := de_iload_n2 h0
  obtain ⟨d8, h0⟩ := de_icmp_gt (18) (by decide) h0
  refine lv_aload_n hx hb d0 rfl (lv_at hl 0 rfl) ?_
  refine lv_iload_n hx hb d1 rfl (lv_at hl 1 rfl) ?_
  obtain ⟨hs9, hf⟩ := x_if hf
  refine x_thenI C0 hxt hS hf (fun z0 e0 => x_runV C0 hR hS me_X0_boxBegin wi_X0_boxBegin wl_X0_boxBegin ml_X0_172 hs9 xcl_0 (As := [.int x1]) (ct_X0_boxBegin E l C0.2.2.2.2.2.2.2.1 _ r0 x1) rfl rfl hl.1 (Nat.le_of_ble_eq_true rfl) d2 ⟨(Nat.le_of_ble_eq_true rfl), (Nat.le_of_ble_eq_true rfl)⟩ ⟨(Nat.le_of_ble_eq_true rfl), (Nat.le_of_ble_eq_true rfl)⟩ e0) (Nat.le_of_ble_eq_true rfl) (Nat.le_of_ble_eq_true rfl) (fun h9 i1 H locs hR hS hf => ?_)
  refine lv_istore_n (lv' := [(3, .int i1), (0, .ref (xa E r0)), (1, .int x1), (2, .int x2)]) hx hb d5 rfl hl (by decide) rfl (fun ls hl => ?_)
  refine lv_iload_n hx hb d6 rfl (lv_at hl 0 rfl) ?_
  refine lv_iload_n hx hb d7 rfl (lv_at hl 3 rfl) ?_
  refine lv_icmp_gt (tgt := 26) hx hb d8 (by decide) (fun q => ?_) (fun q => ?_)
  · have hf := x_pos q hf
    exact s_X0_isInBox_b26 C0 hxt _ _ _ _ hR hS (lv_sub hl [] rfl) hf
  · have hf := x_neg q hf
    have h0 : x_by cX0_isInBox 11 [28, 29, 42, 27, 182, 0, 169, 96, 162, 0, 7] := by unfold x_by; decide +kernel
    obtain ⟨d11, h0⟩ := de_iload_n2 h0
    obtain ⟨d12, h0⟩ := de_iload_n3 h0
    obtain ⟨d13, h0⟩ := de_aload_n0 h0
    obtain ⟨d14, h0⟩ := de_iload_n1 h0
    obtain ⟨d15, h0⟩ := de_invokevirtual 169 (by decide) h0
    obtain ⟨d18, h0⟩ := de_iadd h0
    obtain ⟨d19, h0⟩ := de_icmp_ge (7) (by decide) h0
    refine lv_iload_n hx hb d11 rfl (lv_at hl 3 rfl) ?_
    refine lv_iload_n hx hb d12 rfl (lv_at hl 0 rfl) ?_
    refine lv_aload_n hx hb d13 rfl (lv_at hl 1 rfl) ?_
    refine lv_iload_n hx hb d14 rfl (lv_at hl 2 rfl) ?_
    obtain ⟨hs9, hf⟩ := x_if hf
    refine x_thenI C0 hxt hS hf (fun z0 e0 => x_runV C0 hR hS me_X0_boxSize wi_X0_boxSize wl_X0_boxSize ml_X0_169 hs9 xcl_0 (As := [.int x1]) (ct_X0_boxSize E l C0.2.2.2.2.2.2.2.1 _ r0 x1) rfl rfl hl.1 (Nat.le_of_ble_eq_true rfl) d15 ⟨(Nat.le_of_ble_eq_true rfl), (Nat.le_of_ble_eq_true rfl)⟩ ⟨(Nat.le_of_ble_eq_true rfl), (Nat.le_of_ble_eq_true rfl)⟩ e0) (Nat.le_of_ble_eq_true rfl) (Nat.le_of_ble_eq_true rfl) (fun h9 i3 H locs hR hS hf => ?_)
    refine lv_iadd hx hb d18 ?_
    refine lv_icmp_ge (tgt := 26) hx hb d19 (by decide) (fun q => ?_) (fun q => ?_)
    · have hf := x_pos q hf
      exact s_X0_isInBox_b26 C0 hxt _ _ _ _ hR hS (lv_sub hl [] rfl) hf
    · have hf := x_neg q hf
      have h0 : x_by cX0_isInBox 22 [4, 167, 0, 4] := by unfold x_by; decide +kernel
      obtain ⟨d22, h0⟩ := de_iconst_1 h0
      obtain ⟨d23, h0⟩ := de_goto (4) (by decide) h0
      refine lv_iconst (v := 1) hx hb d22 (by decide) ?_
      refine lv_goto (tgt := 27) hx hb d23 (by decide) ?_
      exact s_X0_isInBox_b27 C0 hxt _ _ _ _ _ hR hS (lv_sub hl [] rfl) hf

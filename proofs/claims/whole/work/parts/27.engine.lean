def f_X7_init (h : HP) (r0 : Nat) : Option XR :=
  x_na h 1 120 fun h2 a1 =>
  x_pR h2 r0 7 0 a1 fun h3 =>
  x_pI h3 r0 7 1 0 fun h4 =>
  x_no h4 6 fun h6 a5 =>
  x_cV (f_X6_init h6 a5) fun h7 =>
  x_pR h7 r0 7 2 a5 fun h8 =>
  x_no h8 4 fun h10 a9 =>
  x_cV (f_X4_init h10 a9) fun h11 =>
  x_pR h11 r0 7 3 a9 fun h12 =>
  x_nm h12 3 fun h14 a13 =>
  x_pR h14 r0 7 4 a13 fun h15 =>
  x_na h15 2 3 fun h17 a16 =>
  x_pR h17 r0 7 5 a16 fun h18 =>
  x_nm h18 8 fun h20 a19 =>
  x_pR h20 r0 7 6 a19 fun h21 =>
  x_pI h21 r0 7 7 0 fun h22 =>
  x_pI h22 r0 7 8 0 fun h23 =>
  x_no h23 5 fun h25 a24 =>
  x_gR h25 r0 7 3 fun a26 =>
  x_cV (f_X5_init h25 a24 a26) fun h27 =>
  x_pR h27 r0 7 9 a24 fun h28 =>
  x_no h28 0 fun h30 a29 =>
  x_gR h30 r0 7 3 fun a31 =>
  x_gR h30 r0 7 9 fun a32 =>
  x_cV (f_X0_init h30 a29 0 a31 a32) fun h33 =>
  x_pR h33 r0 7 10 a29 fun h34 =>
  x_no h34 0 fun h36 a35 =>
  x_gR h36 r0 7 3 fun a37 =>
  x_gR h36 r0 7 9 fun a38 =>
  x_cV (f_X0_init h36 a35 1 a37 a38) fun h39 =>
  x_pR h39 r0 7 11 a35 fun h40 =>
  x_no h40 2 fun h42 a41 =>
  x_cV (f_X2_init h42 a41) fun h43 =>
  x_pR h43 r0 7 12 a41 fun h44 =>
  x_no h44 1 fun h46 a45 =>
  x_gR h46 r0 7 12 fun a47 =>
  x_cV (f_X1_init h46 a45 a47) fun h48 =>
  x_pR h48 r0 7 13 a45 fun h49 =>
  x_no h49 3 fun h51 a50 =>
  x_cV (f_X3_init h51 a50) fun h52 =>
  x_pR h52 r0 7 14 a50 fun h53 =>
  x_pZ h53 r0 7 15 0 fun h54 =>
  x_gR h54 r0 7 4 fun a55 =>
  x_no h54 4 fun h57 a56 =>
  x_cV (f_X4_init h57 a56) fun h58 =>
  x_sR h58 a55 0 4 a56 fun h59 =>
  x_gR h59 r0 7 4 fun a60 =>
  x_no h59 4 fun h62 a61 =>
  x_cV (f_X4_init h62 a61) fun h63 =>
  x_sR h63 a60 1 4 a61 fun h64 =>
  x_gR h64 r0 7 4 fun a65 =>
  x_no h64 4 fun h67 a66 =>
  x_cV (f_X4_init h67 a66) fun h68 =>
  x_sR h68 a65 2 4 a66 fun h69 =>
  x_gR h69 r0 7 6 fun a70 =>
  x_no h69 4 fun h72 a71 =>
  x_cV (f_X4_init h72 a71) fun h73 =>
  x_sR h73 a70 0 4 a71 fun h74 =>
  x_gR h74 r0 7 6 fun a75 =>
  x_no h74 4 fun h77 a76 =>
  x_cV (f_X4_init h77 a76) fun h78 =>
  x_sR h78 a75 1 4 a76 fun h79 =>
  x_gR h79 r0 7 6 fun a80 =>
  x_no h79 4 fun h82 a81 =>
  x_cV (f_X4_init h82 a81) fun h83 =>
  x_sR h83 a80 2 4 a81 fun h84 =>
  x_gR h84 r0 7 6 fun a85 =>
  x_no h84 4 fun h87 a86 =>
  x_cV (f_X4_init h87 a86) fun h88 =>
  x_sR h88 a85 3 4 a86 fun h89 =>
  x_gR h89 r0 7 6 fun a90 =>
  x_no h89 4 fun h92 a91 =>
  x_cV (f_X4_init h92 a91) fun h93 =>
  x_sR h93 a90 4 4 a91 fun h94 =>
  x_gR h94 r0 7 6 fun a95 =>
  x_no h94 4 fun h97 a96 =>
  x_cV (f_X4_init h97 a96) fun h98 =>
  x_sR h98 a95 5 4 a96 fun h99 =>
  x_gR h99 r0 7 6 fun a100 =>
  x_no h99 4 fun h102 a101 =>
  x_cV (f_X4_init h102 a101) fun h103 =>
  x_sR h103 a100 6 4 a101 fun h104 =>
  x_gR h104 r0 7 6 fun a105 =>
  x_no h104 4 fun h107 a106 =>
  x_cV (f_X4_init h107 a106) fun h108 =>
  x_sR h108 a105 7 4 a106 fun h109 =>
  some (h109, xv)
set_option maxRecDepth 100000 in
set_option maxHeartbeats 4000000 in
theorem ct_X7_init (E : XE) (l : Launch) (hl0 : l.stackTraces = false) (h : HP) (r0 : Nat) : x_ct E l yX7_init (Cond.code yX7_init cX7_init 2 none) 9 153 101 4870 [.ref (xa E r0)] h (f_X7_init h r0) := by
  refine x_ofW hl0 (by decide +kernel) ?_
  intro z hf p e s m args below meth c C0 hxt hargs hR
  subst hargs
  have C0 : x_C E p l s m meth c ([.ref (xa E r0)] : List Value).toArray cX7_init 2 "GridEngine" "<init>" none := C0
  obtain ⟨hx, hb, -⟩ := id C0
  have hS : va_S (x_A E) s.heap s.heap [] := va_S.rf
  have hl := lv_entry ([.ref (xa E r0)]) (n := 2) (Nat.le_of_ble_eq_true rfl)
  rw [lg_entry_eq]
  generalize (lg_sl ([.ref (xa E r0)]) ++ List.replicate (2 - (lg_sl ([.ref (xa E r0)])).length) Slot.unset).toArray = ls at hl ⊢
  have hl : lv_has ls 2 [(0, .ref (xa E r0))] := hl
  unfold f_X7_init at hf
  have h0 : x_by cX7_init 0 [42, 183, 0, 1, 42, 16, 120, 188, 5, 181, 0, 9, 42, 3, 181, 0, 13, 42, 187, 0, 17, 89, 183, 0, 19, 181, 0, 20, 42, 187, 0, 24, 89, 183, 0, 26, 181, 0, 27, 42, 6, 189, 0, 24, 181, 0, 31, 42, 6, 188, 4, 181, 0, 35, 42, 16, 8, 189, 0, 24, 181, 0, 39, 42, 3, 181, 0, 42, 42, 3, 181, 0, 45, 42, 187, 0, 48, 89, 42, 180, 0, 27, 183, 0, 50, 181, 0, 53, 42, 187, 0, 57, 89, 3, 42, 180, 0, 27, 42, 180, 0, 53, 183, 0, 59, 181, 0, 62, 42, 187, 0, 57, 89, 4, 42, 180, 0, 27, 42, 180, 0, 53, 183, 0, 59, 181, 0, 66, 42, 187, 0, 69, 89, 183, 0, 71, 181, 0, 72, 42, 187, 0, 76, 89, 42, 180, 0, 72, 183, 0, 78, 181, 0, 81, 42, 187, 0, 85, 89, 183, 0, 87, 181, 0, 88, 42, 3, 181, 0, 92, 3, 60] := by unfold x_by; decide +kernel
  obtain ⟨d0, h0⟩ := de_aload_n0 h0
  obtain ⟨d1, h0⟩ := de_invokespecial 1 (by decide) h0
  obtain ⟨d4, h0⟩ := de_aload_n0 h0
  obtain ⟨d5, h0⟩ := de_bipush (120) (by decide) h0
  obtain ⟨d7, h0⟩ := de_newarray_char h0
  obtain ⟨d9, h0⟩ := de_putfield 9 (by decide) h0
  obtain ⟨d12, h0⟩ := de_aload_n0 h0
  obtain ⟨d13, h0⟩ := de_iconst_0 h0
  obtain ⟨d14, h0⟩ := de_putfield 13 (by decide) h0
  obtain ⟨d17, h0⟩ := de_aload_n0 h0
  obtain ⟨d18, h0⟩ := de_new 17 (by decide) h0
  obtain ⟨d21, h0⟩ := de_dup h0
  obtain ⟨d22, h0⟩ := de_invokespecial 19 (by decide) h0
  obtain ⟨d25, h0⟩ := de_putfield 20 (by decide) h0
  obtain ⟨d28, h0⟩ := de_aload_n0 h0
  obtain ⟨d29, h0⟩ := de_new 24 (by decide) h0
  obtain ⟨d32, h0⟩ := de_dup h0
  obtain ⟨d33, h0⟩ := de_invokespecial 26 (by decide) h0
  obtain ⟨d36, h0⟩ := de_putfield 27 (by decide) h0
  obtain ⟨d39, h0⟩ := de_aload_n0 h0
  obtain ⟨d40, h0⟩ := de_iconst_3 h0
  obtain ⟨d41, h0⟩ := de_anewarray 24 (by decide) h0
  obtain ⟨d44, h0⟩ := de_putfield 31 (by decide) h0
  obtain ⟨d47, h0⟩ := de_aload_n0 h0
  obtain ⟨d48, h0⟩ := de_iconst_3 h0
  obtain ⟨d49, h0⟩ := de_newarray_boolean h0
  obtain ⟨d51, h0⟩ := de_putfield 35 (by decide) h0
  obtain ⟨d54, h0⟩ := de_aload_n0 h0
  obtain ⟨d55, h0⟩ := de_bipush (8) (by decide) h0
  obtain ⟨d57, h0⟩ := de_anewarray 24 (by decide) h0
  obtain ⟨d60, h0⟩ := de_putfield 39 (by decide) h0
  obtain ⟨d63, h0⟩ := de_aload_n0 h0
  obtain ⟨d64, h0⟩ := de_iconst_0 h0
  obtain ⟨d65, h0⟩ := de_putfield 42 (by decide) h0
  obtain ⟨d68, h0⟩ := de_aload_n0 h0
  obtain ⟨d69, h0⟩ := de_iconst_0 h0
  obtain ⟨d70, h0⟩ := de_putfield 45 (by decide) h0
  obtain ⟨d73, h0⟩ := de_aload_n0 h0
  obtain ⟨d74, h0⟩ := de_new 48 (by decide) h0
  obtain ⟨d77, h0⟩ := de_dup h0
  obtain ⟨d78, h0⟩ := de_aload_n0 h0
  obtain ⟨d79, h0⟩ := de_getfield 27 (by decide) h0
  obtain ⟨d82, h0⟩ := de_invokespecial 50 (by decide) h0
  obtain ⟨d85, h0⟩ := de_putfield 53 (by decide) h0
  obtain ⟨d88, h0⟩ := de_aload_n0 h0
  obtain ⟨d89, h0⟩ := de_new 57 (by decide) h0
  obtain ⟨d92, h0⟩ := de_dup h0
  obtain ⟨d93, h0⟩ := de_iconst_0 h0
  obtain ⟨d94, h0⟩ := de_aload_n0 h0
  obtain ⟨d95, h0⟩ := de_getfield 27 (by decide) h0
  obtain ⟨d98, h0⟩ := de_aload_n0 h0
  obtain ⟨d99, h0⟩ := de_getfield 53 (by decide) h0
  obtain ⟨d102, h0⟩ := de_invokespecial 59 (by decide) h0
  obtain ⟨d105, h0⟩ := de_putfield 62 (by decide) h0
  obtain ⟨d108, h0⟩ := de_aload_n0 h0
  obtain ⟨d109, h0⟩ := de_new 57 (by decide) h0
  obtain ⟨d112, h0⟩ := de_dup h0
  obtain ⟨d113, h0⟩ := de_iconst_1 h0
  obtain ⟨d114, h0⟩ := de_aload_n0 h0
  obtain ⟨d115, h0⟩ := de_getfield 27 (by decide) h0
  obtain ⟨d118, h0⟩ := de_aload_n0 h0
  obtain ⟨d119, h0⟩ := de_getfield 53 (by decide) h0
  obtain ⟨d122, h0⟩ := de_invokespecial 59 (by decide) h0
  obtain ⟨d125, h0⟩ := de_putfield 66 (by decide) h0
  obtain ⟨d128, h0⟩ := de_aload_n0 h0
  obtain ⟨d129, h0⟩ := de_new 69 (by decide) h0
  obtain ⟨d132, h0⟩ := de_dup h0
  obtain ⟨d133, h0⟩ := de_invokespecial 71 (by decide) h0
  obtain ⟨d136, h0⟩ := de_putfield 72 (by decide) h0
  obtain ⟨d139, h0⟩ := de_aload_n0 h0
  obtain ⟨d140, h0⟩ := de_new 76 (by decide) h0
  obtain ⟨d143, h0⟩ := de_dup h0
  obtain ⟨d144, h0⟩ := de_aload_n0 h0
  obtain ⟨d145, h0⟩ := de_getfield 72 (by decide) h0
  obtain ⟨d148, h0⟩ := de_invokespecial 78 (by decide) h0
  obtain ⟨d151, h0⟩ := de_putfield 81 (by decide) h0
  obtain ⟨d154, h0⟩ := de_aload_n0 h0
  obtain ⟨d155, h0⟩ := de_new 85 (by decide) h0
  obtain ⟨d158, h0⟩ := de_dup h0
  obtain ⟨d159, h0⟩ := de_invokespecial 87 (by decide) h0
  obtain ⟨d162, h0⟩ := de_putfield 88 (by decide) h0
  obtain ⟨d165, h0⟩ := de_aload_n0 h0
  obtain ⟨d166, h0⟩ := de_iconst_0 h0
  obtain ⟨d167, h0⟩ := de_putfield 92 (by decide) h0
  obtain ⟨d170, h0⟩ := de_iconst_0 h0
  obtain ⟨d171, h0⟩ := de_istore_n1 h0
  refine lv_aload_n hx hb d0 rfl (lv_at hl 0 rfl) ?_
  refine x_oinit C0 hl.1 ml_X7_1 lib_oinit (Nat.le_of_ble_eq_true rfl) (Nat.le_of_ble_eq_true rfl) d1 ?_
  refine lv_aload_n hx hb d4 rfl (lv_at hl 0 rfl) ?_
  refine lv_bipush (v := 120) hx hb d5 (by decide) ?_
  refine x_newa (t := 1) C0 hR hS hf rfl (by decide) ac_1 (N := 120) (by decide) (Nat.le_of_ble_eq_true rfl) (Nat.le_of_ble_eq_true rfl) d7 (fun H a1 hR hS hf => ?_)
  refine x_putR C0 hR hS hf xcl_7 (Nat.le_of_ble_eq_true rfl) rfl fl_X7_9 (Or.inr ⟨rfl, rfl, fm_X7_9⟩) d9 (fun H locs hR hS hf => ?_)
  refine lv_aload_n hx hb d12 rfl (lv_at hl 0 rfl) ?_
  refine lv_iconst (v := 0) hx hb d13 (by decide) ?_
  refine x_putI C0 hR hS hf xcl_7 (Nat.le_of_ble_eq_true rfl) rfl fl_X7_13 (Or.inl rfl) d14 (fun H locs hR hS hf => ?_)
  refine lv_aload_n hx hb d17 rfl (lv_at hl 0 rfl) ?_
  refine x_newo C0 hR hS hf xcl_6 xok_6 cl_X7_17 cn_6 cz_6 (Nat.le_of_ble_eq_true rfl) (Nat.le_of_ble_eq_true rfl) d18 (fun H a5 hR hS hf => ?_)
  refine lv_dup hx hb d21 rfl ?_
  refine x_thenV C0 hxt hS hf (fun z0 e0 => x_runIN C0 hR hS me_X6_init rfl wi_X6_init ml_X7_19 (As := []) (ct_X6_init E l C0.2.2.2.2.2.2.2.1 _ a5) rfl rfl hl.1 (Nat.le_of_ble_eq_true rfl) d22 ⟨(Nat.le_of_ble_eq_true rfl), (Nat.le_of_ble_eq_true rfl)⟩ ⟨(Nat.le_of_ble_eq_true rfl), (Nat.le_of_ble_eq_true rfl)⟩ e0) (Nat.le_of_ble_eq_true rfl) (Nat.le_of_ble_eq_true rfl) (fun h9 H locs hR hS hf => ?_)
  refine x_putR C0 hR hS hf xcl_7 (Nat.le_of_ble_eq_true rfl) rfl fl_X7_20 (Or.inr ⟨rfl, rfl, fm_X7_20⟩) d25 (fun H locs hR hS hf => ?_)
  refine lv_aload_n hx hb d28 rfl (lv_at hl 0 rfl) ?_
  refine x_newo C0 hR hS hf xcl_4 xok_4 cl_X7_24 cn_4 cz_4 (Nat.le_of_ble_eq_true rfl) (Nat.le_of_ble_eq_true rfl) d29 (fun H a9 hR hS hf => ?_)
  refine lv_dup hx hb d32 rfl ?_
  refine x_thenV C0 hxt hS hf (fun z0 e0 => x_runI C0 hR hS me_X4_init rfl wi_X4_init ml_X7_26 (As := []) (ct_X4_init E l C0.2.2.2.2.2.2.2.1 _ a9) rfl rfl hl.1 (Nat.le_of_ble_eq_true rfl) d33 ⟨(Nat.le_of_ble_eq_true rfl), (Nat.le_of_ble_eq_true rfl)⟩ ⟨(Nat.le_of_ble_eq_true rfl), (Nat.le_of_ble_eq_true rfl)⟩ e0) (Nat.le_of_ble_eq_true rfl) (Nat.le_of_ble_eq_true rfl) (fun h9 H locs hR hS hf => ?_)
  refine x_putR C0 hR hS hf xcl_7 (Nat.le_of_ble_eq_true rfl) rfl fl_X7_27 (Or.inr ⟨rfl, rfl, fm_X7_27⟩) d36 (fun H locs hR hS hf => ?_)
  refine lv_aload_n hx hb d39 rfl (lv_at hl 0 rfl) ?_
  refine lv_iconst (v := 3) hx hb d40 (by decide) ?_
  refine x_newq C0 hR hS hf cl_X7_24 (N := 3) (by decide) (Nat.le_of_ble_eq_true rfl) (Nat.le_of_ble_eq_true rfl) d41 (fun H a13 hR hS hf => ?_)
  refine x_putR C0 hR hS hf xcl_7 (Nat.le_of_ble_eq_true rfl) rfl fl_X7_31 (Or.inr ⟨rfl, rfl, fm_X7_31⟩) d44 (fun H locs hR hS hf => ?_)
  refine lv_aload_n hx hb d47 rfl (lv_at hl 0 rfl) ?_
  refine lv_iconst (v := 3) hx hb d48 (by decide) ?_
  refine x_newa (t := 2) C0 hR hS hf rfl (by decide) ac_2 (N := 3) (by decide) (Nat.le_of_ble_eq_true rfl) (Nat.le_of_ble_eq_true rfl) d49 (fun H a16 hR hS hf => ?_)
  refine x_putR C0 hR hS hf xcl_7 (Nat.le_of_ble_eq_true rfl) rfl fl_X7_35 (Or.inr ⟨rfl, rfl, fm_X7_35⟩) d51 (fun H locs hR hS hf => ?_)
  refine lv_aload_n hx hb d54 rfl (lv_at hl 0 rfl) ?_
  refine lv_bipush (v := 8) hx hb d55 (by decide) ?_
  refine x_newq C0 hR hS hf cl_X7_24 (N := 8) (by decide) (Nat.le_of_ble_eq_true rfl) (Nat.le_of_ble_eq_true rfl) d57 (fun H a19 hR hS hf => ?_)
  refine x_putR C0 hR hS hf xcl_7 (Nat.le_of_ble_eq_true rfl) rfl fl_X7_39 (Or.inr ⟨rfl, rfl, fm_X7_39⟩) d60 (fun H locs hR hS hf => ?_)
  refine lv_aload_n hx hb d63 rfl (lv_at hl 0 rfl) ?_
  refine lv_iconst (v := 0) hx hb d64 (by decide) ?_
  refine x_putI C0 hR hS hf xcl_7 (Nat.le_of_ble_eq_true rfl) rfl fl_X7_42 (Or.inl rfl) d65 (fun H locs hR hS hf => ?_)
  refine lv_aload_n hx hb d68 rfl (lv_at hl 0 rfl) ?_
  refine lv_iconst (v := 0) hx hb d69 (by decide) ?_
  refine x_putI C0 hR hS hf xcl_7 (Nat.le_of_ble_eq_true rfl) rfl fl_X7_45 (Or.inl rfl) d70 (fun H locs hR hS hf => ?_)
  refine lv_aload_n hx hb d73 rfl (lv_at hl 0 rfl) ?_
  refine x_newo C0 hR hS hf xcl_5 xok_5 cl_X7_48 cn_5 cz_5 (Nat.le_of_ble_eq_true rfl) (Nat.le_of_ble_eq_true rfl) d74 (fun H a24 hR hS hf => ?_)
  refine lv_dup hx hb d77 rfl ?_
  refine lv_aload_n hx hb d78 rfl (lv_at hl 0 rfl) ?_
  refine x_getR C0 hR hf xcl_7 (Nat.le_of_ble_eq_true rfl) rfl fl_X7_27 d79 (fun a26 hf => ?_)
  refine x_thenV C0 hxt hS hf (fun z0 e0 => x_runI C0 hR hS me_X5_init rfl wi_X5_init ml_X7_50 (As := [.ref (xa E a26)]) (ct_X5_init E l C0.2.2.2.2.2.2.2.1 _ a24 a26) rfl rfl hl.1 (Nat.le_of_ble_eq_true rfl) d82 ⟨(Nat.le_of_ble_eq_true rfl), (Nat.le_of_ble_eq_true rfl)⟩ ⟨(Nat.le_of_ble_eq_true rfl), (Nat.le_of_ble_eq_true rfl)⟩ e0) (Nat.le_of_ble_eq_true rfl) (Nat.le_of_ble_eq_true rfl) (fun h9 H locs hR hS hf => ?_)
  refine x_putR C0 hR hS hf xcl_7 (Nat.le_of_ble_eq_true rfl) rfl fl_X7_53 (Or.inr ⟨rfl, rfl, fm_X7_53⟩) d85 (fun H locs hR hS hf => ?_)
  refine lv_aload_n hx hb d88 rfl (lv_at hl 0 rfl) ?_
  refine x_newo C0 hR hS hf xcl_0 xok_0 cl_X7_57 cn_0 cz_0 (Nat.le_of_ble_eq_true rfl) (Nat.le_of_ble_eq_true rfl) d89 (fun H a29 hR hS hf => ?_)
  refine lv_dup hx hb d92 rfl ?_
  refine lv_iconst (v := 0) hx hb d93 (by decide) ?_
  refine lv_aload_n hx hb d94 rfl (lv_at hl 0 rfl) ?_
  refine x_getR C0 hR hf xcl_7 (Nat.le_of_ble_eq_true rfl) rfl fl_X7_27 d95 (fun a31 hf => ?_)
  refine lv_aload_n hx hb d98 rfl (lv_at hl 0 rfl) ?_
  refine x_getR C0 hR hf xcl_7 (Nat.le_of_ble_eq_true rfl) rfl fl_X7_53 d99 (fun a32 hf => ?_)
  refine x_thenV C0 hxt hS hf (fun z0 e0 => x_runI C0 hR hS me_X0_init rfl wi_X0_init ml_X7_59 (As := [.int 0, .ref (xa E a31), .ref (xa E a32)]) (ct_X0_init E l C0.2.2.2.2.2.2.2.1 _ a29 0 a31 a32) rfl rfl hl.1 (Nat.le_of_ble_eq_true rfl) d102 ⟨(Nat.le_of_ble_eq_true rfl), (Nat.le_of_ble_eq_true rfl)⟩ ⟨(Nat.le_of_ble_eq_true rfl), (Nat.le_of_ble_eq_true rfl)⟩ e0) (Nat.le_of_ble_eq_true rfl) (Nat.le_of_ble_eq_true rfl) (fun h9 H locs hR hS hf => ?_)
  refine x_putR C0 hR hS hf xcl_7 (Nat.le_of_ble_eq_true rfl) rfl fl_X7_62 (Or.inr ⟨rfl, rfl, fm_X7_62⟩) d105 (fun H locs hR hS hf => ?_)
  refine lv_aload_n hx hb d108 rfl (lv_at hl 0 rfl) ?_
  refine x_newo C0 hR hS hf xcl_0 xok_0 cl_X7_57 cn_0 cz_0 (Nat.le_of_ble_eq_true rfl) (Nat.le_of_ble_eq_true rfl) d109 (fun H a35 hR hS hf => ?_)
  refine lv_dup hx hb d112 rfl ?_
  refine lv_iconst (v := 1) hx hb d113 (by decide) ?_
  refine lv_aload_n hx hb d114 rfl (lv_at hl 0 rfl) ?_
  refine x_getR C0 hR hf xcl_7 (Nat.le_of_ble_eq_true rfl) rfl fl_X7_27 d115 (fun a37 hf => ?_)
  refine lv_aload_n hx hb d118 rfl (lv_at hl 0 rfl) ?_
  refine x_getR C0 hR hf xcl_7 (Nat.le_of_ble_eq_true rfl) rfl fl_X7_53 d119 (fun a38 hf => ?_)
  refine x_thenV C0 hxt hS hf (fun z0 e0 => x_runI C0 hR hS me_X0_init rfl wi_X0_init ml_X7_59 (As := [.int 1, .ref (xa E a37), .ref (xa E a38)]) (ct_X0_init E l C0.2.2.2.2.2.2.2.1 _ a35 1 a37 a38) rfl rfl hl.1 (Nat.le_of_ble_eq_true rfl) d122 ⟨(Nat.le_of_ble_eq_true rfl), (Nat.le_of_ble_eq_true rfl)⟩ ⟨(Nat.le_of_ble_eq_true rfl), (Nat.le_of_ble_eq_true rfl)⟩ e0) (Nat.le_of_ble_eq_true rfl) (Nat.le_of_ble_eq_true rfl) (fun h9 H locs hR hS hf => ?_)
  refine x_putR C0 hR hS hf xcl_7 (Nat.le_of_ble_eq_true rfl) rfl fl_X7_66 (Or.inr ⟨rfl, rfl, fm_X7_66⟩) d125 (fun H locs hR hS hf => ?_)
  refine lv_aload_n hx hb d128 rfl (lv_at hl 0 rfl) ?_
  refine x_newo C0 hR hS hf xcl_2 xok_2 cl_X7_69 cn_2 cz_2 (Nat.le_of_ble_eq_true rfl) (Nat.le_of_ble_eq_true rfl) d129 (fun H a41 hR hS hf => ?_)
  refine lv_dup hx hb d132 rfl ?_
  refine x_thenV C0 hxt hS hf (fun z0 e0 => x_runIN C0 hR hS me_X2_init rfl wi_X2_init ml_X7_71 (As := []) (ct_X2_init E l C0.2.2.2.2.2.2.2.1 _ a41) rfl rfl hl.1 (Nat.le_of_ble_eq_true rfl) d133 ⟨(Nat.le_of_ble_eq_true rfl), (Nat.le_of_ble_eq_true rfl)⟩ ⟨(Nat.le_of_ble_eq_true rfl), (Nat.le_of_ble_eq_true rfl)⟩ e0) (Nat.le_of_ble_eq_true rfl) (Nat.le_of_ble_eq_true rfl) (fun h9 H locs hR hS hf => ?_)
  refine x_putR C0 hR hS hf xcl_7 (Nat.le_of_ble_eq_true rfl) rfl fl_X7_72 (Or.inr ⟨rfl, rfl, fm_X7_72⟩) d136 (fun H locs hR hS hf => ?_)
  refine lv_aload_n hx hb d139 rfl (lv_at hl 0 rfl) ?_
  refine x_newo C0 hR hS hf xcl_1 xok_1 cl_X7_76 cn_1 cz_1 (Nat.le_of_ble_eq_true rfl) (Nat.le_of_ble_eq_true rfl) d140 (fun H a45 hR hS hf => ?_)
  refine lv_dup hx hb d143 rfl ?_
  refine lv_aload_n hx hb d144 rfl (lv_at hl 0 rfl) ?_
  refine x_getR C0 hR hf xcl_7 (Nat.le_of_ble_eq_true rfl) rfl fl_X7_72 d145 (fun a47 hf => ?_)
  refine x_thenV C0 hxt hS hf (fun z0 e0 => x_runI C0 hR hS me_X1_init rfl wi_X1_init ml_X7_78 (As := [.ref (xa E a47)]) (ct_X1_init E l C0.2.2.2.2.2.2.2.1 _ a45 a47) rfl rfl hl.1 (Nat.le_of_ble_eq_true rfl) d148 ⟨(Nat.le_of_ble_eq_true rfl), (Nat.le_of_ble_eq_true rfl)⟩ ⟨(Nat.le_of_ble_eq_true rfl), (Nat.le_of_ble_eq_true rfl)⟩ e0) (Nat.le_of_ble_eq_true rfl) (Nat.le_of_ble_eq_true rfl) (fun h9 H locs hR hS hf => ?_)
  refine x_putR C0 hR hS hf xcl_7 (Nat.le_of_ble_eq_true rfl) rfl fl_X7_81 (Or.inr ⟨rfl, rfl, fm_X7_81⟩) d151 (fun H locs hR hS hf => ?_)
  refine lv_aload_n hx hb d154 rfl (lv_at hl 0 rfl) ?_
  refine x_newo C0 hR hS hf xcl_3 xok_3 cl_X7_85 cn_3 cz_3 (Nat.le_of_ble_eq_true rfl) (Nat.le_of_ble_eq_true rfl) d155 (fun H a50 hR hS hf => ?_)
  refine lv_dup hx hb d158 rfl ?_
  refine x_thenV C0 hxt hS hf (fun z0 e0 => x_runIN C0 hR hS me_X3_init rfl wi_X3_init ml_X7_87 (As := []) (ct_X3_init E l C0.2.2.2.2.2.2.2.1 _ a50) rfl rfl hl.1 (Nat.le_of_ble_eq_true rfl) d159 ⟨(Nat.le_of_ble_eq_true rfl), (Nat.le_of_ble_eq_true rfl)⟩ ⟨(Nat.le_of_ble_eq_true rfl), (Nat.le_of_ble_eq_true rfl)⟩ e0) (Nat.le_of_ble_eq_true rfl) (Nat.le_of_ble_eq_true rfl) (fun h9 H locs hR hS hf => ?_)
  refine x_putR C0 hR hS hf xcl_7 (Nat.le_of_ble_eq_true rfl) rfl fl_X7_88 (Or.inr ⟨rfl, rfl, fm_X7_88⟩) d162 (fun H locs hR hS hf => ?_)
  refine lv_aload_n hx hb d165 rfl (lv_at hl 0 rfl) ?_
  refine lv_iconst (v := 0) hx hb d166 (by decide) ?_
  refine x_putZ C0 hR hS hf xcl_7 (Nat.le_of_ble_eq_true rfl) rfl fl_X7_92 (Or.inl rfl) d167 (fun H locs hR hS hf => ?_)
  refine lv_iconst (v := 0) hx hb d170 (by decide) ?_
  refine lv_istore_n (lv' := [(1, .int 0), (0, .ref (xa E r0))]) hx hb d171 rfl hl (by decide) rfl (fun ls hl => ?_)
  have h0 : x_by cX7_init 172 [27, 6, 162, 0, 22] := by unfold x_by; decide +kernel
  obtain ⟨d172, h0⟩ := de_iload_n1 h0
  obtain ⟨d173, h0⟩ := de_iconst_3 h0
  obtain ⟨d174, h0⟩ := de_icmp_ge (22) (by decide) h0
  refine lv_iload_n hx hb d172 rfl (lv_at hl 0 rfl) ?_
  refine lv_iconst (v := 3) hx hb d173 (by decide) ?_
  refine lv_icmp_ge (tgt := 196) hx hb d174 (by decide) (fun q => absurd q (by decide)) (fun _ => ?_)
  have h0 : x_by cX7_init 177 [42, 180, 0, 31, 27, 187, 0, 24, 89, 183, 0, 26, 83, 132, 1, 1, 167, 255, 235] := by unfold x_by; decide +kernel
  obtain ⟨d177, h0⟩ := de_aload_n0 h0
  obtain ⟨d178, h0⟩ := de_getfield 31 (by decide) h0
  obtain ⟨d181, h0⟩ := de_iload_n1 h0
  obtain ⟨d182, h0⟩ := de_new 24 (by decide) h0
  obtain ⟨d185, h0⟩ := de_dup h0
  obtain ⟨d186, h0⟩ := de_invokespecial 26 (by decide) h0
  obtain ⟨d189, h0⟩ := de_aastore h0
  obtain ⟨d190, h0⟩ := de_iinc (1) (by decide) h0
  obtain ⟨d193, h0⟩ := de_goto (-21) (by decide) h0
  refine lv_aload_n hx hb d177 rfl (lv_at hl 1 rfl) ?_
  refine x_getR C0 hR hf xcl_7 (Nat.le_of_ble_eq_true rfl) rfl fl_X7_31 d178 (fun a55 hf => ?_)
  refine lv_iload_n hx hb d181 rfl (lv_at hl 0 rfl) ?_
  refine x_newo C0 hR hS hf xcl_4 xok_4 cl_X7_24 cn_4 cz_4 (Nat.le_of_ble_eq_true rfl) (Nat.le_of_ble_eq_true rfl) d182 (fun H a56 hR hS hf => ?_)
  refine lv_dup hx hb d185 rfl ?_
  refine x_thenV C0 hxt hS hf (fun z0 e0 => x_runI C0 hR hS me_X4_init rfl wi_X4_init ml_X7_26 (As := []) (ct_X4_init E l C0.2.2.2.2.2.2.2.1 _ a56) rfl rfl hl.1 (Nat.le_of_ble_eq_true rfl) d186 ⟨(Nat.le_of_ble_eq_true rfl), (Nat.le_of_ble_eq_true rfl)⟩ ⟨(Nat.le_of_ble_eq_true rfl), (Nat.le_of_ble_eq_true rfl)⟩ e0) (Nat.le_of_ble_eq_true rfl) (Nat.le_of_ble_eq_true rfl) (fun h9 H locs hR hS hf => ?_)
  refine x_aast C0 hR hS hf xcl_4 d189 (fun H locs hR hS hf => ?_)
  refine lv_iinc (v := 1) (lv' := [(1, .int 1), (0, .ref (xa E r0))]) hx hb d190 hl (k := 0) rfl (by decide) (by decide) rfl (fun ls hl => ?_)
  refine lv_goto (tgt := 172) hx hb d193 (by decide) ?_
  have h0 : x_by cX7_init 172 [27, 6, 162, 0, 22] := by unfold x_by; decide +kernel
  obtain ⟨d172, h0⟩ := de_iload_n1 h0
  obtain ⟨d173, h0⟩ := de_iconst_3 h0
  obtain ⟨d174, h0⟩ := de_icmp_ge (22) (by decide) h0
  refine lv_iload_n hx hb d172 rfl (lv_at hl 0 rfl) ?_
  refine lv_iconst (v := 3) hx hb d173 (by decide) ?_
  refine lv_icmp_ge (tgt := 196) hx hb d174 (by decide) (fun q => absurd q (by decide)) (fun _ => ?_)
  have h0 : x_by cX7_init 177 [42, 180, 0, 31, 27, 187, 0, 24, 89, 183, 0, 26, 83, 132, 1, 1, 167, 255, 235] := by unfold x_by; decide +kernel
  obtain ⟨d177, h0⟩ := de_aload_n0 h0
  obtain ⟨d178, h0⟩ := de_getfield 31 (by decide) h0
  obtain ⟨d181, h0⟩ := de_iload_n1 h0
  obtain ⟨d182, h0⟩ := de_new 24 (by decide) h0
  obtain ⟨d185, h0⟩ := de_dup h0
  obtain ⟨d186, h0⟩ := de_invokespecial 26 (by decide) h0
  obtain ⟨d189, h0⟩ := de_aastore h0
  obtain ⟨d190, h0⟩ := de_iinc (1) (by decide) h0
  obtain ⟨d193, h0⟩ := de_goto (-21) (by decide) h0
  refine lv_aload_n hx hb d177 rfl (lv_at hl 1 rfl) ?_
  refine x_getR C0 hR hf xcl_7 (Nat.le_of_ble_eq_true rfl) rfl fl_X7_31 d178 (fun a60 hf => ?_)
  refine lv_iload_n hx hb d181 rfl (lv_at hl 0 rfl) ?_
  refine x_newo C0 hR hS hf xcl_4 xok_4 cl_X7_24 cn_4 cz_4 (Nat.le_of_ble_eq_true rfl) (Nat.le_of_ble_eq_true rfl) d182 (fun H a61 hR hS hf => ?_)
  refine lv_dup hx hb d185 rfl ?_
  refine x_thenV C0 hxt hS hf (fun z0 e0 => x_runI C0 hR hS me_X4_init rfl wi_X4_init ml_X7_26 (As := []) (ct_X4_init E l C0.2.2.2.2.2.2.2.1 _ a61) rfl rfl hl.1 (Nat.le_of_ble_eq_true rfl) d186 ⟨(Nat.le_of_ble_eq_true rfl), (Nat.le_of_ble_eq_true rfl)⟩ ⟨(Nat.le_of_ble_eq_true rfl), (Nat.le_of_ble_eq_true rfl)⟩ e0) (Nat.le_of_ble_eq_true rfl) (Nat.le_of_ble_eq_true rfl) (fun h9 H locs hR hS hf => ?_)
  refine x_aast C0 hR hS hf xcl_4 d189 (fun H locs hR hS hf => ?_)
  refine lv_iinc (v := 2) (lv' := [(1, .int 2), (0, .ref (xa E r0))]) hx hb d190 hl (k := 0) rfl (by decide) (by decide) rfl (fun ls hl => ?_)
  refine lv_goto (tgt := 172) hx hb d193 (by decide) ?_
  have h0 : x_by cX7_init 172 [27, 6, 162, 0, 22] := by unfold x_by; decide +kernel
  obtain ⟨d172, h0⟩ := de_iload_n1 h0
  obtain ⟨d173, h0⟩ := de_iconst_3 h0
  obtain ⟨d174, h0⟩ := de_icmp_ge (22) (by decide) h0
  refine lv_iload_n hx hb d172 rfl (lv_at hl 0 rfl) ?_
  refine lv_iconst (v := 3) hx hb d173 (by decide) ?_
  refine lv_icmp_ge (tgt := 196) hx hb d174 (by decide) (fun q => absurd q (by decide)) (fun _ => ?_)
  have h0 : x_by cX7_init 177 [42, 180, 0, 31, 27, 187, 0, 24, 89, 183, 0, 26, 83, 132, 1, 1, 167, 255, 235] := by unfold x_by; decide +kernel
  obtain ⟨d177, h0⟩ := de_aload_n0 h0
  obtain ⟨d178, h0⟩ := de_getfield 31 (by decide) h0
  obtain ⟨d181, h0⟩ := de_iload_n1 h0
  obtain ⟨d182, h0⟩ := de_new 24 (by decide) h0
  obtain ⟨d185, h0⟩ := de_dup h0
  obtain ⟨d186, h0⟩ := de_invokespecial 26 (by decide) h0
  obtain ⟨d189, h0⟩ := de_aastore h0
  obtain ⟨d190, h0⟩ := de_iinc (1) (by decide) h0
  obtain ⟨d193, h0⟩ := de_goto (-21) (by decide) h0
  refine lv_aload_n hx hb d177 rfl (lv_at hl 1 rfl) ?_
  refine x_getR C0 hR hf xcl_7 (Nat.le_of_ble_eq_true rfl) rfl fl_X7_31 d178 (fun a65 hf => ?_)
  refine lv_iload_n hx hb d181 rfl (lv_at hl 0 rfl) ?_
  refine x_newo C0 hR hS hf xcl_4 xok_4 cl_X7_24 cn_4 cz_4 (Nat.le_of_ble_eq_true rfl) (Nat.le_of_ble_eq_true rfl) d182 (fun H a66 hR hS hf => ?_)
  refine lv_dup hx hb d185 rfl ?_
  refine x_thenV C0 hxt hS hf (fun z0 e0 => x_runI C0 hR hS me_X4_init rfl wi_X4_init ml_X7_26 (As := []) (ct_X4_init E l C0.2.2.2.2.2.2.2.1 _ a66) rfl rfl hl.1 (Nat.le_of_ble_eq_true rfl) d186 ⟨(Nat.le_of_ble_eq_true rfl), (Nat.le_of_ble_eq_true rfl)⟩ ⟨(Nat.le_of_ble_eq_true rfl), (Nat.le_of_ble_eq_true rfl)⟩ e0) (Nat.le_of_ble_eq_true rfl) (Nat.le_of_ble_eq_true rfl) (fun h9 H locs hR hS hf => ?_)
  refine x_aast C0 hR hS hf xcl_4 d189 (fun H locs hR hS hf => ?_)
  refine lv_iinc (v := 3) (lv' := [(1, .int 3), (0, .ref (xa E r0))]) hx hb d190 hl (k := 0) rfl (by decide) (by decide) rfl (fun ls hl => ?_)
  refine lv_goto (tgt := 172) hx hb d193 (by decide) ?_
  have h0 : x_by cX7_init 172 [27, 6, 162, 0, 22] := by unfold x_by; decide +kernel
  obtain ⟨d172, h0⟩ := de_iload_n1 h0
  obtain ⟨d173, h0⟩ := de_iconst_3 h0
  obtain ⟨d174, h0⟩ := de_icmp_ge (22) (by decide) h0
  refine lv_iload_n hx hb d172 rfl (lv_at hl 0 rfl) ?_
  refine lv_iconst (v := 3) hx hb d173 (by decide) ?_
  refine lv_icmp_ge (tgt := 196) hx hb d174 (by decide) (fun _ => ?_) (fun q => absurd (by decide) q)
  have h0 : x_by cX7_init 196 [3, 60] := by unfold x_by; decide +kernel
  obtain ⟨d196, h0⟩ := de_iconst_0 h0
  obtain ⟨d197, h0⟩ := de_istore_n1 h0
  refine lv_iconst (v := 0) hx hb d196 (by decide) ?_
  refine lv_istore_n (lv' := [(1, .int 0), (0, .ref (xa E r0))]) hx hb d197 rfl hl (by decide) rfl (fun ls hl => ?_)
  have h0 : x_by cX7_init 198 [27, 16, 8, 162, 0, 22] := by unfold x_by; decide +kernel
  obtain ⟨d198, h0⟩ := de_iload_n1 h0
  obtain ⟨d199, h0⟩ := de_bipush (8) (by decide) h0
  obtain ⟨d201, h0⟩ := de_icmp_ge (22) (by decide) h0
  refine lv_iload_n hx hb d198 rfl (lv_at hl 0 rfl) ?_
  refine lv_bipush (v := 8) hx hb d199 (by decide) ?_
  refine lv_icmp_ge (tgt := 223) hx hb d201 (by decide) (fun q => absurd q (by decide)) (fun _ => ?_)
  have h0 : x_by cX7_init 204 [42, 180, 0, 39, 27, 187, 0, 24, 89, 183, 0, 26, 83, 132, 1, 1, 167, 255, 234] := by unfold x_by; decide +kernel
  obtain ⟨d204, h0⟩ := de_aload_n0 h0
  obtain ⟨d205, h0⟩ := de_getfield 39 (by decide) h0
  obtain ⟨d208, h0⟩ := de_iload_n1 h0
  obtain ⟨d209, h0⟩ := de_new 24 (by decide) h0
  obtain ⟨d212, h0⟩ := de_dup h0
  obtain ⟨d213, h0⟩ := de_invokespecial 26 (by decide) h0
  obtain ⟨d216, h0⟩ := de_aastore h0
  obtain ⟨d217, h0⟩ := de_iinc (1) (by decide) h0
  obtain ⟨d220, h0⟩ := de_goto (-22) (by decide) h0
  refine lv_aload_n hx hb d204 rfl (lv_at hl 1 rfl) ?_
  refine x_getR C0 hR hf xcl_7 (Nat.le_of_ble_eq_true rfl) rfl fl_X7_39 d205 (fun a70 hf => ?_)
  refine lv_iload_n hx hb d208 rfl (lv_at hl 0 rfl) ?_
  refine x_newo C0 hR hS hf xcl_4 xok_4 cl_X7_24 cn_4 cz_4 (Nat.le_of_ble_eq_true rfl) (Nat.le_of_ble_eq_true rfl) d209 (fun H a71 hR hS hf => ?_)
  refine lv_dup hx hb d212 rfl ?_
  refine x_thenV C0 hxt hS hf (fun z0 e0 => x_runI C0 hR hS me_X4_init rfl wi_X4_init ml_X7_26 (As := []) (ct_X4_init E l C0.2.2.2.2.2.2.2.1 _ a71) rfl rfl hl.1 (Nat.le_of_ble_eq_true rfl) d213 ⟨(Nat.le_of_ble_eq_true rfl), (Nat.le_of_ble_eq_true rfl)⟩ ⟨(Nat.le_of_ble_eq_true rfl), (Nat.le_of_ble_eq_true rfl)⟩ e0) (Nat.le_of_ble_eq_true rfl) (Nat.le_of_ble_eq_true rfl) (fun h9 H locs hR hS hf => ?_)
  refine x_aast C0 hR hS hf xcl_4 d216 (fun H locs hR hS hf => ?_)
  refine lv_iinc (v := 1) (lv' := [(1, .int 1), (0, .ref (xa E r0))]) hx hb d217 hl (k := 0) rfl (by decide) (by decide) rfl (fun ls hl => ?_)
  refine lv_goto (tgt := 198) hx hb d220 (by decide) ?_
  have h0 : x_by cX7_init 198 [27, 16, 8, 162, 0, 22] := by unfold x_by; decide +kernel
  obtain ⟨d198, h0⟩ := de_iload_n1 h0
  obtain ⟨d199, h0⟩ := de_bipush (8) (by decide) h0
  obtain ⟨d201, h0⟩ := de_icmp_ge (22) (by decide) h0
  refine lv_iload_n hx hb d198 rfl (lv_at hl 0 rfl) ?_
  refine lv_bipush (v := 8) hx hb d199 (by decide) ?_
  refine lv_icmp_ge (tgt := 223) hx hb d201 (by decide) (fun q => absurd q (by decide)) (fun _ => ?_)
  have h0 : x_by cX7_init 204 [42, 180, 0, 39, 27, 187, 0, 24, 89, 183, 0, 26, 83, 132, 1, 1, 167, 255, 234] := by unfold x_by; decide +kernel
  obtain ⟨d204, h0⟩ := de_aload_n0 h0
  obtain ⟨d205, h0⟩ := de_getfield 39 (by decide) h0
  obtain ⟨d208, h0⟩ := de_iload_n1 h0
  obtain ⟨d209, h0⟩ := de_new 24 (by decide) h0
  obtain ⟨d212, h0⟩ := de_dup h0
  obtain ⟨d213, h0⟩ := de_invokespecial 26 (by decide) h0
  obtain ⟨d216, h0⟩ := de_aastore h0
  obtain ⟨d217, h0⟩ := de_iinc (1) (by decide) h0
  obtain ⟨d220, h0⟩ := de_goto (-22) (by decide) h0
  refine lv_aload_n hx hb d204 rfl (lv_at hl 1 rfl) ?_
  refine x_getR C0 hR hf xcl_7 (Nat.le_of_ble_eq_true rfl) rfl fl_X7_39 d205 (fun a75 hf => ?_)
  refine lv_iload_n hx hb d208 rfl (lv_at hl 0 rfl) ?_
  refine x_newo C0 hR hS hf xcl_4 xok_4 cl_X7_24 cn_4 cz_4 (Nat.le_of_ble_eq_true rfl) (Nat.le_of_ble_eq_true rfl) d209 (fun H a76 hR hS hf => ?_)
  refine lv_dup hx hb d212 rfl ?_
  refine x_thenV C0 hxt hS hf (fun z0 e0 => x_runI C0 hR hS me_X4_init rfl wi_X4_init ml_X7_26 (As := []) (ct_X4_init E l C0.2.2.2.2.2.2.2.1 _ a76) rfl rfl hl.1 (Nat.le_of_ble_eq_true rfl) d213 ⟨(Nat.le_of_ble_eq_true rfl), (Nat.le_of_ble_eq_true rfl)⟩ ⟨(Nat.le_of_ble_eq_true rfl), (Nat.le_of_ble_eq_true rfl)⟩ e0) (Nat.le_of_ble_eq_true rfl) (Nat.le_of_ble_eq_true rfl) (fun h9 H locs hR hS hf => ?_)
  refine x_aast C0 hR hS hf xcl_4 d216 (fun H locs hR hS hf => ?_)
  refine lv_iinc (v := 2) (lv' := [(1, .int 2), (0, .ref (xa E r0))]) hx hb d217 hl (k := 0) rfl (by decide) (by decide) rfl (fun ls hl => ?_)
  refine lv_goto (tgt := 198) hx hb d220 (by decide) ?_
  have h0 : x_by cX7_init 198 [27, 16, 8, 162, 0, 22] := by unfold x_by; decide +kernel
  obtain ⟨d198, h0⟩ := de_iload_n1 h0
  obtain ⟨d199, h0⟩ := de_bipush (8) (by decide) h0
  obtain ⟨d201, h0⟩ := de_icmp_ge (22) (by decide) h0
  refine lv_iload_n hx hb d198 rfl (lv_at hl 0 rfl) ?_
  refine lv_bipush (v := 8) hx hb d199 (by decide) ?_
  refine lv_icmp_ge (tgt := 223) hx hb d201 (by decide) (fun q => absurd q (by decide)) (fun _ => ?_)
  have h0 : x_by cX7_init 204 [42, 180, 0, 39, 27, 187, 0, 24, 89, 183, 0, 26, 83, 132, 1, 1, 167, 255, 234] := by unfold x_by; decide +kernel
  obtain ⟨d204, h0⟩ := de_aload_n0 h0
  obtain ⟨d205, h0⟩ := de_getfield 39 (by decide) h0
  obtain ⟨d208, h0⟩ := de_iload_n1 h0
  obtain ⟨d209, h0⟩ := de_new 24 (by decide) h0
  obtain ⟨d212, h0⟩ := de_dup h0
  obtain ⟨d213, h0⟩ := de_invokespecial 26 (by decide) h0
  obtain ⟨d216, h0⟩ := de_aastore h0
  obtain ⟨d217, h0⟩ := de_iinc (1) (by decide) h0
  obtain ⟨d220, h0⟩ := de_goto (-22) (by decide) h0
  refine lv_aload_n hx hb d204 rfl (lv_at hl 1 rfl) ?_
  refine x_getR C0 hR hf xcl_7 (Nat.le_of_ble_eq_true rfl) rfl fl_X7_39 d205 (fun a80 hf => ?_)
  refine lv_iload_n hx hb d208 rfl (lv_at hl 0 rfl) ?_
  refine x_newo C0 hR hS hf xcl_4 xok_4 cl_X7_24 cn_4 cz_4 (Nat.le_of_ble_eq_true rfl) (Nat.le_of_ble_eq_true rfl) d209 (fun H a81 hR hS hf => ?_)
  refine lv_dup hx hb d212 rfl ?_
  refine x_thenV C0 hxt hS hf (fun z0 e0 => x_runI C0 hR hS me_X4_init rfl wi_X4_init ml_X7_26 (As := []) (ct_X4_init E l C0.2.2.2.2.2.2.2.1 _ a81) rfl rfl hl.1 (Nat.le_of_ble_eq_true rfl) d213 ⟨(Nat.le_of_ble_eq_true rfl), (Nat.le_of_ble_eq_true rfl)⟩ ⟨(Nat.le_of_ble_eq_true rfl), (Nat.le_of_ble_eq_true rfl)⟩ e0) (Nat.le_of_ble_eq_true rfl) (Nat.le_of_ble_eq_true rfl) (fun h9 H locs hR hS hf => ?_)
  refine x_aast C0 hR hS hf xcl_4 d216 (fun H locs hR hS hf => ?_)
  refine lv_iinc (v := 3) (lv' := [(1, .int 3), (0, .ref (xa E r0))]) hx hb d217 hl (k := 0) rfl (by decide) (by decide) rfl (fun ls hl => ?_)
  refine lv_goto (tgt := 198) hx hb d220 (by decide) ?_
  have h0 : x_by cX7_init 198 [27, 16, 8, 162, 0, 22] := by unfold x_by; decide +kernel
  obtain ⟨d198, h0⟩ := de_iload_n1 h0
  obtain ⟨d199, h0⟩ := de_bipush (8) (by decide) h0
  obtain ⟨d201, h0⟩ := de_icmp_ge (22) (by decide) h0
  refine lv_iload_n hx hb d198 rfl (lv_at hl 0 rfl) ?_
  refine lv_bipush (v := 8) hx hb d199 (by decide) ?_
  refine lv_icmp_ge (tgt := 223) hx hb d201 (by decide) (fun q => absurd q (by decide)) (fun _ => ?_)
  have h0 : x_by cX7_init 204 [42, 180, 0, 39, 27, 187, 0, 24, 89, 183, 0, 26, 83, 132, 1, 1, 167, 255, 234] := by unfold x_by; decide +kernel
  obtain ⟨d204, h0⟩ := de_aload_n0 h0
  obtain ⟨d205, h0⟩ := de_getfield 39 (by decide) h0
  obtain ⟨d208, h0⟩ := de_iload_n1 h0
  obtain ⟨d209, h0⟩ := de_new 24 (by decide) h0
  obtain ⟨d212, h0⟩ := de_dup h0
  obtain ⟨d213, h0⟩ := de_invokespecial 26 (by decide) h0
  obtain ⟨d216, h0⟩ := de_aastore h0
  obtain ⟨d217, h0⟩ := de_iinc (1) (by decide) h0
  obtain ⟨d220, h0⟩ := de_goto (-22) (by decide) h0
  refine lv_aload_n hx hb d204 rfl (lv_at hl 1 rfl) ?_
  refine x_getR C0 hR hf xcl_7 (Nat.le_of_ble_eq_true rfl) rfl fl_X7_39 d205 (fun a85 hf => ?_)
  refine lv_iload_n hx hb d208 rfl (lv_at hl 0 rfl) ?_
  refine x_newo C0 hR hS hf xcl_4 xok_4 cl_X7_24 cn_4 cz_4 (Nat.le_of_ble_eq_true rfl) (Nat.le_of_ble_eq_true rfl) d209 (fun H a86 hR hS hf => ?_)
  refine lv_dup hx hb d212 rfl ?_
  refine x_thenV C0 hxt hS hf (fun z0 e0 => x_runI C0 hR hS me_X4_init rfl wi_X4_init ml_X7_26 (As := []) (ct_X4_init E l C0.2.2.2.2.2.2.2.1 _ a86) rfl rfl hl.1 (Nat.le_of_ble_eq_true rfl) d213 ⟨(Nat.le_of_ble_eq_true rfl), (Nat.le_of_ble_eq_true rfl)⟩ ⟨(Nat.le_of_ble_eq_true rfl), (Nat.le_of_ble_eq_true rfl)⟩ e0) (Nat.le_of_ble_eq_true rfl) (Nat.le_of_ble_eq_true rfl) (fun h9 H locs hR hS hf => ?_)
  refine x_aast C0 hR hS hf xcl_4 d216 (fun H locs hR hS hf => ?_)
  refine lv_iinc (v := 4) (lv' := [(1, .int 4), (0, .ref (xa E r0))]) hx hb d217 hl (k := 0) rfl (by decide) (by decide) rfl (fun ls hl => ?_)
  refine lv_goto (tgt := 198) hx hb d220 (by decide) ?_
  have h0 : x_by cX7_init 198 [27, 16, 8, 162, 0, 22] := by unfold x_by; decide +kernel
  obtain ⟨d198, h0⟩ := de_iload_n1 h0
  obtain ⟨d199, h0⟩ := de_bipush (8) (by decide) h0
  obtain ⟨d201, h0⟩ := de_icmp_ge (22) (by decide) h0
  refine lv_iload_n hx hb d198 rfl (lv_at hl 0 rfl) ?_
  refine lv_bipush (v := 8) hx hb d199 (by decide) ?_
  refine lv_icmp_ge (tgt := 223) hx hb d201 (by decide) (fun q => absurd q (by decide)) (fun _ => ?_)
  have h0 : x_by cX7_init 204 [42, 180, 0, 39, 27, 187, 0, 24, 89, 183, 0, 26, 83, 132, 1, 1, 167, 255, 234] := by unfold x_by; decide +kernel
  obtain ⟨d204, h0⟩ := de_aload_n0 h0
  obtain ⟨d205, h0⟩ := de_getfield 39 (by decide) h0
  obtain ⟨d208, h0⟩ := de_iload_n1 h0
  obtain ⟨d209, h0⟩ := de_new 24 (by decide) h0
  obtain ⟨d212, h0⟩ := de_dup h0
  obtain ⟨d213, h0⟩ := de_invokespecial 26 (by decide) h0
  obtain ⟨d216, h0⟩ := de_aastore h0
  obtain ⟨d217, h0⟩ := de_iinc (1) (by decide) h0
  obtain ⟨d220, h0⟩ := de_goto (-22) (by decide) h0
  refine lv_aload_n hx hb d204 rfl (lv_at hl 1 rfl) ?_
  refine x_getR C0 hR hf xcl_7 (Nat.le_of_ble_eq_true rfl) rfl fl_X7_39 d205 (fun a90 hf => ?_)
  refine lv_iload_n hx hb d208 rfl (lv_at hl 0 rfl) ?_
  refine x_newo C0 hR hS hf xcl_4 xok_4 cl_X7_24 cn_4 cz_4 (Nat.le_of_ble_eq_true rfl) (Nat.le_of_ble_eq_true rfl) d209 (fun H a91 hR hS hf => ?_)
  refine lv_dup hx hb d212 rfl ?_
  refine x_thenV C0 hxt hS hf (fun z0 e0 => x_runI C0 hR hS me_X4_init rfl wi_X4_init ml_X7_26 (As := []) (ct_X4_init E l C0.2.2.2.2.2.2.2.1 _ a91) rfl rfl hl.1 (Nat.le_of_ble_eq_true rfl) d213 ⟨(Nat.le_of_ble_eq_true rfl), (Nat.le_of_ble_eq_true rfl)⟩ ⟨(Nat.le_of_ble_eq_true rfl), (Nat.le_of_ble_eq_true rfl)⟩ e0) (Nat.le_of_ble_eq_true rfl) (Nat.le_of_ble_eq_true rfl) (fun h9 H locs hR hS hf => ?_)
  refine x_aast C0 hR hS hf xcl_4 d216 (fun H locs hR hS hf => ?_)
  refine lv_iinc (v := 5) (lv' := [(1, .int 5), (0, .ref (xa E r0))]) hx hb d217 hl (k := 0) rfl (by decide) (by decide) rfl (fun ls hl => ?_)
  refine lv_goto (tgt := 198) hx hb d220 (by decide) ?_
  have h0 : x_by cX7_init 198 [27, 16, 8, 162, 0, 22] := by unfold x_by; decide +kernel
  obtain ⟨d198, h0⟩ := de_iload_n1 h0
  obtain ⟨d199, h0⟩ := de_bipush (8) (by decide) h0
  obtain ⟨d201, h0⟩ := de_icmp_ge (22) (by decide) h0
  refine lv_iload_n hx hb d198 rfl (lv_at hl 0 rfl) ?_
  refine lv_bipush (v := 8) hx hb d199 (by decide) ?_
  refine lv_icmp_ge (tgt := 223) hx hb d201 (by decide) (fun q => absurd q (by decide)) (fun _ => ?_)
  have h0 : x_by cX7_init 204 [42, 180, 0, 39, 27, 187, 0, 24, 89, 183, 0, 26, 83, 132, 1, 1, 167, 255, 234] := by unfold x_by; decide +kernel
  obtain ⟨d204, h0⟩ := de_aload_n0 h0
  obtain ⟨d205, h0⟩ := de_getfield 39 (by decide) h0
  obtain ⟨d208, h0⟩ := de_iload_n1 h0
  obtain ⟨d209, h0⟩ := de_new 24 (by decide) h0
  obtain ⟨d212, h0⟩ := de_dup h0
  obtain ⟨d213, h0⟩ := de_invokespecial 26 (by decide) h0
  obtain ⟨d216, h0⟩ := de_aastore h0
  obtain ⟨d217, h0⟩ := de_iinc (1) (by decide) h0
  obtain ⟨d220, h0⟩ := de_goto (-22) (by decide) h0
  refine lv_aload_n hx hb d204 rfl (lv_at hl 1 rfl) ?_
  refine x_getR C0 hR hf xcl_7 (Nat.le_of_ble_eq_true rfl) rfl fl_X7_39 d205 (fun a95 hf => ?_)
  refine lv_iload_n hx hb d208 rfl (lv_at hl 0 rfl) ?_
  refine x_newo C0 hR hS hf xcl_4 xok_4 cl_X7_24 cn_4 cz_4 (Nat.le_of_ble_eq_true rfl) (Nat.le_of_ble_eq_true rfl) d209 (fun H a96 hR hS hf => ?_)
  refine lv_dup hx hb d212 rfl ?_
  refine x_thenV C0 hxt hS hf (fun z0 e0 => x_runI C0 hR hS me_X4_init rfl wi_X4_init ml_X7_26 (As := []) (ct_X4_init E l C0.2.2.2.2.2.2.2.1 _ a96) rfl rfl hl.1 (Nat.le_of_ble_eq_true rfl) d213 ⟨(Nat.le_of_ble_eq_true rfl), (Nat.le_of_ble_eq_true rfl)⟩ ⟨(Nat.le_of_ble_eq_true rfl), (Nat.le_of_ble_eq_true rfl)⟩ e0) (Nat.le_of_ble_eq_true rfl) (Nat.le_of_ble_eq_true rfl) (fun h9 H locs hR hS hf => ?_)
  refine x_aast C0 hR hS hf xcl_4 d216 (fun H locs hR hS hf => ?_)
  refine lv_iinc (v := 6) (lv' := [(1, .int 6), (0, .ref (xa E r0))]) hx hb d217 hl (k := 0) rfl (by decide) (by decide) rfl (fun ls hl => ?_)
  refine lv_goto (tgt := 198) hx hb d220 (by decide) ?_
  have h0 : x_by cX7_init 198 [27, 16, 8, 162, 0, 22] := by unfold x_by; decide +kernel
  obtain ⟨d198, h0⟩ := de_iload_n1 h0
  obtain ⟨d199, h0⟩ := de_bipush (8) (by decide) h0
  obtain ⟨d201, h0⟩ := de_icmp_ge (22) (by decide) h0
  refine lv_iload_n hx hb d198 rfl (lv_at hl 0 rfl) ?_
  refine lv_bipush (v := 8) hx hb d199 (by decide) ?_
  refine lv_icmp_ge (tgt := 223) hx hb d201 (by decide) (fun q => absurd q (by decide)) (fun _ => ?_)
  have h0 : x_by cX7_init 204 [42, 180, 0, 39, 27, 187, 0, 24, 89, 183, 0, 26, 83, 132, 1, 1, 167, 255, 234] := by unfold x_by; decide +kernel
  obtain ⟨d204, h0⟩ := de_aload_n0 h0
  obtain ⟨d205, h0⟩ := de_getfield 39 (by decide) h0
  obtain ⟨d208, h0⟩ := de_iload_n1 h0
  obtain ⟨d209, h0⟩ := de_new 24 (by decide) h0
  obtain ⟨d212, h0⟩ := de_dup h0
  obtain ⟨d213, h0⟩ := de_invokespecial 26 (by decide) h0
  obtain ⟨d216, h0⟩ := de_aastore h0
  obtain ⟨d217, h0⟩ := de_iinc (1) (by decide) h0
  obtain ⟨d220, h0⟩ := de_goto (-22) (by decide) h0
  refine lv_aload_n hx hb d204 rfl (lv_at hl 1 rfl) ?_
  refine x_getR C0 hR hf xcl_7 (Nat.le_of_ble_eq_true rfl) rfl fl_X7_39 d205 (fun a100 hf => ?_)
  refine lv_iload_n hx hb d208 rfl (lv_at hl 0 rfl) ?_
  refine x_newo C0 hR hS hf xcl_4 xok_4 cl_X7_24 cn_4 cz_4 (Nat.le_of_ble_eq_true rfl) (Nat.le_of_ble_eq_true rfl) d209 (fun H a101 hR hS hf => ?_)
  refine lv_dup hx hb d212 rfl ?_
  refine x_thenV C0 hxt hS hf (fun z0 e0 => x_runI C0 hR hS me_X4_init rfl wi_X4_init ml_X7_26 (As := []) (ct_X4_init E l C0.2.2.2.2.2.2.2.1 _ a101) rfl rfl hl.1 (Nat.le_of_ble_eq_true rfl) d213 ⟨(Nat.le_of_ble_eq_true rfl), (Nat.le_of_ble_eq_true rfl)⟩ ⟨(Nat.le_of_ble_eq_true rfl), (Nat.le_of_ble_eq_true rfl)⟩ e0) (Nat.le_of_ble_eq_true rfl) (Nat.le_of_ble_eq_true rfl) (fun h9 H locs hR hS hf => ?_)
  refine x_aast C0 hR hS hf xcl_4 d216 (fun H locs hR hS hf => ?_)
  refine lv_iinc (v := 7) (lv' := [(1, .int 7), (0, .ref (xa E r0))]) hx hb d217 hl (k := 0) rfl (by decide) (by decide) rfl (fun ls hl => ?_)
  refine lv_goto (tgt := 198) hx hb d220 (by decide) ?_
  have h0 : x_by cX7_init 198 [27, 16, 8, 162, 0, 22] := by unfold x_by; decide +kernel
  obtain ⟨d198, h0⟩ := de_iload_n1 h0
  obtain ⟨d199, h0⟩ := de_bipush (8) (by decide) h0
  obtain ⟨d201, h0⟩ := de_icmp_ge (22) (by decide) h0
  refine lv_iload_n hx hb d198 rfl (lv_at hl 0 rfl) ?_
  refine lv_bipush (v := 8) hx hb d199 (by decide) ?_
  refine lv_icmp_ge (tgt := 223) hx hb d201 (by decide) (fun q => absurd q (by decide)) (fun _ => ?_)
  have h0 : x_by cX7_init 204 [42, 180, 0, 39, 27, 187, 0, 24, 89, 183, 0, 26, 83, 132, 1, 1, 167, 255, 234] := by unfold x_by; decide +kernel
  obtain ⟨d204, h0⟩ := de_aload_n0 h0
  obtain ⟨d205, h0⟩ := de_getfield 39 (by decide) h0
  obtain ⟨d208, h0⟩ := de_iload_n1 h0
  obtain ⟨d209, h0⟩ := de_new 24 (by decide) h0
  obtain ⟨d212, h0⟩ := de_dup h0
  obtain ⟨d213, h0⟩ := de_invokespecial 26 (by decide) h0
  obtain ⟨d216, h0⟩ := de_aastore h0
  obtain ⟨d217, h0⟩ := de_iinc (1) (by decide) h0
  obtain ⟨d220, h0⟩ := de_goto (-22) (by decide) h0
  refine lv_aload_n hx hb d204 rfl (lv_at hl 1 rfl) ?_
  refine x_getR C0 hR hf xcl_7 (Nat.le_of_ble_eq_true rfl) rfl fl_X7_39 d205 (fun a105 hf => ?_)
  refine lv_iload_n hx hb d208 rfl (lv_at hl 0 rfl) ?_
  refine x_newo C0 hR hS hf xcl_4 xok_4 cl_X7_24 cn_4 cz_4 (Nat.le_of_ble_eq_true rfl) (Nat.le_of_ble_eq_true rfl) d209 (fun H a106 hR hS hf => ?_)
  refine lv_dup hx hb d212 rfl ?_
  refine x_thenV C0 hxt hS hf (fun z0 e0 => x_runI C0 hR hS me_X4_init rfl wi_X4_init ml_X7_26 (As := []) (ct_X4_init E l C0.2.2.2.2.2.2.2.1 _ a106) rfl rfl hl.1 (Nat.le_of_ble_eq_true rfl) d213 ⟨(Nat.le_of_ble_eq_true rfl), (Nat.le_of_ble_eq_true rfl)⟩ ⟨(Nat.le_of_ble_eq_true rfl), (Nat.le_of_ble_eq_true rfl)⟩ e0) (Nat.le_of_ble_eq_true rfl) (Nat.le_of_ble_eq_true rfl) (fun h9 H locs hR hS hf => ?_)
  refine x_aast C0 hR hS hf xcl_4 d216 (fun H locs hR hS hf => ?_)
  refine lv_iinc (v := 8) (lv' := [(1, .int 8), (0, .ref (xa E r0))]) hx hb d217 hl (k := 0) rfl (by decide) (by decide) rfl (fun ls hl => ?_)
  refine lv_goto (tgt := 198) hx hb d220 (by decide) ?_
  have h0 : x_by cX7_init 198 [27, 16, 8, 162, 0, 22] := by unfold x_by; decide +kernel
  obtain ⟨d198, h0⟩ := de_iload_n1 h0
  obtain ⟨d199, h0⟩ := de_bipush (8) (by decide) h0
  obtain ⟨d201, h0⟩ := de_icmp_ge (22) (by decide) h0
  refine lv_iload_n hx hb d198 rfl (lv_at hl 0 rfl) ?_
  refine lv_bipush (v := 8) hx hb d199 (by decide) ?_
  refine lv_icmp_ge (tgt := 223) hx hb d201 (by decide) (fun _ => ?_) (fun q => absurd (by decide) q)
  have h0 : x_by cX7_init 223 [177] := by unfold x_by; decide +kernel
  obtain ⟨d223, h0⟩ := de_return h0
  exact x_vret C0 hR hS hf (Nat.le_of_ble_eq_true rfl) (Nat.le_of_ble_eq_true rfl) d223
def f_X7_feed_b19  (h : HP)  : Option XR :=
  some (h_dirty h, xt "java/lang/IllegalStateException")
def f_X7_feed (h : HP) (r0 : Nat) (x1 : Int32) : Option XR :=
  x_gI h r0 7 1 fun i1 =>
  if i1 < 0 then
    (
      f_X7_feed_b19 h
    )
  else
    (
      x_gI h r0 7 1 fun i2 =>
      x_gR h r0 7 0 fun a3 =>
      x_ln h a3 fun i4 =>
      if i2 < i4 then
        (
          x_gR h r0 7 0 fun a5 =>
          x_gI h r0 7 1 fun i6 =>
          x_sC h a5 i6 x1 fun h7 =>
          x_gI h7 r0 7 1 fun i8 =>
          x_pI h7 r0 7 1 (i8 + 1) fun h9 =>
          x_gI h9 r0 7 1 fun i10 =>
          some (h9, xi i10)
        )
      else
        (
          f_X7_feed_b19 h
        )
    )
set_option maxRecDepth 100000 in
set_option maxHeartbeats 4000000 in
theorem s_X7_feed_b19 {p : Program} {l : Launch} {e : Env} {s : State} {m : MethodId} {args : Array Value} {below : List Frame} {meth : Method} {c : Code} {E : XE} {z : XR} (C0 : x_C E p l s m meth c args cX7_feed 2 "GridEngine" "feed" (some .int)) (hxt : ∀ x ∈ c.exceptionTable.toList, False)  : ∀ (h : HP)  (H : Heap) (locs : List Loc) (ls : Array Slot), x_Rep E h H → va_S (x_A E) s.heap H locs → lv_has ls 2 [] → f_X7_feed_b19 h  = some z → W p l e ({ frames := 8, cells := 1, slots := 6, locals := 130 } : Room) s m args below meth c H locs 0 0 (x_Q E below args s 1 6 z) (F0 m 19 ls []) := by
  intro h  H locs ls hR hS hl hf
  obtain ⟨hx, hb, -⟩ := id C0
  unfold f_X7_feed_b19 at hf
  have h0 : x_by cX7_feed 19 [187, 0, 96, 89, 18, 98, 183, 0, 100, 191] := by unfold x_by; decide +kernel
  obtain ⟨d19, h0⟩ := de_new 96 (by decide) h0
  obtain ⟨d22, h0⟩ := de_dup h0
  obtain ⟨d23, h0⟩ := de_ldc h0
  obtain ⟨d25, h0⟩ := de_invokespecial 100 (by decide) h0
  obtain ⟨d28, h0⟩ := de_athrow h0
  exact x_throw C0 hxt hR hS hf (by decide +kernel) cl_X7_96 cz_IllegalStateException sr_X7_98 th_X7_100 hl.1 d19 d22 d23 d25 d28 (Nat.le_of_ble_eq_true rfl) (Nat.le_of_ble_eq_true rfl) (Nat.le_of_ble_eq_true rfl) (Nat.le_of_ble_eq_true rfl) (Nat.le_of_ble_eq_true rfl) (Nat.le_of_ble_eq_true rfl)
set_option maxRecDepth 100000 in
set_option maxHeartbeats 4000000 in
theorem ct_X7_feed (E : XE) (l : Launch) (hl0 : l.stackTraces = false) (h : HP) (r0 : Nat) (x1 : Int32) : x_ct E l yX7_feed (Cond.code yX7_feed cX7_feed 2 (some .int)) 8 130 1 6 [.ref (xa E r0), .int x1] h (f_X7_feed h r0 x1) := by
  refine x_ofW hl0 (by decide +kernel) ?_
  intro z hf p e s m args below meth c C0 hxt hargs hR
  subst hargs
  have C0 : x_C E p l s m meth c ([.ref (xa E r0), .int x1] : List Value).toArray cX7_feed 2 "GridEngine" "feed" (some .int) := C0
  obtain ⟨hx, hb, -⟩ := id C0
  have hS : va_S (x_A E) s.heap s.heap [] := va_S.rf
  have hl := lv_entry ([.ref (xa E r0), .int x1]) (n := 2) (Nat.le_of_ble_eq_true rfl)
  rw [lg_entry_eq]
  generalize (lg_sl ([.ref (xa E r0), .int x1]) ++ List.replicate (2 - (lg_sl ([.ref (xa E r0), .int x1])).length) Slot.unset).toArray = ls at hl ⊢
  have hl : lv_has ls 2 [(0, .ref (xa E r0)), (1, .int x1)] := hl
  unfold f_X7_feed at hf
  have h0 : x_by cX7_feed 0 [42, 180, 0, 13, 155, 0, 15] := by unfold x_by; decide +kernel
  obtain ⟨d0, h0⟩ := de_aload_n0 h0
  obtain ⟨d1, h0⟩ := de_getfield 13 (by decide) h0
  obtain ⟨d4, h0⟩ := de_if_lt (15) (by decide) h0
  refine lv_aload_n hx hb d0 rfl (lv_at hl 0 rfl) ?_
  refine x_getI C0 hR hf xcl_7 (Nat.le_of_ble_eq_true rfl) rfl fl_X7_13 d1 (fun i1 hf => ?_)
  refine lv_if_lt (tgt := 19) hx hb d4 (by decide) (fun q => ?_) (fun q => ?_)
  · have hf := x_pos q hf
    exact s_X7_feed_b19 C0 hxt _ _ _ _ hR hS (lv_sub hl [] rfl) hf
  · have hf := x_neg q hf
    have h0 : x_by cX7_feed 7 [42, 180, 0, 13, 42, 180, 0, 9, 190, 161, 0, 13] := by unfold x_by; decide +kernel
    obtain ⟨d7, h0⟩ := de_aload_n0 h0
    obtain ⟨d8, h0⟩ := de_getfield 13 (by decide) h0
    obtain ⟨d11, h0⟩ := de_aload_n0 h0
    obtain ⟨d12, h0⟩ := de_getfield 9 (by decide) h0
    obtain ⟨d15, h0⟩ := de_arraylength h0
    obtain ⟨d16, h0⟩ := de_icmp_lt (13) (by decide) h0
    refine lv_aload_n hx hb d7 rfl (lv_at hl 0 rfl) ?_
    refine x_getI C0 hR hf xcl_7 (Nat.le_of_ble_eq_true rfl) rfl fl_X7_13 d8 (fun i2 hf => ?_)
    refine lv_aload_n hx hb d11 rfl (lv_at hl 0 rfl) ?_
    refine x_getR C0 hR hf xcl_7 (Nat.le_of_ble_eq_true rfl) rfl fl_X7_9 d12 (fun a3 hf => ?_)
    refine x_alen C0 hR hf d15 (fun i4 hf => ?_)
    refine lv_icmp_lt (tgt := 29) hx hb d16 (by decide) (fun q => ?_) (fun q => ?_)
    · have hf := x_pos q hf
      have h0 : x_by cX7_feed 29 [42, 180, 0, 9, 42, 180, 0, 13, 27, 85, 42, 89, 180, 0, 13, 4, 96, 181, 0, 13, 42, 180, 0, 13, 172] := by unfold x_by; decide +kernel
      obtain ⟨d29, h0⟩ := de_aload_n0 h0
      obtain ⟨d30, h0⟩ := de_getfield 9 (by decide) h0
      obtain ⟨d33, h0⟩ := de_aload_n0 h0
      obtain ⟨d34, h0⟩ := de_getfield 13 (by decide) h0
      obtain ⟨d37, h0⟩ := de_iload_n1 h0
      obtain ⟨d38, h0⟩ := de_castore h0
      obtain ⟨d39, h0⟩ := de_aload_n0 h0
      obtain ⟨d40, h0⟩ := de_dup h0
      obtain ⟨d41, h0⟩ := de_getfield 13 (by decide) h0
      obtain ⟨d44, h0⟩ := de_iconst_1 h0
      obtain ⟨d45, h0⟩ := de_iadd h0
      obtain ⟨d46, h0⟩ := de_putfield 13 (by decide) h0
      obtain ⟨d49, h0⟩ := de_aload_n0 h0
      obtain ⟨d50, h0⟩ := de_getfield 13 (by decide) h0
      obtain ⟨d53, h0⟩ := de_ireturn h0
      refine lv_aload_n hx hb d29 rfl (lv_at hl 0 rfl) ?_
      refine x_getR C0 hR hf xcl_7 (Nat.le_of_ble_eq_true rfl) rfl fl_X7_9 d30 (fun a5 hf => ?_)
      refine lv_aload_n hx hb d33 rfl (lv_at hl 0 rfl) ?_
      refine x_getI C0 hR hf xcl_7 (Nat.le_of_ble_eq_true rfl) rfl fl_X7_13 d34 (fun i6 hf => ?_)
      refine lv_iload_n hx hb d37 rfl (lv_at hl 1 rfl) ?_
      refine x_cast C0 hR hS hf d38 (fun H locs hR hS hf => ?_)
      refine lv_aload_n hx hb d39 rfl (lv_at hl 0 rfl) ?_
      refine lv_dup hx hb d40 rfl ?_
      refine x_getI C0 hR hf xcl_7 (Nat.le_of_ble_eq_true rfl) rfl fl_X7_13 d41 (fun i8 hf => ?_)
      refine lv_iconst (v := 1) hx hb d44 (by decide) ?_
      refine lv_iadd hx hb d45 ?_
      refine x_putI C0 hR hS hf xcl_7 (Nat.le_of_ble_eq_true rfl) rfl fl_X7_13 (Or.inl rfl) d46 (fun H locs hR hS hf => ?_)
      refine lv_aload_n hx hb d49 rfl (lv_at hl 0 rfl) ?_
      refine x_getI C0 hR hf xcl_7 (Nat.le_of_ble_eq_true rfl) rfl fl_X7_13 d50 (fun i10 hf => ?_)
      exact x_iret C0 hR hS hf (Nat.le_of_ble_eq_true rfl) (Nat.le_of_ble_eq_true rfl) d53
    · have hf := x_neg q hf
      exact s_X7_feed_b19 C0 hxt _ _ _ _ hR hS (lv_sub hl [] rfl) hf
def f_X7_checkAxis_b9  (h : HP)  : Option XR :=
  some (h_dirty h, xt "java/lang/IllegalArgumentException")
def f_X7_checkAxis (h : HP) (x0 : Int32) : Option XR :=
  if x0 < 0 then
    (
      f_X7_checkAxis_b9 h
    )
  else
    (
      if x0 < 2 then
        (
          some (h, xv)
        )
      else
        (
          f_X7_checkAxis_b9 h
        )
    )
set_option maxRecDepth 100000 in
set_option maxHeartbeats 4000000 in
theorem s_X7_checkAxis_b9 {p : Program} {l : Launch} {e : Env} {s : State} {m : MethodId} {args : Array Value} {below : List Frame} {meth : Method} {c : Code} {E : XE} {z : XR} (C0 : x_C E p l s m meth c args cX7_checkAxis 1 "GridEngine" "checkAxis" none) (hxt : ∀ x ∈ c.exceptionTable.toList, False)  : ∀ (h : HP)  (H : Heap) (locs : List Loc) (ls : Array Slot), x_Rep E h H → va_S (x_A E) s.heap H locs → lv_has ls 1 [] → f_X7_checkAxis_b9 h  = some z → W p l e ({ frames := 8, cells := 1, slots := 6, locals := 130 } : Room) s m args below meth c H locs 0 0 (x_Q E below args s 1 6 z) (F0 m 9 ls []) := by
  intro h  H locs ls hR hS hl hf
  obtain ⟨hx, hb, -⟩ := id C0
  unfold f_X7_checkAxis_b9 at hf
  have h0 : x_by cX7_checkAxis 9 [187, 0, 149, 89, 19, 1, 4, 183, 0, 153, 191] := by unfold x_by; decide +kernel
  obtain ⟨d9, h0⟩ := de_new 149 (by decide) h0
  obtain ⟨d12, h0⟩ := de_dup h0
  obtain ⟨d13, h0⟩ := de_ldc_w 260 (by decide) h0
  obtain ⟨d16, h0⟩ := de_invokespecial 153 (by decide) h0
  obtain ⟨d19, h0⟩ := de_athrow h0
  exact x_throwW C0 hxt hR hS hf (by decide +kernel) cl_X7_149 cz_IllegalArgumentException sr_X7_260 th_X7_153 hl.1 d9 d12 d13 d16 d19 (Nat.le_of_ble_eq_true rfl) (Nat.le_of_ble_eq_true rfl) (Nat.le_of_ble_eq_true rfl) (Nat.le_of_ble_eq_true rfl) (Nat.le_of_ble_eq_true rfl) (Nat.le_of_ble_eq_true rfl)
set_option maxRecDepth 100000 in
set_option maxHeartbeats 4000000 in
theorem ct_X7_checkAxis (E : XE) (l : Launch) (hl0 : l.stackTraces = false) (h : HP) (x0 : Int32) : x_ct E l yX7_checkAxis (Cond.code yX7_checkAxis cX7_checkAxis 1 none) 8 130 1 6 [.int x0] h (f_X7_checkAxis h x0) := by
  refine x_ofW hl0 (by decide +kernel) ?_
  intro z hf p e s m args below meth c C0 hxt hargs hR
  subst hargs
  have C0 : x_C E p l s m meth c ([.int x0] : List Value).toArray cX7_checkAxis 1 "GridEngine" "checkAxis" none := C0
  obtain ⟨hx, hb, -⟩ := id C0
  have hS : va_S (x_A E) s.heap s.heap [] := va_S.rf
  have hl := lv_entry ([.int x0]) (n := 1) (Nat.le_of_ble_eq_true rfl)
  rw [lg_entry_eq]
  generalize (lg_sl ([.int x0]) ++ List.replicate (1 - (lg_sl ([.int x0])).length) Slot.unset).toArray = ls at hl ⊢
  have hl : lv_has ls 1 [(0, .int x0)] := hl
  unfold f_X7_checkAxis at hf
  have h0 : x_by cX7_checkAxis 0 [26, 155, 0, 8] := by unfold x_by; decide +kernel
  obtain ⟨d0, h0⟩ := de_iload_n0 h0
  obtain ⟨d1, h0⟩ := de_if_lt (8) (by decide) h0
  refine lv_iload_n hx hb d0 rfl (lv_at hl 0 rfl) ?_
  refine lv_if_lt (tgt := 9) hx hb d1 (by decide) (fun q => ?_) (fun q => ?_)
  · have hf := x_pos q hf
    exact s_X7_checkAxis_b9 C0 hxt _ _ _ _ hR hS (lv_sub hl [] rfl) hf
  · have hf := x_neg q hf
    have h0 : x_by cX7_checkAxis 4 [26, 5, 161, 0, 14] := by unfold x_by; decide +kernel
    obtain ⟨d4, h0⟩ := de_iload_n0 h0
    obtain ⟨d5, h0⟩ := de_iconst_2 h0
    obtain ⟨d6, h0⟩ := de_icmp_lt (14) (by decide) h0
    refine lv_iload_n hx hb d4 rfl (lv_at hl 0 rfl) ?_
    refine lv_iconst (v := 2) hx hb d5 (by decide) ?_
    refine lv_icmp_lt (tgt := 20) hx hb d6 (by decide) (fun q => ?_) (fun q => ?_)
    · have hf := x_pos q hf
      have h0 : x_by cX7_checkAxis 20 [177] := by unfold x_by; decide +kernel
      obtain ⟨d20, h0⟩ := de_return h0
      exact x_vret C0 hR hS hf (Nat.le_of_ble_eq_true rfl) (Nat.le_of_ble_eq_true rfl) d20
    · have hf := x_neg q hf
      exact s_X7_checkAxis_b9 C0 hxt _ _ _ _ hR hS (lv_sub hl [] rfl) hf
def f_X7_checkText (h : HP) (r0 : Nat) : Option XR :=
  x_gR h r0 7 2 fun a1 =>
  x_gI h a1 6 5 fun i2 =>
  if i2 = 0 then
    (
      x_gR h r0 7 2 fun a3 =>
      x_gI h a3 6 6 fun i4 =>
      if i4 ≤ 12 then
        (
          some (h, xv)
        )
      else
        (
          some (h_dirty h, xt "java/lang/IllegalStateException")
        )
    )
  else
    (
      some (h_dirty h, xt "java/lang/IllegalArgumentException")
    )
set_option maxRecDepth 100000 in
set_option maxHeartbeats 4000000 in
theorem ct_X7_checkText (E : XE) (l : Launch) (hl0 : l.stackTraces = false) (h : HP) (r0 : Nat) : x_ct E l yX7_checkText (Cond.code yX7_checkText cX7_checkText 1 none) 8 130 1 6 [.ref (xa E r0)] h (f_X7_checkText h r0) := by
  refine x_ofW hl0 (by decide +kernel) ?_
  intro z hf p e s m args below meth c C0 hxt hargs hR
  subst hargs
  have C0 : x_C E p l s m meth c ([.ref (xa E r0)] : List Value).toArray cX7_checkText 1 "GridEngine" "checkText" none := C0
  obtain ⟨hx, hb, -⟩ := id C0
  have hS : va_S (x_A E) s.heap s.heap [] := va_S.rf
  have hl := lv_entry ([.ref (xa E r0)]) (n := 1) (Nat.le_of_ble_eq_true rfl)
  rw [lg_entry_eq]
  generalize (lg_sl ([.ref (xa E r0)]) ++ List.replicate (1 - (lg_sl ([.ref (xa E r0)])).length) Slot.unset).toArray = ls at hl ⊢
  have hl : lv_has ls 1 [(0, .ref (xa E r0))] := hl
  unfold f_X7_checkText at hf
  have h0 : x_by cX7_checkText 0 [42, 180, 0, 20, 180, 1, 19, 153, 0, 14] := by unfold x_by; decide +kernel
  obtain ⟨d0, h0⟩ := de_aload_n0 h0
  obtain ⟨d1, h0⟩ := de_getfield 20 (by decide) h0
  obtain ⟨d4, h0⟩ := de_getfield 275 (by decide) h0
  obtain ⟨d7, h0⟩ := de_if_eq (14) (by decide) h0
  refine lv_aload_n hx hb d0 rfl (lv_at hl 0 rfl) ?_
  refine x_getR C0 hR hf xcl_7 (Nat.le_of_ble_eq_true rfl) rfl fl_X7_20 d1 (fun a1 hf => ?_)
  refine x_getI C0 hR hf xcl_6 (Nat.le_of_ble_eq_true rfl) rfl fl_X7_275 d4 (fun i2 hf => ?_)
  refine lv_if_eq (tgt := 21) hx hb d7 (by decide) (fun q => ?_) (fun q => ?_)
  · have hf := x_pos q hf
    have h0 : x_by cX7_checkText 21 [42, 180, 0, 20, 180, 0, 124, 16, 12, 164, 0, 14] := by unfold x_by; decide +kernel
    obtain ⟨d21, h0⟩ := de_aload_n0 h0
    obtain ⟨d22, h0⟩ := de_getfield 20 (by decide) h0
    obtain ⟨d25, h0⟩ := de_getfield 124 (by decide) h0
    obtain ⟨d28, h0⟩ := de_bipush (12) (by decide) h0
    obtain ⟨d30, h0⟩ := de_icmp_le (14) (by decide) h0
    refine lv_aload_n hx hb d21 rfl (lv_at hl 0 rfl) ?_
    refine x_getR C0 hR hf xcl_7 (Nat.le_of_ble_eq_true rfl) rfl fl_X7_20 d22 (fun a3 hf => ?_)
    refine x_getI C0 hR hf xcl_6 (Nat.le_of_ble_eq_true rfl) rfl fl_X7_124 d25 (fun i4 hf => ?_)
    refine lv_bipush (v := 12) hx hb d28 (by decide) ?_
    refine lv_icmp_le (tgt := 44) hx hb d30 (by decide) (fun q => ?_) (fun q => ?_)
    · have hf := x_pos q hf
      have h0 : x_by cX7_checkText 44 [177] := by unfold x_by; decide +kernel
      obtain ⟨d44, h0⟩ := de_return h0
      exact x_vret C0 hR hS hf (Nat.le_of_ble_eq_true rfl) (Nat.le_of_ble_eq_true rfl) d44
    · have hf := x_neg q hf
      have h0 : x_by cX7_checkText 33 [187, 0, 96, 89, 19, 1, 24, 183, 0, 100, 191] := by unfold x_by; decide +kernel
      obtain ⟨d33, h0⟩ := de_new 96 (by decide) h0
      obtain ⟨d36, h0⟩ := de_dup h0
      obtain ⟨d37, h0⟩ := de_ldc_w 280 (by decide) h0
      obtain ⟨d40, h0⟩ := de_invokespecial 100 (by decide) h0
      obtain ⟨d43, h0⟩ := de_athrow h0
      exact x_throwW C0 hxt hR hS hf (by decide +kernel) cl_X7_96 cz_IllegalStateException sr_X7_280 th_X7_100 hl.1 d33 d36 d37 d40 d43 (Nat.le_of_ble_eq_true rfl) (Nat.le_of_ble_eq_true rfl) (Nat.le_of_ble_eq_true rfl) (Nat.le_of_ble_eq_true rfl) (Nat.le_of_ble_eq_true rfl) (Nat.le_of_ble_eq_true rfl)
  · have hf := x_neg q hf
    have h0 : x_by cX7_checkText 10 [187, 0, 149, 89, 19, 1, 22, 183, 0, 153, 191] := by unfold x_by; decide +kernel
    obtain ⟨d10, h0⟩ := de_new 149 (by decide) h0
    obtain ⟨d13, h0⟩ := de_dup h0
    obtain ⟨d14, h0⟩ := de_ldc_w 278 (by decide) h0
    obtain ⟨d17, h0⟩ := de_invokespecial 153 (by decide) h0
    obtain ⟨d20, h0⟩ := de_athrow h0
    exact x_throwW C0 hxt hR hS hf (by decide +kernel) cl_X7_149 cz_IllegalArgumentException sr_X7_278 th_X7_153 hl.1 d10 d13 d14 d17 d20 (Nat.le_of_ble_eq_true rfl) (Nat.le_of_ble_eq_true rfl) (Nat.le_of_ble_eq_true rfl) (Nat.le_of_ble_eq_true rfl) (Nat.le_of_ble_eq_true rfl) (Nat.le_of_ble_eq_true rfl)
def f_X7_rememberChange_b36  (h : HP) (t0 : Int32) (t1 : Nat) (r0 : Nat) : Option XR :=
  x_pI h t1 7 7 t0 fun h1 =>
  x_gI h1 r0 7 8 fun i2 =>
  x_pI h1 r0 7 8 (if 8 < (i2 + 1) then 8 else (i2 + 1)) fun h3 =>
  x_pZ h3 r0 7 15 0 fun h4 =>
  some (h4, xv)
def f_X7_rememberChange (h : HP) (r0 : Nat) : Option XR :=
  x_gR h r0 7 6 fun a1 =>
  x_gI h r0 7 7 fun i2 =>
  x_aR h 104 a1 i2 fun a3 =>
  x_gR h r0 7 3 fun a4 =>
  x_rc h a3 4 <| x_cV (f_X4_copyFrom h a3 a4) fun h5 =>
  x_gI h5 r0 7 7 fun i6 =>
  if 7 ≤ i6 then
    (
      f_X7_rememberChange_b36 h5 0 r0 r0
    )
  else
    (
      x_gI h5 r0 7 7 fun i7 =>
      f_X7_rememberChange_b36 h5 (i7 + 1) r0 r0
    )
set_option maxRecDepth 100000 in
set_option maxHeartbeats 4000000 in
theorem s_X7_rememberChange_b36 {p : Program} {l : Launch} {e : Env} {s : State} {m : MethodId} {args : Array Value} {below : List Frame} {meth : Method} {c : Code} {E : XE} {z : XR} (C0 : x_C E p l s m meth c args cX7_rememberChange 1 "GridEngine" "rememberChange" none) (hxt : ∀ x ∈ c.exceptionTable.toList, False)  : ∀ (h : HP) (t0 : Int32) (t1 : Nat) (r0 : Nat) (H : Heap) (locs : List Loc) (ls : Array Slot), x_Rep E h H → va_S (x_A E) s.heap H locs → lv_has ls 1 [(0, .ref (xa E r0))] → f_X7_rememberChange_b36 h t0 t1 r0 = some z → W p l e ({ frames := 9, cells := 0, slots := 0, locals := 151 } : Room) s m args below meth c H locs 0 0 (x_Q E below args s 0 0 z) (F0 m 36 ls [.int t0, .ref (xa E t1)]) := by
  intro h t0 t1 r0 H locs ls hR hS hl hf
  obtain ⟨hx, hb, -⟩ := id C0
  unfold f_X7_rememberChange_b36 at hf
  have h0 : x_by cX7_rememberChange 36 [181, 0, 42, 42, 42, 180, 0, 45, 4, 96, 16, 8, 184, 1, 26, 181, 0, 45, 42, 3, 181, 0, 92, 177] := by unfold x_by; decide +kernel
  obtain ⟨d36, h0⟩ := de_putfield 42 (by decide) h0
  obtain ⟨d39, h0⟩ := de_aload_n0 h0
  obtain ⟨d40, h0⟩ := de_aload_n0 h0
  obtain ⟨d41, h0⟩ := de_getfield 45 (by decide) h0
  obtain ⟨d44, h0⟩ := de_iconst_1 h0
  obtain ⟨d45, h0⟩ := de_iadd h0
  obtain ⟨d46, h0⟩ := de_bipush (8) (by decide) h0
  obtain ⟨d48, h0⟩ := de_invokestatic 282 (by decide) h0
  obtain ⟨d51, h0⟩ := de_putfield 45 (by decide) h0
  obtain ⟨d54, h0⟩ := de_aload_n0 h0
  obtain ⟨d55, h0⟩ := de_iconst_0 h0
  obtain ⟨d56, h0⟩ := de_putfield 92 (by decide) h0
  obtain ⟨d59, h0⟩ := de_return h0
  refine x_putI C0 hR hS hf xcl_7 (Nat.le_of_ble_eq_true rfl) rfl fl_X7_42 (Or.inl rfl) d36 (fun H locs hR hS hf => ?_)
  refine lv_aload_n hx hb d39 rfl (lv_at hl 0 rfl) ?_
  refine lv_aload_n hx hb d40 rfl (lv_at hl 0 rfl) ?_
  refine x_getI C0 hR hf xcl_7 (Nat.le_of_ble_eq_true rfl) rfl fl_X7_45 d41 (fun i2 hf => ?_)
  refine lv_iconst (v := 1) hx hb d44 (by decide) ?_
  refine lv_iadd hx hb d45 ?_
  refine lv_bipush (v := 8) hx hb d46 (by decide) ?_
  refine x_mmin C0 hl.1 ml_X7_282 lib_min (Nat.le_of_ble_eq_true rfl) (Nat.le_of_ble_eq_true rfl) (Nat.le_of_ble_eq_true rfl) (Nat.le_of_ble_eq_true rfl) d48 ?_
  refine x_putI C0 hR hS hf xcl_7 (Nat.le_of_ble_eq_true rfl) rfl fl_X7_45 (Or.inl rfl) d51 (fun H locs hR hS hf => ?_)
  refine lv_aload_n hx hb d54 rfl (lv_at hl 0 rfl) ?_
  refine lv_iconst (v := 0) hx hb d55 (by decide) ?_
  refine x_putZ C0 hR hS hf xcl_7 (Nat.le_of_ble_eq_true rfl) rfl fl_X7_92 (Or.inl rfl) d56 (fun H locs hR hS hf => ?_)
  exact x_vret C0 hR hS hf (Nat.le_of_ble_eq_true rfl) (Nat.le_of_ble_eq_true rfl) d59
set_option maxRecDepth 100000 in
set_option maxHeartbeats 4000000 in
theorem ct_X7_rememberChange (E : XE) (l : Launch) (hl0 : l.stackTraces = false) (h : HP) (r0 : Nat) : x_ct E l yX7_rememberChange (Cond.code yX7_rememberChange cX7_rememberChange 1 none) 9 151 0 0 [.ref (xa E r0)] h (f_X7_rememberChange h r0) := by
  refine x_ofW hl0 (by decide +kernel) ?_
  intro z hf p e s m args below meth c C0 hxt hargs hR
  subst hargs
  have C0 : x_C E p l s m meth c ([.ref (xa E r0)] : List Value).toArray cX7_rememberChange 1 "GridEngine" "rememberChange" none := C0
  obtain ⟨hx, hb, -⟩ := id C0
  have hS : va_S (x_A E) s.heap s.heap [] := va_S.rf
  have hl := lv_entry ([.ref (xa E r0)]) (n := 1) (Nat.le_of_ble_eq_true rfl)
  rw [lg_entry_eq]
  generalize (lg_sl ([.ref (xa E r0)]) ++ List.replicate (1 - (lg_sl ([.ref (xa E r0)])).length) Slot.unset).toArray = ls at hl ⊢
  have hl : lv_has ls 1 [(0, .ref (xa E r0))] := hl
  unfold f_X7_rememberChange at hf
  have h0 : x_by cX7_rememberChange 0 [42, 180, 0, 39, 42, 180, 0, 42, 50, 42, 180, 0, 27, 182, 0, 253, 42, 42, 180, 0, 42, 16, 7, 162, 0, 12] := by unfold x_by; decide +kernel
  obtain ⟨d0, h0⟩ := de_aload_n0 h0
  obtain ⟨d1, h0⟩ := de_getfield 39 (by decide) h0
  obtain ⟨d4, h0⟩ := de_aload_n0 h0
  obtain ⟨d5, h0⟩ := de_getfield 42 (by decide) h0
  obtain ⟨d8, h0⟩ := de_aaload h0
  obtain ⟨d9, h0⟩ := de_aload_n0 h0
  obtain ⟨d10, h0⟩ := de_getfield 27 (by decide) h0
  obtain ⟨d13, h0⟩ := de_invokevirtual 253 (by decide) h0
  obtain ⟨d16, h0⟩ := de_aload_n0 h0
  obtain ⟨d17, h0⟩ := de_aload_n0 h0
  obtain ⟨d18, h0⟩ := de_getfield 42 (by decide) h0
  obtain ⟨d21, h0⟩ := de_bipush (7) (by decide) h0
  obtain ⟨d23, h0⟩ := de_icmp_ge (12) (by decide) h0
  refine lv_aload_n hx hb d0 rfl (lv_at hl 0 rfl) ?_
  refine x_getR C0 hR hf xcl_7 (Nat.le_of_ble_eq_true rfl) rfl fl_X7_39 d1 (fun a1 hf => ?_)
  refine lv_aload_n hx hb d4 rfl (lv_at hl 0 rfl) ?_
  refine x_getI C0 hR hf xcl_7 (Nat.le_of_ble_eq_true rfl) rfl fl_X7_42 d5 (fun i2 hf => ?_)
  refine x_aald (t := 4) C0 hR hf rfl rfl d8 (fun a3 hf => ?_)
  refine lv_aload_n hx hb d9 rfl (lv_at hl 0 rfl) ?_
  refine x_getR C0 hR hf xcl_7 (Nat.le_of_ble_eq_true rfl) rfl fl_X7_27 d10 (fun a4 hf => ?_)
  obtain ⟨hs9, hf⟩ := x_if hf
  refine x_thenV C0 hxt hS hf (fun z0 e0 => x_runV C0 hR hS me_X4_copyFrom wi_X4_copyFrom wl_X4_copyFrom ml_X7_253 hs9 xcl_4 (As := [.ref (xa E a4)]) (ct_X4_copyFrom E l C0.2.2.2.2.2.2.2.1 _ a3 a4) rfl rfl hl.1 (Nat.le_of_ble_eq_true rfl) d13 ⟨(Nat.le_of_ble_eq_true rfl), (Nat.le_of_ble_eq_true rfl)⟩ ⟨(Nat.le_of_ble_eq_true rfl), (Nat.le_of_ble_eq_true rfl)⟩ e0) (Nat.le_of_ble_eq_true rfl) (Nat.le_of_ble_eq_true rfl) (fun h9 H locs hR hS hf => ?_)
  refine lv_aload_n hx hb d16 rfl (lv_at hl 0 rfl) ?_
  refine lv_aload_n hx hb d17 rfl (lv_at hl 0 rfl) ?_
  refine x_getI C0 hR hf xcl_7 (Nat.le_of_ble_eq_true rfl) rfl fl_X7_42 d18 (fun i6 hf => ?_)
  refine lv_bipush (v := 7) hx hb d21 (by decide) ?_
  refine lv_icmp_ge (tgt := 35) hx hb d23 (by decide) (fun q => ?_) (fun q => ?_)
  · have hf := x_pos q hf
    have h0 : x_by cX7_rememberChange 35 [3] := by unfold x_by; decide +kernel
    obtain ⟨d35, h0⟩ := de_iconst_0 h0
    refine lv_iconst (v := 0) hx hb d35 (by decide) ?_
    exact s_X7_rememberChange_b36 C0 hxt _ _ _ _ _ _ _ hR hS (lv_sub hl [0] rfl) hf
  · have hf := x_neg q hf
    have h0 : x_by cX7_rememberChange 26 [42, 180, 0, 42, 4, 96, 167, 0, 4] := by unfold x_by; decide +kernel
    obtain ⟨d26, h0⟩ := de_aload_n0 h0
    obtain ⟨d27, h0⟩ := de_getfield 42 (by decide) h0
    obtain ⟨d30, h0⟩ := de_iconst_1 h0
    obtain ⟨d31, h0⟩ := de_iadd h0
    obtain ⟨d32, h0⟩ := de_goto (4) (by decide) h0
    refine lv_aload_n hx hb d26 rfl (lv_at hl 0 rfl) ?_
    refine x_getI C0 hR hf xcl_7 (Nat.le_of_ble_eq_true rfl) rfl fl_X7_42 d27 (fun i7 hf => ?_)
    refine lv_iconst (v := 1) hx hb d30 (by decide) ?_
    refine lv_iadd hx hb d31 ?_
    refine lv_goto (tgt := 36) hx hb d32 (by decide) ?_
    exact s_X7_rememberChange_b36 C0 hxt _ _ _ _ _ _ _ hR hS (lv_sub hl [0] rfl) hf
def f_X7_readTracks (h : HP) (r0 : Nat) (x1 : Int32) : Option XR :=
  x_cV (f_X7_checkAxis h x1) fun h1 =>
  x_gI h1 r0 7 1 fun i2 =>
  x_pI h1 r0 7 1 0 fun h3 =>
  x_gR h3 r0 7 2 fun a4 =>
  x_gR h3 r0 7 0 fun a5 =>
  x_rc h3 a4 6 <| x_cI (f_X6_parse h3 a4 a5 i2) fun h7 i6 =>
  if i6 = 0 then
    (
      x_gR h7 r0 7 2 fun a15 =>
      x_gI h7 a15 6 2 fun i16 =>
      some (h7, xi ((-100) - i16))
    )
  else
    (
      x_rc h7 r0 7 <| x_cV (f_X7_checkText h7 r0) fun h8 =>
      x_rc h8 r0 7 <| x_cV (f_X7_rememberChange h8 r0) fun h9 =>
      x_gR h9 r0 7 3 fun a10 =>
      x_gR h9 r0 7 2 fun a11 =>
      x_rc h9 a10 4 <| x_cV (f_X4_takeTracks h9 a10 x1 a11) fun h12 =>
      x_gR h12 r0 7 2 fun a13 =>
      x_gI h12 a13 6 6 fun i14 =>
      some (h12, xi i14)
    )
set_option maxRecDepth 100000 in
set_option maxHeartbeats 4000000 in
theorem ct_X7_readTracks (E : XE) (l : Launch) (hl0 : l.stackTraces = false) (h : HP) (r0 : Nat) (x1 : Int32) : x_ct E l yX7_readTracks (Cond.code yX7_readTracks cX7_readTracks 3 (some .int)) 18 345 2 12 [.ref (xa E r0), .int x1] h (f_X7_readTracks h r0 x1) := by
  refine x_ofW hl0 (by decide +kernel) ?_
  intro z hf p e s m args below meth c C0 hxt hargs hR
  subst hargs
  have C0 : x_C E p l s m meth c ([.ref (xa E r0), .int x1] : List Value).toArray cX7_readTracks 3 "GridEngine" "readTracks" (some .int) := C0
  obtain ⟨hx, hb, -⟩ := id C0
  have hS : va_S (x_A E) s.heap s.heap [] := va_S.rf
  have hl := lv_entry ([.ref (xa E r0), .int x1]) (n := 3) (Nat.le_of_ble_eq_true rfl)
  rw [lg_entry_eq]
  generalize (lg_sl ([.ref (xa E r0), .int x1]) ++ List.replicate (3 - (lg_sl ([.ref (xa E r0), .int x1])).length) Slot.unset).toArray = ls at hl ⊢
  have hl : lv_has ls 3 [(0, .ref (xa E r0)), (1, .int x1)] := hl
  unfold f_X7_readTracks at hf
  have h0 : x_by cX7_readTracks 0 [27, 184, 0, 103, 42, 180, 0, 13, 61, 42, 3, 181, 0, 13, 42, 180, 0, 20, 42, 180, 0, 9, 28, 182, 0, 107, 154, 0, 14] := by unfold x_by; decide +kernel
  obtain ⟨d0, h0⟩ := de_iload_n1 h0
  obtain ⟨d1, h0⟩ := de_invokestatic 103 (by decide) h0
  obtain ⟨d4, h0⟩ := de_aload_n0 h0
  obtain ⟨d5, h0⟩ := de_getfield 13 (by decide) h0
  obtain ⟨d8, h0⟩ := de_istore_n2 h0
  obtain ⟨d9, h0⟩ := de_aload_n0 h0
  obtain ⟨d10, h0⟩ := de_iconst_0 h0
  obtain ⟨d11, h0⟩ := de_putfield 13 (by decide) h0
  obtain ⟨d14, h0⟩ := de_aload_n0 h0
  obtain ⟨d15, h0⟩ := de_getfield 20 (by decide) h0
  obtain ⟨d18, h0⟩ := de_aload_n0 h0
  obtain ⟨d19, h0⟩ := de_getfield 9 (by decide) h0
  obtain ⟨d22, h0⟩ := de_iload_n2 h0
  obtain ⟨d23, h0⟩ := de_invokevirtual 107 (by decide) h0
  obtain ⟨d26, h0⟩ := de_if_ne (14) (by decide) h0
  refine lv_iload_n hx hb d0 rfl (lv_at hl 1 rfl) ?_
  refine x_thenV C0 hxt hS hf (fun z0 e0 => x_runS C0 hR hS me_X7_checkAxis wt_X7_checkAxis ml_X7_103 (As := [.int x1]) (ct_X7_checkAxis E l C0.2.2.2.2.2.2.2.1 _ x1) rfl rfl hl.1 (Nat.le_of_ble_eq_true rfl) d1 ⟨(Nat.le_of_ble_eq_true rfl), (Nat.le_of_ble_eq_true rfl)⟩ ⟨(Nat.le_of_ble_eq_true rfl), (Nat.le_of_ble_eq_true rfl)⟩ e0) (Nat.le_of_ble_eq_true rfl) (Nat.le_of_ble_eq_true rfl) (fun h9 H locs hR hS hf => ?_)
  refine lv_aload_n hx hb d4 rfl (lv_at hl 0 rfl) ?_
  refine x_getI C0 hR hf xcl_7 (Nat.le_of_ble_eq_true rfl) rfl fl_X7_13 d5 (fun i2 hf => ?_)
  refine lv_istore_n (lv' := [(2, .int i2), (0, .ref (xa E r0)), (1, .int x1)]) hx hb d8 rfl hl (by decide) rfl (fun ls hl => ?_)
  refine lv_aload_n hx hb d9 rfl (lv_at hl 1 rfl) ?_
  refine lv_iconst (v := 0) hx hb d10 (by decide) ?_
  refine x_putI C0 hR hS hf xcl_7 (Nat.le_of_ble_eq_true rfl) rfl fl_X7_13 (Or.inl rfl) d11 (fun H locs hR hS hf => ?_)
  refine lv_aload_n hx hb d14 rfl (lv_at hl 1 rfl) ?_
  refine x_getR C0 hR hf xcl_7 (Nat.le_of_ble_eq_true rfl) rfl fl_X7_20 d15 (fun a4 hf => ?_)
  refine lv_aload_n hx hb d18 rfl (lv_at hl 1 rfl) ?_
  refine x_getR C0 hR hf xcl_7 (Nat.le_of_ble_eq_true rfl) rfl fl_X7_9 d19 (fun a5 hf => ?_)
  refine lv_iload_n hx hb d22 rfl (lv_at hl 0 rfl) ?_
  obtain ⟨hs9, hf⟩ := x_if hf
  refine x_thenI C0 hxt hS hf (fun z0 e0 => x_runV C0 hR hS me_X6_parse wi_X6_parse wl_X6_parse ml_X7_107 hs9 xcl_6 (As := [.ref (xa E a5), .int i2]) (ct_X6_parse E l C0.2.2.2.2.2.2.2.1 _ a4 a5 i2) rfl rfl hl.1 (Nat.le_of_ble_eq_true rfl) d23 ⟨(Nat.le_of_ble_eq_true rfl), (Nat.le_of_ble_eq_true rfl)⟩ ⟨(Nat.le_of_ble_eq_true rfl), (Nat.le_of_ble_eq_true rfl)⟩ e0) (Nat.le_of_ble_eq_true rfl) (Nat.le_of_ble_eq_true rfl) (fun h9 i6 H locs hR hS hf => ?_)
  refine lv_if_ne (tgt := 40) hx hb d26 (by decide) (fun q => ?_) (fun q => ?_)
  · have hf := x_neg q hf
    have h0 : x_by cX7_readTracks 40 [42, 182, 0, 114, 42, 182, 0, 117, 42, 180, 0, 27, 27, 42, 180, 0, 20, 182, 0, 120, 42, 180, 0, 20, 180, 0, 124, 172] := by unfold x_by; decide +kernel
    obtain ⟨d40, h0⟩ := de_aload_n0 h0
    obtain ⟨d41, h0⟩ := de_invokevirtual 114 (by decide) h0
    obtain ⟨d44, h0⟩ := de_aload_n0 h0
    obtain ⟨d45, h0⟩ := de_invokevirtual 117 (by decide) h0
    obtain ⟨d48, h0⟩ := de_aload_n0 h0
    obtain ⟨d49, h0⟩ := de_getfield 27 (by decide) h0
    obtain ⟨d52, h0⟩ := de_iload_n1 h0
    obtain ⟨d53, h0⟩ := de_aload_n0 h0
    obtain ⟨d54, h0⟩ := de_getfield 20 (by decide) h0
    obtain ⟨d57, h0⟩ := de_invokevirtual 120 (by decide) h0
    obtain ⟨d60, h0⟩ := de_aload_n0 h0
    obtain ⟨d61, h0⟩ := de_getfield 20 (by decide) h0
    obtain ⟨d64, h0⟩ := de_getfield 124 (by decide) h0
    obtain ⟨d67, h0⟩ := de_ireturn h0
    refine lv_aload_n hx hb d40 rfl (lv_at hl 1 rfl) ?_
    obtain ⟨hs9, hf⟩ := x_if hf
    refine x_thenV C0 hxt hS hf (fun z0 e0 => x_runV C0 hR hS me_X7_checkText wi_X7_checkText wl_X7_checkText ml_X7_114 hs9 xcl_7 (As := []) (ct_X7_checkText E l C0.2.2.2.2.2.2.2.1 _ r0) rfl rfl hl.1 (Nat.le_of_ble_eq_true rfl) d41 ⟨(Nat.le_of_ble_eq_true rfl), (Nat.le_of_ble_eq_true rfl)⟩ ⟨(Nat.le_of_ble_eq_true rfl), (Nat.le_of_ble_eq_true rfl)⟩ e0) (Nat.le_of_ble_eq_true rfl) (Nat.le_of_ble_eq_true rfl) (fun h9 H locs hR hS hf => ?_)
    refine lv_aload_n hx hb d44 rfl (lv_at hl 1 rfl) ?_
    obtain ⟨hs9, hf⟩ := x_if hf
    refine x_thenV C0 hxt hS hf (fun z0 e0 => x_runV C0 hR hS me_X7_rememberChange wi_X7_rememberChange wl_X7_rememberChange ml_X7_117 hs9 xcl_7 (As := []) (ct_X7_rememberChange E l C0.2.2.2.2.2.2.2.1 _ r0) rfl rfl hl.1 (Nat.le_of_ble_eq_true rfl) d45 ⟨(Nat.le_of_ble_eq_true rfl), (Nat.le_of_ble_eq_true rfl)⟩ ⟨(Nat.le_of_ble_eq_true rfl), (Nat.le_of_ble_eq_true rfl)⟩ e0) (Nat.le_of_ble_eq_true rfl) (Nat.le_of_ble_eq_true rfl) (fun h9 H locs hR hS hf => ?_)
    refine lv_aload_n hx hb d48 rfl (lv_at hl 1 rfl) ?_
    refine x_getR C0 hR hf xcl_7 (Nat.le_of_ble_eq_true rfl) rfl fl_X7_27 d49 (fun a10 hf => ?_)
    refine lv_iload_n hx hb d52 rfl (lv_at hl 2 rfl) ?_
    refine lv_aload_n hx hb d53 rfl (lv_at hl 1 rfl) ?_
    refine x_getR C0 hR hf xcl_7 (Nat.le_of_ble_eq_true rfl) rfl fl_X7_20 d54 (fun a11 hf => ?_)
    obtain ⟨hs9, hf⟩ := x_if hf
    refine x_thenV C0 hxt hS hf (fun z0 e0 => x_runV C0 hR hS me_X4_takeTracks wi_X4_takeTracks wl_X4_takeTracks ml_X7_120 hs9 xcl_4 (As := [.int x1, .ref (xa E a11)]) (ct_X4_takeTracks E l C0.2.2.2.2.2.2.2.1 _ a10 x1 a11) rfl rfl hl.1 (Nat.le_of_ble_eq_true rfl) d57 ⟨(Nat.le_of_ble_eq_true rfl), (Nat.le_of_ble_eq_true rfl)⟩ ⟨(Nat.le_of_ble_eq_true rfl), (Nat.le_of_ble_eq_true rfl)⟩ e0) (Nat.le_of_ble_eq_true rfl) (Nat.le_of_ble_eq_true rfl) (fun h9 H locs hR hS hf => ?_)
    refine lv_aload_n hx hb d60 rfl (lv_at hl 1 rfl) ?_
    refine x_getR C0 hR hf xcl_7 (Nat.le_of_ble_eq_true rfl) rfl fl_X7_20 d61 (fun a13 hf => ?_)
    refine x_getI C0 hR hf xcl_6 (Nat.le_of_ble_eq_true rfl) rfl fl_X7_124 d64 (fun i14 hf => ?_)
    exact x_iret C0 hR hS hf (Nat.le_of_ble_eq_true rfl) (Nat.le_of_ble_eq_true rfl) d67
  · have hf := x_pos q hf
    have h0 : x_by cX7_readTracks 29 [16, 156, 42, 180, 0, 20, 180, 0, 111, 100, 172] := by unfold x_by; decide +kernel
    obtain ⟨d29, h0⟩ := de_bipush (-100) (by decide) h0
    obtain ⟨d31, h0⟩ := de_aload_n0 h0
    obtain ⟨d32, h0⟩ := de_getfield 20 (by decide) h0
    obtain ⟨d35, h0⟩ := de_getfield 111 (by decide) h0
    obtain ⟨d38, h0⟩ := de_isub h0
    obtain ⟨d39, h0⟩ := de_ireturn h0
    refine lv_bipush (v := -100) hx hb d29 (by decide) ?_
    refine lv_aload_n hx hb d31 rfl (lv_at hl 1 rfl) ?_
    refine x_getR C0 hR hf xcl_7 (Nat.le_of_ble_eq_true rfl) rfl fl_X7_20 d32 (fun a15 hf => ?_)
    refine x_getI C0 hR hf xcl_6 (Nat.le_of_ble_eq_true rfl) rfl fl_X7_111 d35 (fun i16 hf => ?_)
    refine lv_isub hx hb d38 ?_
    exact x_iret C0 hR hS hf (Nat.le_of_ble_eq_true rfl) (Nat.le_of_ble_eq_true rfl) d39
def f_X7_readImplicit_b70  (h : HP) (r0 : Nat) : Option XR :=
  x_gR h r0 7 2 fun a1 =>
  x_gI h a1 6 6 fun i2 =>
  some (h, xi i2)
def f_X7_readImplicit (h : HP) (r0 : Nat) (x1 : Int32) : Option XR :=
  x_cV (f_X7_checkAxis h x1) fun h1 =>
  x_gI h1 r0 7 1 fun i2 =>
  x_pI h1 r0 7 1 0 fun h3 =>
  x_gR h3 r0 7 2 fun a4 =>
  x_gR h3 r0 7 0 fun a5 =>
  x_rc h3 a4 6 <| x_cI (f_X6_parse h3 a4 a5 i2) fun h7 i6 =>
  if i6 = 0 then
    (
      x_gR h7 r0 7 2 fun a15 =>
      x_gI h7 a15 6 2 fun i16 =>
      some (h7, xi ((-100) - i16))
    )
  else
    (
      x_rc h7 r0 7 <| x_cV (f_X7_checkText h7 r0) fun h8 =>
      x_gR h8 r0 7 2 fun a9 =>
      x_gI h8 a9 6 6 fun i10 =>
      if i10 ≤ 0 then
        (
          f_X7_readImplicit_b70 h8 r0
        )
      else
        (
          x_rc h8 r0 7 <| x_cV (f_X7_rememberChange h8 r0) fun h11 =>
          x_gR h11 r0 7 3 fun a12 =>
          x_gR h11 r0 7 2 fun a13 =>
          x_rc h11 a12 4 <| x_cV (f_X4_takeImplicit h11 a12 x1 a13) fun h14 =>
          f_X7_readImplicit_b70 h14 r0
        )
    )
set_option maxRecDepth 100000 in
set_option maxHeartbeats 4000000 in
theorem s_X7_readImplicit_b70 {p : Program} {l : Launch} {e : Env} {s : State} {m : MethodId} {args : Array Value} {below : List Frame} {meth : Method} {c : Code} {E : XE} {z : XR} (C0 : x_C E p l s m meth c args cX7_readImplicit 3 "GridEngine" "readImplicit" (some .int)) (hxt : ∀ x ∈ c.exceptionTable.toList, False)  : ∀ (h : HP) (r0 : Nat) (H : Heap) (locs : List Loc) (ls : Array Slot), x_Rep E h H → va_S (x_A E) s.heap H locs → lv_has ls 3 [(0, .ref (xa E r0))] → f_X7_readImplicit_b70 h r0 = some z → W p l e ({ frames := 18, cells := 2, slots := 12, locals := 345 } : Room) s m args below meth c H locs 2 12 (x_Q E below args s 2 12 z) (F0 m 70 ls []) := by
  intro h r0 H locs ls hR hS hl hf
  obtain ⟨hx, hb, -⟩ := id C0
  unfold f_X7_readImplicit_b70 at hf
  have h0 : x_by cX7_readImplicit 70 [42, 180, 0, 20, 180, 0, 124, 172] := by unfold x_by; decide +kernel
  obtain ⟨d70, h0⟩ := de_aload_n0 h0
  obtain ⟨d71, h0⟩ := de_getfield 20 (by decide) h0
  obtain ⟨d74, h0⟩ := de_getfield 124 (by decide) h0
  obtain ⟨d77, h0⟩ := de_ireturn h0
  refine lv_aload_n hx hb d70 rfl (lv_at hl 0 rfl) ?_
  refine x_getR C0 hR hf xcl_7 (Nat.le_of_ble_eq_true rfl) rfl fl_X7_20 d71 (fun a1 hf => ?_)
  refine x_getI C0 hR hf xcl_6 (Nat.le_of_ble_eq_true rfl) rfl fl_X7_124 d74 (fun i2 hf => ?_)
  exact x_iret C0 hR hS hf (Nat.le_of_ble_eq_true rfl) (Nat.le_of_ble_eq_true rfl) d77
set_option maxRecDepth 100000 in
set_option maxHeartbeats 4000000 in
theorem ct_X7_readImplicit (E : XE) (l : Launch) (hl0 : l.stackTraces = false) (h : HP) (r0 : Nat) (x1 : Int32) : x_ct E l yX7_readImplicit (Cond.code yX7_readImplicit cX7_readImplicit 3 (some .int)) 18 345 2 12 [.ref (xa E r0), .int x1] h (f_X7_readImplicit h r0 x1) := by
  refine x_ofW hl0 (by decide +kernel) ?_
  intro z hf p e s m args below meth c C0 hxt hargs hR
  subst hargs
  have C0 : x_C E p l s m meth c ([.ref (xa E r0), .int x1] : List Value).toArray cX7_readImplicit 3 "GridEngine" "readImplicit" (some .int) := C0
  obtain ⟨hx, hb, -⟩ := id C0
  have hS : va_S (x_A E) s.heap s.heap [] := va_S.rf
  have hl := lv_entry ([.ref (xa E r0), .int x1]) (n := 3) (Nat.le_of_ble_eq_true rfl)
  rw [lg_entry_eq]
  generalize (lg_sl ([.ref (xa E r0), .int x1]) ++ List.replicate (3 - (lg_sl ([.ref (xa E r0), .int x1])).length) Slot.unset).toArray = ls at hl ⊢
  have hl : lv_has ls 3 [(0, .ref (xa E r0)), (1, .int x1)] := hl
  unfold f_X7_readImplicit at hf
  have h0 : x_by cX7_readImplicit 0 [27, 184, 0, 103, 42, 180, 0, 13, 61, 42, 3, 181, 0, 13, 42, 180, 0, 20, 42, 180, 0, 9, 28, 182, 0, 107, 154, 0, 14] := by unfold x_by; decide +kernel
  obtain ⟨d0, h0⟩ := de_iload_n1 h0
  obtain ⟨d1, h0⟩ := de_invokestatic 103 (by decide) h0
  obtain ⟨d4, h0⟩ := de_aload_n0 h0
  obtain ⟨d5, h0⟩ := de_getfield 13 (by decide) h0
  obtain ⟨d8, h0⟩ := de_istore_n2 h0
  obtain ⟨d9, h0⟩ := de_aload_n0 h0
  obtain ⟨d10, h0⟩ := de_iconst_0 h0
  obtain ⟨d11, h0⟩ := de_putfield 13 (by decide) h0
  obtain ⟨d14, h0⟩ := de_aload_n0 h0
  obtain ⟨d15, h0⟩ := de_getfield 20 (by decide) h0
  obtain ⟨d18, h0⟩ := de_aload_n0 h0
  obtain ⟨d19, h0⟩ := de_getfield 9 (by decide) h0
  obtain ⟨d22, h0⟩ := de_iload_n2 h0
  obtain ⟨d23, h0⟩ := de_invokevirtual 107 (by decide) h0
  obtain ⟨d26, h0⟩ := de_if_ne (14) (by decide) h0
  refine lv_iload_n hx hb d0 rfl (lv_at hl 1 rfl) ?_
  refine x_thenV C0 hxt hS hf (fun z0 e0 => x_runS C0 hR hS me_X7_checkAxis wt_X7_checkAxis ml_X7_103 (As := [.int x1]) (ct_X7_checkAxis E l C0.2.2.2.2.2.2.2.1 _ x1) rfl rfl hl.1 (Nat.le_of_ble_eq_true rfl) d1 ⟨(Nat.le_of_ble_eq_true rfl), (Nat.le_of_ble_eq_true rfl)⟩ ⟨(Nat.le_of_ble_eq_true rfl), (Nat.le_of_ble_eq_true rfl)⟩ e0) (Nat.le_of_ble_eq_true rfl) (Nat.le_of_ble_eq_true rfl) (fun h9 H locs hR hS hf => ?_)
  refine lv_aload_n hx hb d4 rfl (lv_at hl 0 rfl) ?_
  refine x_getI C0 hR hf xcl_7 (Nat.le_of_ble_eq_true rfl) rfl fl_X7_13 d5 (fun i2 hf => ?_)
  refine lv_istore_n (lv' := [(2, .int i2), (0, .ref (xa E r0)), (1, .int x1)]) hx hb d8 rfl hl (by decide) rfl (fun ls hl => ?_)
  refine lv_aload_n hx hb d9 rfl (lv_at hl 1 rfl) ?_
  refine lv_iconst (v := 0) hx hb d10 (by decide) ?_
  refine x_putI C0 hR hS hf xcl_7 (Nat.le_of_ble_eq_true rfl) rfl fl_X7_13 (Or.inl rfl) d11 (fun H locs hR hS hf => ?_)
  refine lv_aload_n hx hb d14 rfl (lv_at hl 1 rfl) ?_
  refine x_getR C0 hR hf xcl_7 (Nat.le_of_ble_eq_true rfl) rfl fl_X7_20 d15 (fun a4 hf => ?_)
  refine lv_aload_n hx hb d18 rfl (lv_at hl 1 rfl) ?_
  refine x_getR C0 hR hf xcl_7 (Nat.le_of_ble_eq_true rfl) rfl fl_X7_9 d19 (fun a5 hf => ?_)
  refine lv_iload_n hx hb d22 rfl (lv_at hl 0 rfl) ?_
  obtain ⟨hs9, hf⟩ := x_if hf
  refine x_thenI C0 hxt hS hf (fun z0 e0 => x_runV C0 hR hS me_X6_parse wi_X6_parse wl_X6_parse ml_X7_107 hs9 xcl_6 (As := [.ref (xa E a5), .int i2]) (ct_X6_parse E l C0.2.2.2.2.2.2.2.1 _ a4 a5 i2) rfl rfl hl.1 (Nat.le_of_ble_eq_true rfl) d23 ⟨(Nat.le_of_ble_eq_true rfl), (Nat.le_of_ble_eq_true rfl)⟩ ⟨(Nat.le_of_ble_eq_true rfl), (Nat.le_of_ble_eq_true rfl)⟩ e0) (Nat.le_of_ble_eq_true rfl) (Nat.le_of_ble_eq_true rfl) (fun h9 i6 H locs hR hS hf => ?_)
  refine lv_if_ne (tgt := 40) hx hb d26 (by decide) (fun q => ?_) (fun q => ?_)
  · have hf := x_neg q hf
    have h0 : x_by cX7_readImplicit 40 [42, 182, 0, 114, 42, 180, 0, 20, 180, 0, 124, 158, 0, 19] := by unfold x_by; decide +kernel
    obtain ⟨d40, h0⟩ := de_aload_n0 h0
    obtain ⟨d41, h0⟩ := de_invokevirtual 114 (by decide) h0
    obtain ⟨d44, h0⟩ := de_aload_n0 h0
    obtain ⟨d45, h0⟩ := de_getfield 20 (by decide) h0
    obtain ⟨d48, h0⟩ := de_getfield 124 (by decide) h0
    obtain ⟨d51, h0⟩ := de_if_le (19) (by decide) h0
    refine lv_aload_n hx hb d40 rfl (lv_at hl 1 rfl) ?_
    obtain ⟨hs9, hf⟩ := x_if hf
    refine x_thenV C0 hxt hS hf (fun z0 e0 => x_runV C0 hR hS me_X7_checkText wi_X7_checkText wl_X7_checkText ml_X7_114 hs9 xcl_7 (As := []) (ct_X7_checkText E l C0.2.2.2.2.2.2.2.1 _ r0) rfl rfl hl.1 (Nat.le_of_ble_eq_true rfl) d41 ⟨(Nat.le_of_ble_eq_true rfl), (Nat.le_of_ble_eq_true rfl)⟩ ⟨(Nat.le_of_ble_eq_true rfl), (Nat.le_of_ble_eq_true rfl)⟩ e0) (Nat.le_of_ble_eq_true rfl) (Nat.le_of_ble_eq_true rfl) (fun h9 H locs hR hS hf => ?_)
    refine lv_aload_n hx hb d44 rfl (lv_at hl 1 rfl) ?_
    refine x_getR C0 hR hf xcl_7 (Nat.le_of_ble_eq_true rfl) rfl fl_X7_20 d45 (fun a9 hf => ?_)
    refine x_getI C0 hR hf xcl_6 (Nat.le_of_ble_eq_true rfl) rfl fl_X7_124 d48 (fun i10 hf => ?_)
    refine lv_if_le (tgt := 70) hx hb d51 (by decide) (fun q => ?_) (fun q => ?_)
    · have hf := x_pos q hf
      exact s_X7_readImplicit_b70 C0 hxt _ _ _ _ _ hR hS (lv_sub hl [1] rfl) hf
    · have hf := x_neg q hf
      have h0 : x_by cX7_readImplicit 54 [42, 182, 0, 117, 42, 180, 0, 27, 27, 42, 180, 0, 20, 182, 0, 127] := by unfold x_by; decide +kernel
      obtain ⟨d54, h0⟩ := de_aload_n0 h0
      obtain ⟨d55, h0⟩ := de_invokevirtual 117 (by decide) h0
      obtain ⟨d58, h0⟩ := de_aload_n0 h0
      obtain ⟨d59, h0⟩ := de_getfield 27 (by decide) h0
      obtain ⟨d62, h0⟩ := de_iload_n1 h0
      obtain ⟨d63, h0⟩ := de_aload_n0 h0
      obtain ⟨d64, h0⟩ := de_getfield 20 (by decide) h0
      obtain ⟨d67, h0⟩ := de_invokevirtual 127 (by decide) h0
      refine lv_aload_n hx hb d54 rfl (lv_at hl 1 rfl) ?_
      obtain ⟨hs9, hf⟩ := x_if hf
      refine x_thenV C0 hxt hS hf (fun z0 e0 => x_runV C0 hR hS me_X7_rememberChange wi_X7_rememberChange wl_X7_rememberChange ml_X7_117 hs9 xcl_7 (As := []) (ct_X7_rememberChange E l C0.2.2.2.2.2.2.2.1 _ r0) rfl rfl hl.1 (Nat.le_of_ble_eq_true rfl) d55 ⟨(Nat.le_of_ble_eq_true rfl), (Nat.le_of_ble_eq_true rfl)⟩ ⟨(Nat.le_of_ble_eq_true rfl), (Nat.le_of_ble_eq_true rfl)⟩ e0) (Nat.le_of_ble_eq_true rfl) (Nat.le_of_ble_eq_true rfl) (fun h9 H locs hR hS hf => ?_)
      refine lv_aload_n hx hb d58 rfl (lv_at hl 1 rfl) ?_
      refine x_getR C0 hR hf xcl_7 (Nat.le_of_ble_eq_true rfl) rfl fl_X7_27 d59 (fun a12 hf => ?_)
      refine lv_iload_n hx hb d62 rfl (lv_at hl 2 rfl) ?_
      refine lv_aload_n hx hb d63 rfl (lv_at hl 1 rfl) ?_
      refine x_getR C0 hR hf xcl_7 (Nat.le_of_ble_eq_true rfl) rfl fl_X7_20 d64 (fun a13 hf => ?_)
      obtain ⟨hs9, hf⟩ := x_if hf
      refine x_thenV C0 hxt hS hf (fun z0 e0 => x_runV C0 hR hS me_X4_takeImplicit wi_X4_takeImplicit wl_X4_takeImplicit ml_X7_127 hs9 xcl_4 (As := [.int x1, .ref (xa E a13)]) (ct_X4_takeImplicit E l C0.2.2.2.2.2.2.2.1 _ a12 x1 a13) rfl rfl hl.1 (Nat.le_of_ble_eq_true rfl) d67 ⟨(Nat.le_of_ble_eq_true rfl), (Nat.le_of_ble_eq_true rfl)⟩ ⟨(Nat.le_of_ble_eq_true rfl), (Nat.le_of_ble_eq_true rfl)⟩ e0) (Nat.le_of_ble_eq_true rfl) (Nat.le_of_ble_eq_true rfl) (fun h9 H locs hR hS hf => ?_)
      exact s_X7_readImplicit_b70 C0 hxt _ _ _ _ _ hR hS (lv_sub hl [1] rfl) hf
  · have hf := x_pos q hf
    have h0 : x_by cX7_readImplicit 29 [16, 156, 42, 180, 0, 20, 180, 0, 111, 100, 172] := by unfold x_by; decide +kernel
    obtain ⟨d29, h0⟩ := de_bipush (-100) (by decide) h0
    obtain ⟨d31, h0⟩ := de_aload_n0 h0
    obtain ⟨d32, h0⟩ := de_getfield 20 (by decide) h0
    obtain ⟨d35, h0⟩ := de_getfield 111 (by decide) h0
    obtain ⟨d38, h0⟩ := de_isub h0
    obtain ⟨d39, h0⟩ := de_ireturn h0
    refine lv_bipush (v := -100) hx hb d29 (by decide) ?_
    refine lv_aload_n hx hb d31 rfl (lv_at hl 1 rfl) ?_
    refine x_getR C0 hR hf xcl_7 (Nat.le_of_ble_eq_true rfl) rfl fl_X7_20 d32 (fun a15 hf => ?_)
    refine x_getI C0 hR hf xcl_6 (Nat.le_of_ble_eq_true rfl) rfl fl_X7_111 d35 (fun i16 hf => ?_)
    refine lv_isub hx hb d38 ?_
    exact x_iret C0 hR hS hf (Nat.le_of_ble_eq_true rfl) (Nat.le_of_ble_eq_true rfl) d39
def f_X7_layoutOf_b15  (h : HP) (t0 : Nat) : Option XR :=
  some (h, xq t0)
def f_X7_layoutOf (h : HP) (r0 : Nat) (x1 : Int32) : Option XR :=
  if x1 = 0 then
    (
      x_gR h r0 7 10 fun a2 =>
      f_X7_layoutOf_b15 h a2
    )
  else
    (
      x_gR h r0 7 11 fun a1 =>
      f_X7_layoutOf_b15 h a1
    )
set_option maxRecDepth 100000 in
set_option maxHeartbeats 4000000 in
theorem s_X7_layoutOf_b15 {p : Program} {l : Launch} {e : Env} {s : State} {m : MethodId} {args : Array Value} {below : List Frame} {meth : Method} {c : Code} {E : XE} {z : XR} (C0 : x_C E p l s m meth c args cX7_layoutOf 2 "GridEngine" "layoutOf" (some (.object "GridEngine$AxisLayout"))) (hxt : ∀ x ∈ c.exceptionTable.toList, False)  : ∀ (h : HP) (t0 : Nat) (H : Heap) (locs : List Loc) (ls : Array Slot), x_Rep E h H → va_S (x_A E) s.heap H locs → lv_has ls 2 [] → f_X7_layoutOf_b15 h t0 = some z → W p l e ({ frames := 8, cells := 0, slots := 0, locals := 130 } : Room) s m args below meth c H locs 0 0 (x_Q E below args s 0 0 z) (F0 m 15 ls [.ref (xa E t0)]) := by
  intro h t0 H locs ls hR hS hl hf
  obtain ⟨hx, hb, -⟩ := id C0
  unfold f_X7_layoutOf_b15 at hf
  have h0 : x_by cX7_layoutOf 15 [176] := by unfold x_by; decide +kernel
  obtain ⟨d15, h0⟩ := de_areturn h0
  exact x_aret C0 (by first | exact Or.inl ⟨_, rfl⟩ | exact Or.inr ⟨_, rfl⟩) hR hS hf (Nat.le_of_ble_eq_true rfl) (Nat.le_of_ble_eq_true rfl) d15
set_option maxRecDepth 100000 in
set_option maxHeartbeats 4000000 in
theorem ct_X7_layoutOf (E : XE) (l : Launch) (hl0 : l.stackTraces = false) (h : HP) (r0 : Nat) (x1 : Int32) : x_ct E l yX7_layoutOf (Cond.code yX7_layoutOf cX7_layoutOf 2 (some (.object "GridEngine$AxisLayout"))) 8 130 0 0 [.ref (xa E r0), .int x1] h (f_X7_layoutOf h r0 x1) := by
  refine x_ofW hl0 (by decide +kernel) ?_
  intro z hf p e s m args below meth c C0 hxt hargs hR
  subst hargs
  have C0 : x_C E p l s m meth c ([.ref (xa E r0), .int x1] : List Value).toArray cX7_layoutOf 2 "GridEngine" "layoutOf" (some (.object "GridEngine$AxisLayout")) := C0
  obtain ⟨hx, hb, -⟩ := id C0
  have hS : va_S (x_A E) s.heap s.heap [] := va_S.rf
  have hl := lv_entry ([.ref (xa E r0), .int x1]) (n := 2) (Nat.le_of_ble_eq_true rfl)
  rw [lg_entry_eq]
  generalize (lg_sl ([.ref (xa E r0), .int x1]) ++ List.replicate (2 - (lg_sl ([.ref (xa E r0), .int x1])).length) Slot.unset).toArray = ls at hl ⊢
  have hl : lv_has ls 2 [(0, .ref (xa E r0)), (1, .int x1)] := hl
  unfold f_X7_layoutOf at hf
  have h0 : x_by cX7_layoutOf 0 [27, 154, 0, 10] := by unfold x_by; decide +kernel
  obtain ⟨d0, h0⟩ := de_iload_n1 h0
  obtain ⟨d1, h0⟩ := de_if_ne (10) (by decide) h0
  refine lv_iload_n hx hb d0 rfl (lv_at hl 1 rfl) ?_
  refine lv_if_ne (tgt := 11) hx hb d1 (by decide) (fun q => ?_) (fun q => ?_)
  · have hf := x_neg q hf
    have h0 : x_by cX7_layoutOf 11 [42, 180, 0, 66] := by unfold x_by; decide +kernel
    obtain ⟨d11, h0⟩ := de_aload_n0 h0
    obtain ⟨d12, h0⟩ := de_getfield 66 (by decide) h0
    refine lv_aload_n hx hb d11 rfl (lv_at hl 0 rfl) ?_
    refine x_getR C0 hR hf xcl_7 (Nat.le_of_ble_eq_true rfl) rfl fl_X7_66 d12 (fun a1 hf => ?_)
    exact s_X7_layoutOf_b15 C0 hxt _ _ _ _ _ hR hS (lv_sub hl [] rfl) hf
  · have hf := x_pos q hf
    have h0 : x_by cX7_layoutOf 4 [42, 180, 0, 62, 167, 0, 7] := by unfold x_by; decide +kernel
    obtain ⟨d4, h0⟩ := de_aload_n0 h0
    obtain ⟨d5, h0⟩ := de_getfield 62 (by decide) h0
    obtain ⟨d8, h0⟩ := de_goto (7) (by decide) h0
    refine lv_aload_n hx hb d4 rfl (lv_at hl 0 rfl) ?_
    refine x_getR C0 hR hf xcl_7 (Nat.le_of_ble_eq_true rfl) rfl fl_X7_62 d5 (fun a2 hf => ?_)
    refine lv_goto (tgt := 15) hx hb d8 (by decide) ?_
    exact s_X7_layoutOf_b15 C0 hxt _ _ _ _ _ hR hS (lv_sub hl [] rfl) hf
def f_X7_arrange_b17 (k17 : HP → Nat → Int32 → Option XR) (h : HP) (r0 : Nat) (x1 : Int32) : Option XR :=
  if 2 ≤ x1 then
    (
      x_pZ h r0 7 15 1 fun h1 =>
      some (h1, xv)
    )
  else
    (
      x_rc h r0 7 <| x_cQ (f_X7_layoutOf h r0 x1) fun h3 a2 =>
      x_rc h3 a2 0 <| x_cV (f_X0_collapseTracks h3 a2) fun h4 =>
      x_gR h4 r0 7 13 fun a5 =>
      x_rc h4 a5 1 <| x_cV (f_X1_findBases h4 a5 a2) fun h6 =>
      x_gR h6 r0 7 13 fun a7 =>
      x_rc h6 a7 1 <| x_cV (f_X1_findLimits h6 a7 a2) fun h8 =>
      x_gR h8 r0 7 12 fun a9 =>
      x_rc h8 a2 0 <| x_cV (f_X0_growTracks h8 a2 a9) fun h10 =>
      x_gR h10 r0 7 14 fun a11 =>
      x_rc h10 a11 3 <| x_cV (f_X3_shareOut h10 a11 a2) fun h12 =>
      x_gR h12 r0 7 12 fun a13 =>
      x_rc h12 a2 0 <| x_cV (f_X0_stretchTracks h12 a2 a13) fun h14 =>
      x_rc h14 a2 0 <| x_cV (f_X0_findPositions h14 a2) fun h15 =>
      k17 h15 r0 (x1 + 1)
    )
def f_X7_arrange_L17  : Nat → HP → Nat → Int32 → Option XR
  | 0 => fun _ _ _ => none
  | n + 1 => f_X7_arrange_b17 (f_X7_arrange_L17 n)
def f_X7_arrange (h : HP) (r0 : Nat) : Option XR :=
  x_gI h r0 7 15 fun i1 =>
  if i1 = 0 then
    (
      x_gR h r0 7 9 fun a2 =>
      x_rc h a2 5 <| x_cV (f_X5_placeAll h a2) fun h3 =>
      f_X7_arrange_L17 FU h3 r0 0
    )
  else
    (
      some (h, xv)
    )
set_option maxRecDepth 100000 in
set_option maxHeartbeats 4000000 in
theorem s_X7_arrange_b17 {p : Program} {l : Launch} {e : Env} {s : State} {m : MethodId} {args : Array Value} {below : List Frame} {meth : Method} {c : Code} {E : XE} {z : XR} (C0 : x_C E p l s m meth c args cX7_arrange 3 "GridEngine" "arrange" none) (hxt : ∀ x ∈ c.exceptionTable.toList, False) {k17 : HP → Nat → Int32 → Option XR} (hk17 : ∀ (h : HP) (r0 : Nat) (x1 : Int32) (H : Heap) (locs : List Loc) (ls : Array Slot), x_Rep E h H → va_S (x_A E) s.heap H locs → lv_has ls 3 [(0, .ref (xa E r0)), (1, .int x1)] → k17 h r0 x1 = some z → W p l e ({ frames := 14, cells := 0, slots := 0, locals := 281 } : Room) s m args below meth c H locs 0 0 (x_Q E below args s 0 0 z) (F0 m 17 ls [])) : ∀ (h : HP) (r0 : Nat) (x1 : Int32) (H : Heap) (locs : List Loc) (ls : Array Slot), x_Rep E h H → va_S (x_A E) s.heap H locs → lv_has ls 3 [(0, .ref (xa E r0)), (1, .int x1)] → f_X7_arrange_b17 k17 h r0 x1 = some z → W p l e ({ frames := 14, cells := 0, slots := 0, locals := 281 } : Room) s m args below meth c H locs 0 0 (x_Q E below args s 0 0 z) (F0 m 17 ls []) := by
  intro h r0 x1 H locs ls hR hS hl hf
  obtain ⟨hx, hb, -⟩ := id C0
  unfold f_X7_arrange_b17 at hf
  have h0 : x_by cX7_arrange 17 [27, 5, 162, 0, 63] := by unfold x_by; decide +kernel
  obtain ⟨d17, h0⟩ := de_iload_n1 h0
  obtain ⟨d18, h0⟩ := de_iconst_2 h0
  obtain ⟨d19, h0⟩ := de_icmp_ge (63) (by decide) h0
  refine lv_iload_n hx hb d17 rfl (lv_at hl 1 rfl) ?_
  refine lv_iconst (v := 2) hx hb d18 (by decide) ?_
  refine lv_icmp_ge (tgt := 82) hx hb d19 (by decide) (fun q => ?_) (fun q => ?_)
  · have hf := x_pos q hf
    have h0 : x_by cX7_arrange 82 [42, 4, 181, 0, 92, 177] := by unfold x_by; decide +kernel
    obtain ⟨d82, h0⟩ := de_aload_n0 h0
    obtain ⟨d83, h0⟩ := de_iconst_1 h0
    obtain ⟨d84, h0⟩ := de_putfield 92 (by decide) h0
    obtain ⟨d87, h0⟩ := de_return h0
    refine lv_aload_n hx hb d82 rfl (lv_at hl 0 rfl) ?_
    refine lv_iconst (v := 1) hx hb d83 (by decide) ?_
    refine x_putZ C0 hR hS hf xcl_7 (Nat.le_of_ble_eq_true rfl) rfl fl_X7_92 (Or.inl rfl) d84 (fun H locs hR hS hf => ?_)
    exact x_vret C0 hR hS hf (Nat.le_of_ble_eq_true rfl) (Nat.le_of_ble_eq_true rfl) d87
  · have hf := x_neg q hf
    have h0 : x_by cX7_arrange 22 [42, 27, 182, 0, 213, 77, 44, 182, 1, 34, 42, 180, 0, 81, 44, 182, 1, 37, 42, 180, 0, 81, 44, 182, 1, 41, 44, 42, 180, 0, 72, 182, 1, 44, 42, 180, 0, 88, 44, 182, 1, 47, 44, 42, 180, 0, 72, 182, 1, 50, 44, 182, 1, 53, 132, 1, 1, 167, 255, 194] := by unfold x_by; decide +kernel
    obtain ⟨d22, h0⟩ := de_aload_n0 h0
    obtain ⟨d23, h0⟩ := de_iload_n1 h0
    obtain ⟨d24, h0⟩ := de_invokevirtual 213 (by decide) h0
    obtain ⟨d27, h0⟩ := de_astore_n2 h0
    obtain ⟨d28, h0⟩ := de_aload_n2 h0
    obtain ⟨d29, h0⟩ := de_invokevirtual 290 (by decide) h0
    obtain ⟨d32, h0⟩ := de_aload_n0 h0
    obtain ⟨d33, h0⟩ := de_getfield 81 (by decide) h0
    obtain ⟨d36, h0⟩ := de_aload_n2 h0
    obtain ⟨d37, h0⟩ := de_invokevirtual 293 (by decide) h0
    obtain ⟨d40, h0⟩ := de_aload_n0 h0
    obtain ⟨d41, h0⟩ := de_getfield 81 (by decide) h0
    obtain ⟨d44, h0⟩ := de_aload_n2 h0
    obtain ⟨d45, h0⟩ := de_invokevirtual 297 (by decide) h0
    obtain ⟨d48, h0⟩ := de_aload_n2 h0
    obtain ⟨d49, h0⟩ := de_aload_n0 h0
    obtain ⟨d50, h0⟩ := de_getfield 72 (by decide) h0
    obtain ⟨d53, h0⟩ := de_invokevirtual 300 (by decide) h0
    obtain ⟨d56, h0⟩ := de_aload_n0 h0
    obtain ⟨d57, h0⟩ := de_getfield 88 (by decide) h0
    obtain ⟨d60, h0⟩ := de_aload_n2 h0
    obtain ⟨d61, h0⟩ := de_invokevirtual 303 (by decide) h0
    obtain ⟨d64, h0⟩ := de_aload_n2 h0
    obtain ⟨d65, h0⟩ := de_aload_n0 h0
    obtain ⟨d66, h0⟩ := de_getfield 72 (by decide) h0
    obtain ⟨d69, h0⟩ := de_invokevirtual 306 (by decide) h0
    obtain ⟨d72, h0⟩ := de_aload_n2 h0
    obtain ⟨d73, h0⟩ := de_invokevirtual 309 (by decide) h0
    obtain ⟨d76, h0⟩ := de_iinc (1) (by decide) h0
    obtain ⟨d79, h0⟩ := de_goto (-62) (by decide) h0
    refine lv_aload_n hx hb d22 rfl (lv_at hl 0 rfl) ?_
    refine lv_iload_n hx hb d23 rfl (lv_at hl 1 rfl) ?_
    obtain ⟨hs9, hf⟩ := x_if hf
    refine x_thenQ C0 hxt hS hf (fun z0 e0 => x_runV C0 hR hS me_X7_layoutOf wi_X7_layoutOf wl_X7_layoutOf ml_X7_213 hs9 xcl_7 (As := [.int x1]) (ct_X7_layoutOf E l C0.2.2.2.2.2.2.2.1 _ r0 x1) rfl rfl hl.1 (Nat.le_of_ble_eq_true rfl) d24 ⟨(Nat.le_of_ble_eq_true rfl), (Nat.le_of_ble_eq_true rfl)⟩ ⟨(Nat.le_of_ble_eq_true rfl), (Nat.le_of_ble_eq_true rfl)⟩ e0) (Nat.le_of_ble_eq_true rfl) (Nat.le_of_ble_eq_true rfl) (fun h9 a2 H locs hR hS hf => ?_)
    refine lv_astore_n (lv' := [(2, .ref (xa E a2)), (0, .ref (xa E r0)), (1, .int x1)]) hx hb d27 rfl hl (by decide) rfl (fun ls hl => ?_)
    refine lv_aload_n hx hb d28 rfl (lv_at hl 0 rfl) ?_
    obtain ⟨hs9, hf⟩ := x_if hf
    refine x_thenV C0 hxt hS hf (fun z0 e0 => x_runV C0 hR hS me_X0_collapseTracks wi_X0_collapseTracks wl_X0_collapseTracks ml_X7_290 hs9 xcl_0 (As := []) (ct_X0_collapseTracks E l C0.2.2.2.2.2.2.2.1 _ a2) rfl rfl hl.1 (Nat.le_of_ble_eq_true rfl) d29 ⟨(Nat.le_of_ble_eq_true rfl), (Nat.le_of_ble_eq_true rfl)⟩ ⟨(Nat.le_of_ble_eq_true rfl), (Nat.le_of_ble_eq_true rfl)⟩ e0) (Nat.le_of_ble_eq_true rfl) (Nat.le_of_ble_eq_true rfl) (fun h9 H locs hR hS hf => ?_)
    refine lv_aload_n hx hb d32 rfl (lv_at hl 1 rfl) ?_
    refine x_getR C0 hR hf xcl_7 (Nat.le_of_ble_eq_true rfl) rfl fl_X7_81 d33 (fun a5 hf => ?_)
    refine lv_aload_n hx hb d36 rfl (lv_at hl 0 rfl) ?_
    obtain ⟨hs9, hf⟩ := x_if hf
    refine x_thenV C0 hxt hS hf (fun z0 e0 => x_runV C0 hR hS me_X1_findBases wi_X1_findBases wl_X1_findBases ml_X7_293 hs9 xcl_1 (As := [.ref (xa E a2)]) (ct_X1_findBases E l C0.2.2.2.2.2.2.2.1 _ a5 a2) rfl rfl hl.1 (Nat.le_of_ble_eq_true rfl) d37 ⟨(Nat.le_of_ble_eq_true rfl), (Nat.le_of_ble_eq_true rfl)⟩ ⟨(Nat.le_of_ble_eq_true rfl), (Nat.le_of_ble_eq_true rfl)⟩ e0) (Nat.le_of_ble_eq_true rfl) (Nat.le_of_ble_eq_true rfl) (fun h9 H locs hR hS hf => ?_)
    refine lv_aload_n hx hb d40 rfl (lv_at hl 1 rfl) ?_
    refine x_getR C0 hR hf xcl_7 (Nat.le_of_ble_eq_true rfl) rfl fl_X7_81 d41 (fun a7 hf => ?_)
    refine lv_aload_n hx hb d44 rfl (lv_at hl 0 rfl) ?_
    obtain ⟨hs9, hf⟩ := x_if hf
    refine x_thenV C0 hxt hS hf (fun z0 e0 => x_runV C0 hR hS me_X1_findLimits wi_X1_findLimits wl_X1_findLimits ml_X7_297 hs9 xcl_1 (As := [.ref (xa E a2)]) (ct_X1_findLimits E l C0.2.2.2.2.2.2.2.1 _ a7 a2) rfl rfl hl.1 (Nat.le_of_ble_eq_true rfl) d45 ⟨(Nat.le_of_ble_eq_true rfl), (Nat.le_of_ble_eq_true rfl)⟩ ⟨(Nat.le_of_ble_eq_true rfl), (Nat.le_of_ble_eq_true rfl)⟩ e0) (Nat.le_of_ble_eq_true rfl) (Nat.le_of_ble_eq_true rfl) (fun h9 H locs hR hS hf => ?_)
    refine lv_aload_n hx hb d48 rfl (lv_at hl 0 rfl) ?_
    refine lv_aload_n hx hb d49 rfl (lv_at hl 1 rfl) ?_
    refine x_getR C0 hR hf xcl_7 (Nat.le_of_ble_eq_true rfl) rfl fl_X7_72 d50 (fun a9 hf => ?_)
    obtain ⟨hs9, hf⟩ := x_if hf
    refine x_thenV C0 hxt hS hf (fun z0 e0 => x_runV C0 hR hS me_X0_growTracks wi_X0_growTracks wl_X0_growTracks ml_X7_300 hs9 xcl_0 (As := [.ref (xa E a9)]) (ct_X0_growTracks E l C0.2.2.2.2.2.2.2.1 _ a2 a9) rfl rfl hl.1 (Nat.le_of_ble_eq_true rfl) d53 ⟨(Nat.le_of_ble_eq_true rfl), (Nat.le_of_ble_eq_true rfl)⟩ ⟨(Nat.le_of_ble_eq_true rfl), (Nat.le_of_ble_eq_true rfl)⟩ e0) (Nat.le_of_ble_eq_true rfl) (Nat.le_of_ble_eq_true rfl) (fun h9 H locs hR hS hf => ?_)
    refine lv_aload_n hx hb d56 rfl (lv_at hl 1 rfl) ?_
    refine x_getR C0 hR hf xcl_7 (Nat.le_of_ble_eq_true rfl) rfl fl_X7_88 d57 (fun a11 hf => ?_)
    refine lv_aload_n hx hb d60 rfl (lv_at hl 0 rfl) ?_
    obtain ⟨hs9, hf⟩ := x_if hf
    refine x_thenV C0 hxt hS hf (fun z0 e0 => x_runV C0 hR hS me_X3_shareOut wi_X3_shareOut wl_X3_shareOut ml_X7_303 hs9 xcl_3 (As := [.ref (xa E a2)]) (ct_X3_shareOut E l C0.2.2.2.2.2.2.2.1 _ a11 a2) rfl rfl hl.1 (Nat.le_of_ble_eq_true rfl) d61 ⟨(Nat.le_of_ble_eq_true rfl), (Nat.le_of_ble_eq_true rfl)⟩ ⟨(Nat.le_of_ble_eq_true rfl), (Nat.le_of_ble_eq_true rfl)⟩ e0) (Nat.le_of_ble_eq_true rfl) (Nat.le_of_ble_eq_true rfl) (fun h9 H locs hR hS hf => ?_)
    refine lv_aload_n hx hb d64 rfl (lv_at hl 0 rfl) ?_
    refine lv_aload_n hx hb d65 rfl (lv_at hl 1 rfl) ?_
    refine x_getR C0 hR hf xcl_7 (Nat.le_of_ble_eq_true rfl) rfl fl_X7_72 d66 (fun a13 hf => ?_)
    obtain ⟨hs9, hf⟩ := x_if hf
    refine x_thenV C0 hxt hS hf (fun z0 e0 => x_runV C0 hR hS me_X0_stretchTracks wi_X0_stretchTracks wl_X0_stretchTracks ml_X7_306 hs9 xcl_0 (As := [.ref (xa E a13)]) (ct_X0_stretchTracks E l C0.2.2.2.2.2.2.2.1 _ a2 a13) rfl rfl hl.1 (Nat.le_of_ble_eq_true rfl) d69 ⟨(Nat.le_of_ble_eq_true rfl), (Nat.le_of_ble_eq_true rfl)⟩ ⟨(Nat.le_of_ble_eq_true rfl), (Nat.le_of_ble_eq_true rfl)⟩ e0) (Nat.le_of_ble_eq_true rfl) (Nat.le_of_ble_eq_true rfl) (fun h9 H locs hR hS hf => ?_)
    refine lv_aload_n hx hb d72 rfl (lv_at hl 0 rfl) ?_
    obtain ⟨hs9, hf⟩ := x_if hf
    refine x_thenV C0 hxt hS hf (fun z0 e0 => x_runV C0 hR hS me_X0_findPositions wi_X0_findPositions wl_X0_findPositions ml_X7_309 hs9 xcl_0 (As := []) (ct_X0_findPositions E l C0.2.2.2.2.2.2.2.1 _ a2) rfl rfl hl.1 (Nat.le_of_ble_eq_true rfl) d73 ⟨(Nat.le_of_ble_eq_true rfl), (Nat.le_of_ble_eq_true rfl)⟩ ⟨(Nat.le_of_ble_eq_true rfl), (Nat.le_of_ble_eq_true rfl)⟩ e0) (Nat.le_of_ble_eq_true rfl) (Nat.le_of_ble_eq_true rfl) (fun h9 H locs hR hS hf => ?_)
    refine lv_iinc (v := (x1 + 1)) (lv' := [(1, .int (x1 + 1)), (2, .ref (xa E a2)), (0, .ref (xa E r0))]) hx hb d76 hl (k := 2) rfl rfl (by decide) rfl (fun ls hl => ?_)
    refine lv_goto (tgt := 17) hx hb d79 (by decide) ?_
    exact hk17 _ _ _ _ _ _ hR hS (lv_sub hl [2, 0] rfl) hf
theorem s_X7_arrange_L17 {p : Program} {l : Launch} {e : Env} {s : State} {m : MethodId} {args : Array Value} {below : List Frame} {meth : Method} {c : Code} {E : XE} {z : XR} (C0 : x_C E p l s m meth c args cX7_arrange 3 "GridEngine" "arrange" none) (hxt : ∀ x ∈ c.exceptionTable.toList, False)  : ∀ n : Nat, ∀ (h : HP) (r0 : Nat) (x1 : Int32) (H : Heap) (locs : List Loc) (ls : Array Slot), x_Rep E h H → va_S (x_A E) s.heap H locs → lv_has ls 3 [(0, .ref (xa E r0)), (1, .int x1)] → f_X7_arrange_L17 n h r0 x1 = some z → W p l e ({ frames := 14, cells := 0, slots := 0, locals := 281 } : Room) s m args below meth c H locs 0 0 (x_Q E below args s 0 0 z) (F0 m 17 ls []) := by
  intro n
  induction n with
  | zero => intro h r0 x1 H locs ls hR hS hl hf; cases (show (none : Option XR) = some z from hf)
  | succ n ih => intro h r0 x1 H locs ls hR hS hl hf; exact s_X7_arrange_b17 C0 hxt ih h r0 x1 H locs ls hR hS hl (show f_X7_arrange_b17 (f_X7_arrange_L17 n) h r0 x1 = some z from hf)
set_option maxRecDepth 100000 in
set_option maxHeartbeats 4000000 in
theorem ct_X7_arrange (E : XE) (l : Launch) (hl0 : l.stackTraces = false) (h : HP) (r0 : Nat) : x_ct E l yX7_arrange (Cond.code yX7_arrange cX7_arrange 3 none) 14 281 0 0 [.ref (xa E r0)] h (f_X7_arrange h r0) := by
  refine x_ofW hl0 (by decide +kernel) ?_
  intro z hf p e s m args below meth c C0 hxt hargs hR
  subst hargs
  have C0 : x_C E p l s m meth c ([.ref (xa E r0)] : List Value).toArray cX7_arrange 3 "GridEngine" "arrange" none := C0
  obtain ⟨hx, hb, -⟩ := id C0
  have hS : va_S (x_A E) s.heap s.heap [] := va_S.rf
  have hl := lv_entry ([.ref (xa E r0)]) (n := 3) (Nat.le_of_ble_eq_true rfl)
  rw [lg_entry_eq]
  generalize (lg_sl ([.ref (xa E r0)]) ++ List.replicate (3 - (lg_sl ([.ref (xa E r0)])).length) Slot.unset).toArray = ls at hl ⊢
  have hl : lv_has ls 3 [(0, .ref (xa E r0))] := hl
  unfold f_X7_arrange at hf
  have h0 : x_by cX7_arrange 0 [42, 180, 0, 92, 153, 0, 4] := by unfold x_by; decide +kernel
  obtain ⟨d0, h0⟩ := de_aload_n0 h0
  obtain ⟨d1, h0⟩ := de_getfield 92 (by decide) h0
  obtain ⟨d4, h0⟩ := de_if_eq (4) (by decide) h0
  refine lv_aload_n hx hb d0 rfl (lv_at hl 0 rfl) ?_
  refine x_getI C0 hR hf xcl_7 (Nat.le_of_ble_eq_true rfl) rfl fl_X7_92 d1 (fun i1 hf => ?_)
  refine lv_if_eq (tgt := 8) hx hb d4 (by decide) (fun q => ?_) (fun q => ?_)
  · have hf := x_pos q hf
    have h0 : x_by cX7_arrange 8 [42, 180, 0, 53, 182, 1, 31, 3, 60] := by unfold x_by; decide +kernel
    obtain ⟨d8, h0⟩ := de_aload_n0 h0
    obtain ⟨d9, h0⟩ := de_getfield 53 (by decide) h0
    obtain ⟨d12, h0⟩ := de_invokevirtual 287 (by decide) h0
    obtain ⟨d15, h0⟩ := de_iconst_0 h0
    obtain ⟨d16, h0⟩ := de_istore_n1 h0
    refine lv_aload_n hx hb d8 rfl (lv_at hl 0 rfl) ?_
    refine x_getR C0 hR hf xcl_7 (Nat.le_of_ble_eq_true rfl) rfl fl_X7_53 d9 (fun a2 hf => ?_)
    obtain ⟨hs9, hf⟩ := x_if hf
    refine x_thenV C0 hxt hS hf (fun z0 e0 => x_runV C0 hR hS me_X5_placeAll wi_X5_placeAll wl_X5_placeAll ml_X7_287 hs9 xcl_5 (As := []) (ct_X5_placeAll E l C0.2.2.2.2.2.2.2.1 _ a2) rfl rfl hl.1 (Nat.le_of_ble_eq_true rfl) d12 ⟨(Nat.le_of_ble_eq_true rfl), (Nat.le_of_ble_eq_true rfl)⟩ ⟨(Nat.le_of_ble_eq_true rfl), (Nat.le_of_ble_eq_true rfl)⟩ e0) (Nat.le_of_ble_eq_true rfl) (Nat.le_of_ble_eq_true rfl) (fun h9 H locs hR hS hf => ?_)
    refine lv_iconst (v := 0) hx hb d15 (by decide) ?_
    refine lv_istore_n (lv' := [(1, .int 0), (0, .ref (xa E r0))]) hx hb d16 rfl hl (by decide) rfl (fun ls hl => ?_)
    exact s_X7_arrange_L17 C0 hxt FU _ _ _ _ _ _ hR hS (lv_sub hl [1, 0] rfl) hf
  · have hf := x_neg q hf
    have h0 : x_by cX7_arrange 7 [177] := by unfold x_by; decide +kernel
    obtain ⟨d7, h0⟩ := de_return h0
    exact x_vret C0 hR hS hf (Nat.le_of_ble_eq_true rfl) (Nat.le_of_ble_eq_true rfl) d7
def f_X7_checkRange_b10  (h : HP)  : Option XR :=
  some (h_dirty h, xt "java/lang/IllegalArgumentException")
def f_X7_checkRange (h : HP) (x0 : Int32) (x1 : Int32) (x2 : Int32) : Option XR :=
  if x0 < x1 then
    (
      f_X7_checkRange_b10 h
    )
  else
    (
      if x0 ≤ x2 then
        (
          some (h, xv)
        )
      else
        (
          f_X7_checkRange_b10 h
        )
    )
set_option maxRecDepth 100000 in
set_option maxHeartbeats 4000000 in
theorem s_X7_checkRange_b10 {p : Program} {l : Launch} {e : Env} {s : State} {m : MethodId} {args : Array Value} {below : List Frame} {meth : Method} {c : Code} {E : XE} {z : XR} (C0 : x_C E p l s m meth c args cX7_checkRange 3 "GridEngine" "checkRange" none) (hxt : ∀ x ∈ c.exceptionTable.toList, False)  : ∀ (h : HP)  (H : Heap) (locs : List Loc) (ls : Array Slot), x_Rep E h H → va_S (x_A E) s.heap H locs → lv_has ls 3 [] → f_X7_checkRange_b10 h  = some z → W p l e ({ frames := 8, cells := 1, slots := 6, locals := 130 } : Room) s m args below meth c H locs 0 0 (x_Q E below args s 1 6 z) (F0 m 10 ls []) := by
  intro h  H locs ls hR hS hl hf
  obtain ⟨hx, hb, -⟩ := id C0
  unfold f_X7_checkRange_b10 at hf
  have h0 : x_by cX7_checkRange 10 [187, 0, 149, 89, 19, 1, 6, 183, 0, 153, 191] := by unfold x_by; decide +kernel
  obtain ⟨d10, h0⟩ := de_new 149 (by decide) h0
  obtain ⟨d13, h0⟩ := de_dup h0
  obtain ⟨d14, h0⟩ := de_ldc_w 262 (by decide) h0
  obtain ⟨d17, h0⟩ := de_invokespecial 153 (by decide) h0
  obtain ⟨d20, h0⟩ := de_athrow h0
  exact x_throwW C0 hxt hR hS hf (by decide +kernel) cl_X7_149 cz_IllegalArgumentException sr_X7_262 th_X7_153 hl.1 d10 d13 d14 d17 d20 (Nat.le_of_ble_eq_true rfl) (Nat.le_of_ble_eq_true rfl) (Nat.le_of_ble_eq_true rfl) (Nat.le_of_ble_eq_true rfl) (Nat.le_of_ble_eq_true rfl) (Nat.le_of_ble_eq_true rfl)
set_option maxRecDepth 100000 in
set_option maxHeartbeats 4000000 in
theorem ct_X7_checkRange (E : XE) (l : Launch) (hl0 : l.stackTraces = false) (h : HP) (x0 : Int32) (x1 : Int32) (x2 : Int32) : x_ct E l yX7_checkRange (Cond.code yX7_checkRange cX7_checkRange 3 none) 8 130 1 6 [.int x0, .int x1, .int x2] h (f_X7_checkRange h x0 x1 x2) := by
  refine x_ofW hl0 (by decide +kernel) ?_
  intro z hf p e s m args below meth c C0 hxt hargs hR
  subst hargs
  have C0 : x_C E p l s m meth c ([.int x0, .int x1, .int x2] : List Value).toArray cX7_checkRange 3 "GridEngine" "checkRange" none := C0
  obtain ⟨hx, hb, -⟩ := id C0
  have hS : va_S (x_A E) s.heap s.heap [] := va_S.rf
  have hl := lv_entry ([.int x0, .int x1, .int x2]) (n := 3) (Nat.le_of_ble_eq_true rfl)
  rw [lg_entry_eq]
  generalize (lg_sl ([.int x0, .int x1, .int x2]) ++ List.replicate (3 - (lg_sl ([.int x0, .int x1, .int x2])).length) Slot.unset).toArray = ls at hl ⊢
  have hl : lv_has ls 3 [(0, .int x0), (1, .int x1), (2, .int x2)] := hl
  unfold f_X7_checkRange at hf
  have h0 : x_by cX7_checkRange 0 [26, 27, 161, 0, 8] := by unfold x_by; decide +kernel
  obtain ⟨d0, h0⟩ := de_iload_n0 h0
  obtain ⟨d1, h0⟩ := de_iload_n1 h0
  obtain ⟨d2, h0⟩ := de_icmp_lt (8) (by decide) h0
  refine lv_iload_n hx hb d0 rfl (lv_at hl 0 rfl) ?_
  refine lv_iload_n hx hb d1 rfl (lv_at hl 1 rfl) ?_
  refine lv_icmp_lt (tgt := 10) hx hb d2 (by decide) (fun q => ?_) (fun q => ?_)
  · have hf := x_pos q hf
    exact s_X7_checkRange_b10 C0 hxt _ _ _ _ hR hS (lv_sub hl [] rfl) hf
  · have hf := x_neg q hf
    have h0 : x_by cX7_checkRange 5 [26, 28, 164, 0, 14] := by unfold x_by; decide +kernel
    obtain ⟨d5, h0⟩ := de_iload_n0 h0
    obtain ⟨d6, h0⟩ := de_iload_n2 h0
    obtain ⟨d7, h0⟩ := de_icmp_le (14) (by decide) h0
    refine lv_iload_n hx hb d5 rfl (lv_at hl 0 rfl) ?_
    refine lv_iload_n hx hb d6 rfl (lv_at hl 2 rfl) ?_
    refine lv_icmp_le (tgt := 21) hx hb d7 (by decide) (fun q => ?_) (fun q => ?_)
    · have hf := x_pos q hf
      have h0 : x_by cX7_checkRange 21 [177] := by unfold x_by; decide +kernel
      obtain ⟨d21, h0⟩ := de_return h0
      exact x_vret C0 hR hS hf (Nat.le_of_ble_eq_true rfl) (Nat.le_of_ble_eq_true rfl) d21
    · have hf := x_neg q hf
      exact s_X7_checkRange_b10 C0 hxt _ _ _ _ hR hS (lv_sub hl [] rfl) hf
def f_X7_checkTrack_b17  (h : HP)  : Option XR :=
  some (h_dirty h, xt "java/lang/IndexOutOfBoundsException")
def f_X7_checkTrack (h : HP) (r0 : Nat) (x1 : Int32) (x2 : Int32) : Option XR :=
  if x2 < 1 then
    (
      f_X7_checkTrack_b17 h
    )
  else
    (
      x_gR h r0 7 9 fun a1 =>
      x_rc h a1 5 <| x_cI (f_X5_trackCount h a1 x1) fun h3 i2 =>
      if x2 ≤ i2 then
        (
          some (h3, xv)
        )
      else
        (
          f_X7_checkTrack_b17 h3
        )
    )
set_option maxRecDepth 100000 in
set_option maxHeartbeats 4000000 in
theorem s_X7_checkTrack_b17 {p : Program} {l : Launch} {e : Env} {s : State} {m : MethodId} {args : Array Value} {below : List Frame} {meth : Method} {c : Code} {E : XE} {z : XR} (C0 : x_C E p l s m meth c args cX7_checkTrack 3 "GridEngine" "checkTrack" none) (hxt : ∀ x ∈ c.exceptionTable.toList, False)  : ∀ (h : HP)  (H : Heap) (locs : List Loc) (ls : Array Slot), x_Rep E h H → va_S (x_A E) s.heap H locs → lv_has ls 3 [] → f_X7_checkTrack_b17 h  = some z → W p l e ({ frames := 9, cells := 1, slots := 6, locals := 151 } : Room) s m args below meth c H locs 0 0 (x_Q E below args s 1 6 z) (F0 m 17 ls []) := by
  intro h  H locs ls hR hS hl hf
  obtain ⟨hx, hb, -⟩ := id C0
  unfold f_X7_checkTrack_b17 at hf
  have h0 : x_by cX7_checkTrack 17 [187, 1, 10, 89, 19, 1, 15, 183, 1, 14, 191] := by unfold x_by; decide +kernel
  obtain ⟨d17, h0⟩ := de_new 266 (by decide) h0
  obtain ⟨d20, h0⟩ := de_dup h0
  obtain ⟨d21, h0⟩ := de_ldc_w 271 (by decide) h0
  obtain ⟨d24, h0⟩ := de_invokespecial 270 (by decide) h0
  obtain ⟨d27, h0⟩ := de_athrow h0
  exact x_throwW C0 hxt hR hS hf (by decide +kernel) cl_X7_266 cz_IndexOutOfBoundsException sr_X7_271 th_X7_270 hl.1 d17 d20 d21 d24 d27 (Nat.le_of_ble_eq_true rfl) (Nat.le_of_ble_eq_true rfl) (Nat.le_of_ble_eq_true rfl) (Nat.le_of_ble_eq_true rfl) (Nat.le_of_ble_eq_true rfl) (Nat.le_of_ble_eq_true rfl)
set_option maxRecDepth 100000 in
set_option maxHeartbeats 4000000 in
theorem ct_X7_checkTrack (E : XE) (l : Launch) (hl0 : l.stackTraces = false) (h : HP) (r0 : Nat) (x1 : Int32) (x2 : Int32) : x_ct E l yX7_checkTrack (Cond.code yX7_checkTrack cX7_checkTrack 3 none) 9 151 1 6 [.ref (xa E r0), .int x1, .int x2] h (f_X7_checkTrack h r0 x1 x2) := by
  refine x_ofW hl0 (by decide +kernel) ?_
  intro z hf p e s m args below meth c C0 hxt hargs hR
  subst hargs
  have C0 : x_C E p l s m meth c ([.ref (xa E r0), .int x1, .int x2] : List Value).toArray cX7_checkTrack 3 "GridEngine" "checkTrack" none := C0
  obtain ⟨hx, hb, -⟩ := id C0
  have hS : va_S (x_A E) s.heap s.heap [] := va_S.rf
  have hl := lv_entry ([.ref (xa E r0), .int x1, .int x2]) (n := 3) (Nat.le_of_ble_eq_true rfl)
  rw [lg_entry_eq]
  generalize (lg_sl ([.ref (xa E r0), .int x1, .int x2]) ++ List.replicate (3 - (lg_sl ([.ref (xa E r0), .int x1, .int x2])).length) Slot.unset).toArray = ls at hl ⊢
  have hl : lv_has ls 3 [(0, .ref (xa E r0)), (1, .int x1), (2, .int x2)] := hl
  unfold f_X7_checkTrack at hf
  have h0 : x_by cX7_checkTrack 0 [28, 4, 161, 0, 15] := by unfold x_by; decide +kernel
  obtain ⟨d0, h0⟩ := de_iload_n2 h0
  obtain ⟨d1, h0⟩ := de_iconst_1 h0
  obtain ⟨d2, h0⟩ := de_icmp_lt (15) (by decide) h0
  refine lv_iload_n hx hb d0 rfl (lv_at hl 2 rfl) ?_
  refine lv_iconst (v := 1) hx hb d1 (by decide) ?_
  refine lv_icmp_lt (tgt := 17) hx hb d2 (by decide) (fun q => ?_) (fun q => ?_)
  · have hf := x_pos q hf
    exact s_X7_checkTrack_b17 C0 hxt _ _ _ _ hR hS (lv_sub hl [] rfl) hf
  · have hf := x_neg q hf
    have h0 : x_by cX7_checkTrack 5 [28, 42, 180, 0, 53, 27, 182, 0, 194, 164, 0, 14] := by unfold x_by; decide +kernel
    obtain ⟨d5, h0⟩ := de_iload_n2 h0
    obtain ⟨d6, h0⟩ := de_aload_n0 h0
    obtain ⟨d7, h0⟩ := de_getfield 53 (by decide) h0
    obtain ⟨d10, h0⟩ := de_iload_n1 h0
    obtain ⟨d11, h0⟩ := de_invokevirtual 194 (by decide) h0
    obtain ⟨d14, h0⟩ := de_icmp_le (14) (by decide) h0
    refine lv_iload_n hx hb d5 rfl (lv_at hl 2 rfl) ?_
    refine lv_aload_n hx hb d6 rfl (lv_at hl 0 rfl) ?_
    refine x_getR C0 hR hf xcl_7 (Nat.le_of_ble_eq_true rfl) rfl fl_X7_53 d7 (fun a1 hf => ?_)
    refine lv_iload_n hx hb d10 rfl (lv_at hl 1 rfl) ?_
    obtain ⟨hs9, hf⟩ := x_if hf
    refine x_thenI C0 hxt hS hf (fun z0 e0 => x_runV C0 hR hS me_X5_trackCount wi_X5_trackCount wl_X5_trackCount ml_X7_194 hs9 xcl_5 (As := [.int x1]) (ct_X5_trackCount E l C0.2.2.2.2.2.2.2.1 _ a1 x1) rfl rfl hl.1 (Nat.le_of_ble_eq_true rfl) d11 ⟨(Nat.le_of_ble_eq_true rfl), (Nat.le_of_ble_eq_true rfl)⟩ ⟨(Nat.le_of_ble_eq_true rfl), (Nat.le_of_ble_eq_true rfl)⟩ e0) (Nat.le_of_ble_eq_true rfl) (Nat.le_of_ble_eq_true rfl) (fun h9 i2 H locs hR hS hf => ?_)
    refine lv_icmp_le (tgt := 28) hx hb d14 (by decide) (fun q => ?_) (fun q => ?_)
    · have hf := x_pos q hf
      have h0 : x_by cX7_checkTrack 28 [177] := by unfold x_by; decide +kernel
      obtain ⟨d28, h0⟩ := de_return h0
      exact x_vret C0 hR hS hf (Nat.le_of_ble_eq_true rfl) (Nat.le_of_ble_eq_true rfl) d28
    · have hf := x_neg q hf
      exact s_X7_checkTrack_b17 C0 hxt _ _ _ _ hR hS (lv_sub hl [] rfl) hf
def f_X7_definition (h : HP) (r0 : Nat) (x1 : Int32) (x2 : Int32) (x3 : Int32) : Option XR :=
  x_cV (f_X7_checkAxis h x1) fun h1 =>
  x_cV (f_X7_checkRange h1 x3 0 4) fun h2 =>
  x_rc h2 r0 7 <| x_cV (f_X7_arrange h2 r0) fun h3 =>
  x_rc h3 r0 7 <| x_cV (f_X7_checkTrack h3 r0 x1 x2) fun h4 =>
  x_gR h4 r0 7 3 fun a5 =>
  x_rc h4 a5 4 <| x_cI (f_X4_trackPart h4 a5 x1 x2 x3) fun h7 i6 =>
  some (h7, xi i6)
set_option maxRecDepth 100000 in
set_option maxHeartbeats 4000000 in
theorem ct_X7_definition (E : XE) (l : Launch) (hl0 : l.stackTraces = false) (h : HP) (r0 : Nat) (x1 : Int32) (x2 : Int32) (x3 : Int32) : x_ct E l yX7_definition (Cond.code yX7_definition cX7_definition 4 (some .int)) 15 303 3 18 [.ref (xa E r0), .int x1, .int x2, .int x3] h (f_X7_definition h r0 x1 x2 x3) := by
  refine x_ofW hl0 (by decide +kernel) ?_
  intro z hf p e s m args below meth c C0 hxt hargs hR
  subst hargs
  have C0 : x_C E p l s m meth c ([.ref (xa E r0), .int x1, .int x2, .int x3] : List Value).toArray cX7_definition 4 "GridEngine" "definition" (some .int) := C0
  obtain ⟨hx, hb, -⟩ := id C0
  have hS : va_S (x_A E) s.heap s.heap [] := va_S.rf
  have hl := lv_entry ([.ref (xa E r0), .int x1, .int x2, .int x3]) (n := 4) (Nat.le_of_ble_eq_true rfl)
  rw [lg_entry_eq]
  generalize (lg_sl ([.ref (xa E r0), .int x1, .int x2, .int x3]) ++ List.replicate (4 - (lg_sl ([.ref (xa E r0), .int x1, .int x2, .int x3])).length) Slot.unset).toArray = ls at hl ⊢
  have hl : lv_has ls 4 [(0, .ref (xa E r0)), (1, .int x1), (2, .int x2), (3, .int x3)] := hl
  unfold f_X7_definition at hf
  have h0 : x_by cX7_definition 0 [27, 184, 0, 103, 29, 3, 7, 184, 0, 130, 42, 182, 0, 134, 42, 27, 28, 182, 0, 137, 42, 180, 0, 27, 27, 28, 29, 182, 0, 141, 172] := by unfold x_by; decide +kernel
  obtain ⟨d0, h0⟩ := de_iload_n1 h0
  obtain ⟨d1, h0⟩ := de_invokestatic 103 (by decide) h0
  obtain ⟨d4, h0⟩ := de_iload_n3 h0
  obtain ⟨d5, h0⟩ := de_iconst_0 h0
  obtain ⟨d6, h0⟩ := de_iconst_4 h0
  obtain ⟨d7, h0⟩ := de_invokestatic 130 (by decide) h0
  obtain ⟨d10, h0⟩ := de_aload_n0 h0
  obtain ⟨d11, h0⟩ := de_invokevirtual 134 (by decide) h0
  obtain ⟨d14, h0⟩ := de_aload_n0 h0
  obtain ⟨d15, h0⟩ := de_iload_n1 h0
  obtain ⟨d16, h0⟩ := de_iload_n2 h0
  obtain ⟨d17, h0⟩ := de_invokevirtual 137 (by decide) h0
  obtain ⟨d20, h0⟩ := de_aload_n0 h0
  obtain ⟨d21, h0⟩ := de_getfield 27 (by decide) h0
  obtain ⟨d24, h0⟩ := de_iload_n1 h0
  obtain ⟨d25, h0⟩ := de_iload_n2 h0
  obtain ⟨d26, h0⟩ := de_iload_n3 h0
  obtain ⟨d27, h0⟩ := de_invokevirtual 141 (by decide) h0
  obtain ⟨d30, h0⟩ := de_ireturn h0
  refine lv_iload_n hx hb d0 rfl (lv_at hl 1 rfl) ?_
  refine x_thenV C0 hxt hS hf (fun z0 e0 => x_runS C0 hR hS me_X7_checkAxis wt_X7_checkAxis ml_X7_103 (As := [.int x1]) (ct_X7_checkAxis E l C0.2.2.2.2.2.2.2.1 _ x1) rfl rfl hl.1 (Nat.le_of_ble_eq_true rfl) d1 ⟨(Nat.le_of_ble_eq_true rfl), (Nat.le_of_ble_eq_true rfl)⟩ ⟨(Nat.le_of_ble_eq_true rfl), (Nat.le_of_ble_eq_true rfl)⟩ e0) (Nat.le_of_ble_eq_true rfl) (Nat.le_of_ble_eq_true rfl) (fun h9 H locs hR hS hf => ?_)
  refine lv_iload_n hx hb d4 rfl (lv_at hl 3 rfl) ?_
  refine lv_iconst (v := 0) hx hb d5 (by decide) ?_
  refine lv_iconst (v := 4) hx hb d6 (by decide) ?_
  refine x_thenV C0 hxt hS hf (fun z0 e0 => x_runS C0 hR hS me_X7_checkRange wt_X7_checkRange ml_X7_130 (As := [.int x3, .int 0, .int 4]) (ct_X7_checkRange E l C0.2.2.2.2.2.2.2.1 _ x3 0 4) rfl rfl hl.1 (Nat.le_of_ble_eq_true rfl) d7 ⟨(Nat.le_of_ble_eq_true rfl), (Nat.le_of_ble_eq_true rfl)⟩ ⟨(Nat.le_of_ble_eq_true rfl), (Nat.le_of_ble_eq_true rfl)⟩ e0) (Nat.le_of_ble_eq_true rfl) (Nat.le_of_ble_eq_true rfl) (fun h9 H locs hR hS hf => ?_)
  refine lv_aload_n hx hb d10 rfl (lv_at hl 0 rfl) ?_
  obtain ⟨hs9, hf⟩ := x_if hf
  refine x_thenV C0 hxt hS hf (fun z0 e0 => x_runV C0 hR hS me_X7_arrange wi_X7_arrange wl_X7_arrange ml_X7_134 hs9 xcl_7 (As := []) (ct_X7_arrange E l C0.2.2.2.2.2.2.2.1 _ r0) rfl rfl hl.1 (Nat.le_of_ble_eq_true rfl) d11 ⟨(Nat.le_of_ble_eq_true rfl), (Nat.le_of_ble_eq_true rfl)⟩ ⟨(Nat.le_of_ble_eq_true rfl), (Nat.le_of_ble_eq_true rfl)⟩ e0) (Nat.le_of_ble_eq_true rfl) (Nat.le_of_ble_eq_true rfl) (fun h9 H locs hR hS hf => ?_)
  refine lv_aload_n hx hb d14 rfl (lv_at hl 0 rfl) ?_
  refine lv_iload_n hx hb d15 rfl (lv_at hl 1 rfl) ?_
  refine lv_iload_n hx hb d16 rfl (lv_at hl 2 rfl) ?_
  obtain ⟨hs9, hf⟩ := x_if hf
  refine x_thenV C0 hxt hS hf (fun z0 e0 => x_runV C0 hR hS me_X7_checkTrack wi_X7_checkTrack wl_X7_checkTrack ml_X7_137 hs9 xcl_7 (As := [.int x1, .int x2]) (ct_X7_checkTrack E l C0.2.2.2.2.2.2.2.1 _ r0 x1 x2) rfl rfl hl.1 (Nat.le_of_ble_eq_true rfl) d17 ⟨(Nat.le_of_ble_eq_true rfl), (Nat.le_of_ble_eq_true rfl)⟩ ⟨(Nat.le_of_ble_eq_true rfl), (Nat.le_of_ble_eq_true rfl)⟩ e0) (Nat.le_of_ble_eq_true rfl) (Nat.le_of_ble_eq_true rfl) (fun h9 H locs hR hS hf => ?_)
  refine lv_aload_n hx hb d20 rfl (lv_at hl 0 rfl) ?_
  refine x_getR C0 hR hf xcl_7 (Nat.le_of_ble_eq_true rfl) rfl fl_X7_27 d21 (fun a5 hf => ?_)
  refine lv_iload_n hx hb d24 rfl (lv_at hl 1 rfl) ?_
  refine lv_iload_n hx hb d25 rfl (lv_at hl 2 rfl) ?_
  refine lv_iload_n hx hb d26 rfl (lv_at hl 3 rfl) ?_
  obtain ⟨hs9, hf⟩ := x_if hf
  refine x_thenI C0 hxt hS hf (fun z0 e0 => x_runV C0 hR hS me_X4_trackPart wi_X4_trackPart wl_X4_trackPart ml_X7_141 hs9 xcl_4 (As := [.int x1, .int x2, .int x3]) (ct_X4_trackPart E l C0.2.2.2.2.2.2.2.1 _ a5 x1 x2 x3) rfl rfl hl.1 (Nat.le_of_ble_eq_true rfl) d27 ⟨(Nat.le_of_ble_eq_true rfl), (Nat.le_of_ble_eq_true rfl)⟩ ⟨(Nat.le_of_ble_eq_true rfl), (Nat.le_of_ble_eq_true rfl)⟩ e0) (Nat.le_of_ble_eq_true rfl) (Nat.le_of_ble_eq_true rfl) (fun h9 i6 H locs hR hS hf => ?_)
  exact x_iret C0 hR hS hf (Nat.le_of_ble_eq_true rfl) (Nat.le_of_ble_eq_true rfl) d30
def f_X7_isSettingInRange_b49  (h : HP) (t0 : Int32) : Option XR :=
  x_rZ h t0
def f_X7_isSettingInRange_b44  (h : HP)  : Option XR :=
  f_X7_isSettingInRange_b49 h 1
def f_X7_isSettingInRange_b48  (h : HP)  : Option XR :=
  f_X7_isSettingInRange_b49 h 0
def f_X7_isSettingInRange_b65  (h : HP) (t0 : Int32) : Option XR :=
  x_rZ h t0
def f_X7_isSettingInRange_b64  (h : HP)  : Option XR :=
  f_X7_isSettingInRange_b65 h 0
def f_X7_isSettingInRange_b81  (h : HP) (t0 : Int32) : Option XR :=
  x_rZ h t0
def f_X7_isSettingInRange_b80  (h : HP)  : Option XR :=
  f_X7_isSettingInRange_b81 h 0
def f_X7_isSettingInRange (h : HP) (x0 : Int32) (x1 : Int32) : Option XR :=
  if x0 = 0 then
    (
      if x1 = (-1) then
        (
          f_X7_isSettingInRange_b44 h
        )
      else
        (
          if x1 < 0 then
            (
              f_X7_isSettingInRange_b48 h
            )
          else
            (
              if 9999 < x1 then
                (
                  f_X7_isSettingInRange_b48 h
                )
              else
                (
                  f_X7_isSettingInRange_b44 h
                )
            )
        )
    )
  else
    (
    if x0 = 1 then
      (
        if x1 < 0 then
          (
            f_X7_isSettingInRange_b64 h
          )
        else
          (
            if 99 < x1 then
              (
                f_X7_isSettingInRange_b64 h
              )
            else
              (
                f_X7_isSettingInRange_b65 h 1
              )
          )
      )
    else
      (
      if x0 = 2 then
        (
          if x1 < 0 then
            (
              f_X7_isSettingInRange_b80 h
            )
          else
            (
              if 6 < x1 then
                (
                  f_X7_isSettingInRange_b80 h
                )
              else
                (
                  f_X7_isSettingInRange_b81 h 1
                )
            )
        )
      else
        (
        x_rZ h 0
        )
      )
    )
set_option maxRecDepth 100000 in
set_option maxHeartbeats 4000000 in
theorem s_X7_isSettingInRange_b49 {p : Program} {l : Launch} {e : Env} {s : State} {m : MethodId} {args : Array Value} {below : List Frame} {meth : Method} {c : Code} {E : XE} {z : XR} (C0 : x_C E p l s m meth c args cX7_isSettingInRange 2 "GridEngine" "isSettingInRange" (some .boolean)) (hxt : ∀ x ∈ c.exceptionTable.toList, False)  : ∀ (h : HP) (t0 : Int32) (H : Heap) (locs : List Loc) (ls : Array Slot), x_Rep E h H → va_S (x_A E) s.heap H locs → lv_has ls 2 [] → f_X7_isSettingInRange_b49 h t0 = some z → W p l e ({ frames := 8, cells := 0, slots := 0, locals := 130 } : Room) s m args below meth c H locs 0 0 (x_Q E below args s 0 0 z) (F0 m 49 ls [.int t0]) := by
  intro h t0 H locs ls hR hS hl hf
  obtain ⟨hx, hb, -⟩ := id C0
  unfold f_X7_isSettingInRange_b49 at hf
  have h0 : x_by cX7_isSettingInRange 49 [172] := by unfold x_by; decide +kernel
  obtain ⟨d49, h0⟩ := de_ireturn h0
  exact x_zret C0 hR hS hf (Nat.le_of_ble_eq_true rfl) (Nat.le_of_ble_eq_true rfl) d49
set_option maxRecDepth 100000 in
set_option maxHeartbeats 4000000 in
theorem s_X7_isSettingInRange_b44 {p : Program} {l : Launch} {e : Env} {s : State} {m : MethodId} {args : Array Value} {below : List Frame} {meth : Method} {c : Code} {E : XE} {z : XR} (C0 : x_C E p l s m meth c args cX7_isSettingInRange 2 "GridEngine" "isSettingInRange" (some .boolean)) (hxt : ∀ x ∈ c.exceptionTable.toList, False)  : ∀ (h : HP)  (H : Heap) (locs : List Loc) (ls : Array Slot), x_Rep E h H → va_S (x_A E) s.heap H locs → lv_has ls 2 [] → f_X7_isSettingInRange_b44 h  = some z → W p l e ({ frames := 8, cells := 0, slots := 0, locals := 130 } : Room) s m args below meth c H locs 0 0 (x_Q E below args s 0 0 z) (F0 m 44 ls []) := by
  intro h  H locs ls hR hS hl hf
  obtain ⟨hx, hb, -⟩ := id C0
  unfold f_X7_isSettingInRange_b44 at hf
  have h0 : x_by cX7_isSettingInRange 44 [4, 167, 0, 4] := by unfold x_by; decide +kernel
  obtain ⟨d44, h0⟩ := de_iconst_1 h0
  obtain ⟨d45, h0⟩ := de_goto (4) (by decide) h0
  refine lv_iconst (v := 1) hx hb d44 (by decide) ?_
  refine lv_goto (tgt := 49) hx hb d45 (by decide) ?_
  exact s_X7_isSettingInRange_b49 C0 hxt _ _ _ _ _ hR hS (lv_sub hl [] rfl) hf
set_option maxRecDepth 100000 in
set_option maxHeartbeats 4000000 in
theorem s_X7_isSettingInRange_b48 {p : Program} {l : Launch} {e : Env} {s : State} {m : MethodId} {args : Array Value} {below : List Frame} {meth : Method} {c : Code} {E : XE} {z : XR} (C0 : x_C E p l s m meth c args cX7_isSettingInRange 2 "GridEngine" "isSettingInRange" (some .boolean)) (hxt : ∀ x ∈ c.exceptionTable.toList, False)  : ∀ (h : HP)  (H : Heap) (locs : List Loc) (ls : Array Slot), x_Rep E h H → va_S (x_A E) s.heap H locs → lv_has ls 2 [] → f_X7_isSettingInRange_b48 h  = some z → W p l e ({ frames := 8, cells := 0, slots := 0, locals := 130 } : Room) s m args below meth c H locs 0 0 (x_Q E below args s 0 0 z) (F0 m 48 ls []) := by
  intro h  H locs ls hR hS hl hf
  obtain ⟨hx, hb, -⟩ := id C0
  unfold f_X7_isSettingInRange_b48 at hf
  have h0 : x_by cX7_isSettingInRange 48 [3] := by unfold x_by; decide +kernel
  obtain ⟨d48, h0⟩ := de_iconst_0 h0
  refine lv_iconst (v := 0) hx hb d48 (by decide) ?_
  exact s_X7_isSettingInRange_b49 C0 hxt _ _ _ _ _ hR hS (lv_sub hl [] rfl) hf
set_option maxRecDepth 100000 in
set_option maxHeartbeats 4000000 in
theorem s_X7_isSettingInRange_b65 {p : Program} {l : Launch} {e : Env} {s : State} {m : MethodId} {args : Array Value} {below : List Frame} {meth : Method} {c : Code} {E : XE} {z : XR} (C0 : x_C E p l s m meth c args cX7_isSettingInRange 2 "GridEngine" "isSettingInRange" (some .boolean)) (hxt : ∀ x ∈ c.exceptionTable.toList, False)  : ∀ (h : HP) (t0 : Int32) (H : Heap) (locs : List Loc) (ls : Array Slot), x_Rep E h H → va_S (x_A E) s.heap H locs → lv_has ls 2 [] → f_X7_isSettingInRange_b65 h t0 = some z → W p l e ({ frames := 8, cells := 0, slots := 0, locals := 130 } : Room) s m args below meth c H locs 0 0 (x_Q E below args s 0 0 z) (F0 m 65 ls [.int t0]) := by
  intro h t0 H locs ls hR hS hl hf
  obtain ⟨hx, hb, -⟩ := id C0
  unfold f_X7_isSettingInRange_b65 at hf
  have h0 : x_by cX7_isSettingInRange 65 [172] := by unfold x_by; decide +kernel
  obtain ⟨d65, h0⟩ := de_ireturn h0
  exact x_zret C0 hR hS hf (Nat.le_of_ble_eq_true rfl) (Nat.le_of_ble_eq_true rfl) d65
set_option maxRecDepth 100000 in
set_option maxHeartbeats 4000000 in
theorem s_X7_isSettingInRange_b64 {p : Program} {l : Launch} {e : Env} {s : State} {m : MethodId} {args : Array Value} {below : List Frame} {meth : Method} {c : Code} {E : XE} {z : XR} (C0 : x_C E p l s m meth c args cX7_isSettingInRange 2 "GridEngine" "isSettingInRange" (some .boolean)) (hxt : ∀ x ∈ c.exceptionTable.toList, False)  : ∀ (h : HP)  (H : Heap) (locs : List Loc) (ls : Array Slot), x_Rep E h H → va_S (x_A E) s.heap H locs → lv_has ls 2 [] → f_X7_isSettingInRange_b64 h  = some z → W p l e ({ frames := 8, cells := 0, slots := 0, locals := 130 } : Room) s m args below meth c H locs 0 0 (x_Q E below args s 0 0 z) (F0 m 64 ls []) := by
  intro h  H locs ls hR hS hl hf
  obtain ⟨hx, hb, -⟩ := id C0
  unfold f_X7_isSettingInRange_b64 at hf
  have h0 : x_by cX7_isSettingInRange 64 [3] := by unfold x_by; decide +kernel
  obtain ⟨d64, h0⟩ := de_iconst_0 h0
  refine lv_iconst (v := 0) hx hb d64 (by decide) ?_
  exact s_X7_isSettingInRange_b65 C0 hxt _ _ _ _ _ hR hS (lv_sub hl [] rfl) hf
set_option maxRecDepth 100000 in
set_option maxHeartbeats 4000000 in
theorem s_X7_isSettingInRange_b81 {p : Program} {l : Launch} {e : Env} {s : State} {m : MethodId} {args : Array Value} {below : List Frame} {meth : Method} {c : Code} {E : XE} {z : XR} (C0 : x_C E p l s m meth c args cX7_isSettingInRange 2 "GridEngine" "isSettingInRange" (some .boolean)) (hxt : ∀ x ∈ c.exceptionTable.toList, False)  : ∀ (h : HP) (t0 : Int32) (H : Heap) (locs : List Loc) (ls : Array Slot), x_Rep E h H → va_S (x_A E) s.heap H locs → lv_has ls 2 [] → f_X7_isSettingInRange_b81 h t0 = some z → W p l e ({ frames := 8, cells := 0, slots := 0, locals := 130 } : Room) s m args below meth c H locs 0 0 (x_Q E below args s 0 0 z) (F0 m 81 ls [.int t0]) := by
  intro h t0 H locs ls hR hS hl hf
  obtain ⟨hx, hb, -⟩ := id C0
  unfold f_X7_isSettingInRange_b81 at hf
  have h0 : x_by cX7_isSettingInRange 81 [172] := by unfold x_by; decide +kernel
  obtain ⟨d81, h0⟩ := de_ireturn h0
  exact x_zret C0 hR hS hf (Nat.le_of_ble_eq_true rfl) (Nat.le_of_ble_eq_true rfl) d81
set_option maxRecDepth 100000 in
set_option maxHeartbeats 4000000 in
theorem s_X7_isSettingInRange_b80 {p : Program} {l : Launch} {e : Env} {s : State} {m : MethodId} {args : Array Value} {below : List Frame} {meth : Method} {c : Code} {E : XE} {z : XR} (C0 : x_C E p l s m meth c args cX7_isSettingInRange 2 "GridEngine" "isSettingInRange" (some .boolean)) (hxt : ∀ x ∈ c.exceptionTable.toList, False)  : ∀ (h : HP)  (H : Heap) (locs : List Loc) (ls : Array Slot), x_Rep E h H → va_S (x_A E) s.heap H locs → lv_has ls 2 [] → f_X7_isSettingInRange_b80 h  = some z → W p l e ({ frames := 8, cells := 0, slots := 0, locals := 130 } : Room) s m args below meth c H locs 0 0 (x_Q E below args s 0 0 z) (F0 m 80 ls []) := by
  intro h  H locs ls hR hS hl hf
  obtain ⟨hx, hb, -⟩ := id C0
  unfold f_X7_isSettingInRange_b80 at hf
  have h0 : x_by cX7_isSettingInRange 80 [3] := by unfold x_by; decide +kernel
  obtain ⟨d80, h0⟩ := de_iconst_0 h0
  refine lv_iconst (v := 0) hx hb d80 (by decide) ?_
  exact s_X7_isSettingInRange_b81 C0 hxt _ _ _ _ _ hR hS (lv_sub hl [] rfl) hf
set_option maxRecDepth 100000 in
set_option maxHeartbeats 4000000 in
theorem ct_X7_isSettingInRange (E : XE) (l : Launch) (hl0 : l.stackTraces = false) (h : HP) (x0 : Int32) (x1 : Int32) : x_ct E l yX7_isSettingInRange (Cond.code yX7_isSettingInRange cX7_isSettingInRange 2 (some .boolean)) 8 130 0 0 [.int x0, .int x1] h (f_X7_isSettingInRange h x0 x1) := by
  refine x_ofW hl0 (by decide +kernel) ?_
  intro z hf p e s m args below meth c C0 hxt hargs hR
  subst hargs
  have C0 : x_C E p l s m meth c ([.int x0, .int x1] : List Value).toArray cX7_isSettingInRange 2 "GridEngine" "isSettingInRange" (some .boolean) := C0
  obtain ⟨hx, hb, -⟩ := id C0
  have hS : va_S (x_A E) s.heap s.heap [] := va_S.rf
  have hl := lv_entry ([.int x0, .int x1]) (n := 2) (Nat.le_of_ble_eq_true rfl)
  rw [lg_entry_eq]
  generalize (lg_sl ([.int x0, .int x1]) ++ List.replicate (2 - (lg_sl ([.int x0, .int x1])).length) Slot.unset).toArray = ls at hl ⊢
  have hl : lv_has ls 2 [(0, .int x0), (1, .int x1)] := hl
  unfold f_X7_isSettingInRange at hf
  have h0 : x_by cX7_isSettingInRange 0 [26] := by unfold x_by; decide +kernel
  obtain ⟨d0, h0⟩ := de_iload_n0 h0
  have d1 : decode cX7_isSettingInRange 1 = .ok (.tableswitch 81 0 2 #[27, 49, 65], 27) := by decide +kernel
  refine lv_iload_n hx hb d0 rfl (lv_at hl 0 rfl) ?_
  by_cases q0 : x0 = 0
  · have hf := x_pos q0 hf
    refine lv_tableIn (tgt := 28) hx hb d1 (by rw [q0]; decide) (by rw [q0]; decide) (by rw [q0]; first | done | rfl) (by decide) ?_
    have h0 : x_by cX7_isSettingInRange 28 [27, 2, 159, 0, 14] := by unfold x_by; decide +kernel
    obtain ⟨d28, h0⟩ := de_iload_n1 h0
    obtain ⟨d29, h0⟩ := de_iconst_m1 h0
    obtain ⟨d30, h0⟩ := de_icmp_eq (14) (by decide) h0
    refine lv_iload_n hx hb d28 rfl (lv_at hl 1 rfl) ?_
    refine lv_iconst (v := -1) hx hb d29 (by decide) ?_
    refine lv_icmp_eq (tgt := 44) hx hb d30 (by decide) (fun q => ?_) (fun q => ?_)
    · have hf := x_pos q hf
      exact s_X7_isSettingInRange_b44 C0 hxt _ _ _ _ hR hS (lv_sub hl [] rfl) hf
    · have hf := x_neg q hf
      have h0 : x_by cX7_isSettingInRange 33 [27, 155, 0, 14] := by unfold x_by; decide +kernel
      obtain ⟨d33, h0⟩ := de_iload_n1 h0
      obtain ⟨d34, h0⟩ := de_if_lt (14) (by decide) h0
      refine lv_iload_n hx hb d33 rfl (lv_at hl 1 rfl) ?_
      refine lv_if_lt (tgt := 48) hx hb d34 (by decide) (fun q => ?_) (fun q => ?_)
      · have hf := x_pos q hf
        exact s_X7_isSettingInRange_b48 C0 hxt _ _ _ _ hR hS (lv_sub hl [] rfl) hf
      · have hf := x_neg q hf
        have h0 : x_by cX7_isSettingInRange 37 [27, 17, 39, 15, 163, 0, 7] := by unfold x_by; decide +kernel
        obtain ⟨d37, h0⟩ := de_iload_n1 h0
        obtain ⟨d38, h0⟩ := de_sipush (9999) (by decide) h0
        obtain ⟨d41, h0⟩ := de_icmp_gt (7) (by decide) h0
        refine lv_iload_n hx hb d37 rfl (lv_at hl 1 rfl) ?_
        refine lv_sipush (v := 9999) hx hb d38 (by decide) ?_
        refine lv_icmp_gt (tgt := 48) hx hb d41 (by decide) (fun q => ?_) (fun q => ?_)
        · have hf := x_pos q hf
          exact s_X7_isSettingInRange_b48 C0 hxt _ _ _ _ hR hS (lv_sub hl [] rfl) hf
        · have hf := x_neg q hf
          exact s_X7_isSettingInRange_b44 C0 hxt _ _ _ _ hR hS (lv_sub hl [] rfl) hf
  · have hf := x_neg q0 hf
    by_cases q1 : x0 = 1
    · have hf := x_pos q1 hf
      refine lv_tableIn (tgt := 50) hx hb d1 (by rw [q1]; decide) (by rw [q1]; decide) (by rw [q1]; first | done | rfl) (by decide) ?_
      have h0 : x_by cX7_isSettingInRange 50 [27, 155, 0, 13] := by unfold x_by; decide +kernel
      obtain ⟨d50, h0⟩ := de_iload_n1 h0
      obtain ⟨d51, h0⟩ := de_if_lt (13) (by decide) h0
      refine lv_iload_n hx hb d50 rfl (lv_at hl 1 rfl) ?_
      refine lv_if_lt (tgt := 64) hx hb d51 (by decide) (fun q => ?_) (fun q => ?_)
      · have hf := x_pos q hf
        exact s_X7_isSettingInRange_b64 C0 hxt _ _ _ _ hR hS (lv_sub hl [] rfl) hf
      · have hf := x_neg q hf
        have h0 : x_by cX7_isSettingInRange 54 [27, 16, 99, 163, 0, 7] := by unfold x_by; decide +kernel
        obtain ⟨d54, h0⟩ := de_iload_n1 h0
        obtain ⟨d55, h0⟩ := de_bipush (99) (by decide) h0
        obtain ⟨d57, h0⟩ := de_icmp_gt (7) (by decide) h0
        refine lv_iload_n hx hb d54 rfl (lv_at hl 1 rfl) ?_
        refine lv_bipush (v := 99) hx hb d55 (by decide) ?_
        refine lv_icmp_gt (tgt := 64) hx hb d57 (by decide) (fun q => ?_) (fun q => ?_)
        · have hf := x_pos q hf
          exact s_X7_isSettingInRange_b64 C0 hxt _ _ _ _ hR hS (lv_sub hl [] rfl) hf
        · have hf := x_neg q hf
          have h0 : x_by cX7_isSettingInRange 60 [4, 167, 0, 4] := by unfold x_by; decide +kernel
          obtain ⟨d60, h0⟩ := de_iconst_1 h0
          obtain ⟨d61, h0⟩ := de_goto (4) (by decide) h0
          refine lv_iconst (v := 1) hx hb d60 (by decide) ?_
          refine lv_goto (tgt := 65) hx hb d61 (by decide) ?_
          exact s_X7_isSettingInRange_b65 C0 hxt _ _ _ _ _ hR hS (lv_sub hl [] rfl) hf
    · have hf := x_neg q1 hf
      by_cases q2 : x0 = 2
      · have hf := x_pos q2 hf
        refine lv_tableIn (tgt := 66) hx hb d1 (by rw [q2]; decide) (by rw [q2]; decide) (by rw [q2]; first | done | rfl) (by decide) ?_
        have h0 : x_by cX7_isSettingInRange 66 [27, 155, 0, 13] := by unfold x_by; decide +kernel
        obtain ⟨d66, h0⟩ := de_iload_n1 h0
        obtain ⟨d67, h0⟩ := de_if_lt (13) (by decide) h0
        refine lv_iload_n hx hb d66 rfl (lv_at hl 1 rfl) ?_
        refine lv_if_lt (tgt := 80) hx hb d67 (by decide) (fun q => ?_) (fun q => ?_)
        · have hf := x_pos q hf
          exact s_X7_isSettingInRange_b80 C0 hxt _ _ _ _ hR hS (lv_sub hl [] rfl) hf
        · have hf := x_neg q hf
          have h0 : x_by cX7_isSettingInRange 70 [27, 16, 6, 163, 0, 7] := by unfold x_by; decide +kernel
          obtain ⟨d70, h0⟩ := de_iload_n1 h0
          obtain ⟨d71, h0⟩ := de_bipush (6) (by decide) h0
          obtain ⟨d73, h0⟩ := de_icmp_gt (7) (by decide) h0
          refine lv_iload_n hx hb d70 rfl (lv_at hl 1 rfl) ?_
          refine lv_bipush (v := 6) hx hb d71 (by decide) ?_
          refine lv_icmp_gt (tgt := 80) hx hb d73 (by decide) (fun q => ?_) (fun q => ?_)
          · have hf := x_pos q hf
            exact s_X7_isSettingInRange_b80 C0 hxt _ _ _ _ hR hS (lv_sub hl [] rfl) hf
          · have hf := x_neg q hf
            have h0 : x_by cX7_isSettingInRange 76 [4, 167, 0, 4] := by unfold x_by; decide +kernel
            obtain ⟨d76, h0⟩ := de_iconst_1 h0
            obtain ⟨d77, h0⟩ := de_goto (4) (by decide) h0
            refine lv_iconst (v := 1) hx hb d76 (by decide) ?_
            refine lv_goto (tgt := 81) hx hb d77 (by decide) ?_
            exact s_X7_isSettingInRange_b81 C0 hxt _ _ _ _ _ hR hS (lv_sub hl [] rfl) hf
      · have hf := x_neg q2 hf
        have g0 : (x0).toInt ≠ 0 := fun e9 => q0 (Int32.toInt_inj.mp (e9.trans (by decide)))
        have g1 : (x0).toInt ≠ 1 := fun e9 => q1 (Int32.toInt_inj.mp (e9.trans (by decide)))
        have g2 : (x0).toInt ≠ 2 := fun e9 => q2 (Int32.toInt_inj.mp (e9.trans (by decide)))
        refine lv_tableOut (tgt := 82) hx hb d1 (by omega) (by decide) ?_
        have h0 : x_by cX7_isSettingInRange 82 [3, 172] := by unfold x_by; decide +kernel
        obtain ⟨d82, h0⟩ := de_iconst_0 h0
        obtain ⟨d83, h0⟩ := de_ireturn h0
        refine lv_iconst (v := 0) hx hb d82 (by decide) ?_
        exact x_zret C0 hR hS hf (Nat.le_of_ble_eq_true rfl) (Nat.le_of_ble_eq_true rfl) d83
def f_X7_set (h : HP) (r0 : Nat) (x1 : Int32) (x2 : Int32) (x3 : Int32) : Option XR :=
  x_cV (f_X7_checkAxis h x1) fun h1 =>
  x_cI (f_X7_isSettingInRange h1 x2 x3) fun h3 i2 =>
  if i2 = 0 then
    (
      some (h_dirty h3, xt "java/lang/IllegalArgumentException")
    )
  else
    (
      x_rc h3 r0 7 <| x_cV (f_X7_rememberChange h3 r0) fun h4 =>
      x_gR h4 r0 7 3 fun a5 =>
      x_rc h4 a5 4 <| x_cI (f_X4_setting h4 a5 x1 x2) fun h7 i6 =>
      x_gR h7 r0 7 3 fun a8 =>
      x_rc h7 a8 4 <| x_cV (f_X4_changeSetting h7 a8 x1 x2 x3) fun h9 =>
      some (h9, xi i6)
    )
set_option maxRecDepth 100000 in
set_option maxHeartbeats 4000000 in
theorem ct_X7_set (E : XE) (l : Launch) (hl0 : l.stackTraces = false) (h : HP) (r0 : Nat) (x1 : Int32) (x2 : Int32) (x3 : Int32) : x_ct E l yX7_set (Cond.code yX7_set cX7_set 5 (some .int)) 10 171 2 12 [.ref (xa E r0), .int x1, .int x2, .int x3] h (f_X7_set h r0 x1 x2 x3) := by
  refine x_ofW hl0 (by decide +kernel) ?_
  intro z hf p e s m args below meth c C0 hxt hargs hR
  subst hargs
  have C0 : x_C E p l s m meth c ([.ref (xa E r0), .int x1, .int x2, .int x3] : List Value).toArray cX7_set 5 "GridEngine" "set" (some .int) := C0
  obtain ⟨hx, hb, -⟩ := id C0
  have hS : va_S (x_A E) s.heap s.heap [] := va_S.rf
  have hl := lv_entry ([.ref (xa E r0), .int x1, .int x2, .int x3]) (n := 5) (Nat.le_of_ble_eq_true rfl)
  rw [lg_entry_eq]
  generalize (lg_sl ([.ref (xa E r0), .int x1, .int x2, .int x3]) ++ List.replicate (5 - (lg_sl ([.ref (xa E r0), .int x1, .int x2, .int x3])).length) Slot.unset).toArray = ls at hl ⊢
  have hl : lv_has ls 5 [(0, .ref (xa E r0)), (1, .int x1), (2, .int x2), (3, .int x3)] := hl
  unfold f_X7_set at hf
  have h0 : x_by cX7_set 0 [27, 184, 0, 103, 28, 29, 184, 0, 145, 154, 0, 13] := by unfold x_by; decide +kernel
  obtain ⟨d0, h0⟩ := de_iload_n1 h0
  obtain ⟨d1, h0⟩ := de_invokestatic 103 (by decide) h0
  obtain ⟨d4, h0⟩ := de_iload_n2 h0
  obtain ⟨d5, h0⟩ := de_iload_n3 h0
  obtain ⟨d6, h0⟩ := de_invokestatic 145 (by decide) h0
  obtain ⟨d9, h0⟩ := de_if_ne (13) (by decide) h0
  refine lv_iload_n hx hb d0 rfl (lv_at hl 1 rfl) ?_
  refine x_thenV C0 hxt hS hf (fun z0 e0 => x_runS C0 hR hS me_X7_checkAxis wt_X7_checkAxis ml_X7_103 (As := [.int x1]) (ct_X7_checkAxis E l C0.2.2.2.2.2.2.2.1 _ x1) rfl rfl hl.1 (Nat.le_of_ble_eq_true rfl) d1 ⟨(Nat.le_of_ble_eq_true rfl), (Nat.le_of_ble_eq_true rfl)⟩ ⟨(Nat.le_of_ble_eq_true rfl), (Nat.le_of_ble_eq_true rfl)⟩ e0) (Nat.le_of_ble_eq_true rfl) (Nat.le_of_ble_eq_true rfl) (fun h9 H locs hR hS hf => ?_)
  refine lv_iload_n hx hb d4 rfl (lv_at hl 2 rfl) ?_
  refine lv_iload_n hx hb d5 rfl (lv_at hl 3 rfl) ?_
  refine x_thenI C0 hxt hS hf (fun z0 e0 => x_runS C0 hR hS me_X7_isSettingInRange wt_X7_isSettingInRange ml_X7_145 (As := [.int x2, .int x3]) (ct_X7_isSettingInRange E l C0.2.2.2.2.2.2.2.1 _ x2 x3) rfl rfl hl.1 (Nat.le_of_ble_eq_true rfl) d6 ⟨(Nat.le_of_ble_eq_true rfl), (Nat.le_of_ble_eq_true rfl)⟩ ⟨(Nat.le_of_ble_eq_true rfl), (Nat.le_of_ble_eq_true rfl)⟩ e0) (Nat.le_of_ble_eq_true rfl) (Nat.le_of_ble_eq_true rfl) (fun h9 i2 H locs hR hS hf => ?_)
  refine lv_if_ne (tgt := 22) hx hb d9 (by decide) (fun q => ?_) (fun q => ?_)
  · have hf := x_neg q hf
    have h0 : x_by cX7_set 22 [42, 182, 0, 117, 42, 180, 0, 27, 27, 28, 182, 0, 154, 54, 4, 42, 180, 0, 27, 27, 28, 29, 182, 0, 158, 21, 4, 172] := by unfold x_by; decide +kernel
    obtain ⟨d22, h0⟩ := de_aload_n0 h0
    obtain ⟨d23, h0⟩ := de_invokevirtual 117 (by decide) h0
    obtain ⟨d26, h0⟩ := de_aload_n0 h0
    obtain ⟨d27, h0⟩ := de_getfield 27 (by decide) h0
    obtain ⟨d30, h0⟩ := de_iload_n1 h0
    obtain ⟨d31, h0⟩ := de_iload_n2 h0
    obtain ⟨d32, h0⟩ := de_invokevirtual 154 (by decide) h0
    obtain ⟨d35, h0⟩ := de_istore h0
    obtain ⟨d37, h0⟩ := de_aload_n0 h0
    obtain ⟨d38, h0⟩ := de_getfield 27 (by decide) h0
    obtain ⟨d41, h0⟩ := de_iload_n1 h0
    obtain ⟨d42, h0⟩ := de_iload_n2 h0
    obtain ⟨d43, h0⟩ := de_iload_n3 h0
    obtain ⟨d44, h0⟩ := de_invokevirtual 158 (by decide) h0
    obtain ⟨d47, h0⟩ := de_iload h0
    obtain ⟨d49, h0⟩ := de_ireturn h0
    refine lv_aload_n hx hb d22 rfl (lv_at hl 0 rfl) ?_
    obtain ⟨hs9, hf⟩ := x_if hf
    refine x_thenV C0 hxt hS hf (fun z0 e0 => x_runV C0 hR hS me_X7_rememberChange wi_X7_rememberChange wl_X7_rememberChange ml_X7_117 hs9 xcl_7 (As := []) (ct_X7_rememberChange E l C0.2.2.2.2.2.2.2.1 _ r0) rfl rfl hl.1 (Nat.le_of_ble_eq_true rfl) d23 ⟨(Nat.le_of_ble_eq_true rfl), (Nat.le_of_ble_eq_true rfl)⟩ ⟨(Nat.le_of_ble_eq_true rfl), (Nat.le_of_ble_eq_true rfl)⟩ e0) (Nat.le_of_ble_eq_true rfl) (Nat.le_of_ble_eq_true rfl) (fun h9 H locs hR hS hf => ?_)
    refine lv_aload_n hx hb d26 rfl (lv_at hl 0 rfl) ?_
    refine x_getR C0 hR hf xcl_7 (Nat.le_of_ble_eq_true rfl) rfl fl_X7_27 d27 (fun a5 hf => ?_)
    refine lv_iload_n hx hb d30 rfl (lv_at hl 1 rfl) ?_
    refine lv_iload_n hx hb d31 rfl (lv_at hl 2 rfl) ?_
    obtain ⟨hs9, hf⟩ := x_if hf
    refine x_thenI C0 hxt hS hf (fun z0 e0 => x_runV C0 hR hS me_X4_setting wi_X4_setting wl_X4_setting ml_X7_154 hs9 xcl_4 (As := [.int x1, .int x2]) (ct_X4_setting E l C0.2.2.2.2.2.2.2.1 _ a5 x1 x2) rfl rfl hl.1 (Nat.le_of_ble_eq_true rfl) d32 ⟨(Nat.le_of_ble_eq_true rfl), (Nat.le_of_ble_eq_true rfl)⟩ ⟨(Nat.le_of_ble_eq_true rfl), (Nat.le_of_ble_eq_true rfl)⟩ e0) (Nat.le_of_ble_eq_true rfl) (Nat.le_of_ble_eq_true rfl) (fun h9 i6 H locs hR hS hf => ?_)
    refine lv_istore (lv' := [(4, .int i6), (0, .ref (xa E r0)), (1, .int x1), (2, .int x2), (3, .int x3)]) hx hb d35 hl (by decide) rfl (fun ls hl => ?_)
    refine lv_aload_n hx hb d37 rfl (lv_at hl 1 rfl) ?_
    refine x_getR C0 hR hf xcl_7 (Nat.le_of_ble_eq_true rfl) rfl fl_X7_27 d38 (fun a8 hf => ?_)
    refine lv_iload_n hx hb d41 rfl (lv_at hl 2 rfl) ?_
    refine lv_iload_n hx hb d42 rfl (lv_at hl 3 rfl) ?_
    refine lv_iload_n hx hb d43 rfl (lv_at hl 4 rfl) ?_
    obtain ⟨hs9, hf⟩ := x_if hf
    refine x_thenV C0 hxt hS hf (fun z0 e0 => x_runV C0 hR hS me_X4_changeSetting wi_X4_changeSetting wl_X4_changeSetting ml_X7_158 hs9 xcl_4 (As := [.int x1, .int x2, .int x3]) (ct_X4_changeSetting E l C0.2.2.2.2.2.2.2.1 _ a8 x1 x2 x3) rfl rfl hl.1 (Nat.le_of_ble_eq_true rfl) d44 ⟨(Nat.le_of_ble_eq_true rfl), (Nat.le_of_ble_eq_true rfl)⟩ ⟨(Nat.le_of_ble_eq_true rfl), (Nat.le_of_ble_eq_true rfl)⟩ e0) (Nat.le_of_ble_eq_true rfl) (Nat.le_of_ble_eq_true rfl) (fun h9 H locs hR hS hf => ?_)
    refine lv_iload hx hb d47 (lv_at hl 0 rfl) ?_
    exact x_iret C0 hR hS hf (Nat.le_of_ble_eq_true rfl) (Nat.le_of_ble_eq_true rfl) d49
  · have hf := x_pos q hf
    have h0 : x_by cX7_set 12 [187, 0, 149, 89, 18, 151, 183, 0, 153, 191] := by unfold x_by; decide +kernel
    obtain ⟨d12, h0⟩ := de_new 149 (by decide) h0
    obtain ⟨d15, h0⟩ := de_dup h0
    obtain ⟨d16, h0⟩ := de_ldc h0
    obtain ⟨d18, h0⟩ := de_invokespecial 153 (by decide) h0
    obtain ⟨d21, h0⟩ := de_athrow h0
    exact x_throw C0 hxt hR hS hf (by decide +kernel) cl_X7_149 cz_IllegalArgumentException sr_X7_151 th_X7_153 hl.1 d12 d15 d16 d18 d21 (Nat.le_of_ble_eq_true rfl) (Nat.le_of_ble_eq_true rfl) (Nat.le_of_ble_eq_true rfl) (Nat.le_of_ble_eq_true rfl) (Nat.le_of_ble_eq_true rfl) (Nat.le_of_ble_eq_true rfl)
def f_X7_setFlow_b34  (h : HP) (t0 : Int32) (t1 : Int32) (r0 : Nat) (x1 : Int32) (x2 : Int32) : Option XR :=
  x_lI (t1 + t0) fun i1 =>
  x_gR h r0 7 3 fun a2 =>
  x_pI h a2 4 5 x1 fun h3 =>
  x_gR h3 r0 7 3 fun a4 =>
  x_pZ h3 a4 4 6 x2 fun h5 =>
  some (h5, xi i1)
def f_X7_setFlow (h : HP) (r0 : Nat) (x1 : Int32) (x2 : Int32) : Option XR :=
  x_cV (f_X7_checkRange h x1 0 1) fun h1 =>
  x_rc h1 r0 7 <| x_cV (f_X7_rememberChange h1 r0) fun h2 =>
  x_gR h2 r0 7 3 fun a3 =>
  x_gI h2 a3 4 5 fun i4 =>
  x_gR h2 r0 7 3 fun a5 =>
  x_gI h2 a5 4 6 fun i6 =>
  if i6 = 0 then
    (
      f_X7_setFlow_b34 h2 0 (2 * i4) r0 x1 x2
    )
  else
    (
      f_X7_setFlow_b34 h2 1 (2 * i4) r0 x1 x2
    )
set_option maxRecDepth 100000 in
set_option maxHeartbeats 4000000 in
theorem s_X7_setFlow_b34 {p : Program} {l : Launch} {e : Env} {s : State} {m : MethodId} {args : Array Value} {below : List Frame} {meth : Method} {c : Code} {E : XE} {z : XR} (C0 : x_C E p l s m meth c args cX7_setFlow 4 "GridEngine" "setFlow" (some .int)) (hxt : ∀ x ∈ c.exceptionTable.toList, False)  : ∀ (h : HP) (t0 : Int32) (t1 : Int32) (r0 : Nat) (x1 : Int32) (x2 : Int32) (H : Heap) (locs : List Loc) (ls : Array Slot), x_Rep E h H → va_S (x_A E) s.heap H locs → lv_has ls 4 [(0, .ref (xa E r0)), (1, .int x1), (2, .int x2)] → f_X7_setFlow_b34 h t0 t1 r0 x1 x2 = some z → W p l e ({ frames := 10, cells := 1, slots := 6, locals := 171 } : Room) s m args below meth c H locs 1 6 (x_Q E below args s 1 6 z) (F0 m 34 ls [.int t0, .int t1]) := by
  intro h t0 t1 r0 x1 x2 H locs ls hR hS hl hf
  obtain ⟨hx, hb, -⟩ := id C0
  unfold f_X7_setFlow_b34 at hf
  have h0 : x_by cX7_setFlow 34 [96, 62, 42, 180, 0, 27, 27, 181, 0, 161, 42, 180, 0, 27, 28, 181, 0, 164, 29, 172] := by unfold x_by; decide +kernel
  obtain ⟨d34, h0⟩ := de_iadd h0
  obtain ⟨d35, h0⟩ := de_istore_n3 h0
  obtain ⟨d36, h0⟩ := de_aload_n0 h0
  obtain ⟨d37, h0⟩ := de_getfield 27 (by decide) h0
  obtain ⟨d40, h0⟩ := de_iload_n1 h0
  obtain ⟨d41, h0⟩ := de_putfield 161 (by decide) h0
  obtain ⟨d44, h0⟩ := de_aload_n0 h0
  obtain ⟨d45, h0⟩ := de_getfield 27 (by decide) h0
  obtain ⟨d48, h0⟩ := de_iload_n2 h0
  obtain ⟨d49, h0⟩ := de_putfield 164 (by decide) h0
  obtain ⟨d52, h0⟩ := de_iload_n3 h0
  obtain ⟨d53, h0⟩ := de_ireturn h0
  refine lv_iadd hx hb d34 ?_
  refine lv_topi (fun i1 ei1 => ?_)
  have hf := x_lI_el ei1 hf
  refine lv_istore_n (lv' := [(3, .int i1), (0, .ref (xa E r0)), (1, .int x1), (2, .int x2)]) hx hb d35 rfl hl (by decide) rfl (fun ls hl => ?_)
  refine lv_aload_n hx hb d36 rfl (lv_at hl 1 rfl) ?_
  refine x_getR C0 hR hf xcl_7 (Nat.le_of_ble_eq_true rfl) rfl fl_X7_27 d37 (fun a2 hf => ?_)
  refine lv_iload_n hx hb d40 rfl (lv_at hl 2 rfl) ?_
  refine x_putI C0 hR hS hf xcl_4 (Nat.le_of_ble_eq_true rfl) rfl fl_X7_161 (Or.inl rfl) d41 (fun H locs hR hS hf => ?_)
  refine lv_aload_n hx hb d44 rfl (lv_at hl 1 rfl) ?_
  refine x_getR C0 hR hf xcl_7 (Nat.le_of_ble_eq_true rfl) rfl fl_X7_27 d45 (fun a4 hf => ?_)
  refine lv_iload_n hx hb d48 rfl (lv_at hl 3 rfl) ?_
  refine x_putZ C0 hR hS hf xcl_4 (Nat.le_of_ble_eq_true rfl) rfl fl_X7_164 (Or.inl rfl) d49 (fun H locs hR hS hf => ?_)
  refine lv_iload_n hx hb d52 rfl (lv_at hl 0 rfl) ?_
  exact x_iret C0 hR hS hf (Nat.le_of_ble_eq_true rfl) (Nat.le_of_ble_eq_true rfl) d53
set_option maxRecDepth 100000 in
set_option maxHeartbeats 4000000 in
theorem ct_X7_setFlow (E : XE) (l : Launch) (hl0 : l.stackTraces = false) (h : HP) (r0 : Nat) (x1 : Int32) (x2 : Int32) : x_ct E l yX7_setFlow (Cond.code yX7_setFlow cX7_setFlow 4 (some .int)) 10 171 1 6 [.ref (xa E r0), .int x1, .int x2] h (f_X7_setFlow h r0 x1 x2) := by
  refine x_ofW hl0 (by decide +kernel) ?_
  intro z hf p e s m args below meth c C0 hxt hargs hR
  subst hargs
  have C0 : x_C E p l s m meth c ([.ref (xa E r0), .int x1, .int x2] : List Value).toArray cX7_setFlow 4 "GridEngine" "setFlow" (some .int) := C0
  obtain ⟨hx, hb, -⟩ := id C0
  have hS : va_S (x_A E) s.heap s.heap [] := va_S.rf
  have hl := lv_entry ([.ref (xa E r0), .int x1, .int x2]) (n := 4) (Nat.le_of_ble_eq_true rfl)
  rw [lg_entry_eq]
  generalize (lg_sl ([.ref (xa E r0), .int x1, .int x2]) ++ List.replicate (4 - (lg_sl ([.ref (xa E r0), .int x1, .int x2])).length) Slot.unset).toArray = ls at hl ⊢
  have hl : lv_has ls 4 [(0, .ref (xa E r0)), (1, .int x1), (2, .int x2)] := hl
  unfold f_X7_setFlow at hf
  have h0 : x_by cX7_setFlow 0 [27, 3, 4, 184, 0, 130, 42, 182, 0, 117, 5, 42, 180, 0, 27, 180, 0, 161, 104, 42, 180, 0, 27, 180, 0, 164, 153, 0, 7] := by unfold x_by; decide +kernel
  obtain ⟨d0, h0⟩ := de_iload_n1 h0
  obtain ⟨d1, h0⟩ := de_iconst_0 h0
  obtain ⟨d2, h0⟩ := de_iconst_1 h0
  obtain ⟨d3, h0⟩ := de_invokestatic 130 (by decide) h0
  obtain ⟨d6, h0⟩ := de_aload_n0 h0
  obtain ⟨d7, h0⟩ := de_invokevirtual 117 (by decide) h0
  obtain ⟨d10, h0⟩ := de_iconst_2 h0
  obtain ⟨d11, h0⟩ := de_aload_n0 h0
  obtain ⟨d12, h0⟩ := de_getfield 27 (by decide) h0
  obtain ⟨d15, h0⟩ := de_getfield 161 (by decide) h0
  obtain ⟨d18, h0⟩ := de_imul h0
  obtain ⟨d19, h0⟩ := de_aload_n0 h0
  obtain ⟨d20, h0⟩ := de_getfield 27 (by decide) h0
  obtain ⟨d23, h0⟩ := de_getfield 164 (by decide) h0
  obtain ⟨d26, h0⟩ := de_if_eq (7) (by decide) h0
  refine lv_iload_n hx hb d0 rfl (lv_at hl 1 rfl) ?_
  refine lv_iconst (v := 0) hx hb d1 (by decide) ?_
  refine lv_iconst (v := 1) hx hb d2 (by decide) ?_
  refine x_thenV C0 hxt hS hf (fun z0 e0 => x_runS C0 hR hS me_X7_checkRange wt_X7_checkRange ml_X7_130 (As := [.int x1, .int 0, .int 1]) (ct_X7_checkRange E l C0.2.2.2.2.2.2.2.1 _ x1 0 1) rfl rfl hl.1 (Nat.le_of_ble_eq_true rfl) d3 ⟨(Nat.le_of_ble_eq_true rfl), (Nat.le_of_ble_eq_true rfl)⟩ ⟨(Nat.le_of_ble_eq_true rfl), (Nat.le_of_ble_eq_true rfl)⟩ e0) (Nat.le_of_ble_eq_true rfl) (Nat.le_of_ble_eq_true rfl) (fun h9 H locs hR hS hf => ?_)
  refine lv_aload_n hx hb d6 rfl (lv_at hl 0 rfl) ?_
  obtain ⟨hs9, hf⟩ := x_if hf
  refine x_thenV C0 hxt hS hf (fun z0 e0 => x_runV C0 hR hS me_X7_rememberChange wi_X7_rememberChange wl_X7_rememberChange ml_X7_117 hs9 xcl_7 (As := []) (ct_X7_rememberChange E l C0.2.2.2.2.2.2.2.1 _ r0) rfl rfl hl.1 (Nat.le_of_ble_eq_true rfl) d7 ⟨(Nat.le_of_ble_eq_true rfl), (Nat.le_of_ble_eq_true rfl)⟩ ⟨(Nat.le_of_ble_eq_true rfl), (Nat.le_of_ble_eq_true rfl)⟩ e0) (Nat.le_of_ble_eq_true rfl) (Nat.le_of_ble_eq_true rfl) (fun h9 H locs hR hS hf => ?_)
  refine lv_iconst (v := 2) hx hb d10 (by decide) ?_
  refine lv_aload_n hx hb d11 rfl (lv_at hl 0 rfl) ?_
  refine x_getR C0 hR hf xcl_7 (Nat.le_of_ble_eq_true rfl) rfl fl_X7_27 d12 (fun a3 hf => ?_)
  refine x_getI C0 hR hf xcl_4 (Nat.le_of_ble_eq_true rfl) rfl fl_X7_161 d15 (fun i4 hf => ?_)
  refine lv_imul hx hb d18 ?_
  refine lv_aload_n hx hb d19 rfl (lv_at hl 0 rfl) ?_
  refine x_getR C0 hR hf xcl_7 (Nat.le_of_ble_eq_true rfl) rfl fl_X7_27 d20 (fun a5 hf => ?_)
  refine x_getI C0 hR hf xcl_4 (Nat.le_of_ble_eq_true rfl) rfl fl_X7_164 d23 (fun i6 hf => ?_)
  refine lv_if_eq (tgt := 33) hx hb d26 (by decide) (fun q => ?_) (fun q => ?_)
  · have hf := x_pos q hf
    have h0 : x_by cX7_setFlow 33 [3] := by unfold x_by; decide +kernel
    obtain ⟨d33, h0⟩ := de_iconst_0 h0
    refine lv_iconst (v := 0) hx hb d33 (by decide) ?_
    exact s_X7_setFlow_b34 C0 hxt _ _ _ _ _ _ _ _ _ hR hS (lv_sub hl [0, 1, 2] rfl) hf
  · have hf := x_neg q hf
    have h0 : x_by cX7_setFlow 29 [4, 167, 0, 4] := by unfold x_by; decide +kernel
    obtain ⟨d29, h0⟩ := de_iconst_1 h0
    obtain ⟨d30, h0⟩ := de_goto (4) (by decide) h0
    refine lv_iconst (v := 1) hx hb d29 (by decide) ?_
    refine lv_goto (tgt := 34) hx hb d30 (by decide) ?_
    exact s_X7_setFlow_b34 C0 hxt _ _ _ _ _ _ _ _ _ hR hS (lv_sub hl [0, 1, 2] rfl) hf
def f_X7_checkContributions_b16  (h : HP)  : Option XR :=
  some (h_dirty h, xt "java/lang/IllegalArgumentException")
def f_X7_checkContributions (h : HP) (x0 : Int32) (x1 : Int32) : Option XR :=
  if x0 < 0 then
    (
      f_X7_checkContributions_b16 h
    )
  else
    (
      if x1 < x0 then
        (
          f_X7_checkContributions_b16 h
        )
      else
        (
          if x1 ≤ 999 then
            (
              some (h, xv)
            )
          else
            (
              f_X7_checkContributions_b16 h
            )
        )
    )
set_option maxRecDepth 100000 in
set_option maxHeartbeats 4000000 in
theorem s_X7_checkContributions_b16 {p : Program} {l : Launch} {e : Env} {s : State} {m : MethodId} {args : Array Value} {below : List Frame} {meth : Method} {c : Code} {E : XE} {z : XR} (C0 : x_C E p l s m meth c args cX7_checkContributions 2 "GridEngine" "checkContributions" none) (hxt : ∀ x ∈ c.exceptionTable.toList, False)  : ∀ (h : HP)  (H : Heap) (locs : List Loc) (ls : Array Slot), x_Rep E h H → va_S (x_A E) s.heap H locs → lv_has ls 2 [] → f_X7_checkContributions_b16 h  = some z → W p l e ({ frames := 8, cells := 1, slots := 6, locals := 130 } : Room) s m args below meth c H locs 0 0 (x_Q E below args s 1 6 z) (F0 m 16 ls []) := by
  intro h  H locs ls hR hS hl hf
  obtain ⟨hx, hb, -⟩ := id C0
  unfold f_X7_checkContributions_b16 at hf
  have h0 : x_by cX7_checkContributions 16 [187, 0, 149, 89, 19, 1, 8, 183, 0, 153, 191] := by unfold x_by; decide +kernel
  obtain ⟨d16, h0⟩ := de_new 149 (by decide) h0
  obtain ⟨d19, h0⟩ := de_dup h0
  obtain ⟨d20, h0⟩ := de_ldc_w 264 (by decide) h0
  obtain ⟨d23, h0⟩ := de_invokespecial 153 (by decide) h0
  obtain ⟨d26, h0⟩ := de_athrow h0
  exact x_throwW C0 hxt hR hS hf (by decide +kernel) cl_X7_149 cz_IllegalArgumentException sr_X7_264 th_X7_153 hl.1 d16 d19 d20 d23 d26 (Nat.le_of_ble_eq_true rfl) (Nat.le_of_ble_eq_true rfl) (Nat.le_of_ble_eq_true rfl) (Nat.le_of_ble_eq_true rfl) (Nat.le_of_ble_eq_true rfl) (Nat.le_of_ble_eq_true rfl)
set_option maxRecDepth 100000 in
set_option maxHeartbeats 4000000 in
theorem ct_X7_checkContributions (E : XE) (l : Launch) (hl0 : l.stackTraces = false) (h : HP) (x0 : Int32) (x1 : Int32) : x_ct E l yX7_checkContributions (Cond.code yX7_checkContributions cX7_checkContributions 2 none) 8 130 1 6 [.int x0, .int x1] h (f_X7_checkContributions h x0 x1) := by
  refine x_ofW hl0 (by decide +kernel) ?_
  intro z hf p e s m args below meth c C0 hxt hargs hR
  subst hargs
  have C0 : x_C E p l s m meth c ([.int x0, .int x1] : List Value).toArray cX7_checkContributions 2 "GridEngine" "checkContributions" none := C0
  obtain ⟨hx, hb, -⟩ := id C0
  have hS : va_S (x_A E) s.heap s.heap [] := va_S.rf
  have hl := lv_entry ([.int x0, .int x1]) (n := 2) (Nat.le_of_ble_eq_true rfl)
  rw [lg_entry_eq]
  generalize (lg_sl ([.int x0, .int x1]) ++ List.replicate (2 - (lg_sl ([.int x0, .int x1])).length) Slot.unset).toArray = ls at hl ⊢
  have hl : lv_has ls 2 [(0, .int x0), (1, .int x1)] := hl
  unfold f_X7_checkContributions at hf
  have h0 : x_by cX7_checkContributions 0 [26, 155, 0, 15] := by unfold x_by; decide +kernel
  obtain ⟨d0, h0⟩ := de_iload_n0 h0
  obtain ⟨d1, h0⟩ := de_if_lt (15) (by decide) h0
  refine lv_iload_n hx hb d0 rfl (lv_at hl 0 rfl) ?_
  refine lv_if_lt (tgt := 16) hx hb d1 (by decide) (fun q => ?_) (fun q => ?_)
  · have hf := x_pos q hf
    exact s_X7_checkContributions_b16 C0 hxt _ _ _ _ hR hS (lv_sub hl [] rfl) hf
  · have hf := x_neg q hf
    have h0 : x_by cX7_checkContributions 4 [26, 27, 163, 0, 10] := by unfold x_by; decide +kernel
    obtain ⟨d4, h0⟩ := de_iload_n0 h0
    obtain ⟨d5, h0⟩ := de_iload_n1 h0
    obtain ⟨d6, h0⟩ := de_icmp_gt (10) (by decide) h0
    refine lv_iload_n hx hb d4 rfl (lv_at hl 0 rfl) ?_
    refine lv_iload_n hx hb d5 rfl (lv_at hl 1 rfl) ?_
    refine lv_icmp_gt (tgt := 16) hx hb d6 (by decide) (fun q => ?_) (fun q => ?_)
    · have hf := x_pos q hf
      exact s_X7_checkContributions_b16 C0 hxt _ _ _ _ hR hS (lv_sub hl [] rfl) hf
    · have hf := x_neg q hf
      have h0 : x_by cX7_checkContributions 9 [27, 17, 3, 231, 164, 0, 14] := by unfold x_by; decide +kernel
      obtain ⟨d9, h0⟩ := de_iload_n1 h0
      obtain ⟨d10, h0⟩ := de_sipush (999) (by decide) h0
      obtain ⟨d13, h0⟩ := de_icmp_le (14) (by decide) h0
      refine lv_iload_n hx hb d9 rfl (lv_at hl 1 rfl) ?_
      refine lv_sipush (v := 999) hx hb d10 (by decide) ?_
      refine lv_icmp_le (tgt := 27) hx hb d13 (by decide) (fun q => ?_) (fun q => ?_)
      · have hf := x_pos q hf
        have h0 : x_by cX7_checkContributions 27 [177] := by unfold x_by; decide +kernel
        obtain ⟨d27, h0⟩ := de_return h0
        exact x_vret C0 hR hS hf (Nat.le_of_ble_eq_true rfl) (Nat.le_of_ble_eq_true rfl) d27
      · have hf := x_neg q hf
        exact s_X7_checkContributions_b16 C0 hxt _ _ _ _ hR hS (lv_sub hl [] rfl) hf
def f_X7_addItem (h : HP) (r0 : Nat) (x1 : Int32) (x2 : Int32) (x3 : Int32) (x4 : Int32) : Option XR :=
  x_cV (f_X7_checkContributions h x1 x2) fun h1 =>
  x_cV (f_X7_checkContributions h1 x3 x4) fun h2 =>
  x_gR h2 r0 7 3 fun a3 =>
  x_gI h2 a3 4 4 fun i4 =>
  if i4 < 12 then
    (
      x_rc h2 r0 7 <| x_cV (f_X7_rememberChange h2 r0) fun h5 =>
      x_gR h5 r0 7 3 fun a6 =>
      x_gI h5 a6 4 4 fun i7 =>
      x_gR h5 r0 7 3 fun a8 =>
      x_pI h5 a8 4 4 (i7 + 1) fun h9 =>
      x_gR h9 r0 7 3 fun a10 =>
      x_rc h9 a10 4 <| x_cV (f_X4_startItem h9 a10 i7 0 x1 x2) fun h11 =>
      x_gR h11 r0 7 3 fun a12 =>
      x_rc h11 a12 4 <| x_cV (f_X4_startItem h11 a12 i7 1 x3 x4) fun h13 =>
      some (h13, xi i7)
    )
  else
    (
      some (h_dirty h2, xt "java/lang/IllegalStateException")
    )
set_option maxRecDepth 100000 in
set_option maxHeartbeats 4000000 in
theorem ct_X7_addItem (E : XE) (l : Launch) (hl0 : l.stackTraces = false) (h : HP) (r0 : Nat) (x1 : Int32) (x2 : Int32) (x3 : Int32) (x4 : Int32) : x_ct E l yX7_addItem (Cond.code yX7_addItem cX7_addItem 6 (some .int)) 10 179 3 18 [.ref (xa E r0), .int x1, .int x2, .int x3, .int x4] h (f_X7_addItem h r0 x1 x2 x3 x4) := by
  refine x_ofW hl0 (by decide +kernel) ?_
  intro z hf p e s m args below meth c C0 hxt hargs hR
  subst hargs
  have C0 : x_C E p l s m meth c ([.ref (xa E r0), .int x1, .int x2, .int x3, .int x4] : List Value).toArray cX7_addItem 6 "GridEngine" "addItem" (some .int) := C0
  obtain ⟨hx, hb, -⟩ := id C0
  have hS : va_S (x_A E) s.heap s.heap [] := va_S.rf
  have hl := lv_entry ([.ref (xa E r0), .int x1, .int x2, .int x3, .int x4]) (n := 6) (Nat.le_of_ble_eq_true rfl)
  rw [lg_entry_eq]
  generalize (lg_sl ([.ref (xa E r0), .int x1, .int x2, .int x3, .int x4]) ++ List.replicate (6 - (lg_sl ([.ref (xa E r0), .int x1, .int x2, .int x3, .int x4])).length) Slot.unset).toArray = ls at hl ⊢
  have hl : lv_has ls 6 [(0, .ref (xa E r0)), (1, .int x1), (2, .int x2), (3, .int x3), (4, .int x4)] := hl
  unfold f_X7_addItem at hf
  have h0 : x_by cX7_addItem 0 [27, 28, 184, 0, 167, 29, 21, 4, 184, 0, 167, 42, 180, 0, 27, 180, 0, 170, 16, 12, 161, 0, 13] := by unfold x_by; decide +kernel
  obtain ⟨d0, h0⟩ := de_iload_n1 h0
  obtain ⟨d1, h0⟩ := de_iload_n2 h0
  obtain ⟨d2, h0⟩ := de_invokestatic 167 (by decide) h0
  obtain ⟨d5, h0⟩ := de_iload_n3 h0
  obtain ⟨d6, h0⟩ := de_iload h0
  obtain ⟨d8, h0⟩ := de_invokestatic 167 (by decide) h0
  obtain ⟨d11, h0⟩ := de_aload_n0 h0
  obtain ⟨d12, h0⟩ := de_getfield 27 (by decide) h0
  obtain ⟨d15, h0⟩ := de_getfield 170 (by decide) h0
  obtain ⟨d18, h0⟩ := de_bipush (12) (by decide) h0
  obtain ⟨d20, h0⟩ := de_icmp_lt (13) (by decide) h0
  refine lv_iload_n hx hb d0 rfl (lv_at hl 1 rfl) ?_
  refine lv_iload_n hx hb d1 rfl (lv_at hl 2 rfl) ?_
  refine x_thenV C0 hxt hS hf (fun z0 e0 => x_runS C0 hR hS me_X7_checkContributions wt_X7_checkContributions ml_X7_167 (As := [.int x1, .int x2]) (ct_X7_checkContributions E l C0.2.2.2.2.2.2.2.1 _ x1 x2) rfl rfl hl.1 (Nat.le_of_ble_eq_true rfl) d2 ⟨(Nat.le_of_ble_eq_true rfl), (Nat.le_of_ble_eq_true rfl)⟩ ⟨(Nat.le_of_ble_eq_true rfl), (Nat.le_of_ble_eq_true rfl)⟩ e0) (Nat.le_of_ble_eq_true rfl) (Nat.le_of_ble_eq_true rfl) (fun h9 H locs hR hS hf => ?_)
  refine lv_iload_n hx hb d5 rfl (lv_at hl 3 rfl) ?_
  refine lv_iload hx hb d6 (lv_at hl 4 rfl) ?_
  refine x_thenV C0 hxt hS hf (fun z0 e0 => x_runS C0 hR hS me_X7_checkContributions wt_X7_checkContributions ml_X7_167 (As := [.int x3, .int x4]) (ct_X7_checkContributions E l C0.2.2.2.2.2.2.2.1 _ x3 x4) rfl rfl hl.1 (Nat.le_of_ble_eq_true rfl) d8 ⟨(Nat.le_of_ble_eq_true rfl), (Nat.le_of_ble_eq_true rfl)⟩ ⟨(Nat.le_of_ble_eq_true rfl), (Nat.le_of_ble_eq_true rfl)⟩ e0) (Nat.le_of_ble_eq_true rfl) (Nat.le_of_ble_eq_true rfl) (fun h9 H locs hR hS hf => ?_)
  refine lv_aload_n hx hb d11 rfl (lv_at hl 0 rfl) ?_
  refine x_getR C0 hR hf xcl_7 (Nat.le_of_ble_eq_true rfl) rfl fl_X7_27 d12 (fun a3 hf => ?_)
  refine x_getI C0 hR hf xcl_4 (Nat.le_of_ble_eq_true rfl) rfl fl_X7_170 d15 (fun i4 hf => ?_)
  refine lv_bipush (v := 12) hx hb d18 (by decide) ?_
  refine lv_icmp_lt (tgt := 33) hx hb d20 (by decide) (fun q => ?_) (fun q => ?_)
  · have hf := x_pos q hf
    have h0 : x_by cX7_addItem 33 [42, 182, 0, 117, 42, 180, 0, 27, 180, 0, 170, 54, 5, 42, 180, 0, 27, 21, 5, 4, 96, 181, 0, 170, 42, 180, 0, 27, 21, 5, 3, 27, 28, 182, 0, 175, 42, 180, 0, 27, 21, 5, 4, 29, 21, 4, 182, 0, 175, 21, 5, 172] := by unfold x_by; decide +kernel
    obtain ⟨d33, h0⟩ := de_aload_n0 h0
    obtain ⟨d34, h0⟩ := de_invokevirtual 117 (by decide) h0
    obtain ⟨d37, h0⟩ := de_aload_n0 h0
    obtain ⟨d38, h0⟩ := de_getfield 27 (by decide) h0
    obtain ⟨d41, h0⟩ := de_getfield 170 (by decide) h0
    obtain ⟨d44, h0⟩ := de_istore h0
    obtain ⟨d46, h0⟩ := de_aload_n0 h0
    obtain ⟨d47, h0⟩ := de_getfield 27 (by decide) h0
    obtain ⟨d50, h0⟩ := de_iload h0
    obtain ⟨d52, h0⟩ := de_iconst_1 h0
    obtain ⟨d53, h0⟩ := de_iadd h0
    obtain ⟨d54, h0⟩ := de_putfield 170 (by decide) h0
    obtain ⟨d57, h0⟩ := de_aload_n0 h0
    obtain ⟨d58, h0⟩ := de_getfield 27 (by decide) h0
    obtain ⟨d61, h0⟩ := de_iload h0
    obtain ⟨d63, h0⟩ := de_iconst_0 h0
    obtain ⟨d64, h0⟩ := de_iload_n1 h0
    obtain ⟨d65, h0⟩ := de_iload_n2 h0
    obtain ⟨d66, h0⟩ := de_invokevirtual 175 (by decide) h0
    obtain ⟨d69, h0⟩ := de_aload_n0 h0
    obtain ⟨d70, h0⟩ := de_getfield 27 (by decide) h0
    obtain ⟨d73, h0⟩ := de_iload h0
    obtain ⟨d75, h0⟩ := de_iconst_1 h0
    obtain ⟨d76, h0⟩ := de_iload_n3 h0
    obtain ⟨d77, h0⟩ := de_iload h0
    obtain ⟨d79, h0⟩ := de_invokevirtual 175 (by decide) h0
    obtain ⟨d82, h0⟩ := de_iload h0
    obtain ⟨d84, h0⟩ := de_ireturn h0
    refine lv_aload_n hx hb d33 rfl (lv_at hl 0 rfl) ?_
    obtain ⟨hs9, hf⟩ := x_if hf
    refine x_thenV C0 hxt hS hf (fun z0 e0 => x_runV C0 hR hS me_X7_rememberChange wi_X7_rememberChange wl_X7_rememberChange ml_X7_117 hs9 xcl_7 (As := []) (ct_X7_rememberChange E l C0.2.2.2.2.2.2.2.1 _ r0) rfl rfl hl.1 (Nat.le_of_ble_eq_true rfl) d34 ⟨(Nat.le_of_ble_eq_true rfl), (Nat.le_of_ble_eq_true rfl)⟩ ⟨(Nat.le_of_ble_eq_true rfl), (Nat.le_of_ble_eq_true rfl)⟩ e0) (Nat.le_of_ble_eq_true rfl) (Nat.le_of_ble_eq_true rfl) (fun h9 H locs hR hS hf => ?_)
    refine lv_aload_n hx hb d37 rfl (lv_at hl 0 rfl) ?_
    refine x_getR C0 hR hf xcl_7 (Nat.le_of_ble_eq_true rfl) rfl fl_X7_27 d38 (fun a6 hf => ?_)
    refine x_getI C0 hR hf xcl_4 (Nat.le_of_ble_eq_true rfl) rfl fl_X7_170 d41 (fun i7 hf => ?_)
    refine lv_istore (lv' := [(5, .int i7), (0, .ref (xa E r0)), (1, .int x1), (2, .int x2), (3, .int x3), (4, .int x4)]) hx hb d44 hl (by decide) rfl (fun ls hl => ?_)
    refine lv_aload_n hx hb d46 rfl (lv_at hl 1 rfl) ?_
    refine x_getR C0 hR hf xcl_7 (Nat.le_of_ble_eq_true rfl) rfl fl_X7_27 d47 (fun a8 hf => ?_)
    refine lv_iload hx hb d50 (lv_at hl 0 rfl) ?_
    refine lv_iconst (v := 1) hx hb d52 (by decide) ?_
    refine lv_iadd hx hb d53 ?_
    refine x_putI C0 hR hS hf xcl_4 (Nat.le_of_ble_eq_true rfl) rfl fl_X7_170 (Or.inl rfl) d54 (fun H locs hR hS hf => ?_)
    refine lv_aload_n hx hb d57 rfl (lv_at hl 1 rfl) ?_
    refine x_getR C0 hR hf xcl_7 (Nat.le_of_ble_eq_true rfl) rfl fl_X7_27 d58 (fun a10 hf => ?_)
    refine lv_iload hx hb d61 (lv_at hl 0 rfl) ?_
    refine lv_iconst (v := 0) hx hb d63 (by decide) ?_
    refine lv_iload_n hx hb d64 rfl (lv_at hl 2 rfl) ?_
    refine lv_iload_n hx hb d65 rfl (lv_at hl 3 rfl) ?_
    obtain ⟨hs9, hf⟩ := x_if hf
    refine x_thenV C0 hxt hS hf (fun z0 e0 => x_runV C0 hR hS me_X4_startItem wi_X4_startItem wl_X4_startItem ml_X7_175 hs9 xcl_4 (As := [.int i7, .int 0, .int x1, .int x2]) (ct_X4_startItem E l C0.2.2.2.2.2.2.2.1 _ a10 i7 0 x1 x2) rfl rfl hl.1 (Nat.le_of_ble_eq_true rfl) d66 ⟨(Nat.le_of_ble_eq_true rfl), (Nat.le_of_ble_eq_true rfl)⟩ ⟨(Nat.le_of_ble_eq_true rfl), (Nat.le_of_ble_eq_true rfl)⟩ e0) (Nat.le_of_ble_eq_true rfl) (Nat.le_of_ble_eq_true rfl) (fun h9 H locs hR hS hf => ?_)
    refine lv_aload_n hx hb d69 rfl (lv_at hl 1 rfl) ?_
    refine x_getR C0 hR hf xcl_7 (Nat.le_of_ble_eq_true rfl) rfl fl_X7_27 d70 (fun a12 hf => ?_)
    refine lv_iload hx hb d73 (lv_at hl 0 rfl) ?_
    refine lv_iconst (v := 1) hx hb d75 (by decide) ?_
    refine lv_iload_n hx hb d76 rfl (lv_at hl 4 rfl) ?_
    refine lv_iload hx hb d77 (lv_at hl 5 rfl) ?_
    obtain ⟨hs9, hf⟩ := x_if hf
    refine x_thenV C0 hxt hS hf (fun z0 e0 => x_runV C0 hR hS me_X4_startItem wi_X4_startItem wl_X4_startItem ml_X7_175 hs9 xcl_4 (As := [.int i7, .int 1, .int x3, .int x4]) (ct_X4_startItem E l C0.2.2.2.2.2.2.2.1 _ a12 i7 1 x3 x4) rfl rfl hl.1 (Nat.le_of_ble_eq_true rfl) d79 ⟨(Nat.le_of_ble_eq_true rfl), (Nat.le_of_ble_eq_true rfl)⟩ ⟨(Nat.le_of_ble_eq_true rfl), (Nat.le_of_ble_eq_true rfl)⟩ e0) (Nat.le_of_ble_eq_true rfl) (Nat.le_of_ble_eq_true rfl) (fun h9 H locs hR hS hf => ?_)
    refine lv_iload hx hb d82 (lv_at hl 0 rfl) ?_
    exact x_iret C0 hR hS hf (Nat.le_of_ble_eq_true rfl) (Nat.le_of_ble_eq_true rfl) d84
  · have hf := x_neg q hf
    have h0 : x_by cX7_addItem 23 [187, 0, 96, 89, 18, 173, 183, 0, 100, 191] := by unfold x_by; decide +kernel
    obtain ⟨d23, h0⟩ := de_new 96 (by decide) h0
    obtain ⟨d26, h0⟩ := de_dup h0
    obtain ⟨d27, h0⟩ := de_ldc h0
    obtain ⟨d29, h0⟩ := de_invokespecial 100 (by decide) h0
    obtain ⟨d32, h0⟩ := de_athrow h0
    exact x_throw C0 hxt hR hS hf (by decide +kernel) cl_X7_96 cz_IllegalStateException sr_X7_173 th_X7_100 hl.1 d23 d26 d27 d29 d32 (Nat.le_of_ble_eq_true rfl) (Nat.le_of_ble_eq_true rfl) (Nat.le_of_ble_eq_true rfl) (Nat.le_of_ble_eq_true rfl) (Nat.le_of_ble_eq_true rfl) (Nat.le_of_ble_eq_true rfl)
def f_X7_checkItem_b15  (h : HP)  : Option XR :=
  some (h_dirty h, xt "java/lang/IndexOutOfBoundsException")
def f_X7_checkItem (h : HP) (r0 : Nat) (x1 : Int32) : Option XR :=
  if x1 < 0 then
    (
      f_X7_checkItem_b15 h
    )
  else
    (
      x_gR h r0 7 3 fun a1 =>
      x_gI h a1 4 4 fun i2 =>
      if x1 < i2 then
        (
          some (h, xv)
        )
      else
        (
          f_X7_checkItem_b15 h
        )
    )
set_option maxRecDepth 100000 in
set_option maxHeartbeats 4000000 in
theorem s_X7_checkItem_b15 {p : Program} {l : Launch} {e : Env} {s : State} {m : MethodId} {args : Array Value} {below : List Frame} {meth : Method} {c : Code} {E : XE} {z : XR} (C0 : x_C E p l s m meth c args cX7_checkItem 2 "GridEngine" "checkItem" none) (hxt : ∀ x ∈ c.exceptionTable.toList, False)  : ∀ (h : HP)  (H : Heap) (locs : List Loc) (ls : Array Slot), x_Rep E h H → va_S (x_A E) s.heap H locs → lv_has ls 2 [] → f_X7_checkItem_b15 h  = some z → W p l e ({ frames := 8, cells := 1, slots := 6, locals := 130 } : Room) s m args below meth c H locs 0 0 (x_Q E below args s 1 6 z) (F0 m 15 ls []) := by
  intro h  H locs ls hR hS hl hf
  obtain ⟨hx, hb, -⟩ := id C0
  unfold f_X7_checkItem_b15 at hf
  have h0 : x_by cX7_checkItem 15 [187, 1, 10, 89, 19, 1, 12, 183, 1, 14, 191] := by unfold x_by; decide +kernel
  obtain ⟨d15, h0⟩ := de_new 266 (by decide) h0
  obtain ⟨d18, h0⟩ := de_dup h0
  obtain ⟨d19, h0⟩ := de_ldc_w 268 (by decide) h0
  obtain ⟨d22, h0⟩ := de_invokespecial 270 (by decide) h0
  obtain ⟨d25, h0⟩ := de_athrow h0
  exact x_throwW C0 hxt hR hS hf (by decide +kernel) cl_X7_266 cz_IndexOutOfBoundsException sr_X7_268 th_X7_270 hl.1 d15 d18 d19 d22 d25 (Nat.le_of_ble_eq_true rfl) (Nat.le_of_ble_eq_true rfl) (Nat.le_of_ble_eq_true rfl) (Nat.le_of_ble_eq_true rfl) (Nat.le_of_ble_eq_true rfl) (Nat.le_of_ble_eq_true rfl)
set_option maxRecDepth 100000 in
set_option maxHeartbeats 4000000 in
theorem ct_X7_checkItem (E : XE) (l : Launch) (hl0 : l.stackTraces = false) (h : HP) (r0 : Nat) (x1 : Int32) : x_ct E l yX7_checkItem (Cond.code yX7_checkItem cX7_checkItem 2 none) 8 130 1 6 [.ref (xa E r0), .int x1] h (f_X7_checkItem h r0 x1) := by
  refine x_ofW hl0 (by decide +kernel) ?_
  intro z hf p e s m args below meth c C0 hxt hargs hR
  subst hargs
  have C0 : x_C E p l s m meth c ([.ref (xa E r0), .int x1] : List Value).toArray cX7_checkItem 2 "GridEngine" "checkItem" none := C0
  obtain ⟨hx, hb, -⟩ := id C0
  have hS : va_S (x_A E) s.heap s.heap [] := va_S.rf
  have hl := lv_entry ([.ref (xa E r0), .int x1]) (n := 2) (Nat.le_of_ble_eq_true rfl)
  rw [lg_entry_eq]
  generalize (lg_sl ([.ref (xa E r0), .int x1]) ++ List.replicate (2 - (lg_sl ([.ref (xa E r0), .int x1])).length) Slot.unset).toArray = ls at hl ⊢
  have hl : lv_has ls 2 [(0, .ref (xa E r0)), (1, .int x1)] := hl
  unfold f_X7_checkItem at hf
  have h0 : x_by cX7_checkItem 0 [27, 155, 0, 14] := by unfold x_by; decide +kernel
  obtain ⟨d0, h0⟩ := de_iload_n1 h0
  obtain ⟨d1, h0⟩ := de_if_lt (14) (by decide) h0
  refine lv_iload_n hx hb d0 rfl (lv_at hl 1 rfl) ?_
  refine lv_if_lt (tgt := 15) hx hb d1 (by decide) (fun q => ?_) (fun q => ?_)
  · have hf := x_pos q hf
    exact s_X7_checkItem_b15 C0 hxt _ _ _ _ hR hS (lv_sub hl [] rfl) hf
  · have hf := x_neg q hf
    have h0 : x_by cX7_checkItem 4 [27, 42, 180, 0, 27, 180, 0, 170, 161, 0, 14] := by unfold x_by; decide +kernel
    obtain ⟨d4, h0⟩ := de_iload_n1 h0
    obtain ⟨d5, h0⟩ := de_aload_n0 h0
    obtain ⟨d6, h0⟩ := de_getfield 27 (by decide) h0
    obtain ⟨d9, h0⟩ := de_getfield 170 (by decide) h0
    obtain ⟨d12, h0⟩ := de_icmp_lt (14) (by decide) h0
    refine lv_iload_n hx hb d4 rfl (lv_at hl 1 rfl) ?_
    refine lv_aload_n hx hb d5 rfl (lv_at hl 0 rfl) ?_
    refine x_getR C0 hR hf xcl_7 (Nat.le_of_ble_eq_true rfl) rfl fl_X7_27 d6 (fun a1 hf => ?_)
    refine x_getI C0 hR hf xcl_4 (Nat.le_of_ble_eq_true rfl) rfl fl_X7_170 d9 (fun i2 hf => ?_)
    refine lv_icmp_lt (tgt := 26) hx hb d12 (by decide) (fun q => ?_) (fun q => ?_)
    · have hf := x_pos q hf
      have h0 : x_by cX7_checkItem 26 [177] := by unfold x_by; decide +kernel
      obtain ⟨d26, h0⟩ := de_return h0
      exact x_vret C0 hR hS hf (Nat.le_of_ble_eq_true rfl) (Nat.le_of_ble_eq_true rfl) d26
    · have hf := x_neg q hf
      exact s_X7_checkItem_b15 C0 hxt _ _ _ _ hR hS (lv_sub hl [] rfl) hf
def f_X7_place_b94  (h : HP) (t0 : Int32) (x6 : Int32) : Option XR :=
  some (h, xi (t0 + x6))
def f_X7_place_b21  (h : HP) (r0 : Nat) (x1 : Int32) (x2 : Int32) (x3 : Int32) (x4 : Int32) : Option XR :=
  x_cV (f_X7_checkRange h x4 1 4) fun h1 =>
  x_rc h1 r0 7 <| x_cV (f_X7_rememberChange h1 r0) fun h2 =>
  x_gR h2 r0 7 3 fun a3 =>
  x_rc h2 a3 4 <| x_cI (f_X4_itemField h2 a3 x1 x2 2) fun h5 i4 =>
  x_gR h5 r0 7 3 fun a6 =>
  x_rc h5 a6 4 <| x_cI (f_X4_itemField h5 a6 x1 x2 3) fun h8 i7 =>
  x_gR h8 r0 7 3 fun a9 =>
  x_rc h8 a9 4 <| x_cV (f_X4_changeItem h8 a9 x1 x2 2 x3) fun h10 =>
  x_gR h10 r0 7 3 fun a11 =>
  x_rc h10 a11 4 <| x_cV (f_X4_changeItem h10 a11 x1 x2 3 x4) fun h12 =>
  if i4 = (-1) then
    (
      f_X7_place_b94 h12 0 i7
    )
  else
    (
      f_X7_place_b94 h12 (10 * i4) i7
    )
def f_X7_place (h : HP) (r0 : Nat) (x1 : Int32) (x2 : Int32) (x3 : Int32) (x4 : Int32) : Option XR :=
  x_rc h r0 7 <| x_cV (f_X7_checkItem h r0 x1) fun h1 =>
  x_cV (f_X7_checkAxis h1 x2) fun h2 =>
  if x3 = (-1) then
    (
      f_X7_place_b21 h2 r0 x1 x2 x3 x4
    )
  else
    (
      x_cV (f_X7_checkRange h2 x3 1 12) fun h3 =>
      f_X7_place_b21 h3 r0 x1 x2 x3 x4
    )
set_option maxRecDepth 100000 in
set_option maxHeartbeats 4000000 in
theorem s_X7_place_b94 {p : Program} {l : Launch} {e : Env} {s : State} {m : MethodId} {args : Array Value} {below : List Frame} {meth : Method} {c : Code} {E : XE} {z : XR} (C0 : x_C E p l s m meth c args cX7_place 7 "GridEngine" "place" (some .int)) (hxt : ∀ x ∈ c.exceptionTable.toList, False)  : ∀ (h : HP) (t0 : Int32) (x6 : Int32) (H : Heap) (locs : List Loc) (ls : Array Slot), x_Rep E h H → va_S (x_A E) s.heap H locs → lv_has ls 7 [(6, .int x6)] → f_X7_place_b94 h t0 x6 = some z → W p l e ({ frames := 10, cells := 4, slots := 24, locals := 171 } : Room) s m args below meth c H locs 4 24 (x_Q E below args s 4 24 z) (F0 m 94 ls [.int t0]) := by
  intro h t0 x6 H locs ls hR hS hl hf
  obtain ⟨hx, hb, -⟩ := id C0
  unfold f_X7_place_b94 at hf
  have h0 : x_by cX7_place 94 [21, 6, 96, 172] := by unfold x_by; decide +kernel
  obtain ⟨d94, h0⟩ := de_iload h0
  obtain ⟨d96, h0⟩ := de_iadd h0
  obtain ⟨d97, h0⟩ := de_ireturn h0
  refine lv_iload hx hb d94 (lv_at hl 0 rfl) ?_
  refine lv_iadd hx hb d96 ?_
  exact x_iret C0 hR hS hf (Nat.le_of_ble_eq_true rfl) (Nat.le_of_ble_eq_true rfl) d97
set_option maxRecDepth 100000 in
set_option maxHeartbeats 4000000 in
theorem s_X7_place_b21 {p : Program} {l : Launch} {e : Env} {s : State} {m : MethodId} {args : Array Value} {below : List Frame} {meth : Method} {c : Code} {E : XE} {z : XR} (C0 : x_C E p l s m meth c args cX7_place 7 "GridEngine" "place" (some .int)) (hxt : ∀ x ∈ c.exceptionTable.toList, False)  : ∀ (h : HP) (r0 : Nat) (x1 : Int32) (x2 : Int32) (x3 : Int32) (x4 : Int32) (H : Heap) (locs : List Loc) (ls : Array Slot), x_Rep E h H → va_S (x_A E) s.heap H locs → lv_has ls 7 [(0, .ref (xa E r0)), (1, .int x1), (2, .int x2), (3, .int x3), (4, .int x4)] → f_X7_place_b21 h r0 x1 x2 x3 x4 = some z → W p l e ({ frames := 10, cells := 4, slots := 24, locals := 171 } : Room) s m args below meth c H locs 3 18 (x_Q E below args s 4 24 z) (F0 m 21 ls []) := by
  intro h r0 x1 x2 x3 x4 H locs ls hR hS hl hf
  obtain ⟨hx, hb, -⟩ := id C0
  unfold f_X7_place_b21 at hf
  have h0 : x_by cX7_place 21 [21, 4, 4, 7, 184, 0, 130, 42, 182, 0, 117, 42, 180, 0, 27, 27, 28, 5, 182, 0, 182, 54, 5, 42, 180, 0, 27, 27, 28, 6, 182, 0, 182, 54, 6, 42, 180, 0, 27, 27, 28, 5, 29, 182, 0, 185, 42, 180, 0, 27, 27, 28, 6, 21, 4, 182, 0, 185, 21, 5, 2, 160, 0, 7] := by unfold x_by; decide +kernel
  obtain ⟨d21, h0⟩ := de_iload h0
  obtain ⟨d23, h0⟩ := de_iconst_1 h0
  obtain ⟨d24, h0⟩ := de_iconst_4 h0
  obtain ⟨d25, h0⟩ := de_invokestatic 130 (by decide) h0
  obtain ⟨d28, h0⟩ := de_aload_n0 h0
  obtain ⟨d29, h0⟩ := de_invokevirtual 117 (by decide) h0
  obtain ⟨d32, h0⟩ := de_aload_n0 h0
  obtain ⟨d33, h0⟩ := de_getfield 27 (by decide) h0
  obtain ⟨d36, h0⟩ := de_iload_n1 h0
  obtain ⟨d37, h0⟩ := de_iload_n2 h0
  obtain ⟨d38, h0⟩ := de_iconst_2 h0
  obtain ⟨d39, h0⟩ := de_invokevirtual 182 (by decide) h0
  obtain ⟨d42, h0⟩ := de_istore h0
  obtain ⟨d44, h0⟩ := de_aload_n0 h0
  obtain ⟨d45, h0⟩ := de_getfield 27 (by decide) h0
  obtain ⟨d48, h0⟩ := de_iload_n1 h0
  obtain ⟨d49, h0⟩ := de_iload_n2 h0
  obtain ⟨d50, h0⟩ := de_iconst_3 h0
  obtain ⟨d51, h0⟩ := de_invokevirtual 182 (by decide) h0
  obtain ⟨d54, h0⟩ := de_istore h0
  obtain ⟨d56, h0⟩ := de_aload_n0 h0
  obtain ⟨d57, h0⟩ := de_getfield 27 (by decide) h0
  obtain ⟨d60, h0⟩ := de_iload_n1 h0
  obtain ⟨d61, h0⟩ := de_iload_n2 h0
  obtain ⟨d62, h0⟩ := de_iconst_2 h0
  obtain ⟨d63, h0⟩ := de_iload_n3 h0
  obtain ⟨d64, h0⟩ := de_invokevirtual 185 (by decide) h0
  obtain ⟨d67, h0⟩ := de_aload_n0 h0
  obtain ⟨d68, h0⟩ := de_getfield 27 (by decide) h0
  obtain ⟨d71, h0⟩ := de_iload_n1 h0
  obtain ⟨d72, h0⟩ := de_iload_n2 h0
  obtain ⟨d73, h0⟩ := de_iconst_3 h0
  obtain ⟨d74, h0⟩ := de_iload h0
  obtain ⟨d76, h0⟩ := de_invokevirtual 185 (by decide) h0
  obtain ⟨d79, h0⟩ := de_iload h0
  obtain ⟨d81, h0⟩ := de_iconst_m1 h0
  obtain ⟨d82, h0⟩ := de_icmp_ne (7) (by decide) h0
  refine lv_iload hx hb d21 (lv_at hl 4 rfl) ?_
  refine lv_iconst (v := 1) hx hb d23 (by decide) ?_
  refine lv_iconst (v := 4) hx hb d24 (by decide) ?_
  refine x_thenV C0 hxt hS hf (fun z0 e0 => x_runS C0 hR hS me_X7_checkRange wt_X7_checkRange ml_X7_130 (As := [.int x4, .int 1, .int 4]) (ct_X7_checkRange E l C0.2.2.2.2.2.2.2.1 _ x4 1 4) rfl rfl hl.1 (Nat.le_of_ble_eq_true rfl) d25 ⟨(Nat.le_of_ble_eq_true rfl), (Nat.le_of_ble_eq_true rfl)⟩ ⟨(Nat.le_of_ble_eq_true rfl), (Nat.le_of_ble_eq_true rfl)⟩ e0) (Nat.le_of_ble_eq_true rfl) (Nat.le_of_ble_eq_true rfl) (fun h9 H locs hR hS hf => ?_)
  refine lv_aload_n hx hb d28 rfl (lv_at hl 0 rfl) ?_
  obtain ⟨hs9, hf⟩ := x_if hf
  refine x_thenV C0 hxt hS hf (fun z0 e0 => x_runV C0 hR hS me_X7_rememberChange wi_X7_rememberChange wl_X7_rememberChange ml_X7_117 hs9 xcl_7 (As := []) (ct_X7_rememberChange E l C0.2.2.2.2.2.2.2.1 _ r0) rfl rfl hl.1 (Nat.le_of_ble_eq_true rfl) d29 ⟨(Nat.le_of_ble_eq_true rfl), (Nat.le_of_ble_eq_true rfl)⟩ ⟨(Nat.le_of_ble_eq_true rfl), (Nat.le_of_ble_eq_true rfl)⟩ e0) (Nat.le_of_ble_eq_true rfl) (Nat.le_of_ble_eq_true rfl) (fun h9 H locs hR hS hf => ?_)
  refine lv_aload_n hx hb d32 rfl (lv_at hl 0 rfl) ?_
  refine x_getR C0 hR hf xcl_7 (Nat.le_of_ble_eq_true rfl) rfl fl_X7_27 d33 (fun a3 hf => ?_)
  refine lv_iload_n hx hb d36 rfl (lv_at hl 1 rfl) ?_
  refine lv_iload_n hx hb d37 rfl (lv_at hl 2 rfl) ?_
  refine lv_iconst (v := 2) hx hb d38 (by decide) ?_
  obtain ⟨hs9, hf⟩ := x_if hf
  refine x_thenI C0 hxt hS hf (fun z0 e0 => x_runV C0 hR hS me_X4_itemField wi_X4_itemField wl_X4_itemField ml_X7_182 hs9 xcl_4 (As := [.int x1, .int x2, .int 2]) (ct_X4_itemField E l C0.2.2.2.2.2.2.2.1 _ a3 x1 x2 2) rfl rfl hl.1 (Nat.le_of_ble_eq_true rfl) d39 ⟨(Nat.le_of_ble_eq_true rfl), (Nat.le_of_ble_eq_true rfl)⟩ ⟨(Nat.le_of_ble_eq_true rfl), (Nat.le_of_ble_eq_true rfl)⟩ e0) (Nat.le_of_ble_eq_true rfl) (Nat.le_of_ble_eq_true rfl) (fun h9 i4 H locs hR hS hf => ?_)
  refine lv_istore (lv' := [(5, .int i4), (0, .ref (xa E r0)), (1, .int x1), (2, .int x2), (3, .int x3), (4, .int x4)]) hx hb d42 hl (by decide) rfl (fun ls hl => ?_)
  refine lv_aload_n hx hb d44 rfl (lv_at hl 1 rfl) ?_
  refine x_getR C0 hR hf xcl_7 (Nat.le_of_ble_eq_true rfl) rfl fl_X7_27 d45 (fun a6 hf => ?_)
  refine lv_iload_n hx hb d48 rfl (lv_at hl 2 rfl) ?_
  refine lv_iload_n hx hb d49 rfl (lv_at hl 3 rfl) ?_
  refine lv_iconst (v := 3) hx hb d50 (by decide) ?_
  obtain ⟨hs9, hf⟩ := x_if hf
  refine x_thenI C0 hxt hS hf (fun z0 e0 => x_runV C0 hR hS me_X4_itemField wi_X4_itemField wl_X4_itemField ml_X7_182 hs9 xcl_4 (As := [.int x1, .int x2, .int 3]) (ct_X4_itemField E l C0.2.2.2.2.2.2.2.1 _ a6 x1 x2 3) rfl rfl hl.1 (Nat.le_of_ble_eq_true rfl) d51 ⟨(Nat.le_of_ble_eq_true rfl), (Nat.le_of_ble_eq_true rfl)⟩ ⟨(Nat.le_of_ble_eq_true rfl), (Nat.le_of_ble_eq_true rfl)⟩ e0) (Nat.le_of_ble_eq_true rfl) (Nat.le_of_ble_eq_true rfl) (fun h9 i7 H locs hR hS hf => ?_)
  refine lv_istore (lv' := [(6, .int i7), (5, .int i4), (0, .ref (xa E r0)), (1, .int x1), (2, .int x2), (3, .int x3), (4, .int x4)]) hx hb d54 hl (by decide) rfl (fun ls hl => ?_)
  refine lv_aload_n hx hb d56 rfl (lv_at hl 2 rfl) ?_
  refine x_getR C0 hR hf xcl_7 (Nat.le_of_ble_eq_true rfl) rfl fl_X7_27 d57 (fun a9 hf => ?_)
  refine lv_iload_n hx hb d60 rfl (lv_at hl 3 rfl) ?_
  refine lv_iload_n hx hb d61 rfl (lv_at hl 4 rfl) ?_
  refine lv_iconst (v := 2) hx hb d62 (by decide) ?_
  refine lv_iload_n hx hb d63 rfl (lv_at hl 5 rfl) ?_
  obtain ⟨hs9, hf⟩ := x_if hf
  refine x_thenV C0 hxt hS hf (fun z0 e0 => x_runV C0 hR hS me_X4_changeItem wi_X4_changeItem wl_X4_changeItem ml_X7_185 hs9 xcl_4 (As := [.int x1, .int x2, .int 2, .int x3]) (ct_X4_changeItem E l C0.2.2.2.2.2.2.2.1 _ a9 x1 x2 2 x3) rfl rfl hl.1 (Nat.le_of_ble_eq_true rfl) d64 ⟨(Nat.le_of_ble_eq_true rfl), (Nat.le_of_ble_eq_true rfl)⟩ ⟨(Nat.le_of_ble_eq_true rfl), (Nat.le_of_ble_eq_true rfl)⟩ e0) (Nat.le_of_ble_eq_true rfl) (Nat.le_of_ble_eq_true rfl) (fun h9 H locs hR hS hf => ?_)
  refine lv_aload_n hx hb d67 rfl (lv_at hl 2 rfl) ?_
  refine x_getR C0 hR hf xcl_7 (Nat.le_of_ble_eq_true rfl) rfl fl_X7_27 d68 (fun a11 hf => ?_)
  refine lv_iload_n hx hb d71 rfl (lv_at hl 3 rfl) ?_
  refine lv_iload_n hx hb d72 rfl (lv_at hl 4 rfl) ?_
  refine lv_iconst (v := 3) hx hb d73 (by decide) ?_
  refine lv_iload hx hb d74 (lv_at hl 6 rfl) ?_
  obtain ⟨hs9, hf⟩ := x_if hf
  refine x_thenV C0 hxt hS hf (fun z0 e0 => x_runV C0 hR hS me_X4_changeItem wi_X4_changeItem wl_X4_changeItem ml_X7_185 hs9 xcl_4 (As := [.int x1, .int x2, .int 3, .int x4]) (ct_X4_changeItem E l C0.2.2.2.2.2.2.2.1 _ a11 x1 x2 3 x4) rfl rfl hl.1 (Nat.le_of_ble_eq_true rfl) d76 ⟨(Nat.le_of_ble_eq_true rfl), (Nat.le_of_ble_eq_true rfl)⟩ ⟨(Nat.le_of_ble_eq_true rfl), (Nat.le_of_ble_eq_true rfl)⟩ e0) (Nat.le_of_ble_eq_true rfl) (Nat.le_of_ble_eq_true rfl) (fun h9 H locs hR hS hf => ?_)
  refine lv_iload hx hb d79 (lv_at hl 1 rfl) ?_
  refine lv_iconst (v := -1) hx hb d81 (by decide) ?_
  refine lv_icmp_ne (tgt := 89) hx hb d82 (by decide) (fun q => ?_) (fun q => ?_)
  · have hf := x_neg q hf
    have h0 : x_by cX7_place 89 [16, 10, 21, 5, 104] := by unfold x_by; decide +kernel
    obtain ⟨d89, h0⟩ := de_bipush (10) (by decide) h0
    obtain ⟨d91, h0⟩ := de_iload h0
    obtain ⟨d93, h0⟩ := de_imul h0
    refine lv_bipush (v := 10) hx hb d89 (by decide) ?_
    refine lv_iload hx hb d91 (lv_at hl 1 rfl) ?_
    refine lv_imul hx hb d93 ?_
    exact s_X7_place_b94 C0 hxt _ _ _ _ _ _ hR hS (lv_sub hl [0] rfl) hf
  · have hf := x_pos q hf
    have h0 : x_by cX7_place 85 [3, 167, 0, 8] := by unfold x_by; decide +kernel
    obtain ⟨d85, h0⟩ := de_iconst_0 h0
    obtain ⟨d86, h0⟩ := de_goto (8) (by decide) h0
    refine lv_iconst (v := 0) hx hb d85 (by decide) ?_
    refine lv_goto (tgt := 94) hx hb d86 (by decide) ?_
    exact s_X7_place_b94 C0 hxt _ _ _ _ _ _ hR hS (lv_sub hl [0] rfl) hf
set_option maxRecDepth 100000 in
set_option maxHeartbeats 4000000 in
theorem ct_X7_place (E : XE) (l : Launch) (hl0 : l.stackTraces = false) (h : HP) (r0 : Nat) (x1 : Int32) (x2 : Int32) (x3 : Int32) (x4 : Int32) : x_ct E l yX7_place (Cond.code yX7_place cX7_place 7 (some .int)) 10 171 4 24 [.ref (xa E r0), .int x1, .int x2, .int x3, .int x4] h (f_X7_place h r0 x1 x2 x3 x4) := by
  refine x_ofW hl0 (by decide +kernel) ?_
  intro z hf p e s m args below meth c C0 hxt hargs hR
  subst hargs
  have C0 : x_C E p l s m meth c ([.ref (xa E r0), .int x1, .int x2, .int x3, .int x4] : List Value).toArray cX7_place 7 "GridEngine" "place" (some .int) := C0
  obtain ⟨hx, hb, -⟩ := id C0
  have hS : va_S (x_A E) s.heap s.heap [] := va_S.rf
  have hl := lv_entry ([.ref (xa E r0), .int x1, .int x2, .int x3, .int x4]) (n := 7) (Nat.le_of_ble_eq_true rfl)
  rw [lg_entry_eq]
  generalize (lg_sl ([.ref (xa E r0), .int x1, .int x2, .int x3, .int x4]) ++ List.replicate (7 - (lg_sl ([.ref (xa E r0), .int x1, .int x2, .int x3, .int x4])).length) Slot.unset).toArray = ls at hl ⊢
  have hl : lv_has ls 7 [(0, .ref (xa E r0)), (1, .int x1), (2, .int x2), (3, .int x3), (4, .int x4)] := hl
  unfold f_X7_place at hf
  have h0 : x_by cX7_place 0 [42, 27, 182, 0, 179, 28, 184, 0, 103, 29, 2, 159, 0, 10] := by unfold x_by; decide +kernel
  obtain ⟨d0, h0⟩ := de_aload_n0 h0
  obtain ⟨d1, h0⟩ := de_iload_n1 h0
  obtain ⟨d2, h0⟩ := de_invokevirtual 179 (by decide) h0
  obtain ⟨d5, h0⟩ := de_iload_n2 h0
  obtain ⟨d6, h0⟩ := de_invokestatic 103 (by decide) h0
  obtain ⟨d9, h0⟩ := de_iload_n3 h0
  obtain ⟨d10, h0⟩ := de_iconst_m1 h0
  obtain ⟨d11, h0⟩ := de_icmp_eq (10) (by decide) h0
  refine lv_aload_n hx hb d0 rfl (lv_at hl 0 rfl) ?_
  refine lv_iload_n hx hb d1 rfl (lv_at hl 1 rfl) ?_
  obtain ⟨hs9, hf⟩ := x_if hf
  refine x_thenV C0 hxt hS hf (fun z0 e0 => x_runV C0 hR hS me_X7_checkItem wi_X7_checkItem wl_X7_checkItem ml_X7_179 hs9 xcl_7 (As := [.int x1]) (ct_X7_checkItem E l C0.2.2.2.2.2.2.2.1 _ r0 x1) rfl rfl hl.1 (Nat.le_of_ble_eq_true rfl) d2 ⟨(Nat.le_of_ble_eq_true rfl), (Nat.le_of_ble_eq_true rfl)⟩ ⟨(Nat.le_of_ble_eq_true rfl), (Nat.le_of_ble_eq_true rfl)⟩ e0) (Nat.le_of_ble_eq_true rfl) (Nat.le_of_ble_eq_true rfl) (fun h9 H locs hR hS hf => ?_)
  refine lv_iload_n hx hb d5 rfl (lv_at hl 2 rfl) ?_
  refine x_thenV C0 hxt hS hf (fun z0 e0 => x_runS C0 hR hS me_X7_checkAxis wt_X7_checkAxis ml_X7_103 (As := [.int x2]) (ct_X7_checkAxis E l C0.2.2.2.2.2.2.2.1 _ x2) rfl rfl hl.1 (Nat.le_of_ble_eq_true rfl) d6 ⟨(Nat.le_of_ble_eq_true rfl), (Nat.le_of_ble_eq_true rfl)⟩ ⟨(Nat.le_of_ble_eq_true rfl), (Nat.le_of_ble_eq_true rfl)⟩ e0) (Nat.le_of_ble_eq_true rfl) (Nat.le_of_ble_eq_true rfl) (fun h9 H locs hR hS hf => ?_)
  refine lv_iload_n hx hb d9 rfl (lv_at hl 3 rfl) ?_
  refine lv_iconst (v := -1) hx hb d10 (by decide) ?_
  refine lv_icmp_eq (tgt := 21) hx hb d11 (by decide) (fun q => ?_) (fun q => ?_)
  · have hf := x_pos q hf
    refine W.widen (k := 3) (n := 18) (Nat.le_of_ble_eq_true rfl) (Nat.le_of_ble_eq_true rfl) ?_
    exact s_X7_place_b21 C0 hxt _ _ _ _ _ _ _ _ _ hR hS (lv_sub hl [0, 1, 2, 3, 4] rfl) hf
  · have hf := x_neg q hf
    have h0 : x_by cX7_place 14 [29, 4, 16, 12, 184, 0, 130] := by unfold x_by; decide +kernel
    obtain ⟨d14, h0⟩ := de_iload_n3 h0
    obtain ⟨d15, h0⟩ := de_iconst_1 h0
    obtain ⟨d16, h0⟩ := de_bipush (12) (by decide) h0
    obtain ⟨d18, h0⟩ := de_invokestatic 130 (by decide) h0
    refine lv_iload_n hx hb d14 rfl (lv_at hl 3 rfl) ?_
    refine lv_iconst (v := 1) hx hb d15 (by decide) ?_
    refine lv_bipush (v := 12) hx hb d16 (by decide) ?_
    refine x_thenV C0 hxt hS hf (fun z0 e0 => x_runS C0 hR hS me_X7_checkRange wt_X7_checkRange ml_X7_130 (As := [.int x3, .int 1, .int 12]) (ct_X7_checkRange E l C0.2.2.2.2.2.2.2.1 _ x3 1 12) rfl rfl hl.1 (Nat.le_of_ble_eq_true rfl) d18 ⟨(Nat.le_of_ble_eq_true rfl), (Nat.le_of_ble_eq_true rfl)⟩ ⟨(Nat.le_of_ble_eq_true rfl), (Nat.le_of_ble_eq_true rfl)⟩ e0) (Nat.le_of_ble_eq_true rfl) (Nat.le_of_ble_eq_true rfl) (fun h9 H locs hR hS hf => ?_)
    exact s_X7_place_b21 C0 hxt _ _ _ _ _ _ _ _ _ hR hS (lv_sub hl [0, 1, 2, 3, 4] rfl) hf
def f_X7_align (h : HP) (r0 : Nat) (x1 : Int32) (x2 : Int32) (x3 : Int32) : Option XR :=
  x_rc h r0 7 <| x_cV (f_X7_checkItem h r0 x1) fun h1 =>
  x_cV (f_X7_checkAxis h1 x2) fun h2 =>
  x_cV (f_X7_checkRange h2 x3 0 3) fun h3 =>
  x_rc h3 r0 7 <| x_cV (f_X7_rememberChange h3 r0) fun h4 =>
  x_gR h4 r0 7 3 fun a5 =>
  x_rc h4 a5 4 <| x_cI (f_X4_itemField h4 a5 x1 x2 4) fun h7 i6 =>
  x_gR h7 r0 7 3 fun a8 =>
  x_rc h7 a8 4 <| x_cV (f_X4_changeItem h7 a8 x1 x2 4 x3) fun h9 =>
  some (h9, xi i6)
set_option maxRecDepth 100000 in
set_option maxHeartbeats 4000000 in
theorem ct_X7_align (E : XE) (l : Launch) (hl0 : l.stackTraces = false) (h : HP) (r0 : Nat) (x1 : Int32) (x2 : Int32) (x3 : Int32) : x_ct E l yX7_align (Cond.code yX7_align cX7_align 5 (some .int)) 10 171 3 18 [.ref (xa E r0), .int x1, .int x2, .int x3] h (f_X7_align h r0 x1 x2 x3) := by
  refine x_ofW hl0 (by decide +kernel) ?_
  intro z hf p e s m args below meth c C0 hxt hargs hR
  subst hargs
  have C0 : x_C E p l s m meth c ([.ref (xa E r0), .int x1, .int x2, .int x3] : List Value).toArray cX7_align 5 "GridEngine" "align" (some .int) := C0
  obtain ⟨hx, hb, -⟩ := id C0
  have hS : va_S (x_A E) s.heap s.heap [] := va_S.rf
  have hl := lv_entry ([.ref (xa E r0), .int x1, .int x2, .int x3]) (n := 5) (Nat.le_of_ble_eq_true rfl)
  rw [lg_entry_eq]
  generalize (lg_sl ([.ref (xa E r0), .int x1, .int x2, .int x3]) ++ List.replicate (5 - (lg_sl ([.ref (xa E r0), .int x1, .int x2, .int x3])).length) Slot.unset).toArray = ls at hl ⊢
  have hl : lv_has ls 5 [(0, .ref (xa E r0)), (1, .int x1), (2, .int x2), (3, .int x3)] := hl
  unfold f_X7_align at hf
  have h0 : x_by cX7_align 0 [42, 27, 182, 0, 179, 28, 184, 0, 103, 29, 3, 6, 184, 0, 130, 42, 182, 0, 117, 42, 180, 0, 27, 27, 28, 7, 182, 0, 182, 54, 4, 42, 180, 0, 27, 27, 28, 7, 29, 182, 0, 185, 21, 4, 172] := by unfold x_by; decide +kernel
  obtain ⟨d0, h0⟩ := de_aload_n0 h0
  obtain ⟨d1, h0⟩ := de_iload_n1 h0
  obtain ⟨d2, h0⟩ := de_invokevirtual 179 (by decide) h0
  obtain ⟨d5, h0⟩ := de_iload_n2 h0
  obtain ⟨d6, h0⟩ := de_invokestatic 103 (by decide) h0
  obtain ⟨d9, h0⟩ := de_iload_n3 h0
  obtain ⟨d10, h0⟩ := de_iconst_0 h0
  obtain ⟨d11, h0⟩ := de_iconst_3 h0
  obtain ⟨d12, h0⟩ := de_invokestatic 130 (by decide) h0
  obtain ⟨d15, h0⟩ := de_aload_n0 h0
  obtain ⟨d16, h0⟩ := de_invokevirtual 117 (by decide) h0
  obtain ⟨d19, h0⟩ := de_aload_n0 h0
  obtain ⟨d20, h0⟩ := de_getfield 27 (by decide) h0
  obtain ⟨d23, h0⟩ := de_iload_n1 h0
  obtain ⟨d24, h0⟩ := de_iload_n2 h0
  obtain ⟨d25, h0⟩ := de_iconst_4 h0
  obtain ⟨d26, h0⟩ := de_invokevirtual 182 (by decide) h0
  obtain ⟨d29, h0⟩ := de_istore h0
  obtain ⟨d31, h0⟩ := de_aload_n0 h0
  obtain ⟨d32, h0⟩ := de_getfield 27 (by decide) h0
  obtain ⟨d35, h0⟩ := de_iload_n1 h0
  obtain ⟨d36, h0⟩ := de_iload_n2 h0
  obtain ⟨d37, h0⟩ := de_iconst_4 h0
  obtain ⟨d38, h0⟩ := de_iload_n3 h0
  obtain ⟨d39, h0⟩ := de_invokevirtual 185 (by decide) h0
  obtain ⟨d42, h0⟩ := de_iload h0
  obtain ⟨d44, h0⟩ := de_ireturn h0
  refine lv_aload_n hx hb d0 rfl (lv_at hl 0 rfl) ?_
  refine lv_iload_n hx hb d1 rfl (lv_at hl 1 rfl) ?_
  obtain ⟨hs9, hf⟩ := x_if hf
  refine x_thenV C0 hxt hS hf (fun z0 e0 => x_runV C0 hR hS me_X7_checkItem wi_X7_checkItem wl_X7_checkItem ml_X7_179 hs9 xcl_7 (As := [.int x1]) (ct_X7_checkItem E l C0.2.2.2.2.2.2.2.1 _ r0 x1) rfl rfl hl.1 (Nat.le_of_ble_eq_true rfl) d2 ⟨(Nat.le_of_ble_eq_true rfl), (Nat.le_of_ble_eq_true rfl)⟩ ⟨(Nat.le_of_ble_eq_true rfl), (Nat.le_of_ble_eq_true rfl)⟩ e0) (Nat.le_of_ble_eq_true rfl) (Nat.le_of_ble_eq_true rfl) (fun h9 H locs hR hS hf => ?_)
  refine lv_iload_n hx hb d5 rfl (lv_at hl 2 rfl) ?_
  refine x_thenV C0 hxt hS hf (fun z0 e0 => x_runS C0 hR hS me_X7_checkAxis wt_X7_checkAxis ml_X7_103 (As := [.int x2]) (ct_X7_checkAxis E l C0.2.2.2.2.2.2.2.1 _ x2) rfl rfl hl.1 (Nat.le_of_ble_eq_true rfl) d6 ⟨(Nat.le_of_ble_eq_true rfl), (Nat.le_of_ble_eq_true rfl)⟩ ⟨(Nat.le_of_ble_eq_true rfl), (Nat.le_of_ble_eq_true rfl)⟩ e0) (Nat.le_of_ble_eq_true rfl) (Nat.le_of_ble_eq_true rfl) (fun h9 H locs hR hS hf => ?_)
  refine lv_iload_n hx hb d9 rfl (lv_at hl 3 rfl) ?_
  refine lv_iconst (v := 0) hx hb d10 (by decide) ?_
  refine lv_iconst (v := 3) hx hb d11 (by decide) ?_
  refine x_thenV C0 hxt hS hf (fun z0 e0 => x_runS C0 hR hS me_X7_checkRange wt_X7_checkRange ml_X7_130 (As := [.int x3, .int 0, .int 3]) (ct_X7_checkRange E l C0.2.2.2.2.2.2.2.1 _ x3 0 3) rfl rfl hl.1 (Nat.le_of_ble_eq_true rfl) d12 ⟨(Nat.le_of_ble_eq_true rfl), (Nat.le_of_ble_eq_true rfl)⟩ ⟨(Nat.le_of_ble_eq_true rfl), (Nat.le_of_ble_eq_true rfl)⟩ e0) (Nat.le_of_ble_eq_true rfl) (Nat.le_of_ble_eq_true rfl) (fun h9 H locs hR hS hf => ?_)
  refine lv_aload_n hx hb d15 rfl (lv_at hl 0 rfl) ?_
  obtain ⟨hs9, hf⟩ := x_if hf
  refine x_thenV C0 hxt hS hf (fun z0 e0 => x_runV C0 hR hS me_X7_rememberChange wi_X7_rememberChange wl_X7_rememberChange ml_X7_117 hs9 xcl_7 (As := []) (ct_X7_rememberChange E l C0.2.2.2.2.2.2.2.1 _ r0) rfl rfl hl.1 (Nat.le_of_ble_eq_true rfl) d16 ⟨(Nat.le_of_ble_eq_true rfl), (Nat.le_of_ble_eq_true rfl)⟩ ⟨(Nat.le_of_ble_eq_true rfl), (Nat.le_of_ble_eq_true rfl)⟩ e0) (Nat.le_of_ble_eq_true rfl) (Nat.le_of_ble_eq_true rfl) (fun h9 H locs hR hS hf => ?_)
  refine lv_aload_n hx hb d19 rfl (lv_at hl 0 rfl) ?_
  refine x_getR C0 hR hf xcl_7 (Nat.le_of_ble_eq_true rfl) rfl fl_X7_27 d20 (fun a5 hf => ?_)
  refine lv_iload_n hx hb d23 rfl (lv_at hl 1 rfl) ?_
  refine lv_iload_n hx hb d24 rfl (lv_at hl 2 rfl) ?_
  refine lv_iconst (v := 4) hx hb d25 (by decide) ?_
  obtain ⟨hs9, hf⟩ := x_if hf
  refine x_thenI C0 hxt hS hf (fun z0 e0 => x_runV C0 hR hS me_X4_itemField wi_X4_itemField wl_X4_itemField ml_X7_182 hs9 xcl_4 (As := [.int x1, .int x2, .int 4]) (ct_X4_itemField E l C0.2.2.2.2.2.2.2.1 _ a5 x1 x2 4) rfl rfl hl.1 (Nat.le_of_ble_eq_true rfl) d26 ⟨(Nat.le_of_ble_eq_true rfl), (Nat.le_of_ble_eq_true rfl)⟩ ⟨(Nat.le_of_ble_eq_true rfl), (Nat.le_of_ble_eq_true rfl)⟩ e0) (Nat.le_of_ble_eq_true rfl) (Nat.le_of_ble_eq_true rfl) (fun h9 i6 H locs hR hS hf => ?_)
  refine lv_istore (lv' := [(4, .int i6), (0, .ref (xa E r0)), (1, .int x1), (2, .int x2), (3, .int x3)]) hx hb d29 hl (by decide) rfl (fun ls hl => ?_)
  refine lv_aload_n hx hb d31 rfl (lv_at hl 1 rfl) ?_
  refine x_getR C0 hR hf xcl_7 (Nat.le_of_ble_eq_true rfl) rfl fl_X7_27 d32 (fun a8 hf => ?_)
  refine lv_iload_n hx hb d35 rfl (lv_at hl 2 rfl) ?_
  refine lv_iload_n hx hb d36 rfl (lv_at hl 3 rfl) ?_
  refine lv_iconst (v := 4) hx hb d37 (by decide) ?_
  refine lv_iload_n hx hb d38 rfl (lv_at hl 4 rfl) ?_
  obtain ⟨hs9, hf⟩ := x_if hf
  refine x_thenV C0 hxt hS hf (fun z0 e0 => x_runV C0 hR hS me_X4_changeItem wi_X4_changeItem wl_X4_changeItem ml_X7_185 hs9 xcl_4 (As := [.int x1, .int x2, .int 4, .int x3]) (ct_X4_changeItem E l C0.2.2.2.2.2.2.2.1 _ a8 x1 x2 4 x3) rfl rfl hl.1 (Nat.le_of_ble_eq_true rfl) d39 ⟨(Nat.le_of_ble_eq_true rfl), (Nat.le_of_ble_eq_true rfl)⟩ ⟨(Nat.le_of_ble_eq_true rfl), (Nat.le_of_ble_eq_true rfl)⟩ e0) (Nat.le_of_ble_eq_true rfl) (Nat.le_of_ble_eq_true rfl) (fun h9 H locs hR hS hf => ?_)
  refine lv_iload hx hb d42 (lv_at hl 0 rfl) ?_
  exact x_iret C0 hR hS hf (Nat.le_of_ble_eq_true rfl) (Nat.le_of_ble_eq_true rfl) d44
def f_X7_contribute_b71  (h : HP) (t0 : Int32) (r0 : Nat) (x1 : Int32) (x2 : Int32) (x4 : Int32) : Option XR :=
  x_gR h r0 7 3 fun a1 =>
  x_rc h a1 4 <| x_cI (f_X4_itemField h a1 x1 x2 t0) fun h3 i2 =>
  x_gR h3 r0 7 3 fun a4 =>
  x_rc h3 a4 4 <| x_cV (f_X4_changeItem h3 a4 x1 x2 t0 x4) fun h5 =>
  some (h5, xi i2)
def f_X7_contribute_b49  (h : HP) (t0 : Int32) (r0 : Nat) (x1 : Int32) (x2 : Int32) (x3 : Int32) (x4 : Int32) (x5 : Int32) : Option XR :=
  x_cV (f_X7_checkContributions h x5 t0) fun h1 =>
  x_rc h1 r0 7 <| x_cV (f_X7_rememberChange h1 r0) fun h2 =>
  if x3 = 0 then
    (
      f_X7_contribute_b71 h2 0 r0 x1 x2 x4
    )
  else
    (
      f_X7_contribute_b71 h2 1 r0 x1 x2 x4
    )
def f_X7_contribute_b28  (h : HP) (t0 : Int32) (r0 : Nat) (x1 : Int32) (x2 : Int32) (x3 : Int32) (x4 : Int32) : Option XR :=
  if x3 = 0 then
    (
      x_gR h r0 7 3 fun a1 =>
      x_rc h a1 4 <| x_cI (f_X4_itemField h a1 x1 x2 1) fun h3 i2 =>
      f_X7_contribute_b49 h3 i2 r0 x1 x2 x3 x4 t0
    )
  else
    (
      f_X7_contribute_b49 h x4 r0 x1 x2 x3 x4 t0
    )
def f_X7_contribute (h : HP) (r0 : Nat) (x1 : Int32) (x2 : Int32) (x3 : Int32) (x4 : Int32) : Option XR :=
  x_rc h r0 7 <| x_cV (f_X7_checkItem h r0 x1) fun h1 =>
  x_cV (f_X7_checkAxis h1 x2) fun h2 =>
  if x3 = 0 then
    (
      f_X7_contribute_b28 h2 x4 r0 x1 x2 x3 x4
    )
  else
    (
      x_gR h2 r0 7 3 fun a3 =>
      x_rc h2 a3 4 <| x_cI (f_X4_itemField h2 a3 x1 x2 0) fun h5 i4 =>
      f_X7_contribute_b28 h5 i4 r0 x1 x2 x3 x4
    )
set_option maxRecDepth 100000 in
set_option maxHeartbeats 4000000 in
theorem s_X7_contribute_b71 {p : Program} {l : Launch} {e : Env} {s : State} {m : MethodId} {args : Array Value} {below : List Frame} {meth : Method} {c : Code} {E : XE} {z : XR} (C0 : x_C E p l s m meth c args cX7_contribute 9 "GridEngine" "contribute" (some .int)) (hxt : ∀ x ∈ c.exceptionTable.toList, False)  : ∀ (h : HP) (t0 : Int32) (r0 : Nat) (x1 : Int32) (x2 : Int32) (x4 : Int32) (H : Heap) (locs : List Loc) (ls : Array Slot), x_Rep E h H → va_S (x_A E) s.heap H locs → lv_has ls 9 [(0, .ref (xa E r0)), (1, .int x1), (2, .int x2), (4, .int x4)] → f_X7_contribute_b71 h t0 r0 x1 x2 x4 = some z → W p l e ({ frames := 10, cells := 3, slots := 18, locals := 171 } : Room) s m args below meth c H locs 3 18 (x_Q E below args s 3 18 z) (F0 m 71 ls [.int t0]) := by
  intro h t0 r0 x1 x2 x4 H locs ls hR hS hl hf
  obtain ⟨hx, hb, -⟩ := id C0
  unfold f_X7_contribute_b71 at hf
  have h0 : x_by cX7_contribute 71 [54, 7, 42, 180, 0, 27, 27, 28, 21, 7, 182, 0, 182, 54, 8, 42, 180, 0, 27, 27, 28, 21, 7, 21, 4, 182, 0, 185, 21, 8, 172] := by unfold x_by; decide +kernel
  obtain ⟨d71, h0⟩ := de_istore h0
  obtain ⟨d73, h0⟩ := de_aload_n0 h0
  obtain ⟨d74, h0⟩ := de_getfield 27 (by decide) h0
  obtain ⟨d77, h0⟩ := de_iload_n1 h0
  obtain ⟨d78, h0⟩ := de_iload_n2 h0
  obtain ⟨d79, h0⟩ := de_iload h0
  obtain ⟨d81, h0⟩ := de_invokevirtual 182 (by decide) h0
  obtain ⟨d84, h0⟩ := de_istore h0
  obtain ⟨d86, h0⟩ := de_aload_n0 h0
  obtain ⟨d87, h0⟩ := de_getfield 27 (by decide) h0
  obtain ⟨d90, h0⟩ := de_iload_n1 h0
  obtain ⟨d91, h0⟩ := de_iload_n2 h0
  obtain ⟨d92, h0⟩ := de_iload h0
  obtain ⟨d94, h0⟩ := de_iload h0
  obtain ⟨d96, h0⟩ := de_invokevirtual 185 (by decide) h0
  obtain ⟨d99, h0⟩ := de_iload h0
  obtain ⟨d101, h0⟩ := de_ireturn h0
  refine lv_istore (lv' := [(7, .int t0), (0, .ref (xa E r0)), (1, .int x1), (2, .int x2), (4, .int x4)]) hx hb d71 hl (by decide) rfl (fun ls hl => ?_)
  refine lv_aload_n hx hb d73 rfl (lv_at hl 1 rfl) ?_
  refine x_getR C0 hR hf xcl_7 (Nat.le_of_ble_eq_true rfl) rfl fl_X7_27 d74 (fun a1 hf => ?_)
  refine lv_iload_n hx hb d77 rfl (lv_at hl 2 rfl) ?_
  refine lv_iload_n hx hb d78 rfl (lv_at hl 3 rfl) ?_
  refine lv_iload hx hb d79 (lv_at hl 0 rfl) ?_
  obtain ⟨hs9, hf⟩ := x_if hf
  refine x_thenI C0 hxt hS hf (fun z0 e0 => x_runV C0 hR hS me_X4_itemField wi_X4_itemField wl_X4_itemField ml_X7_182 hs9 xcl_4 (As := [.int x1, .int x2, .int t0]) (ct_X4_itemField E l C0.2.2.2.2.2.2.2.1 _ a1 x1 x2 t0) rfl rfl hl.1 (Nat.le_of_ble_eq_true rfl) d81 ⟨(Nat.le_of_ble_eq_true rfl), (Nat.le_of_ble_eq_true rfl)⟩ ⟨(Nat.le_of_ble_eq_true rfl), (Nat.le_of_ble_eq_true rfl)⟩ e0) (Nat.le_of_ble_eq_true rfl) (Nat.le_of_ble_eq_true rfl) (fun h9 i2 H locs hR hS hf => ?_)
  refine lv_istore (lv' := [(8, .int i2), (7, .int t0), (0, .ref (xa E r0)), (1, .int x1), (2, .int x2), (4, .int x4)]) hx hb d84 hl (by decide) rfl (fun ls hl => ?_)
  refine lv_aload_n hx hb d86 rfl (lv_at hl 2 rfl) ?_
  refine x_getR C0 hR hf xcl_7 (Nat.le_of_ble_eq_true rfl) rfl fl_X7_27 d87 (fun a4 hf => ?_)
  refine lv_iload_n hx hb d90 rfl (lv_at hl 3 rfl) ?_
  refine lv_iload_n hx hb d91 rfl (lv_at hl 4 rfl) ?_
  refine lv_iload hx hb d92 (lv_at hl 1 rfl) ?_
  refine lv_iload hx hb d94 (lv_at hl 5 rfl) ?_
  obtain ⟨hs9, hf⟩ := x_if hf
  refine x_thenV C0 hxt hS hf (fun z0 e0 => x_runV C0 hR hS me_X4_changeItem wi_X4_changeItem wl_X4_changeItem ml_X7_185 hs9 xcl_4 (As := [.int x1, .int x2, .int t0, .int x4]) (ct_X4_changeItem E l C0.2.2.2.2.2.2.2.1 _ a4 x1 x2 t0 x4) rfl rfl hl.1 (Nat.le_of_ble_eq_true rfl) d96 ⟨(Nat.le_of_ble_eq_true rfl), (Nat.le_of_ble_eq_true rfl)⟩ ⟨(Nat.le_of_ble_eq_true rfl), (Nat.le_of_ble_eq_true rfl)⟩ e0) (Nat.le_of_ble_eq_true rfl) (Nat.le_of_ble_eq_true rfl) (fun h9 H locs hR hS hf => ?_)
  refine lv_iload hx hb d99 (lv_at hl 0 rfl) ?_
  exact x_iret C0 hR hS hf (Nat.le_of_ble_eq_true rfl) (Nat.le_of_ble_eq_true rfl) d101
set_option maxRecDepth 100000 in
set_option maxHeartbeats 4000000 in
theorem s_X7_contribute_b49 {p : Program} {l : Launch} {e : Env} {s : State} {m : MethodId} {args : Array Value} {below : List Frame} {meth : Method} {c : Code} {E : XE} {z : XR} (C0 : x_C E p l s m meth c args cX7_contribute 9 "GridEngine" "contribute" (some .int)) (hxt : ∀ x ∈ c.exceptionTable.toList, False)  : ∀ (h : HP) (t0 : Int32) (r0 : Nat) (x1 : Int32) (x2 : Int32) (x3 : Int32) (x4 : Int32) (x5 : Int32) (H : Heap) (locs : List Loc) (ls : Array Slot), x_Rep E h H → va_S (x_A E) s.heap H locs → lv_has ls 9 [(0, .ref (xa E r0)), (1, .int x1), (2, .int x2), (3, .int x3), (4, .int x4), (5, .int x5)] → f_X7_contribute_b49 h t0 r0 x1 x2 x3 x4 x5 = some z → W p l e ({ frames := 10, cells := 3, slots := 18, locals := 171 } : Room) s m args below meth c H locs 2 12 (x_Q E below args s 3 18 z) (F0 m 49 ls [.int t0]) := by
  intro h t0 r0 x1 x2 x3 x4 x5 H locs ls hR hS hl hf
  obtain ⟨hx, hb, -⟩ := id C0
  unfold f_X7_contribute_b49 at hf
  have h0 : x_by cX7_contribute 49 [54, 6, 21, 5, 21, 6, 184, 0, 167, 42, 182, 0, 117, 29, 153, 0, 7] := by unfold x_by; decide +kernel
  obtain ⟨d49, h0⟩ := de_istore h0
  obtain ⟨d51, h0⟩ := de_iload h0
  obtain ⟨d53, h0⟩ := de_iload h0
  obtain ⟨d55, h0⟩ := de_invokestatic 167 (by decide) h0
  obtain ⟨d58, h0⟩ := de_aload_n0 h0
  obtain ⟨d59, h0⟩ := de_invokevirtual 117 (by decide) h0
  obtain ⟨d62, h0⟩ := de_iload_n3 h0
  obtain ⟨d63, h0⟩ := de_if_eq (7) (by decide) h0
  refine lv_istore (lv' := [(6, .int t0), (0, .ref (xa E r0)), (1, .int x1), (2, .int x2), (3, .int x3), (4, .int x4), (5, .int x5)]) hx hb d49 hl (by decide) rfl (fun ls hl => ?_)
  refine lv_iload hx hb d51 (lv_at hl 6 rfl) ?_
  refine lv_iload hx hb d53 (lv_at hl 0 rfl) ?_
  refine x_thenV C0 hxt hS hf (fun z0 e0 => x_runS C0 hR hS me_X7_checkContributions wt_X7_checkContributions ml_X7_167 (As := [.int x5, .int t0]) (ct_X7_checkContributions E l C0.2.2.2.2.2.2.2.1 _ x5 t0) rfl rfl hl.1 (Nat.le_of_ble_eq_true rfl) d55 ⟨(Nat.le_of_ble_eq_true rfl), (Nat.le_of_ble_eq_true rfl)⟩ ⟨(Nat.le_of_ble_eq_true rfl), (Nat.le_of_ble_eq_true rfl)⟩ e0) (Nat.le_of_ble_eq_true rfl) (Nat.le_of_ble_eq_true rfl) (fun h9 H locs hR hS hf => ?_)
  refine lv_aload_n hx hb d58 rfl (lv_at hl 1 rfl) ?_
  obtain ⟨hs9, hf⟩ := x_if hf
  refine x_thenV C0 hxt hS hf (fun z0 e0 => x_runV C0 hR hS me_X7_rememberChange wi_X7_rememberChange wl_X7_rememberChange ml_X7_117 hs9 xcl_7 (As := []) (ct_X7_rememberChange E l C0.2.2.2.2.2.2.2.1 _ r0) rfl rfl hl.1 (Nat.le_of_ble_eq_true rfl) d59 ⟨(Nat.le_of_ble_eq_true rfl), (Nat.le_of_ble_eq_true rfl)⟩ ⟨(Nat.le_of_ble_eq_true rfl), (Nat.le_of_ble_eq_true rfl)⟩ e0) (Nat.le_of_ble_eq_true rfl) (Nat.le_of_ble_eq_true rfl) (fun h9 H locs hR hS hf => ?_)
  refine lv_iload_n hx hb d62 rfl (lv_at hl 4 rfl) ?_
  refine lv_if_eq (tgt := 70) hx hb d63 (by decide) (fun q => ?_) (fun q => ?_)
  · have hf := x_pos q hf
    have h0 : x_by cX7_contribute 70 [3] := by unfold x_by; decide +kernel
    obtain ⟨d70, h0⟩ := de_iconst_0 h0
    refine lv_iconst (v := 0) hx hb d70 (by decide) ?_
    exact s_X7_contribute_b71 C0 hxt _ _ _ _ _ _ _ _ _ hR hS (lv_sub hl [1, 2, 3, 5] rfl) hf
  · have hf := x_neg q hf
    have h0 : x_by cX7_contribute 66 [4, 167, 0, 4] := by unfold x_by; decide +kernel
    obtain ⟨d66, h0⟩ := de_iconst_1 h0
    obtain ⟨d67, h0⟩ := de_goto (4) (by decide) h0
    refine lv_iconst (v := 1) hx hb d66 (by decide) ?_
    refine lv_goto (tgt := 71) hx hb d67 (by decide) ?_
    exact s_X7_contribute_b71 C0 hxt _ _ _ _ _ _ _ _ _ hR hS (lv_sub hl [1, 2, 3, 5] rfl) hf
set_option maxRecDepth 100000 in
set_option maxHeartbeats 4000000 in
theorem s_X7_contribute_b28 {p : Program} {l : Launch} {e : Env} {s : State} {m : MethodId} {args : Array Value} {below : List Frame} {meth : Method} {c : Code} {E : XE} {z : XR} (C0 : x_C E p l s m meth c args cX7_contribute 9 "GridEngine" "contribute" (some .int)) (hxt : ∀ x ∈ c.exceptionTable.toList, False)  : ∀ (h : HP) (t0 : Int32) (r0 : Nat) (x1 : Int32) (x2 : Int32) (x3 : Int32) (x4 : Int32) (H : Heap) (locs : List Loc) (ls : Array Slot), x_Rep E h H → va_S (x_A E) s.heap H locs → lv_has ls 9 [(0, .ref (xa E r0)), (1, .int x1), (2, .int x2), (3, .int x3), (4, .int x4)] → f_X7_contribute_b28 h t0 r0 x1 x2 x3 x4 = some z → W p l e ({ frames := 10, cells := 3, slots := 18, locals := 171 } : Room) s m args below meth c H locs 2 12 (x_Q E below args s 3 18 z) (F0 m 28 ls [.int t0]) := by
  intro h t0 r0 x1 x2 x3 x4 H locs ls hR hS hl hf
  obtain ⟨hx, hb, -⟩ := id C0
  unfold f_X7_contribute_b28 at hf
  have h0 : x_by cX7_contribute 28 [54, 5, 29, 153, 0, 8] := by unfold x_by; decide +kernel
  obtain ⟨d28, h0⟩ := de_istore h0
  obtain ⟨d30, h0⟩ := de_iload_n3 h0
  obtain ⟨d31, h0⟩ := de_if_eq (8) (by decide) h0
  refine lv_istore (lv' := [(5, .int t0), (0, .ref (xa E r0)), (1, .int x1), (2, .int x2), (3, .int x3), (4, .int x4)]) hx hb d28 hl (by decide) rfl (fun ls hl => ?_)
  refine lv_iload_n hx hb d30 rfl (lv_at hl 4 rfl) ?_
  refine lv_if_eq (tgt := 39) hx hb d31 (by decide) (fun q => ?_) (fun q => ?_)
  · have hf := x_pos q hf
    have h0 : x_by cX7_contribute 39 [42, 180, 0, 27, 27, 28, 4, 182, 0, 182] := by unfold x_by; decide +kernel
    obtain ⟨d39, h0⟩ := de_aload_n0 h0
    obtain ⟨d40, h0⟩ := de_getfield 27 (by decide) h0
    obtain ⟨d43, h0⟩ := de_iload_n1 h0
    obtain ⟨d44, h0⟩ := de_iload_n2 h0
    obtain ⟨d45, h0⟩ := de_iconst_1 h0
    obtain ⟨d46, h0⟩ := de_invokevirtual 182 (by decide) h0
    refine lv_aload_n hx hb d39 rfl (lv_at hl 1 rfl) ?_
    refine x_getR C0 hR hf xcl_7 (Nat.le_of_ble_eq_true rfl) rfl fl_X7_27 d40 (fun a1 hf => ?_)
    refine lv_iload_n hx hb d43 rfl (lv_at hl 2 rfl) ?_
    refine lv_iload_n hx hb d44 rfl (lv_at hl 3 rfl) ?_
    refine lv_iconst (v := 1) hx hb d45 (by decide) ?_
    obtain ⟨hs9, hf⟩ := x_if hf
    refine x_thenI C0 hxt hS hf (fun z0 e0 => x_runV C0 hR hS me_X4_itemField wi_X4_itemField wl_X4_itemField ml_X7_182 hs9 xcl_4 (As := [.int x1, .int x2, .int 1]) (ct_X4_itemField E l C0.2.2.2.2.2.2.2.1 _ a1 x1 x2 1) rfl rfl hl.1 (Nat.le_of_ble_eq_true rfl) d46 ⟨(Nat.le_of_ble_eq_true rfl), (Nat.le_of_ble_eq_true rfl)⟩ ⟨(Nat.le_of_ble_eq_true rfl), (Nat.le_of_ble_eq_true rfl)⟩ e0) (Nat.le_of_ble_eq_true rfl) (Nat.le_of_ble_eq_true rfl) (fun h9 i2 H locs hR hS hf => ?_)
    exact s_X7_contribute_b49 C0 hxt _ _ _ _ _ _ _ _ _ _ _ hR hS (lv_sub hl [1, 2, 3, 4, 5, 0] rfl) hf
  · have hf := x_neg q hf
    have h0 : x_by cX7_contribute 34 [21, 4, 167, 0, 13] := by unfold x_by; decide +kernel
    obtain ⟨d34, h0⟩ := de_iload h0
    obtain ⟨d36, h0⟩ := de_goto (13) (by decide) h0
    refine lv_iload hx hb d34 (lv_at hl 5 rfl) ?_
    refine lv_goto (tgt := 49) hx hb d36 (by decide) ?_
    exact s_X7_contribute_b49 C0 hxt _ _ _ _ _ _ _ _ _ _ _ hR hS (lv_sub hl [1, 2, 3, 4, 5, 0] rfl) hf
set_option maxRecDepth 100000 in
set_option maxHeartbeats 4000000 in
theorem ct_X7_contribute (E : XE) (l : Launch) (hl0 : l.stackTraces = false) (h : HP) (r0 : Nat) (x1 : Int32) (x2 : Int32) (x3 : Int32) (x4 : Int32) : x_ct E l yX7_contribute (Cond.code yX7_contribute cX7_contribute 9 (some .int)) 10 171 3 18 [.ref (xa E r0), .int x1, .int x2, .int x3, .int x4] h (f_X7_contribute h r0 x1 x2 x3 x4) := by
  refine x_ofW hl0 (by decide +kernel) ?_
  intro z hf p e s m args below meth c C0 hxt hargs hR
  subst hargs
  have C0 : x_C E p l s m meth c ([.ref (xa E r0), .int x1, .int x2, .int x3, .int x4] : List Value).toArray cX7_contribute 9 "GridEngine" "contribute" (some .int) := C0
  obtain ⟨hx, hb, -⟩ := id C0
  have hS : va_S (x_A E) s.heap s.heap [] := va_S.rf
  have hl := lv_entry ([.ref (xa E r0), .int x1, .int x2, .int x3, .int x4]) (n := 9) (Nat.le_of_ble_eq_true rfl)
  rw [lg_entry_eq]
  generalize (lg_sl ([.ref (xa E r0), .int x1, .int x2, .int x3, .int x4]) ++ List.replicate (9 - (lg_sl ([.ref (xa E r0), .int x1, .int x2, .int x3, .int x4])).length) Slot.unset).toArray = ls at hl ⊢
  have hl : lv_has ls 9 [(0, .ref (xa E r0)), (1, .int x1), (2, .int x2), (3, .int x3), (4, .int x4)] := hl
  unfold f_X7_contribute at hf
  have h0 : x_by cX7_contribute 0 [42, 27, 182, 0, 179, 28, 184, 0, 103, 29, 153, 0, 16] := by unfold x_by; decide +kernel
  obtain ⟨d0, h0⟩ := de_aload_n0 h0
  obtain ⟨d1, h0⟩ := de_iload_n1 h0
  obtain ⟨d2, h0⟩ := de_invokevirtual 179 (by decide) h0
  obtain ⟨d5, h0⟩ := de_iload_n2 h0
  obtain ⟨d6, h0⟩ := de_invokestatic 103 (by decide) h0
  obtain ⟨d9, h0⟩ := de_iload_n3 h0
  obtain ⟨d10, h0⟩ := de_if_eq (16) (by decide) h0
  refine lv_aload_n hx hb d0 rfl (lv_at hl 0 rfl) ?_
  refine lv_iload_n hx hb d1 rfl (lv_at hl 1 rfl) ?_
  obtain ⟨hs9, hf⟩ := x_if hf
  refine x_thenV C0 hxt hS hf (fun z0 e0 => x_runV C0 hR hS me_X7_checkItem wi_X7_checkItem wl_X7_checkItem ml_X7_179 hs9 xcl_7 (As := [.int x1]) (ct_X7_checkItem E l C0.2.2.2.2.2.2.2.1 _ r0 x1) rfl rfl hl.1 (Nat.le_of_ble_eq_true rfl) d2 ⟨(Nat.le_of_ble_eq_true rfl), (Nat.le_of_ble_eq_true rfl)⟩ ⟨(Nat.le_of_ble_eq_true rfl), (Nat.le_of_ble_eq_true rfl)⟩ e0) (Nat.le_of_ble_eq_true rfl) (Nat.le_of_ble_eq_true rfl) (fun h9 H locs hR hS hf => ?_)
  refine lv_iload_n hx hb d5 rfl (lv_at hl 2 rfl) ?_
  refine x_thenV C0 hxt hS hf (fun z0 e0 => x_runS C0 hR hS me_X7_checkAxis wt_X7_checkAxis ml_X7_103 (As := [.int x2]) (ct_X7_checkAxis E l C0.2.2.2.2.2.2.2.1 _ x2) rfl rfl hl.1 (Nat.le_of_ble_eq_true rfl) d6 ⟨(Nat.le_of_ble_eq_true rfl), (Nat.le_of_ble_eq_true rfl)⟩ ⟨(Nat.le_of_ble_eq_true rfl), (Nat.le_of_ble_eq_true rfl)⟩ e0) (Nat.le_of_ble_eq_true rfl) (Nat.le_of_ble_eq_true rfl) (fun h9 H locs hR hS hf => ?_)
  refine lv_iload_n hx hb d9 rfl (lv_at hl 3 rfl) ?_
  refine lv_if_eq (tgt := 26) hx hb d10 (by decide) (fun q => ?_) (fun q => ?_)
  · have hf := x_pos q hf
    have h0 : x_by cX7_contribute 26 [21, 4] := by unfold x_by; decide +kernel
    obtain ⟨d26, h0⟩ := de_iload h0
    refine lv_iload hx hb d26 (lv_at hl 4 rfl) ?_
    exact s_X7_contribute_b28 C0 hxt _ _ _ _ _ _ _ _ _ _ hR hS (lv_sub hl [0, 1, 2, 3, 4] rfl) hf
  · have hf := x_neg q hf
    have h0 : x_by cX7_contribute 13 [42, 180, 0, 27, 27, 28, 3, 182, 0, 182, 167, 0, 5] := by unfold x_by; decide +kernel
    obtain ⟨d13, h0⟩ := de_aload_n0 h0
    obtain ⟨d14, h0⟩ := de_getfield 27 (by decide) h0
    obtain ⟨d17, h0⟩ := de_iload_n1 h0
    obtain ⟨d18, h0⟩ := de_iload_n2 h0
    obtain ⟨d19, h0⟩ := de_iconst_0 h0
    obtain ⟨d20, h0⟩ := de_invokevirtual 182 (by decide) h0
    obtain ⟨d23, h0⟩ := de_goto (5) (by decide) h0
    refine lv_aload_n hx hb d13 rfl (lv_at hl 0 rfl) ?_
    refine x_getR C0 hR hf xcl_7 (Nat.le_of_ble_eq_true rfl) rfl fl_X7_27 d14 (fun a3 hf => ?_)
    refine lv_iload_n hx hb d17 rfl (lv_at hl 1 rfl) ?_
    refine lv_iload_n hx hb d18 rfl (lv_at hl 2 rfl) ?_
    refine lv_iconst (v := 0) hx hb d19 (by decide) ?_
    obtain ⟨hs9, hf⟩ := x_if hf
    refine x_thenI C0 hxt hS hf (fun z0 e0 => x_runV C0 hR hS me_X4_itemField wi_X4_itemField wl_X4_itemField ml_X7_182 hs9 xcl_4 (As := [.int x1, .int x2, .int 0]) (ct_X4_itemField E l C0.2.2.2.2.2.2.2.1 _ a3 x1 x2 0) rfl rfl hl.1 (Nat.le_of_ble_eq_true rfl) d20 ⟨(Nat.le_of_ble_eq_true rfl), (Nat.le_of_ble_eq_true rfl)⟩ ⟨(Nat.le_of_ble_eq_true rfl), (Nat.le_of_ble_eq_true rfl)⟩ e0) (Nat.le_of_ble_eq_true rfl) (Nat.le_of_ble_eq_true rfl) (fun h9 i4 H locs hR hS hf => ?_)
    refine lv_goto (tgt := 28) hx hb d23 (by decide) ?_
    exact s_X7_contribute_b28 C0 hxt _ _ _ _ _ _ _ _ _ _ hR hS (lv_sub hl [0, 1, 2, 3, 4] rfl) hf
def f_X7_removeItem (h : HP) (r0 : Nat) (x1 : Int32) : Option XR :=
  x_rc h r0 7 <| x_cV (f_X7_checkItem h r0 x1) fun h1 =>
  x_rc h1 r0 7 <| x_cV (f_X7_rememberChange h1 r0) fun h2 =>
  x_gR h2 r0 7 3 fun a3 =>
  x_rc h2 a3 4 <| x_cV (f_X4_dropItem h2 a3 x1) fun h4 =>
  x_gR h4 r0 7 3 fun a5 =>
  x_gI h4 a5 4 4 fun i6 =>
  some (h4, xi i6)
set_option maxRecDepth 100000 in
set_option maxHeartbeats 4000000 in
theorem ct_X7_removeItem (E : XE) (l : Launch) (hl0 : l.stackTraces = false) (h : HP) (r0 : Nat) (x1 : Int32) : x_ct E l yX7_removeItem (Cond.code yX7_removeItem cX7_removeItem 2 (some .int)) 10 171 1 6 [.ref (xa E r0), .int x1] h (f_X7_removeItem h r0 x1) := by
  refine x_ofW hl0 (by decide +kernel) ?_
  intro z hf p e s m args below meth c C0 hxt hargs hR
  subst hargs
  have C0 : x_C E p l s m meth c ([.ref (xa E r0), .int x1] : List Value).toArray cX7_removeItem 2 "GridEngine" "removeItem" (some .int) := C0
  obtain ⟨hx, hb, -⟩ := id C0
  have hS : va_S (x_A E) s.heap s.heap [] := va_S.rf
  have hl := lv_entry ([.ref (xa E r0), .int x1]) (n := 2) (Nat.le_of_ble_eq_true rfl)
  rw [lg_entry_eq]
  generalize (lg_sl ([.ref (xa E r0), .int x1]) ++ List.replicate (2 - (lg_sl ([.ref (xa E r0), .int x1])).length) Slot.unset).toArray = ls at hl ⊢
  have hl : lv_has ls 2 [(0, .ref (xa E r0)), (1, .int x1)] := hl
  unfold f_X7_removeItem at hf
  have h0 : x_by cX7_removeItem 0 [42, 27, 182, 0, 179, 42, 182, 0, 117, 42, 180, 0, 27, 27, 182, 0, 188, 42, 180, 0, 27, 180, 0, 170, 172] := by unfold x_by; decide +kernel
  obtain ⟨d0, h0⟩ := de_aload_n0 h0
  obtain ⟨d1, h0⟩ := de_iload_n1 h0
  obtain ⟨d2, h0⟩ := de_invokevirtual 179 (by decide) h0
  obtain ⟨d5, h0⟩ := de_aload_n0 h0
  obtain ⟨d6, h0⟩ := de_invokevirtual 117 (by decide) h0
  obtain ⟨d9, h0⟩ := de_aload_n0 h0
  obtain ⟨d10, h0⟩ := de_getfield 27 (by decide) h0
  obtain ⟨d13, h0⟩ := de_iload_n1 h0
  obtain ⟨d14, h0⟩ := de_invokevirtual 188 (by decide) h0
  obtain ⟨d17, h0⟩ := de_aload_n0 h0
  obtain ⟨d18, h0⟩ := de_getfield 27 (by decide) h0
  obtain ⟨d21, h0⟩ := de_getfield 170 (by decide) h0
  obtain ⟨d24, h0⟩ := de_ireturn h0
  refine lv_aload_n hx hb d0 rfl (lv_at hl 0 rfl) ?_
  refine lv_iload_n hx hb d1 rfl (lv_at hl 1 rfl) ?_
  obtain ⟨hs9, hf⟩ := x_if hf
  refine x_thenV C0 hxt hS hf (fun z0 e0 => x_runV C0 hR hS me_X7_checkItem wi_X7_checkItem wl_X7_checkItem ml_X7_179 hs9 xcl_7 (As := [.int x1]) (ct_X7_checkItem E l C0.2.2.2.2.2.2.2.1 _ r0 x1) rfl rfl hl.1 (Nat.le_of_ble_eq_true rfl) d2 ⟨(Nat.le_of_ble_eq_true rfl), (Nat.le_of_ble_eq_true rfl)⟩ ⟨(Nat.le_of_ble_eq_true rfl), (Nat.le_of_ble_eq_true rfl)⟩ e0) (Nat.le_of_ble_eq_true rfl) (Nat.le_of_ble_eq_true rfl) (fun h9 H locs hR hS hf => ?_)
  refine lv_aload_n hx hb d5 rfl (lv_at hl 0 rfl) ?_
  obtain ⟨hs9, hf⟩ := x_if hf
  refine x_thenV C0 hxt hS hf (fun z0 e0 => x_runV C0 hR hS me_X7_rememberChange wi_X7_rememberChange wl_X7_rememberChange ml_X7_117 hs9 xcl_7 (As := []) (ct_X7_rememberChange E l C0.2.2.2.2.2.2.2.1 _ r0) rfl rfl hl.1 (Nat.le_of_ble_eq_true rfl) d6 ⟨(Nat.le_of_ble_eq_true rfl), (Nat.le_of_ble_eq_true rfl)⟩ ⟨(Nat.le_of_ble_eq_true rfl), (Nat.le_of_ble_eq_true rfl)⟩ e0) (Nat.le_of_ble_eq_true rfl) (Nat.le_of_ble_eq_true rfl) (fun h9 H locs hR hS hf => ?_)
  refine lv_aload_n hx hb d9 rfl (lv_at hl 0 rfl) ?_
  refine x_getR C0 hR hf xcl_7 (Nat.le_of_ble_eq_true rfl) rfl fl_X7_27 d10 (fun a3 hf => ?_)
  refine lv_iload_n hx hb d13 rfl (lv_at hl 1 rfl) ?_
  obtain ⟨hs9, hf⟩ := x_if hf
  refine x_thenV C0 hxt hS hf (fun z0 e0 => x_runV C0 hR hS me_X4_dropItem wi_X4_dropItem wl_X4_dropItem ml_X7_188 hs9 xcl_4 (As := [.int x1]) (ct_X4_dropItem E l C0.2.2.2.2.2.2.2.1 _ a3 x1) rfl rfl hl.1 (Nat.le_of_ble_eq_true rfl) d14 ⟨(Nat.le_of_ble_eq_true rfl), (Nat.le_of_ble_eq_true rfl)⟩ ⟨(Nat.le_of_ble_eq_true rfl), (Nat.le_of_ble_eq_true rfl)⟩ e0) (Nat.le_of_ble_eq_true rfl) (Nat.le_of_ble_eq_true rfl) (fun h9 H locs hR hS hf => ?_)
  refine lv_aload_n hx hb d17 rfl (lv_at hl 0 rfl) ?_
  refine x_getR C0 hR hf xcl_7 (Nat.le_of_ble_eq_true rfl) rfl fl_X7_27 d18 (fun a5 hf => ?_)
  refine x_getI C0 hR hf xcl_4 (Nat.le_of_ble_eq_true rfl) rfl fl_X7_170 d21 (fun i6 hf => ?_)
  exact x_iret C0 hR hS hf (Nat.le_of_ble_eq_true rfl) (Nat.le_of_ble_eq_true rfl) d24
def f_X7_exchange (h : HP) (r0 : Nat) (x1 : Int32) (x2 : Int32) : Option XR :=
  x_rc h r0 7 <| x_cV (f_X7_checkItem h r0 x1) fun h1 =>
  x_rc h1 r0 7 <| x_cV (f_X7_checkItem h1 r0 x2) fun h2 =>
  x_rc h2 r0 7 <| x_cV (f_X7_rememberChange h2 r0) fun h3 =>
  x_gR h3 r0 7 3 fun a4 =>
  x_rc h3 a4 4 <| x_cV (f_X4_swapItems h3 a4 x1 x2) fun h5 =>
  x_gR h5 r0 7 3 fun a6 =>
  x_gI h5 a6 4 4 fun i7 =>
  some (h5, xi i7)
set_option maxRecDepth 100000 in
set_option maxHeartbeats 4000000 in
theorem ct_X7_exchange (E : XE) (l : Launch) (hl0 : l.stackTraces = false) (h : HP) (r0 : Nat) (x1 : Int32) (x2 : Int32) : x_ct E l yX7_exchange (Cond.code yX7_exchange cX7_exchange 3 (some .int)) 10 180 2 12 [.ref (xa E r0), .int x1, .int x2] h (f_X7_exchange h r0 x1 x2) := by
  refine x_ofW hl0 (by decide +kernel) ?_
  intro z hf p e s m args below meth c C0 hxt hargs hR
  subst hargs
  have C0 : x_C E p l s m meth c ([.ref (xa E r0), .int x1, .int x2] : List Value).toArray cX7_exchange 3 "GridEngine" "exchange" (some .int) := C0
  obtain ⟨hx, hb, -⟩ := id C0
  have hS : va_S (x_A E) s.heap s.heap [] := va_S.rf
  have hl := lv_entry ([.ref (xa E r0), .int x1, .int x2]) (n := 3) (Nat.le_of_ble_eq_true rfl)
  rw [lg_entry_eq]
  generalize (lg_sl ([.ref (xa E r0), .int x1, .int x2]) ++ List.replicate (3 - (lg_sl ([.ref (xa E r0), .int x1, .int x2])).length) Slot.unset).toArray = ls at hl ⊢
  have hl : lv_has ls 3 [(0, .ref (xa E r0)), (1, .int x1), (2, .int x2)] := hl
  unfold f_X7_exchange at hf
  have h0 : x_by cX7_exchange 0 [42, 27, 182, 0, 179, 42, 28, 182, 0, 179, 42, 182, 0, 117, 42, 180, 0, 27, 27, 28, 182, 0, 191, 42, 180, 0, 27, 180, 0, 170, 172] := by unfold x_by; decide +kernel
  obtain ⟨d0, h0⟩ := de_aload_n0 h0
  obtain ⟨d1, h0⟩ := de_iload_n1 h0
  obtain ⟨d2, h0⟩ := de_invokevirtual 179 (by decide) h0
  obtain ⟨d5, h0⟩ := de_aload_n0 h0
  obtain ⟨d6, h0⟩ := de_iload_n2 h0
  obtain ⟨d7, h0⟩ := de_invokevirtual 179 (by decide) h0
  obtain ⟨d10, h0⟩ := de_aload_n0 h0
  obtain ⟨d11, h0⟩ := de_invokevirtual 117 (by decide) h0
  obtain ⟨d14, h0⟩ := de_aload_n0 h0
  obtain ⟨d15, h0⟩ := de_getfield 27 (by decide) h0
  obtain ⟨d18, h0⟩ := de_iload_n1 h0
  obtain ⟨d19, h0⟩ := de_iload_n2 h0
  obtain ⟨d20, h0⟩ := de_invokevirtual 191 (by decide) h0
  obtain ⟨d23, h0⟩ := de_aload_n0 h0
  obtain ⟨d24, h0⟩ := de_getfield 27 (by decide) h0
  obtain ⟨d27, h0⟩ := de_getfield 170 (by decide) h0
  obtain ⟨d30, h0⟩ := de_ireturn h0
  refine lv_aload_n hx hb d0 rfl (lv_at hl 0 rfl) ?_
  refine lv_iload_n hx hb d1 rfl (lv_at hl 1 rfl) ?_
  obtain ⟨hs9, hf⟩ := x_if hf
  refine x_thenV C0 hxt hS hf (fun z0 e0 => x_runV C0 hR hS me_X7_checkItem wi_X7_checkItem wl_X7_checkItem ml_X7_179 hs9 xcl_7 (As := [.int x1]) (ct_X7_checkItem E l C0.2.2.2.2.2.2.2.1 _ r0 x1) rfl rfl hl.1 (Nat.le_of_ble_eq_true rfl) d2 ⟨(Nat.le_of_ble_eq_true rfl), (Nat.le_of_ble_eq_true rfl)⟩ ⟨(Nat.le_of_ble_eq_true rfl), (Nat.le_of_ble_eq_true rfl)⟩ e0) (Nat.le_of_ble_eq_true rfl) (Nat.le_of_ble_eq_true rfl) (fun h9 H locs hR hS hf => ?_)
  refine lv_aload_n hx hb d5 rfl (lv_at hl 0 rfl) ?_
  refine lv_iload_n hx hb d6 rfl (lv_at hl 2 rfl) ?_
  obtain ⟨hs9, hf⟩ := x_if hf
  refine x_thenV C0 hxt hS hf (fun z0 e0 => x_runV C0 hR hS me_X7_checkItem wi_X7_checkItem wl_X7_checkItem ml_X7_179 hs9 xcl_7 (As := [.int x2]) (ct_X7_checkItem E l C0.2.2.2.2.2.2.2.1 _ r0 x2) rfl rfl hl.1 (Nat.le_of_ble_eq_true rfl) d7 ⟨(Nat.le_of_ble_eq_true rfl), (Nat.le_of_ble_eq_true rfl)⟩ ⟨(Nat.le_of_ble_eq_true rfl), (Nat.le_of_ble_eq_true rfl)⟩ e0) (Nat.le_of_ble_eq_true rfl) (Nat.le_of_ble_eq_true rfl) (fun h9 H locs hR hS hf => ?_)
  refine lv_aload_n hx hb d10 rfl (lv_at hl 0 rfl) ?_
  obtain ⟨hs9, hf⟩ := x_if hf
  refine x_thenV C0 hxt hS hf (fun z0 e0 => x_runV C0 hR hS me_X7_rememberChange wi_X7_rememberChange wl_X7_rememberChange ml_X7_117 hs9 xcl_7 (As := []) (ct_X7_rememberChange E l C0.2.2.2.2.2.2.2.1 _ r0) rfl rfl hl.1 (Nat.le_of_ble_eq_true rfl) d11 ⟨(Nat.le_of_ble_eq_true rfl), (Nat.le_of_ble_eq_true rfl)⟩ ⟨(Nat.le_of_ble_eq_true rfl), (Nat.le_of_ble_eq_true rfl)⟩ e0) (Nat.le_of_ble_eq_true rfl) (Nat.le_of_ble_eq_true rfl) (fun h9 H locs hR hS hf => ?_)
  refine lv_aload_n hx hb d14 rfl (lv_at hl 0 rfl) ?_
  refine x_getR C0 hR hf xcl_7 (Nat.le_of_ble_eq_true rfl) rfl fl_X7_27 d15 (fun a4 hf => ?_)
  refine lv_iload_n hx hb d18 rfl (lv_at hl 1 rfl) ?_
  refine lv_iload_n hx hb d19 rfl (lv_at hl 2 rfl) ?_
  obtain ⟨hs9, hf⟩ := x_if hf
  refine x_thenV C0 hxt hS hf (fun z0 e0 => x_runV C0 hR hS me_X4_swapItems wi_X4_swapItems wl_X4_swapItems ml_X7_191 hs9 xcl_4 (As := [.int x1, .int x2]) (ct_X4_swapItems E l C0.2.2.2.2.2.2.2.1 _ a4 x1 x2) rfl rfl hl.1 (Nat.le_of_ble_eq_true rfl) d20 ⟨(Nat.le_of_ble_eq_true rfl), (Nat.le_of_ble_eq_true rfl)⟩ ⟨(Nat.le_of_ble_eq_true rfl), (Nat.le_of_ble_eq_true rfl)⟩ e0) (Nat.le_of_ble_eq_true rfl) (Nat.le_of_ble_eq_true rfl) (fun h9 H locs hR hS hf => ?_)
  refine lv_aload_n hx hb d23 rfl (lv_at hl 0 rfl) ?_
  refine x_getR C0 hR hf xcl_7 (Nat.le_of_ble_eq_true rfl) rfl fl_X7_27 d24 (fun a6 hf => ?_)
  refine x_getI C0 hR hf xcl_4 (Nat.le_of_ble_eq_true rfl) rfl fl_X7_170 d27 (fun i7 hf => ?_)
  exact x_iret C0 hR hS hf (Nat.le_of_ble_eq_true rfl) (Nat.le_of_ble_eq_true rfl) d30
def f_X7_items (h : HP) (r0 : Nat) : Option XR :=
  x_gR h r0 7 3 fun a1 =>
  x_gI h a1 4 4 fun i2 =>
  some (h, xi i2)
set_option maxRecDepth 100000 in
set_option maxHeartbeats 4000000 in
theorem ct_X7_items (E : XE) (l : Launch) (hl0 : l.stackTraces = false) (h : HP) (r0 : Nat) : x_ct E l yX7_items (Cond.code yX7_items cX7_items 1 (some .int)) 8 130 0 0 [.ref (xa E r0)] h (f_X7_items h r0) := by
  refine x_ofW hl0 (by decide +kernel) ?_
  intro z hf p e s m args below meth c C0 hxt hargs hR
  subst hargs
  have C0 : x_C E p l s m meth c ([.ref (xa E r0)] : List Value).toArray cX7_items 1 "GridEngine" "items" (some .int) := C0
  obtain ⟨hx, hb, -⟩ := id C0
  have hS : va_S (x_A E) s.heap s.heap [] := va_S.rf
  have hl := lv_entry ([.ref (xa E r0)]) (n := 1) (Nat.le_of_ble_eq_true rfl)
  rw [lg_entry_eq]
  generalize (lg_sl ([.ref (xa E r0)]) ++ List.replicate (1 - (lg_sl ([.ref (xa E r0)])).length) Slot.unset).toArray = ls at hl ⊢
  have hl : lv_has ls 1 [(0, .ref (xa E r0))] := hl
  unfold f_X7_items at hf
  have h0 : x_by cX7_items 0 [42, 180, 0, 27, 180, 0, 170, 172] := by unfold x_by; decide +kernel
  obtain ⟨d0, h0⟩ := de_aload_n0 h0
  obtain ⟨d1, h0⟩ := de_getfield 27 (by decide) h0
  obtain ⟨d4, h0⟩ := de_getfield 170 (by decide) h0
  obtain ⟨d7, h0⟩ := de_ireturn h0
  refine lv_aload_n hx hb d0 rfl (lv_at hl 0 rfl) ?_
  refine x_getR C0 hR hf xcl_7 (Nat.le_of_ble_eq_true rfl) rfl fl_X7_27 d1 (fun a1 hf => ?_)
  refine x_getI C0 hR hf xcl_4 (Nat.le_of_ble_eq_true rfl) rfl fl_X7_170 d4 (fun i2 hf => ?_)
  exact x_iret C0 hR hS hf (Nat.le_of_ble_eq_true rfl) (Nat.le_of_ble_eq_true rfl) d7
def f_X7_tracks (h : HP) (r0 : Nat) (x1 : Int32) : Option XR :=
  x_cV (f_X7_checkAxis h x1) fun h1 =>
  x_rc h1 r0 7 <| x_cV (f_X7_arrange h1 r0) fun h2 =>
  x_gR h2 r0 7 9 fun a3 =>
  x_rc h2 a3 5 <| x_cI (f_X5_trackCount h2 a3 x1) fun h5 i4 =>
  some (h5, xi i4)
set_option maxRecDepth 100000 in
set_option maxHeartbeats 4000000 in
theorem ct_X7_tracks (E : XE) (l : Launch) (hl0 : l.stackTraces = false) (h : HP) (r0 : Nat) (x1 : Int32) : x_ct E l yX7_tracks (Cond.code yX7_tracks cX7_tracks 2 (some .int)) 15 303 1 6 [.ref (xa E r0), .int x1] h (f_X7_tracks h r0 x1) := by
  refine x_ofW hl0 (by decide +kernel) ?_
  intro z hf p e s m args below meth c C0 hxt hargs hR
  subst hargs
  have C0 : x_C E p l s m meth c ([.ref (xa E r0), .int x1] : List Value).toArray cX7_tracks 2 "GridEngine" "tracks" (some .int) := C0
  obtain ⟨hx, hb, -⟩ := id C0
  have hS : va_S (x_A E) s.heap s.heap [] := va_S.rf
  have hl := lv_entry ([.ref (xa E r0), .int x1]) (n := 2) (Nat.le_of_ble_eq_true rfl)
  rw [lg_entry_eq]
  generalize (lg_sl ([.ref (xa E r0), .int x1]) ++ List.replicate (2 - (lg_sl ([.ref (xa E r0), .int x1])).length) Slot.unset).toArray = ls at hl ⊢
  have hl : lv_has ls 2 [(0, .ref (xa E r0)), (1, .int x1)] := hl
  unfold f_X7_tracks at hf
  have h0 : x_by cX7_tracks 0 [27, 184, 0, 103, 42, 182, 0, 134, 42, 180, 0, 53, 27, 182, 0, 194, 172] := by unfold x_by; decide +kernel
  obtain ⟨d0, h0⟩ := de_iload_n1 h0
  obtain ⟨d1, h0⟩ := de_invokestatic 103 (by decide) h0
  obtain ⟨d4, h0⟩ := de_aload_n0 h0
  obtain ⟨d5, h0⟩ := de_invokevirtual 134 (by decide) h0
  obtain ⟨d8, h0⟩ := de_aload_n0 h0
  obtain ⟨d9, h0⟩ := de_getfield 53 (by decide) h0
  obtain ⟨d12, h0⟩ := de_iload_n1 h0
  obtain ⟨d13, h0⟩ := de_invokevirtual 194 (by decide) h0
  obtain ⟨d16, h0⟩ := de_ireturn h0
  refine lv_iload_n hx hb d0 rfl (lv_at hl 1 rfl) ?_
  refine x_thenV C0 hxt hS hf (fun z0 e0 => x_runS C0 hR hS me_X7_checkAxis wt_X7_checkAxis ml_X7_103 (As := [.int x1]) (ct_X7_checkAxis E l C0.2.2.2.2.2.2.2.1 _ x1) rfl rfl hl.1 (Nat.le_of_ble_eq_true rfl) d1 ⟨(Nat.le_of_ble_eq_true rfl), (Nat.le_of_ble_eq_true rfl)⟩ ⟨(Nat.le_of_ble_eq_true rfl), (Nat.le_of_ble_eq_true rfl)⟩ e0) (Nat.le_of_ble_eq_true rfl) (Nat.le_of_ble_eq_true rfl) (fun h9 H locs hR hS hf => ?_)
  refine lv_aload_n hx hb d4 rfl (lv_at hl 0 rfl) ?_
  obtain ⟨hs9, hf⟩ := x_if hf
  refine x_thenV C0 hxt hS hf (fun z0 e0 => x_runV C0 hR hS me_X7_arrange wi_X7_arrange wl_X7_arrange ml_X7_134 hs9 xcl_7 (As := []) (ct_X7_arrange E l C0.2.2.2.2.2.2.2.1 _ r0) rfl rfl hl.1 (Nat.le_of_ble_eq_true rfl) d5 ⟨(Nat.le_of_ble_eq_true rfl), (Nat.le_of_ble_eq_true rfl)⟩ ⟨(Nat.le_of_ble_eq_true rfl), (Nat.le_of_ble_eq_true rfl)⟩ e0) (Nat.le_of_ble_eq_true rfl) (Nat.le_of_ble_eq_true rfl) (fun h9 H locs hR hS hf => ?_)
  refine lv_aload_n hx hb d8 rfl (lv_at hl 0 rfl) ?_
  refine x_getR C0 hR hf xcl_7 (Nat.le_of_ble_eq_true rfl) rfl fl_X7_53 d9 (fun a3 hf => ?_)
  refine lv_iload_n hx hb d12 rfl (lv_at hl 1 rfl) ?_
  obtain ⟨hs9, hf⟩ := x_if hf
  refine x_thenI C0 hxt hS hf (fun z0 e0 => x_runV C0 hR hS me_X5_trackCount wi_X5_trackCount wl_X5_trackCount ml_X7_194 hs9 xcl_5 (As := [.int x1]) (ct_X5_trackCount E l C0.2.2.2.2.2.2.2.1 _ a3 x1) rfl rfl hl.1 (Nat.le_of_ble_eq_true rfl) d13 ⟨(Nat.le_of_ble_eq_true rfl), (Nat.le_of_ble_eq_true rfl)⟩ ⟨(Nat.le_of_ble_eq_true rfl), (Nat.le_of_ble_eq_true rfl)⟩ e0) (Nat.le_of_ble_eq_true rfl) (Nat.le_of_ble_eq_true rfl) (fun h9 i4 H locs hR hS hf => ?_)
  exact x_iret C0 hR hS hf (Nat.le_of_ble_eq_true rfl) (Nat.le_of_ble_eq_true rfl) d16
def f_X7_startOf (h : HP) (r0 : Nat) (x1 : Int32) (x2 : Int32) : Option XR :=
  x_rc h r0 7 <| x_cV (f_X7_checkItem h r0 x1) fun h1 =>
  x_cV (f_X7_checkAxis h1 x2) fun h2 =>
  x_rc h2 r0 7 <| x_cV (f_X7_arrange h2 r0) fun h3 =>
  x_gR h3 r0 7 9 fun a4 =>
  x_rc h3 a4 5 <| x_cI (f_X5_firstTrack h3 a4 x1 x2) fun h6 i5 =>
  some (h6, xi i5)
set_option maxRecDepth 100000 in
set_option maxHeartbeats 4000000 in
theorem ct_X7_startOf (E : XE) (l : Launch) (hl0 : l.stackTraces = false) (h : HP) (r0 : Nat) (x1 : Int32) (x2 : Int32) : x_ct E l yX7_startOf (Cond.code yX7_startOf cX7_startOf 3 (some .int)) 15 303 2 12 [.ref (xa E r0), .int x1, .int x2] h (f_X7_startOf h r0 x1 x2) := by
  refine x_ofW hl0 (by decide +kernel) ?_
  intro z hf p e s m args below meth c C0 hxt hargs hR
  subst hargs
  have C0 : x_C E p l s m meth c ([.ref (xa E r0), .int x1, .int x2] : List Value).toArray cX7_startOf 3 "GridEngine" "startOf" (some .int) := C0
  obtain ⟨hx, hb, -⟩ := id C0
  have hS : va_S (x_A E) s.heap s.heap [] := va_S.rf
  have hl := lv_entry ([.ref (xa E r0), .int x1, .int x2]) (n := 3) (Nat.le_of_ble_eq_true rfl)
  rw [lg_entry_eq]
  generalize (lg_sl ([.ref (xa E r0), .int x1, .int x2]) ++ List.replicate (3 - (lg_sl ([.ref (xa E r0), .int x1, .int x2])).length) Slot.unset).toArray = ls at hl ⊢
  have hl : lv_has ls 3 [(0, .ref (xa E r0)), (1, .int x1), (2, .int x2)] := hl
  unfold f_X7_startOf at hf
  have h0 : x_by cX7_startOf 0 [42, 27, 182, 0, 179, 28, 184, 0, 103, 42, 182, 0, 134, 42, 180, 0, 53, 27, 28, 182, 0, 197, 172] := by unfold x_by; decide +kernel
  obtain ⟨d0, h0⟩ := de_aload_n0 h0
  obtain ⟨d1, h0⟩ := de_iload_n1 h0
  obtain ⟨d2, h0⟩ := de_invokevirtual 179 (by decide) h0
  obtain ⟨d5, h0⟩ := de_iload_n2 h0
  obtain ⟨d6, h0⟩ := de_invokestatic 103 (by decide) h0
  obtain ⟨d9, h0⟩ := de_aload_n0 h0
  obtain ⟨d10, h0⟩ := de_invokevirtual 134 (by decide) h0
  obtain ⟨d13, h0⟩ := de_aload_n0 h0
  obtain ⟨d14, h0⟩ := de_getfield 53 (by decide) h0
  obtain ⟨d17, h0⟩ := de_iload_n1 h0
  obtain ⟨d18, h0⟩ := de_iload_n2 h0
  obtain ⟨d19, h0⟩ := de_invokevirtual 197 (by decide) h0
  obtain ⟨d22, h0⟩ := de_ireturn h0
  refine lv_aload_n hx hb d0 rfl (lv_at hl 0 rfl) ?_
  refine lv_iload_n hx hb d1 rfl (lv_at hl 1 rfl) ?_
  obtain ⟨hs9, hf⟩ := x_if hf
  refine x_thenV C0 hxt hS hf (fun z0 e0 => x_runV C0 hR hS me_X7_checkItem wi_X7_checkItem wl_X7_checkItem ml_X7_179 hs9 xcl_7 (As := [.int x1]) (ct_X7_checkItem E l C0.2.2.2.2.2.2.2.1 _ r0 x1) rfl rfl hl.1 (Nat.le_of_ble_eq_true rfl) d2 ⟨(Nat.le_of_ble_eq_true rfl), (Nat.le_of_ble_eq_true rfl)⟩ ⟨(Nat.le_of_ble_eq_true rfl), (Nat.le_of_ble_eq_true rfl)⟩ e0) (Nat.le_of_ble_eq_true rfl) (Nat.le_of_ble_eq_true rfl) (fun h9 H locs hR hS hf => ?_)
  refine lv_iload_n hx hb d5 rfl (lv_at hl 2 rfl) ?_
  refine x_thenV C0 hxt hS hf (fun z0 e0 => x_runS C0 hR hS me_X7_checkAxis wt_X7_checkAxis ml_X7_103 (As := [.int x2]) (ct_X7_checkAxis E l C0.2.2.2.2.2.2.2.1 _ x2) rfl rfl hl.1 (Nat.le_of_ble_eq_true rfl) d6 ⟨(Nat.le_of_ble_eq_true rfl), (Nat.le_of_ble_eq_true rfl)⟩ ⟨(Nat.le_of_ble_eq_true rfl), (Nat.le_of_ble_eq_true rfl)⟩ e0) (Nat.le_of_ble_eq_true rfl) (Nat.le_of_ble_eq_true rfl) (fun h9 H locs hR hS hf => ?_)
  refine lv_aload_n hx hb d9 rfl (lv_at hl 0 rfl) ?_
  obtain ⟨hs9, hf⟩ := x_if hf
  refine x_thenV C0 hxt hS hf (fun z0 e0 => x_runV C0 hR hS me_X7_arrange wi_X7_arrange wl_X7_arrange ml_X7_134 hs9 xcl_7 (As := []) (ct_X7_arrange E l C0.2.2.2.2.2.2.2.1 _ r0) rfl rfl hl.1 (Nat.le_of_ble_eq_true rfl) d10 ⟨(Nat.le_of_ble_eq_true rfl), (Nat.le_of_ble_eq_true rfl)⟩ ⟨(Nat.le_of_ble_eq_true rfl), (Nat.le_of_ble_eq_true rfl)⟩ e0) (Nat.le_of_ble_eq_true rfl) (Nat.le_of_ble_eq_true rfl) (fun h9 H locs hR hS hf => ?_)
  refine lv_aload_n hx hb d13 rfl (lv_at hl 0 rfl) ?_
  refine x_getR C0 hR hf xcl_7 (Nat.le_of_ble_eq_true rfl) rfl fl_X7_53 d14 (fun a4 hf => ?_)
  refine lv_iload_n hx hb d17 rfl (lv_at hl 1 rfl) ?_
  refine lv_iload_n hx hb d18 rfl (lv_at hl 2 rfl) ?_
  obtain ⟨hs9, hf⟩ := x_if hf
  refine x_thenI C0 hxt hS hf (fun z0 e0 => x_runV C0 hR hS me_X5_firstTrack wi_X5_firstTrack wl_X5_firstTrack ml_X7_197 hs9 xcl_5 (As := [.int x1, .int x2]) (ct_X5_firstTrack E l C0.2.2.2.2.2.2.2.1 _ a4 x1 x2) rfl rfl hl.1 (Nat.le_of_ble_eq_true rfl) d19 ⟨(Nat.le_of_ble_eq_true rfl), (Nat.le_of_ble_eq_true rfl)⟩ ⟨(Nat.le_of_ble_eq_true rfl), (Nat.le_of_ble_eq_true rfl)⟩ e0) (Nat.le_of_ble_eq_true rfl) (Nat.le_of_ble_eq_true rfl) (fun h9 i5 H locs hR hS hf => ?_)
  exact x_iret C0 hR hS hf (Nat.le_of_ble_eq_true rfl) (Nat.le_of_ble_eq_true rfl) d22
def f_X7_itemIn_b26 (k26 : HP → Nat → Int32 → Int32 → Int32 → Option XR) (h : HP) (r0 : Nat) (x1 : Int32) (x2 : Int32) (x3 : Int32) : Option XR :=
  if x3 < 0 then
    (
      some (h_dirty h, xt "java/util/NoSuchElementException")
    )
  else
    (
      x_gR h r0 7 9 fun a1 =>
      x_rc h a1 5 <| x_cI (f_X5_isCovering h a1 x3 x1 x2) fun h3 i2 =>
      if i2 = 0 then
        (
          k26 h3 r0 x1 x2 (x3 + (-1))
        )
      else
        (
          some (h3, xi x3)
        )
    )
def f_X7_itemIn_L26  : Nat → HP → Nat → Int32 → Int32 → Int32 → Option XR
  | 0 => fun _ _ _ _ _ => none
  | n + 1 => f_X7_itemIn_b26 (f_X7_itemIn_L26 n)
def f_X7_itemIn (h : HP) (r0 : Nat) (x1 : Int32) (x2 : Int32) : Option XR :=
  x_rc h r0 7 <| x_cV (f_X7_arrange h r0) fun h1 =>
  x_rc h1 r0 7 <| x_cV (f_X7_checkTrack h1 r0 0 x1) fun h2 =>
  x_rc h2 r0 7 <| x_cV (f_X7_checkTrack h2 r0 1 x2) fun h3 =>
  x_gR h3 r0 7 3 fun a4 =>
  x_gI h3 a4 4 4 fun i5 =>
  x_lI (i5 - 1) fun i6 =>
  f_X7_itemIn_L26 FU h3 r0 x1 x2 i6
set_option maxRecDepth 100000 in
set_option maxHeartbeats 4000000 in
theorem s_X7_itemIn_b26 {p : Program} {l : Launch} {e : Env} {s : State} {m : MethodId} {args : Array Value} {below : List Frame} {meth : Method} {c : Code} {E : XE} {z : XR} (C0 : x_C E p l s m meth c args cX7_itemIn 4 "GridEngine" "itemIn" (some .int)) (hxt : ∀ x ∈ c.exceptionTable.toList, False) {k26 : HP → Nat → Int32 → Int32 → Int32 → Option XR} (hk26 : ∀ (h : HP) (r0 : Nat) (x1 : Int32) (x2 : Int32) (x3 : Int32) (H : Heap) (locs : List Loc) (ls : Array Slot), x_Rep E h H → va_S (x_A E) s.heap H locs → lv_has ls 4 [(0, .ref (xa E r0)), (1, .int x1), (2, .int x2), (3, .int x3)] → k26 h r0 x1 x2 x3 = some z → W p l e ({ frames := 15, cells := 3, slots := 18, locals := 303 } : Room) s m args below meth c H locs 2 12 (x_Q E below args s 3 18 z) (F0 m 26 ls [])) : ∀ (h : HP) (r0 : Nat) (x1 : Int32) (x2 : Int32) (x3 : Int32) (H : Heap) (locs : List Loc) (ls : Array Slot), x_Rep E h H → va_S (x_A E) s.heap H locs → lv_has ls 4 [(0, .ref (xa E r0)), (1, .int x1), (2, .int x2), (3, .int x3)] → f_X7_itemIn_b26 k26 h r0 x1 x2 x3 = some z → W p l e ({ frames := 15, cells := 3, slots := 18, locals := 303 } : Room) s m args below meth c H locs 2 12 (x_Q E below args s 3 18 z) (F0 m 26 ls []) := by
  intro h r0 x1 x2 x3 H locs ls hR hS hl hf
  obtain ⟨hx, hb, -⟩ := id C0
  unfold f_X7_itemIn_b26 at hf
  have h0 : x_by cX7_itemIn 26 [29, 155, 0, 24] := by unfold x_by; decide +kernel
  obtain ⟨d26, h0⟩ := de_iload_n3 h0
  obtain ⟨d27, h0⟩ := de_if_lt (24) (by decide) h0
  refine lv_iload_n hx hb d26 rfl (lv_at hl 3 rfl) ?_
  refine lv_if_lt (tgt := 51) hx hb d27 (by decide) (fun q => ?_) (fun q => ?_)
  · have hf := x_pos q hf
    have h0 : x_by cX7_itemIn 51 [187, 0, 204, 89, 18, 206, 183, 0, 208, 191] := by unfold x_by; decide +kernel
    obtain ⟨d51, h0⟩ := de_new 204 (by decide) h0
    obtain ⟨d54, h0⟩ := de_dup h0
    obtain ⟨d55, h0⟩ := de_ldc h0
    obtain ⟨d57, h0⟩ := de_invokespecial 208 (by decide) h0
    obtain ⟨d60, h0⟩ := de_athrow h0
    exact x_throwN C0 hxt hR hS hf cl_X7_204 cz_NoSuchElementException sr_X7_206 x_thN208 hl.1 d51 d54 d55 d57 d60 (Nat.le_of_ble_eq_true rfl) (Nat.le_of_ble_eq_true rfl) (Nat.le_of_ble_eq_true rfl) (Nat.le_of_ble_eq_true rfl) (Nat.le_of_ble_eq_true rfl) (Nat.le_of_ble_eq_true rfl)
  · have hf := x_neg q hf
    have h0 : x_by cX7_itemIn 30 [42, 180, 0, 53, 29, 27, 28, 182, 0, 200, 153, 0, 5] := by unfold x_by; decide +kernel
    obtain ⟨d30, h0⟩ := de_aload_n0 h0
    obtain ⟨d31, h0⟩ := de_getfield 53 (by decide) h0
    obtain ⟨d34, h0⟩ := de_iload_n3 h0
    obtain ⟨d35, h0⟩ := de_iload_n1 h0
    obtain ⟨d36, h0⟩ := de_iload_n2 h0
    obtain ⟨d37, h0⟩ := de_invokevirtual 200 (by decide) h0
    obtain ⟨d40, h0⟩ := de_if_eq (5) (by decide) h0
    refine lv_aload_n hx hb d30 rfl (lv_at hl 0 rfl) ?_
    refine x_getR C0 hR hf xcl_7 (Nat.le_of_ble_eq_true rfl) rfl fl_X7_53 d31 (fun a1 hf => ?_)
    refine lv_iload_n hx hb d34 rfl (lv_at hl 3 rfl) ?_
    refine lv_iload_n hx hb d35 rfl (lv_at hl 1 rfl) ?_
    refine lv_iload_n hx hb d36 rfl (lv_at hl 2 rfl) ?_
    obtain ⟨hs9, hf⟩ := x_if hf
    refine x_thenI C0 hxt hS hf (fun z0 e0 => x_runV C0 hR hS me_X5_isCovering wi_X5_isCovering wl_X5_isCovering ml_X7_200 hs9 xcl_5 (As := [.int x3, .int x1, .int x2]) (ct_X5_isCovering E l C0.2.2.2.2.2.2.2.1 _ a1 x3 x1 x2) rfl rfl hl.1 (Nat.le_of_ble_eq_true rfl) d37 ⟨(Nat.le_of_ble_eq_true rfl), (Nat.le_of_ble_eq_true rfl)⟩ ⟨(Nat.le_of_ble_eq_true rfl), (Nat.le_of_ble_eq_true rfl)⟩ e0) (Nat.le_of_ble_eq_true rfl) (Nat.le_of_ble_eq_true rfl) (fun h9 i2 H locs hR hS hf => ?_)
    refine lv_if_eq (tgt := 45) hx hb d40 (by decide) (fun q => ?_) (fun q => ?_)
    · have hf := x_pos q hf
      have h0 : x_by cX7_itemIn 45 [132, 3, 255, 167, 255, 234] := by unfold x_by; decide +kernel
      obtain ⟨d45, h0⟩ := de_iinc (-1) (by decide) h0
      obtain ⟨d48, h0⟩ := de_goto (-22) (by decide) h0
      refine lv_iinc (v := (x3 + (-1))) (lv' := [(3, .int (x3 + (-1))), (0, .ref (xa E r0)), (1, .int x1), (2, .int x2)]) hx hb d45 hl (k := 3) rfl rfl (by decide) rfl (fun ls hl => ?_)
      refine lv_goto (tgt := 26) hx hb d48 (by decide) ?_
      exact hk26 _ _ _ _ _ _ _ _ hR hS (lv_sub hl [1, 2, 3, 0] rfl) hf
    · have hf := x_neg q hf
      have h0 : x_by cX7_itemIn 43 [29, 172] := by unfold x_by; decide +kernel
      obtain ⟨d43, h0⟩ := de_iload_n3 h0
      obtain ⟨d44, h0⟩ := de_ireturn h0
      refine lv_iload_n hx hb d43 rfl (lv_at hl 3 rfl) ?_
      exact x_iret C0 hR hS hf (Nat.le_of_ble_eq_true rfl) (Nat.le_of_ble_eq_true rfl) d44
theorem s_X7_itemIn_L26 {p : Program} {l : Launch} {e : Env} {s : State} {m : MethodId} {args : Array Value} {below : List Frame} {meth : Method} {c : Code} {E : XE} {z : XR} (C0 : x_C E p l s m meth c args cX7_itemIn 4 "GridEngine" "itemIn" (some .int)) (hxt : ∀ x ∈ c.exceptionTable.toList, False)  : ∀ n : Nat, ∀ (h : HP) (r0 : Nat) (x1 : Int32) (x2 : Int32) (x3 : Int32) (H : Heap) (locs : List Loc) (ls : Array Slot), x_Rep E h H → va_S (x_A E) s.heap H locs → lv_has ls 4 [(0, .ref (xa E r0)), (1, .int x1), (2, .int x2), (3, .int x3)] → f_X7_itemIn_L26 n h r0 x1 x2 x3 = some z → W p l e ({ frames := 15, cells := 3, slots := 18, locals := 303 } : Room) s m args below meth c H locs 2 12 (x_Q E below args s 3 18 z) (F0 m 26 ls []) := by
  intro n
  induction n with
  | zero => intro h r0 x1 x2 x3 H locs ls hR hS hl hf; cases (show (none : Option XR) = some z from hf)
  | succ n ih => intro h r0 x1 x2 x3 H locs ls hR hS hl hf; exact s_X7_itemIn_b26 C0 hxt ih h r0 x1 x2 x3 H locs ls hR hS hl (show f_X7_itemIn_b26 (f_X7_itemIn_L26 n) h r0 x1 x2 x3 = some z from hf)
set_option maxRecDepth 100000 in
set_option maxHeartbeats 4000000 in
theorem ct_X7_itemIn (E : XE) (l : Launch) (hl0 : l.stackTraces = false) (h : HP) (r0 : Nat) (x1 : Int32) (x2 : Int32) : x_ct E l yX7_itemIn (Cond.code yX7_itemIn cX7_itemIn 4 (some .int)) 15 303 3 18 [.ref (xa E r0), .int x1, .int x2] h (f_X7_itemIn h r0 x1 x2) := by
  refine x_ofW hl0 (by decide +kernel) ?_
  intro z hf p e s m args below meth c C0 hxt hargs hR
  subst hargs
  have C0 : x_C E p l s m meth c ([.ref (xa E r0), .int x1, .int x2] : List Value).toArray cX7_itemIn 4 "GridEngine" "itemIn" (some .int) := C0
  obtain ⟨hx, hb, -⟩ := id C0
  have hS : va_S (x_A E) s.heap s.heap [] := va_S.rf
  have hl := lv_entry ([.ref (xa E r0), .int x1, .int x2]) (n := 4) (Nat.le_of_ble_eq_true rfl)
  rw [lg_entry_eq]
  generalize (lg_sl ([.ref (xa E r0), .int x1, .int x2]) ++ List.replicate (4 - (lg_sl ([.ref (xa E r0), .int x1, .int x2])).length) Slot.unset).toArray = ls at hl ⊢
  have hl : lv_has ls 4 [(0, .ref (xa E r0)), (1, .int x1), (2, .int x2)] := hl
  unfold f_X7_itemIn at hf
  have h0 : x_by cX7_itemIn 0 [42, 182, 0, 134, 42, 3, 27, 182, 0, 137, 42, 4, 28, 182, 0, 137, 42, 180, 0, 27, 180, 0, 170, 4, 100, 62] := by unfold x_by; decide +kernel
  obtain ⟨d0, h0⟩ := de_aload_n0 h0
  obtain ⟨d1, h0⟩ := de_invokevirtual 134 (by decide) h0
  obtain ⟨d4, h0⟩ := de_aload_n0 h0
  obtain ⟨d5, h0⟩ := de_iconst_0 h0
  obtain ⟨d6, h0⟩ := de_iload_n1 h0
  obtain ⟨d7, h0⟩ := de_invokevirtual 137 (by decide) h0
  obtain ⟨d10, h0⟩ := de_aload_n0 h0
  obtain ⟨d11, h0⟩ := de_iconst_1 h0
  obtain ⟨d12, h0⟩ := de_iload_n2 h0
  obtain ⟨d13, h0⟩ := de_invokevirtual 137 (by decide) h0
  obtain ⟨d16, h0⟩ := de_aload_n0 h0
  obtain ⟨d17, h0⟩ := de_getfield 27 (by decide) h0
  obtain ⟨d20, h0⟩ := de_getfield 170 (by decide) h0
  obtain ⟨d23, h0⟩ := de_iconst_1 h0
  obtain ⟨d24, h0⟩ := de_isub h0
  obtain ⟨d25, h0⟩ := de_istore_n3 h0
  refine lv_aload_n hx hb d0 rfl (lv_at hl 0 rfl) ?_
  obtain ⟨hs9, hf⟩ := x_if hf
  refine x_thenV C0 hxt hS hf (fun z0 e0 => x_runV C0 hR hS me_X7_arrange wi_X7_arrange wl_X7_arrange ml_X7_134 hs9 xcl_7 (As := []) (ct_X7_arrange E l C0.2.2.2.2.2.2.2.1 _ r0) rfl rfl hl.1 (Nat.le_of_ble_eq_true rfl) d1 ⟨(Nat.le_of_ble_eq_true rfl), (Nat.le_of_ble_eq_true rfl)⟩ ⟨(Nat.le_of_ble_eq_true rfl), (Nat.le_of_ble_eq_true rfl)⟩ e0) (Nat.le_of_ble_eq_true rfl) (Nat.le_of_ble_eq_true rfl) (fun h9 H locs hR hS hf => ?_)
  refine lv_aload_n hx hb d4 rfl (lv_at hl 0 rfl) ?_
  refine lv_iconst (v := 0) hx hb d5 (by decide) ?_
  refine lv_iload_n hx hb d6 rfl (lv_at hl 1 rfl) ?_
  obtain ⟨hs9, hf⟩ := x_if hf
  refine x_thenV C0 hxt hS hf (fun z0 e0 => x_runV C0 hR hS me_X7_checkTrack wi_X7_checkTrack wl_X7_checkTrack ml_X7_137 hs9 xcl_7 (As := [.int 0, .int x1]) (ct_X7_checkTrack E l C0.2.2.2.2.2.2.2.1 _ r0 0 x1) rfl rfl hl.1 (Nat.le_of_ble_eq_true rfl) d7 ⟨(Nat.le_of_ble_eq_true rfl), (Nat.le_of_ble_eq_true rfl)⟩ ⟨(Nat.le_of_ble_eq_true rfl), (Nat.le_of_ble_eq_true rfl)⟩ e0) (Nat.le_of_ble_eq_true rfl) (Nat.le_of_ble_eq_true rfl) (fun h9 H locs hR hS hf => ?_)
  refine lv_aload_n hx hb d10 rfl (lv_at hl 0 rfl) ?_
  refine lv_iconst (v := 1) hx hb d11 (by decide) ?_
  refine lv_iload_n hx hb d12 rfl (lv_at hl 2 rfl) ?_
  obtain ⟨hs9, hf⟩ := x_if hf
  refine x_thenV C0 hxt hS hf (fun z0 e0 => x_runV C0 hR hS me_X7_checkTrack wi_X7_checkTrack wl_X7_checkTrack ml_X7_137 hs9 xcl_7 (As := [.int 1, .int x2]) (ct_X7_checkTrack E l C0.2.2.2.2.2.2.2.1 _ r0 1 x2) rfl rfl hl.1 (Nat.le_of_ble_eq_true rfl) d13 ⟨(Nat.le_of_ble_eq_true rfl), (Nat.le_of_ble_eq_true rfl)⟩ ⟨(Nat.le_of_ble_eq_true rfl), (Nat.le_of_ble_eq_true rfl)⟩ e0) (Nat.le_of_ble_eq_true rfl) (Nat.le_of_ble_eq_true rfl) (fun h9 H locs hR hS hf => ?_)
  refine lv_aload_n hx hb d16 rfl (lv_at hl 0 rfl) ?_
  refine x_getR C0 hR hf xcl_7 (Nat.le_of_ble_eq_true rfl) rfl fl_X7_27 d17 (fun a4 hf => ?_)
  refine x_getI C0 hR hf xcl_4 (Nat.le_of_ble_eq_true rfl) rfl fl_X7_170 d20 (fun i5 hf => ?_)
  refine lv_iconst (v := 1) hx hb d23 (by decide) ?_
  refine lv_isub hx hb d24 ?_
  refine lv_topi (fun i6 ei6 => ?_)
  have hf := x_lI_el ei6 hf
  refine lv_istore_n (lv' := [(3, .int i6), (0, .ref (xa E r0)), (1, .int x1), (2, .int x2)]) hx hb d25 rfl hl (by decide) rfl (fun ls hl => ?_)
  exact s_X7_itemIn_L26 C0 hxt FU _ _ _ _ _ _ _ _ hR hS (lv_sub hl [1, 2, 3, 0] rfl) hf
def f_X7_cells_b46  (h : HP) (t0 : Int32) (t1 : Nat) : Option XR :=
  x_rc h t1 5 <| x_cI (f_X5_countCells h t1 t0) fun h2 i1 =>
  some (h2, xi i1)
def f_X7_cells (h : HP) (r0 : Nat) (x1 : Int32) : Option XR :=
  x_cV (f_X7_checkRange h x1 0 2) fun h1 =>
  x_rc h1 r0 7 <| x_cV (f_X7_arrange h1 r0) fun h2 =>
  if x1 = 0 then
    (
      x_gR h2 r0 7 9 fun a4 =>
      x_rc h2 a4 5 <| x_cI (f_X5_trackCount h2 a4 0) fun h6 i5 =>
      x_gR h6 r0 7 9 fun a7 =>
      x_rc h6 a7 5 <| x_cI (f_X5_trackCount h6 a7 1) fun h9 i8 =>
      some (h9, xi (i5 * i8))
    )
  else
    (
      x_gR h2 r0 7 9 fun a3 =>
      if x1 = 2 then
        (
          f_X7_cells_b46 h2 1 a3
        )
      else
        (
          f_X7_cells_b46 h2 0 a3
        )
    )
set_option maxRecDepth 100000 in
set_option maxHeartbeats 4000000 in
theorem s_X7_cells_b46 {p : Program} {l : Launch} {e : Env} {s : State} {m : MethodId} {args : Array Value} {below : List Frame} {meth : Method} {c : Code} {E : XE} {z : XR} (C0 : x_C E p l s m meth c args cX7_cells 2 "GridEngine" "cells" (some .int)) (hxt : ∀ x ∈ c.exceptionTable.toList, False)  : ∀ (h : HP) (t0 : Int32) (t1 : Nat) (H : Heap) (locs : List Loc) (ls : Array Slot), x_Rep E h H → va_S (x_A E) s.heap H locs → lv_has ls 2 [] → f_X7_cells_b46 h t0 t1 = some z → W p l e ({ frames := 15, cells := 1, slots := 6, locals := 303 } : Room) s m args below meth c H locs 1 6 (x_Q E below args s 1 6 z) (F0 m 46 ls [.int t0, .ref (xa E t1)]) := by
  intro h t0 t1 H locs ls hR hS hl hf
  obtain ⟨hx, hb, -⟩ := id C0
  unfold f_X7_cells_b46 at hf
  have h0 : x_by cX7_cells 46 [182, 0, 209, 172] := by unfold x_by; decide +kernel
  obtain ⟨d46, h0⟩ := de_invokevirtual 209 (by decide) h0
  obtain ⟨d49, h0⟩ := de_ireturn h0
  obtain ⟨hs9, hf⟩ := x_if hf
  refine x_thenI C0 hxt hS hf (fun z0 e0 => x_runV C0 hR hS me_X5_countCells wi_X5_countCells wl_X5_countCells ml_X7_209 hs9 xcl_5 (As := [.int t0]) (ct_X5_countCells E l C0.2.2.2.2.2.2.2.1 _ t1 t0) rfl rfl hl.1 (Nat.le_of_ble_eq_true rfl) d46 ⟨(Nat.le_of_ble_eq_true rfl), (Nat.le_of_ble_eq_true rfl)⟩ ⟨(Nat.le_of_ble_eq_true rfl), (Nat.le_of_ble_eq_true rfl)⟩ e0) (Nat.le_of_ble_eq_true rfl) (Nat.le_of_ble_eq_true rfl) (fun h9 i1 H locs hR hS hf => ?_)
  exact x_iret C0 hR hS hf (Nat.le_of_ble_eq_true rfl) (Nat.le_of_ble_eq_true rfl) d49
set_option maxRecDepth 100000 in
set_option maxHeartbeats 4000000 in
theorem ct_X7_cells (E : XE) (l : Launch) (hl0 : l.stackTraces = false) (h : HP) (r0 : Nat) (x1 : Int32) : x_ct E l yX7_cells (Cond.code yX7_cells cX7_cells 2 (some .int)) 15 303 1 6 [.ref (xa E r0), .int x1] h (f_X7_cells h r0 x1) := by
  refine x_ofW hl0 (by decide +kernel) ?_
  intro z hf p e s m args below meth c C0 hxt hargs hR
  subst hargs
  have C0 : x_C E p l s m meth c ([.ref (xa E r0), .int x1] : List Value).toArray cX7_cells 2 "GridEngine" "cells" (some .int) := C0
  obtain ⟨hx, hb, -⟩ := id C0
  have hS : va_S (x_A E) s.heap s.heap [] := va_S.rf
  have hl := lv_entry ([.ref (xa E r0), .int x1]) (n := 2) (Nat.le_of_ble_eq_true rfl)
  rw [lg_entry_eq]
  generalize (lg_sl ([.ref (xa E r0), .int x1]) ++ List.replicate (2 - (lg_sl ([.ref (xa E r0), .int x1])).length) Slot.unset).toArray = ls at hl ⊢
  have hl : lv_has ls 2 [(0, .ref (xa E r0)), (1, .int x1)] := hl
  unfold f_X7_cells at hf
  have h0 : x_by cX7_cells 0 [27, 3, 5, 184, 0, 130, 42, 182, 0, 134, 27, 154, 0, 21] := by unfold x_by; decide +kernel
  obtain ⟨d0, h0⟩ := de_iload_n1 h0
  obtain ⟨d1, h0⟩ := de_iconst_0 h0
  obtain ⟨d2, h0⟩ := de_iconst_2 h0
  obtain ⟨d3, h0⟩ := de_invokestatic 130 (by decide) h0
  obtain ⟨d6, h0⟩ := de_aload_n0 h0
  obtain ⟨d7, h0⟩ := de_invokevirtual 134 (by decide) h0
  obtain ⟨d10, h0⟩ := de_iload_n1 h0
  obtain ⟨d11, h0⟩ := de_if_ne (21) (by decide) h0
  refine lv_iload_n hx hb d0 rfl (lv_at hl 1 rfl) ?_
  refine lv_iconst (v := 0) hx hb d1 (by decide) ?_
  refine lv_iconst (v := 2) hx hb d2 (by decide) ?_
  refine x_thenV C0 hxt hS hf (fun z0 e0 => x_runS C0 hR hS me_X7_checkRange wt_X7_checkRange ml_X7_130 (As := [.int x1, .int 0, .int 2]) (ct_X7_checkRange E l C0.2.2.2.2.2.2.2.1 _ x1 0 2) rfl rfl hl.1 (Nat.le_of_ble_eq_true rfl) d3 ⟨(Nat.le_of_ble_eq_true rfl), (Nat.le_of_ble_eq_true rfl)⟩ ⟨(Nat.le_of_ble_eq_true rfl), (Nat.le_of_ble_eq_true rfl)⟩ e0) (Nat.le_of_ble_eq_true rfl) (Nat.le_of_ble_eq_true rfl) (fun h9 H locs hR hS hf => ?_)
  refine lv_aload_n hx hb d6 rfl (lv_at hl 0 rfl) ?_
  obtain ⟨hs9, hf⟩ := x_if hf
  refine x_thenV C0 hxt hS hf (fun z0 e0 => x_runV C0 hR hS me_X7_arrange wi_X7_arrange wl_X7_arrange ml_X7_134 hs9 xcl_7 (As := []) (ct_X7_arrange E l C0.2.2.2.2.2.2.2.1 _ r0) rfl rfl hl.1 (Nat.le_of_ble_eq_true rfl) d7 ⟨(Nat.le_of_ble_eq_true rfl), (Nat.le_of_ble_eq_true rfl)⟩ ⟨(Nat.le_of_ble_eq_true rfl), (Nat.le_of_ble_eq_true rfl)⟩ e0) (Nat.le_of_ble_eq_true rfl) (Nat.le_of_ble_eq_true rfl) (fun h9 H locs hR hS hf => ?_)
  refine lv_iload_n hx hb d10 rfl (lv_at hl 1 rfl) ?_
  refine lv_if_ne (tgt := 32) hx hb d11 (by decide) (fun q => ?_) (fun q => ?_)
  · have hf := x_neg q hf
    have h0 : x_by cX7_cells 32 [42, 180, 0, 53, 27, 5, 160, 0, 7] := by unfold x_by; decide +kernel
    obtain ⟨d32, h0⟩ := de_aload_n0 h0
    obtain ⟨d33, h0⟩ := de_getfield 53 (by decide) h0
    obtain ⟨d36, h0⟩ := de_iload_n1 h0
    obtain ⟨d37, h0⟩ := de_iconst_2 h0
    obtain ⟨d38, h0⟩ := de_icmp_ne (7) (by decide) h0
    refine lv_aload_n hx hb d32 rfl (lv_at hl 0 rfl) ?_
    refine x_getR C0 hR hf xcl_7 (Nat.le_of_ble_eq_true rfl) rfl fl_X7_53 d33 (fun a3 hf => ?_)
    refine lv_iload_n hx hb d36 rfl (lv_at hl 1 rfl) ?_
    refine lv_iconst (v := 2) hx hb d37 (by decide) ?_
    refine lv_icmp_ne (tgt := 45) hx hb d38 (by decide) (fun q => ?_) (fun q => ?_)
    · have hf := x_neg q hf
      have h0 : x_by cX7_cells 45 [3] := by unfold x_by; decide +kernel
      obtain ⟨d45, h0⟩ := de_iconst_0 h0
      refine lv_iconst (v := 0) hx hb d45 (by decide) ?_
      exact s_X7_cells_b46 C0 hxt _ _ _ _ _ _ hR hS (lv_sub hl [] rfl) hf
    · have hf := x_pos q hf
      have h0 : x_by cX7_cells 41 [4, 167, 0, 4] := by unfold x_by; decide +kernel
      obtain ⟨d41, h0⟩ := de_iconst_1 h0
      obtain ⟨d42, h0⟩ := de_goto (4) (by decide) h0
      refine lv_iconst (v := 1) hx hb d41 (by decide) ?_
      refine lv_goto (tgt := 46) hx hb d42 (by decide) ?_
      exact s_X7_cells_b46 C0 hxt _ _ _ _ _ _ hR hS (lv_sub hl [] rfl) hf
  · have hf := x_pos q hf
    have h0 : x_by cX7_cells 14 [42, 180, 0, 53, 3, 182, 0, 194, 42, 180, 0, 53, 4, 182, 0, 194, 104, 172] := by unfold x_by; decide +kernel
    obtain ⟨d14, h0⟩ := de_aload_n0 h0
    obtain ⟨d15, h0⟩ := de_getfield 53 (by decide) h0
    obtain ⟨d18, h0⟩ := de_iconst_0 h0
    obtain ⟨d19, h0⟩ := de_invokevirtual 194 (by decide) h0
    obtain ⟨d22, h0⟩ := de_aload_n0 h0
    obtain ⟨d23, h0⟩ := de_getfield 53 (by decide) h0
    obtain ⟨d26, h0⟩ := de_iconst_1 h0
    obtain ⟨d27, h0⟩ := de_invokevirtual 194 (by decide) h0
    obtain ⟨d30, h0⟩ := de_imul h0
    obtain ⟨d31, h0⟩ := de_ireturn h0
    refine lv_aload_n hx hb d14 rfl (lv_at hl 0 rfl) ?_
    refine x_getR C0 hR hf xcl_7 (Nat.le_of_ble_eq_true rfl) rfl fl_X7_53 d15 (fun a4 hf => ?_)
    refine lv_iconst (v := 0) hx hb d18 (by decide) ?_
    obtain ⟨hs9, hf⟩ := x_if hf
    refine x_thenI C0 hxt hS hf (fun z0 e0 => x_runV C0 hR hS me_X5_trackCount wi_X5_trackCount wl_X5_trackCount ml_X7_194 hs9 xcl_5 (As := [.int 0]) (ct_X5_trackCount E l C0.2.2.2.2.2.2.2.1 _ a4 0) rfl rfl hl.1 (Nat.le_of_ble_eq_true rfl) d19 ⟨(Nat.le_of_ble_eq_true rfl), (Nat.le_of_ble_eq_true rfl)⟩ ⟨(Nat.le_of_ble_eq_true rfl), (Nat.le_of_ble_eq_true rfl)⟩ e0) (Nat.le_of_ble_eq_true rfl) (Nat.le_of_ble_eq_true rfl) (fun h9 i5 H locs hR hS hf => ?_)
    refine lv_aload_n hx hb d22 rfl (lv_at hl 0 rfl) ?_
    refine x_getR C0 hR hf xcl_7 (Nat.le_of_ble_eq_true rfl) rfl fl_X7_53 d23 (fun a7 hf => ?_)
    refine lv_iconst (v := 1) hx hb d26 (by decide) ?_
    obtain ⟨hs9, hf⟩ := x_if hf
    refine x_thenI C0 hxt hS hf (fun z0 e0 => x_runV C0 hR hS me_X5_trackCount wi_X5_trackCount wl_X5_trackCount ml_X7_194 hs9 xcl_5 (As := [.int 1]) (ct_X5_trackCount E l C0.2.2.2.2.2.2.2.1 _ a7 1) rfl rfl hl.1 (Nat.le_of_ble_eq_true rfl) d27 ⟨(Nat.le_of_ble_eq_true rfl), (Nat.le_of_ble_eq_true rfl)⟩ ⟨(Nat.le_of_ble_eq_true rfl), (Nat.le_of_ble_eq_true rfl)⟩ e0) (Nat.le_of_ble_eq_true rfl) (Nat.le_of_ble_eq_true rfl) (fun h9 i8 H locs hR hS hf => ?_)
    refine lv_imul hx hb d30 ?_
    exact x_iret C0 hR hS hf (Nat.le_of_ble_eq_true rfl) (Nat.le_of_ble_eq_true rfl) d31
def f_X7_size (h : HP) (r0 : Nat) (x1 : Int32) (x2 : Int32) (x3 : Int32) : Option XR :=
  x_cV (f_X7_checkAxis h x1) fun h1 =>
  x_cV (f_X7_checkRange h1 x3 1 5) fun h2 =>
  x_rc h2 r0 7 <| x_cV (f_X7_arrange h2 r0) fun h3 =>
  x_rc h3 r0 7 <| x_cV (f_X7_checkTrack h3 r0 x1 x2) fun h4 =>
  x_rc h4 r0 7 <| x_cQ (f_X7_layoutOf h4 r0 x1) fun h6 a5 =>
  x_rc h6 a5 0 <| x_cI (f_X0_trackSize h6 a5 x2 x3) fun h8 i7 =>
  some (h8, xi i7)
set_option maxRecDepth 100000 in
set_option maxHeartbeats 4000000 in
theorem ct_X7_size (E : XE) (l : Launch) (hl0 : l.stackTraces = false) (h : HP) (r0 : Nat) (x1 : Int32) (x2 : Int32) (x3 : Int32) : x_ct E l yX7_size (Cond.code yX7_size cX7_size 4 (some .int)) 15 303 3 18 [.ref (xa E r0), .int x1, .int x2, .int x3] h (f_X7_size h r0 x1 x2 x3) := by
  refine x_ofW hl0 (by decide +kernel) ?_
  intro z hf p e s m args below meth c C0 hxt hargs hR
  subst hargs
  have C0 : x_C E p l s m meth c ([.ref (xa E r0), .int x1, .int x2, .int x3] : List Value).toArray cX7_size 4 "GridEngine" "size" (some .int) := C0
  obtain ⟨hx, hb, -⟩ := id C0
  have hS : va_S (x_A E) s.heap s.heap [] := va_S.rf
  have hl := lv_entry ([.ref (xa E r0), .int x1, .int x2, .int x3]) (n := 4) (Nat.le_of_ble_eq_true rfl)
  rw [lg_entry_eq]
  generalize (lg_sl ([.ref (xa E r0), .int x1, .int x2, .int x3]) ++ List.replicate (4 - (lg_sl ([.ref (xa E r0), .int x1, .int x2, .int x3])).length) Slot.unset).toArray = ls at hl ⊢
  have hl : lv_has ls 4 [(0, .ref (xa E r0)), (1, .int x1), (2, .int x2), (3, .int x3)] := hl
  unfold f_X7_size at hf
  have h0 : x_by cX7_size 0 [27, 184, 0, 103, 29, 4, 8, 184, 0, 130, 42, 182, 0, 134, 42, 27, 28, 182, 0, 137, 42, 27, 182, 0, 213, 28, 29, 182, 0, 217, 172] := by unfold x_by; decide +kernel
  obtain ⟨d0, h0⟩ := de_iload_n1 h0
  obtain ⟨d1, h0⟩ := de_invokestatic 103 (by decide) h0
  obtain ⟨d4, h0⟩ := de_iload_n3 h0
  obtain ⟨d5, h0⟩ := de_iconst_1 h0
  obtain ⟨d6, h0⟩ := de_iconst_5 h0
  obtain ⟨d7, h0⟩ := de_invokestatic 130 (by decide) h0
  obtain ⟨d10, h0⟩ := de_aload_n0 h0
  obtain ⟨d11, h0⟩ := de_invokevirtual 134 (by decide) h0
  obtain ⟨d14, h0⟩ := de_aload_n0 h0
  obtain ⟨d15, h0⟩ := de_iload_n1 h0
  obtain ⟨d16, h0⟩ := de_iload_n2 h0
  obtain ⟨d17, h0⟩ := de_invokevirtual 137 (by decide) h0
  obtain ⟨d20, h0⟩ := de_aload_n0 h0
  obtain ⟨d21, h0⟩ := de_iload_n1 h0
  obtain ⟨d22, h0⟩ := de_invokevirtual 213 (by decide) h0
  obtain ⟨d25, h0⟩ := de_iload_n2 h0
  obtain ⟨d26, h0⟩ := de_iload_n3 h0
  obtain ⟨d27, h0⟩ := de_invokevirtual 217 (by decide) h0
  obtain ⟨d30, h0⟩ := de_ireturn h0
  refine lv_iload_n hx hb d0 rfl (lv_at hl 1 rfl) ?_
  refine x_thenV C0 hxt hS hf (fun z0 e0 => x_runS C0 hR hS me_X7_checkAxis wt_X7_checkAxis ml_X7_103 (As := [.int x1]) (ct_X7_checkAxis E l C0.2.2.2.2.2.2.2.1 _ x1) rfl rfl hl.1 (Nat.le_of_ble_eq_true rfl) d1 ⟨(Nat.le_of_ble_eq_true rfl), (Nat.le_of_ble_eq_true rfl)⟩ ⟨(Nat.le_of_ble_eq_true rfl), (Nat.le_of_ble_eq_true rfl)⟩ e0) (Nat.le_of_ble_eq_true rfl) (Nat.le_of_ble_eq_true rfl) (fun h9 H locs hR hS hf => ?_)
  refine lv_iload_n hx hb d4 rfl (lv_at hl 3 rfl) ?_
  refine lv_iconst (v := 1) hx hb d5 (by decide) ?_
  refine lv_iconst (v := 5) hx hb d6 (by decide) ?_
  refine x_thenV C0 hxt hS hf (fun z0 e0 => x_runS C0 hR hS me_X7_checkRange wt_X7_checkRange ml_X7_130 (As := [.int x3, .int 1, .int 5]) (ct_X7_checkRange E l C0.2.2.2.2.2.2.2.1 _ x3 1 5) rfl rfl hl.1 (Nat.le_of_ble_eq_true rfl) d7 ⟨(Nat.le_of_ble_eq_true rfl), (Nat.le_of_ble_eq_true rfl)⟩ ⟨(Nat.le_of_ble_eq_true rfl), (Nat.le_of_ble_eq_true rfl)⟩ e0) (Nat.le_of_ble_eq_true rfl) (Nat.le_of_ble_eq_true rfl) (fun h9 H locs hR hS hf => ?_)
  refine lv_aload_n hx hb d10 rfl (lv_at hl 0 rfl) ?_
  obtain ⟨hs9, hf⟩ := x_if hf
  refine x_thenV C0 hxt hS hf (fun z0 e0 => x_runV C0 hR hS me_X7_arrange wi_X7_arrange wl_X7_arrange ml_X7_134 hs9 xcl_7 (As := []) (ct_X7_arrange E l C0.2.2.2.2.2.2.2.1 _ r0) rfl rfl hl.1 (Nat.le_of_ble_eq_true rfl) d11 ⟨(Nat.le_of_ble_eq_true rfl), (Nat.le_of_ble_eq_true rfl)⟩ ⟨(Nat.le_of_ble_eq_true rfl), (Nat.le_of_ble_eq_true rfl)⟩ e0) (Nat.le_of_ble_eq_true rfl) (Nat.le_of_ble_eq_true rfl) (fun h9 H locs hR hS hf => ?_)
  refine lv_aload_n hx hb d14 rfl (lv_at hl 0 rfl) ?_
  refine lv_iload_n hx hb d15 rfl (lv_at hl 1 rfl) ?_
  refine lv_iload_n hx hb d16 rfl (lv_at hl 2 rfl) ?_
  obtain ⟨hs9, hf⟩ := x_if hf
  refine x_thenV C0 hxt hS hf (fun z0 e0 => x_runV C0 hR hS me_X7_checkTrack wi_X7_checkTrack wl_X7_checkTrack ml_X7_137 hs9 xcl_7 (As := [.int x1, .int x2]) (ct_X7_checkTrack E l C0.2.2.2.2.2.2.2.1 _ r0 x1 x2) rfl rfl hl.1 (Nat.le_of_ble_eq_true rfl) d17 ⟨(Nat.le_of_ble_eq_true rfl), (Nat.le_of_ble_eq_true rfl)⟩ ⟨(Nat.le_of_ble_eq_true rfl), (Nat.le_of_ble_eq_true rfl)⟩ e0) (Nat.le_of_ble_eq_true rfl) (Nat.le_of_ble_eq_true rfl) (fun h9 H locs hR hS hf => ?_)
  refine lv_aload_n hx hb d20 rfl (lv_at hl 0 rfl) ?_
  refine lv_iload_n hx hb d21 rfl (lv_at hl 1 rfl) ?_
  obtain ⟨hs9, hf⟩ := x_if hf
  refine x_thenQ C0 hxt hS hf (fun z0 e0 => x_runV C0 hR hS me_X7_layoutOf wi_X7_layoutOf wl_X7_layoutOf ml_X7_213 hs9 xcl_7 (As := [.int x1]) (ct_X7_layoutOf E l C0.2.2.2.2.2.2.2.1 _ r0 x1) rfl rfl hl.1 (Nat.le_of_ble_eq_true rfl) d22 ⟨(Nat.le_of_ble_eq_true rfl), (Nat.le_of_ble_eq_true rfl)⟩ ⟨(Nat.le_of_ble_eq_true rfl), (Nat.le_of_ble_eq_true rfl)⟩ e0) (Nat.le_of_ble_eq_true rfl) (Nat.le_of_ble_eq_true rfl) (fun h9 a5 H locs hR hS hf => ?_)
  refine lv_iload_n hx hb d25 rfl (lv_at hl 2 rfl) ?_
  refine lv_iload_n hx hb d26 rfl (lv_at hl 3 rfl) ?_
  obtain ⟨hs9, hf⟩ := x_if hf
  refine x_thenI C0 hxt hS hf (fun z0 e0 => x_runV C0 hR hS me_X0_trackSize wi_X0_trackSize wl_X0_trackSize ml_X7_217 hs9 xcl_0 (As := [.int x2, .int x3]) (ct_X0_trackSize E l C0.2.2.2.2.2.2.2.1 _ a5 x2 x3) rfl rfl hl.1 (Nat.le_of_ble_eq_true rfl) d27 ⟨(Nat.le_of_ble_eq_true rfl), (Nat.le_of_ble_eq_true rfl)⟩ ⟨(Nat.le_of_ble_eq_true rfl), (Nat.le_of_ble_eq_true rfl)⟩ e0) (Nat.le_of_ble_eq_true rfl) (Nat.le_of_ble_eq_true rfl) (fun h9 i7 H locs hR hS hf => ?_)
  exact x_iret C0 hR hS hf (Nat.le_of_ble_eq_true rfl) (Nat.le_of_ble_eq_true rfl) d30
def f_X7_isCollapsed_b31  (h : HP) (t0 : Int32) : Option XR :=
  x_rZ h t0
def f_X7_isCollapsed (h : HP) (r0 : Nat) (x1 : Int32) (x2 : Int32) : Option XR :=
  x_cV (f_X7_checkAxis h x1) fun h1 =>
  x_rc h1 r0 7 <| x_cV (f_X7_arrange h1 r0) fun h2 =>
  x_rc h2 r0 7 <| x_cV (f_X7_checkTrack h2 r0 x1 x2) fun h3 =>
  x_rc h3 r0 7 <| x_cQ (f_X7_layoutOf h3 r0 x1) fun h5 a4 =>
  x_rc h5 a4 0 <| x_cI (f_X0_isOpen h5 a4 x2) fun h7 i6 =>
  if i6 = 0 then
    (
      f_X7_isCollapsed_b31 h7 1
    )
  else
    (
      f_X7_isCollapsed_b31 h7 0
    )
set_option maxRecDepth 100000 in
set_option maxHeartbeats 4000000 in
theorem s_X7_isCollapsed_b31 {p : Program} {l : Launch} {e : Env} {s : State} {m : MethodId} {args : Array Value} {below : List Frame} {meth : Method} {c : Code} {E : XE} {z : XR} (C0 : x_C E p l s m meth c args cX7_isCollapsed 3 "GridEngine" "isCollapsed" (some .boolean)) (hxt : ∀ x ∈ c.exceptionTable.toList, False)  : ∀ (h : HP) (t0 : Int32) (H : Heap) (locs : List Loc) (ls : Array Slot), x_Rep E h H → va_S (x_A E) s.heap H locs → lv_has ls 3 [] → f_X7_isCollapsed_b31 h t0 = some z → W p l e ({ frames := 15, cells := 2, slots := 12, locals := 303 } : Room) s m args below meth c H locs 2 12 (x_Q E below args s 2 12 z) (F0 m 31 ls [.int t0]) := by
  intro h t0 H locs ls hR hS hl hf
  obtain ⟨hx, hb, -⟩ := id C0
  unfold f_X7_isCollapsed_b31 at hf
  have h0 : x_by cX7_isCollapsed 31 [172] := by unfold x_by; decide +kernel
  obtain ⟨d31, h0⟩ := de_ireturn h0
  exact x_zret C0 hR hS hf (Nat.le_of_ble_eq_true rfl) (Nat.le_of_ble_eq_true rfl) d31
set_option maxRecDepth 100000 in
set_option maxHeartbeats 4000000 in
theorem ct_X7_isCollapsed (E : XE) (l : Launch) (hl0 : l.stackTraces = false) (h : HP) (r0 : Nat) (x1 : Int32) (x2 : Int32) : x_ct E l yX7_isCollapsed (Cond.code yX7_isCollapsed cX7_isCollapsed 3 (some .boolean)) 15 303 2 12 [.ref (xa E r0), .int x1, .int x2] h (f_X7_isCollapsed h r0 x1 x2) := by
  refine x_ofW hl0 (by decide +kernel) ?_
  intro z hf p e s m args below meth c C0 hxt hargs hR
  subst hargs
  have C0 : x_C E p l s m meth c ([.ref (xa E r0), .int x1, .int x2] : List Value).toArray cX7_isCollapsed 3 "GridEngine" "isCollapsed" (some .boolean) := C0
  obtain ⟨hx, hb, -⟩ := id C0
  have hS : va_S (x_A E) s.heap s.heap [] := va_S.rf
  have hl := lv_entry ([.ref (xa E r0), .int x1, .int x2]) (n := 3) (Nat.le_of_ble_eq_true rfl)
  rw [lg_entry_eq]
  generalize (lg_sl ([.ref (xa E r0), .int x1, .int x2]) ++ List.replicate (3 - (lg_sl ([.ref (xa E r0), .int x1, .int x2])).length) Slot.unset).toArray = ls at hl ⊢
  have hl : lv_has ls 3 [(0, .ref (xa E r0)), (1, .int x1), (2, .int x2)] := hl
  unfold f_X7_isCollapsed at hf
  have h0 : x_by cX7_isCollapsed 0 [27, 184, 0, 103, 42, 182, 0, 134, 42, 27, 28, 182, 0, 137, 42, 27, 182, 0, 213, 28, 182, 0, 220, 154, 0, 7] := by unfold x_by; decide +kernel
  obtain ⟨d0, h0⟩ := de_iload_n1 h0
  obtain ⟨d1, h0⟩ := de_invokestatic 103 (by decide) h0
  obtain ⟨d4, h0⟩ := de_aload_n0 h0
  obtain ⟨d5, h0⟩ := de_invokevirtual 134 (by decide) h0
  obtain ⟨d8, h0⟩ := de_aload_n0 h0
  obtain ⟨d9, h0⟩ := de_iload_n1 h0
  obtain ⟨d10, h0⟩ := de_iload_n2 h0
  obtain ⟨d11, h0⟩ := de_invokevirtual 137 (by decide) h0
  obtain ⟨d14, h0⟩ := de_aload_n0 h0
  obtain ⟨d15, h0⟩ := de_iload_n1 h0
  obtain ⟨d16, h0⟩ := de_invokevirtual 213 (by decide) h0
  obtain ⟨d19, h0⟩ := de_iload_n2 h0
  obtain ⟨d20, h0⟩ := de_invokevirtual 220 (by decide) h0
  obtain ⟨d23, h0⟩ := de_if_ne (7) (by decide) h0
  refine lv_iload_n hx hb d0 rfl (lv_at hl 1 rfl) ?_
  refine x_thenV C0 hxt hS hf (fun z0 e0 => x_runS C0 hR hS me_X7_checkAxis wt_X7_checkAxis ml_X7_103 (As := [.int x1]) (ct_X7_checkAxis E l C0.2.2.2.2.2.2.2.1 _ x1) rfl rfl hl.1 (Nat.le_of_ble_eq_true rfl) d1 ⟨(Nat.le_of_ble_eq_true rfl), (Nat.le_of_ble_eq_true rfl)⟩ ⟨(Nat.le_of_ble_eq_true rfl), (Nat.le_of_ble_eq_true rfl)⟩ e0) (Nat.le_of_ble_eq_true rfl) (Nat.le_of_ble_eq_true rfl) (fun h9 H locs hR hS hf => ?_)
  refine lv_aload_n hx hb d4 rfl (lv_at hl 0 rfl) ?_
  obtain ⟨hs9, hf⟩ := x_if hf
  refine x_thenV C0 hxt hS hf (fun z0 e0 => x_runV C0 hR hS me_X7_arrange wi_X7_arrange wl_X7_arrange ml_X7_134 hs9 xcl_7 (As := []) (ct_X7_arrange E l C0.2.2.2.2.2.2.2.1 _ r0) rfl rfl hl.1 (Nat.le_of_ble_eq_true rfl) d5 ⟨(Nat.le_of_ble_eq_true rfl), (Nat.le_of_ble_eq_true rfl)⟩ ⟨(Nat.le_of_ble_eq_true rfl), (Nat.le_of_ble_eq_true rfl)⟩ e0) (Nat.le_of_ble_eq_true rfl) (Nat.le_of_ble_eq_true rfl) (fun h9 H locs hR hS hf => ?_)
  refine lv_aload_n hx hb d8 rfl (lv_at hl 0 rfl) ?_
  refine lv_iload_n hx hb d9 rfl (lv_at hl 1 rfl) ?_
  refine lv_iload_n hx hb d10 rfl (lv_at hl 2 rfl) ?_
  obtain ⟨hs9, hf⟩ := x_if hf
  refine x_thenV C0 hxt hS hf (fun z0 e0 => x_runV C0 hR hS me_X7_checkTrack wi_X7_checkTrack wl_X7_checkTrack ml_X7_137 hs9 xcl_7 (As := [.int x1, .int x2]) (ct_X7_checkTrack E l C0.2.2.2.2.2.2.2.1 _ r0 x1 x2) rfl rfl hl.1 (Nat.le_of_ble_eq_true rfl) d11 ⟨(Nat.le_of_ble_eq_true rfl), (Nat.le_of_ble_eq_true rfl)⟩ ⟨(Nat.le_of_ble_eq_true rfl), (Nat.le_of_ble_eq_true rfl)⟩ e0) (Nat.le_of_ble_eq_true rfl) (Nat.le_of_ble_eq_true rfl) (fun h9 H locs hR hS hf => ?_)
  refine lv_aload_n hx hb d14 rfl (lv_at hl 0 rfl) ?_
  refine lv_iload_n hx hb d15 rfl (lv_at hl 1 rfl) ?_
  obtain ⟨hs9, hf⟩ := x_if hf
  refine x_thenQ C0 hxt hS hf (fun z0 e0 => x_runV C0 hR hS me_X7_layoutOf wi_X7_layoutOf wl_X7_layoutOf ml_X7_213 hs9 xcl_7 (As := [.int x1]) (ct_X7_layoutOf E l C0.2.2.2.2.2.2.2.1 _ r0 x1) rfl rfl hl.1 (Nat.le_of_ble_eq_true rfl) d16 ⟨(Nat.le_of_ble_eq_true rfl), (Nat.le_of_ble_eq_true rfl)⟩ ⟨(Nat.le_of_ble_eq_true rfl), (Nat.le_of_ble_eq_true rfl)⟩ e0) (Nat.le_of_ble_eq_true rfl) (Nat.le_of_ble_eq_true rfl) (fun h9 a4 H locs hR hS hf => ?_)
  refine lv_iload_n hx hb d19 rfl (lv_at hl 2 rfl) ?_
  obtain ⟨hs9, hf⟩ := x_if hf
  refine x_thenI C0 hxt hS hf (fun z0 e0 => x_runV C0 hR hS me_X0_isOpen wi_X0_isOpen wl_X0_isOpen ml_X7_220 hs9 xcl_0 (As := [.int x2]) (ct_X0_isOpen E l C0.2.2.2.2.2.2.2.1 _ a4 x2) rfl rfl hl.1 (Nat.le_of_ble_eq_true rfl) d20 ⟨(Nat.le_of_ble_eq_true rfl), (Nat.le_of_ble_eq_true rfl)⟩ ⟨(Nat.le_of_ble_eq_true rfl), (Nat.le_of_ble_eq_true rfl)⟩ e0) (Nat.le_of_ble_eq_true rfl) (Nat.le_of_ble_eq_true rfl) (fun h9 i6 H locs hR hS hf => ?_)
  refine lv_if_ne (tgt := 30) hx hb d23 (by decide) (fun q => ?_) (fun q => ?_)
  · have hf := x_neg q hf
    have h0 : x_by cX7_isCollapsed 30 [3] := by unfold x_by; decide +kernel
    obtain ⟨d30, h0⟩ := de_iconst_0 h0
    refine lv_iconst (v := 0) hx hb d30 (by decide) ?_
    exact s_X7_isCollapsed_b31 C0 hxt _ _ _ _ _ hR hS (lv_sub hl [] rfl) hf
  · have hf := x_pos q hf
    have h0 : x_by cX7_isCollapsed 26 [4, 167, 0, 4] := by unfold x_by; decide +kernel
    obtain ⟨d26, h0⟩ := de_iconst_1 h0
    obtain ⟨d27, h0⟩ := de_goto (4) (by decide) h0
    refine lv_iconst (v := 1) hx hb d26 (by decide) ?_
    refine lv_goto (tgt := 31) hx hb d27 (by decide) ?_
    exact s_X7_isCollapsed_b31 C0 hxt _ _ _ _ _ hR hS (lv_sub hl [] rfl) hf
def f_X7_position (h : HP) (r0 : Nat) (x1 : Int32) (x2 : Int32) : Option XR :=
  x_cV (f_X7_checkAxis h x1) fun h1 =>
  x_rc h1 r0 7 <| x_cV (f_X7_arrange h1 r0) fun h2 =>
  x_rc h2 r0 7 <| x_cV (f_X7_checkTrack h2 r0 x1 x2) fun h3 =>
  x_rc h3 r0 7 <| x_cQ (f_X7_layoutOf h3 r0 x1) fun h5 a4 =>
  x_rc h5 a4 0 <| x_cI (f_X0_trackBegin h5 a4 x2) fun h7 i6 =>
  some (h7, xi i6)
set_option maxRecDepth 100000 in
set_option maxHeartbeats 4000000 in
theorem ct_X7_position (E : XE) (l : Launch) (hl0 : l.stackTraces = false) (h : HP) (r0 : Nat) (x1 : Int32) (x2 : Int32) : x_ct E l yX7_position (Cond.code yX7_position cX7_position 3 (some .int)) 15 303 2 12 [.ref (xa E r0), .int x1, .int x2] h (f_X7_position h r0 x1 x2) := by
  refine x_ofW hl0 (by decide +kernel) ?_
  intro z hf p e s m args below meth c C0 hxt hargs hR
  subst hargs
  have C0 : x_C E p l s m meth c ([.ref (xa E r0), .int x1, .int x2] : List Value).toArray cX7_position 3 "GridEngine" "position" (some .int) := C0
  obtain ⟨hx, hb, -⟩ := id C0
  have hS : va_S (x_A E) s.heap s.heap [] := va_S.rf
  have hl := lv_entry ([.ref (xa E r0), .int x1, .int x2]) (n := 3) (Nat.le_of_ble_eq_true rfl)
  rw [lg_entry_eq]
  generalize (lg_sl ([.ref (xa E r0), .int x1, .int x2]) ++ List.replicate (3 - (lg_sl ([.ref (xa E r0), .int x1, .int x2])).length) Slot.unset).toArray = ls at hl ⊢
  have hl : lv_has ls 3 [(0, .ref (xa E r0)), (1, .int x1), (2, .int x2)] := hl
  unfold f_X7_position at hf
  have h0 : x_by cX7_position 0 [27, 184, 0, 103, 42, 182, 0, 134, 42, 27, 28, 182, 0, 137, 42, 27, 182, 0, 213, 28, 182, 0, 224, 172] := by unfold x_by; decide +kernel
  obtain ⟨d0, h0⟩ := de_iload_n1 h0
  obtain ⟨d1, h0⟩ := de_invokestatic 103 (by decide) h0
  obtain ⟨d4, h0⟩ := de_aload_n0 h0
  obtain ⟨d5, h0⟩ := de_invokevirtual 134 (by decide) h0
  obtain ⟨d8, h0⟩ := de_aload_n0 h0
  obtain ⟨d9, h0⟩ := de_iload_n1 h0
  obtain ⟨d10, h0⟩ := de_iload_n2 h0
  obtain ⟨d11, h0⟩ := de_invokevirtual 137 (by decide) h0
  obtain ⟨d14, h0⟩ := de_aload_n0 h0
  obtain ⟨d15, h0⟩ := de_iload_n1 h0
  obtain ⟨d16, h0⟩ := de_invokevirtual 213 (by decide) h0
  obtain ⟨d19, h0⟩ := de_iload_n2 h0
  obtain ⟨d20, h0⟩ := de_invokevirtual 224 (by decide) h0
  obtain ⟨d23, h0⟩ := de_ireturn h0
  refine lv_iload_n hx hb d0 rfl (lv_at hl 1 rfl) ?_
  refine x_thenV C0 hxt hS hf (fun z0 e0 => x_runS C0 hR hS me_X7_checkAxis wt_X7_checkAxis ml_X7_103 (As := [.int x1]) (ct_X7_checkAxis E l C0.2.2.2.2.2.2.2.1 _ x1) rfl rfl hl.1 (Nat.le_of_ble_eq_true rfl) d1 ⟨(Nat.le_of_ble_eq_true rfl), (Nat.le_of_ble_eq_true rfl)⟩ ⟨(Nat.le_of_ble_eq_true rfl), (Nat.le_of_ble_eq_true rfl)⟩ e0) (Nat.le_of_ble_eq_true rfl) (Nat.le_of_ble_eq_true rfl) (fun h9 H locs hR hS hf => ?_)
  refine lv_aload_n hx hb d4 rfl (lv_at hl 0 rfl) ?_
  obtain ⟨hs9, hf⟩ := x_if hf
  refine x_thenV C0 hxt hS hf (fun z0 e0 => x_runV C0 hR hS me_X7_arrange wi_X7_arrange wl_X7_arrange ml_X7_134 hs9 xcl_7 (As := []) (ct_X7_arrange E l C0.2.2.2.2.2.2.2.1 _ r0) rfl rfl hl.1 (Nat.le_of_ble_eq_true rfl) d5 ⟨(Nat.le_of_ble_eq_true rfl), (Nat.le_of_ble_eq_true rfl)⟩ ⟨(Nat.le_of_ble_eq_true rfl), (Nat.le_of_ble_eq_true rfl)⟩ e0) (Nat.le_of_ble_eq_true rfl) (Nat.le_of_ble_eq_true rfl) (fun h9 H locs hR hS hf => ?_)
  refine lv_aload_n hx hb d8 rfl (lv_at hl 0 rfl) ?_
  refine lv_iload_n hx hb d9 rfl (lv_at hl 1 rfl) ?_
  refine lv_iload_n hx hb d10 rfl (lv_at hl 2 rfl) ?_
  obtain ⟨hs9, hf⟩ := x_if hf
  refine x_thenV C0 hxt hS hf (fun z0 e0 => x_runV C0 hR hS me_X7_checkTrack wi_X7_checkTrack wl_X7_checkTrack ml_X7_137 hs9 xcl_7 (As := [.int x1, .int x2]) (ct_X7_checkTrack E l C0.2.2.2.2.2.2.2.1 _ r0 x1 x2) rfl rfl hl.1 (Nat.le_of_ble_eq_true rfl) d11 ⟨(Nat.le_of_ble_eq_true rfl), (Nat.le_of_ble_eq_true rfl)⟩ ⟨(Nat.le_of_ble_eq_true rfl), (Nat.le_of_ble_eq_true rfl)⟩ e0) (Nat.le_of_ble_eq_true rfl) (Nat.le_of_ble_eq_true rfl) (fun h9 H locs hR hS hf => ?_)
  refine lv_aload_n hx hb d14 rfl (lv_at hl 0 rfl) ?_
  refine lv_iload_n hx hb d15 rfl (lv_at hl 1 rfl) ?_
  obtain ⟨hs9, hf⟩ := x_if hf
  refine x_thenQ C0 hxt hS hf (fun z0 e0 => x_runV C0 hR hS me_X7_layoutOf wi_X7_layoutOf wl_X7_layoutOf ml_X7_213 hs9 xcl_7 (As := [.int x1]) (ct_X7_layoutOf E l C0.2.2.2.2.2.2.2.1 _ r0 x1) rfl rfl hl.1 (Nat.le_of_ble_eq_true rfl) d16 ⟨(Nat.le_of_ble_eq_true rfl), (Nat.le_of_ble_eq_true rfl)⟩ ⟨(Nat.le_of_ble_eq_true rfl), (Nat.le_of_ble_eq_true rfl)⟩ e0) (Nat.le_of_ble_eq_true rfl) (Nat.le_of_ble_eq_true rfl) (fun h9 a4 H locs hR hS hf => ?_)
  refine lv_iload_n hx hb d19 rfl (lv_at hl 2 rfl) ?_
  obtain ⟨hs9, hf⟩ := x_if hf
  refine x_thenI C0 hxt hS hf (fun z0 e0 => x_runV C0 hR hS me_X0_trackBegin wi_X0_trackBegin wl_X0_trackBegin ml_X7_224 hs9 xcl_0 (As := [.int x2]) (ct_X0_trackBegin E l C0.2.2.2.2.2.2.2.1 _ a4 x2) rfl rfl hl.1 (Nat.le_of_ble_eq_true rfl) d20 ⟨(Nat.le_of_ble_eq_true rfl), (Nat.le_of_ble_eq_true rfl)⟩ ⟨(Nat.le_of_ble_eq_true rfl), (Nat.le_of_ble_eq_true rfl)⟩ e0) (Nat.le_of_ble_eq_true rfl) (Nat.le_of_ble_eq_true rfl) (fun h9 i6 H locs hR hS hf => ?_)
  exact x_iret C0 hR hS hf (Nat.le_of_ble_eq_true rfl) (Nat.le_of_ble_eq_true rfl) d23
def f_X7_total (h : HP) (r0 : Nat) (x1 : Int32) (x2 : Int32) : Option XR :=
  x_cV (f_X7_checkAxis h x1) fun h1 =>
  x_cV (f_X7_checkRange h1 x2 1 5) fun h2 =>
  x_rc h2 r0 7 <| x_cV (f_X7_arrange h2 r0) fun h3 =>
  x_rc h3 r0 7 <| x_cQ (f_X7_layoutOf h3 r0 x1) fun h5 a4 =>
  x_rc h5 a4 0 <| x_cI (f_X0_sumWithGutters h5 a4 x2) fun h7 i6 =>
  some (h7, xi i6)
set_option maxRecDepth 100000 in
set_option maxHeartbeats 4000000 in
theorem ct_X7_total (E : XE) (l : Launch) (hl0 : l.stackTraces = false) (h : HP) (r0 : Nat) (x1 : Int32) (x2 : Int32) : x_ct E l yX7_total (Cond.code yX7_total cX7_total 3 (some .int)) 15 303 2 12 [.ref (xa E r0), .int x1, .int x2] h (f_X7_total h r0 x1 x2) := by
  refine x_ofW hl0 (by decide +kernel) ?_
  intro z hf p e s m args below meth c C0 hxt hargs hR
  subst hargs
  have C0 : x_C E p l s m meth c ([.ref (xa E r0), .int x1, .int x2] : List Value).toArray cX7_total 3 "GridEngine" "total" (some .int) := C0
  obtain ⟨hx, hb, -⟩ := id C0
  have hS : va_S (x_A E) s.heap s.heap [] := va_S.rf
  have hl := lv_entry ([.ref (xa E r0), .int x1, .int x2]) (n := 3) (Nat.le_of_ble_eq_true rfl)
  rw [lg_entry_eq]
  generalize (lg_sl ([.ref (xa E r0), .int x1, .int x2]) ++ List.replicate (3 - (lg_sl ([.ref (xa E r0), .int x1, .int x2])).length) Slot.unset).toArray = ls at hl ⊢
  have hl : lv_has ls 3 [(0, .ref (xa E r0)), (1, .int x1), (2, .int x2)] := hl
  unfold f_X7_total at hf
  have h0 : x_by cX7_total 0 [27, 184, 0, 103, 28, 4, 8, 184, 0, 130, 42, 182, 0, 134, 42, 27, 182, 0, 213, 28, 182, 0, 227, 172] := by unfold x_by; decide +kernel
  obtain ⟨d0, h0⟩ := de_iload_n1 h0
  obtain ⟨d1, h0⟩ := de_invokestatic 103 (by decide) h0
  obtain ⟨d4, h0⟩ := de_iload_n2 h0
  obtain ⟨d5, h0⟩ := de_iconst_1 h0
  obtain ⟨d6, h0⟩ := de_iconst_5 h0
  obtain ⟨d7, h0⟩ := de_invokestatic 130 (by decide) h0
  obtain ⟨d10, h0⟩ := de_aload_n0 h0
  obtain ⟨d11, h0⟩ := de_invokevirtual 134 (by decide) h0
  obtain ⟨d14, h0⟩ := de_aload_n0 h0
  obtain ⟨d15, h0⟩ := de_iload_n1 h0
  obtain ⟨d16, h0⟩ := de_invokevirtual 213 (by decide) h0
  obtain ⟨d19, h0⟩ := de_iload_n2 h0
  obtain ⟨d20, h0⟩ := de_invokevirtual 227 (by decide) h0
  obtain ⟨d23, h0⟩ := de_ireturn h0
  refine lv_iload_n hx hb d0 rfl (lv_at hl 1 rfl) ?_
  refine x_thenV C0 hxt hS hf (fun z0 e0 => x_runS C0 hR hS me_X7_checkAxis wt_X7_checkAxis ml_X7_103 (As := [.int x1]) (ct_X7_checkAxis E l C0.2.2.2.2.2.2.2.1 _ x1) rfl rfl hl.1 (Nat.le_of_ble_eq_true rfl) d1 ⟨(Nat.le_of_ble_eq_true rfl), (Nat.le_of_ble_eq_true rfl)⟩ ⟨(Nat.le_of_ble_eq_true rfl), (Nat.le_of_ble_eq_true rfl)⟩ e0) (Nat.le_of_ble_eq_true rfl) (Nat.le_of_ble_eq_true rfl) (fun h9 H locs hR hS hf => ?_)
  refine lv_iload_n hx hb d4 rfl (lv_at hl 2 rfl) ?_
  refine lv_iconst (v := 1) hx hb d5 (by decide) ?_
  refine lv_iconst (v := 5) hx hb d6 (by decide) ?_
  refine x_thenV C0 hxt hS hf (fun z0 e0 => x_runS C0 hR hS me_X7_checkRange wt_X7_checkRange ml_X7_130 (As := [.int x2, .int 1, .int 5]) (ct_X7_checkRange E l C0.2.2.2.2.2.2.2.1 _ x2 1 5) rfl rfl hl.1 (Nat.le_of_ble_eq_true rfl) d7 ⟨(Nat.le_of_ble_eq_true rfl), (Nat.le_of_ble_eq_true rfl)⟩ ⟨(Nat.le_of_ble_eq_true rfl), (Nat.le_of_ble_eq_true rfl)⟩ e0) (Nat.le_of_ble_eq_true rfl) (Nat.le_of_ble_eq_true rfl) (fun h9 H locs hR hS hf => ?_)
  refine lv_aload_n hx hb d10 rfl (lv_at hl 0 rfl) ?_
  obtain ⟨hs9, hf⟩ := x_if hf
  refine x_thenV C0 hxt hS hf (fun z0 e0 => x_runV C0 hR hS me_X7_arrange wi_X7_arrange wl_X7_arrange ml_X7_134 hs9 xcl_7 (As := []) (ct_X7_arrange E l C0.2.2.2.2.2.2.2.1 _ r0) rfl rfl hl.1 (Nat.le_of_ble_eq_true rfl) d11 ⟨(Nat.le_of_ble_eq_true rfl), (Nat.le_of_ble_eq_true rfl)⟩ ⟨(Nat.le_of_ble_eq_true rfl), (Nat.le_of_ble_eq_true rfl)⟩ e0) (Nat.le_of_ble_eq_true rfl) (Nat.le_of_ble_eq_true rfl) (fun h9 H locs hR hS hf => ?_)
  refine lv_aload_n hx hb d14 rfl (lv_at hl 0 rfl) ?_
  refine lv_iload_n hx hb d15 rfl (lv_at hl 1 rfl) ?_
  obtain ⟨hs9, hf⟩ := x_if hf
  refine x_thenQ C0 hxt hS hf (fun z0 e0 => x_runV C0 hR hS me_X7_layoutOf wi_X7_layoutOf wl_X7_layoutOf ml_X7_213 hs9 xcl_7 (As := [.int x1]) (ct_X7_layoutOf E l C0.2.2.2.2.2.2.2.1 _ r0 x1) rfl rfl hl.1 (Nat.le_of_ble_eq_true rfl) d16 ⟨(Nat.le_of_ble_eq_true rfl), (Nat.le_of_ble_eq_true rfl)⟩ ⟨(Nat.le_of_ble_eq_true rfl), (Nat.le_of_ble_eq_true rfl)⟩ e0) (Nat.le_of_ble_eq_true rfl) (Nat.le_of_ble_eq_true rfl) (fun h9 a4 H locs hR hS hf => ?_)
  refine lv_iload_n hx hb d19 rfl (lv_at hl 2 rfl) ?_
  obtain ⟨hs9, hf⟩ := x_if hf
  refine x_thenI C0 hxt hS hf (fun z0 e0 => x_runV C0 hR hS me_X0_sumWithGutters wi_X0_sumWithGutters wl_X0_sumWithGutters ml_X7_227 hs9 xcl_0 (As := [.int x2]) (ct_X0_sumWithGutters E l C0.2.2.2.2.2.2.2.1 _ a4 x2) rfl rfl hl.1 (Nat.le_of_ble_eq_true rfl) d20 ⟨(Nat.le_of_ble_eq_true rfl), (Nat.le_of_ble_eq_true rfl)⟩ ⟨(Nat.le_of_ble_eq_true rfl), (Nat.le_of_ble_eq_true rfl)⟩ e0) (Nat.le_of_ble_eq_true rfl) (Nat.le_of_ble_eq_true rfl) (fun h9 i6 H locs hR hS hf => ?_)
  exact x_iret C0 hR hS hf (Nat.le_of_ble_eq_true rfl) (Nat.le_of_ble_eq_true rfl) d23
def f_X7_free (h : HP) (r0 : Nat) (x1 : Int32) : Option XR :=
  x_cV (f_X7_checkAxis h x1) fun h1 =>
  x_rc h1 r0 7 <| x_cV (f_X7_arrange h1 r0) fun h2 =>
  x_rc h2 r0 7 <| x_cQ (f_X7_layoutOf h2 r0 x1) fun h4 a3 =>
  x_gI h4 a3 0 15 fun i5 =>
  some (h4, xi i5)
set_option maxRecDepth 100000 in
set_option maxHeartbeats 4000000 in
theorem ct_X7_free (E : XE) (l : Launch) (hl0 : l.stackTraces = false) (h : HP) (r0 : Nat) (x1 : Int32) : x_ct E l yX7_free (Cond.code yX7_free cX7_free 2 (some .int)) 15 303 1 6 [.ref (xa E r0), .int x1] h (f_X7_free h r0 x1) := by
  refine x_ofW hl0 (by decide +kernel) ?_
  intro z hf p e s m args below meth c C0 hxt hargs hR
  subst hargs
  have C0 : x_C E p l s m meth c ([.ref (xa E r0), .int x1] : List Value).toArray cX7_free 2 "GridEngine" "free" (some .int) := C0
  obtain ⟨hx, hb, -⟩ := id C0
  have hS : va_S (x_A E) s.heap s.heap [] := va_S.rf
  have hl := lv_entry ([.ref (xa E r0), .int x1]) (n := 2) (Nat.le_of_ble_eq_true rfl)
  rw [lg_entry_eq]
  generalize (lg_sl ([.ref (xa E r0), .int x1]) ++ List.replicate (2 - (lg_sl ([.ref (xa E r0), .int x1])).length) Slot.unset).toArray = ls at hl ⊢
  have hl : lv_has ls 2 [(0, .ref (xa E r0)), (1, .int x1)] := hl
  unfold f_X7_free at hf
  have h0 : x_by cX7_free 0 [27, 184, 0, 103, 42, 182, 0, 134, 42, 27, 182, 0, 213, 180, 0, 230, 172] := by unfold x_by; decide +kernel
  obtain ⟨d0, h0⟩ := de_iload_n1 h0
  obtain ⟨d1, h0⟩ := de_invokestatic 103 (by decide) h0
  obtain ⟨d4, h0⟩ := de_aload_n0 h0
  obtain ⟨d5, h0⟩ := de_invokevirtual 134 (by decide) h0
  obtain ⟨d8, h0⟩ := de_aload_n0 h0
  obtain ⟨d9, h0⟩ := de_iload_n1 h0
  obtain ⟨d10, h0⟩ := de_invokevirtual 213 (by decide) h0
  obtain ⟨d13, h0⟩ := de_getfield 230 (by decide) h0
  obtain ⟨d16, h0⟩ := de_ireturn h0
  refine lv_iload_n hx hb d0 rfl (lv_at hl 1 rfl) ?_
  refine x_thenV C0 hxt hS hf (fun z0 e0 => x_runS C0 hR hS me_X7_checkAxis wt_X7_checkAxis ml_X7_103 (As := [.int x1]) (ct_X7_checkAxis E l C0.2.2.2.2.2.2.2.1 _ x1) rfl rfl hl.1 (Nat.le_of_ble_eq_true rfl) d1 ⟨(Nat.le_of_ble_eq_true rfl), (Nat.le_of_ble_eq_true rfl)⟩ ⟨(Nat.le_of_ble_eq_true rfl), (Nat.le_of_ble_eq_true rfl)⟩ e0) (Nat.le_of_ble_eq_true rfl) (Nat.le_of_ble_eq_true rfl) (fun h9 H locs hR hS hf => ?_)
  refine lv_aload_n hx hb d4 rfl (lv_at hl 0 rfl) ?_
  obtain ⟨hs9, hf⟩ := x_if hf
  refine x_thenV C0 hxt hS hf (fun z0 e0 => x_runV C0 hR hS me_X7_arrange wi_X7_arrange wl_X7_arrange ml_X7_134 hs9 xcl_7 (As := []) (ct_X7_arrange E l C0.2.2.2.2.2.2.2.1 _ r0) rfl rfl hl.1 (Nat.le_of_ble_eq_true rfl) d5 ⟨(Nat.le_of_ble_eq_true rfl), (Nat.le_of_ble_eq_true rfl)⟩ ⟨(Nat.le_of_ble_eq_true rfl), (Nat.le_of_ble_eq_true rfl)⟩ e0) (Nat.le_of_ble_eq_true rfl) (Nat.le_of_ble_eq_true rfl) (fun h9 H locs hR hS hf => ?_)
  refine lv_aload_n hx hb d8 rfl (lv_at hl 0 rfl) ?_
  refine lv_iload_n hx hb d9 rfl (lv_at hl 1 rfl) ?_
  obtain ⟨hs9, hf⟩ := x_if hf
  refine x_thenQ C0 hxt hS hf (fun z0 e0 => x_runV C0 hR hS me_X7_layoutOf wi_X7_layoutOf wl_X7_layoutOf ml_X7_213 hs9 xcl_7 (As := [.int x1]) (ct_X7_layoutOf E l C0.2.2.2.2.2.2.2.1 _ r0 x1) rfl rfl hl.1 (Nat.le_of_ble_eq_true rfl) d10 ⟨(Nat.le_of_ble_eq_true rfl), (Nat.le_of_ble_eq_true rfl)⟩ ⟨(Nat.le_of_ble_eq_true rfl), (Nat.le_of_ble_eq_true rfl)⟩ e0) (Nat.le_of_ble_eq_true rfl) (Nat.le_of_ble_eq_true rfl) (fun h9 a3 H locs hR hS hf => ?_)
  refine x_getI C0 hR hf xcl_0 (Nat.le_of_ble_eq_true rfl) rfl fl_X7_230 d13 (fun i5 hf => ?_)
  exact x_iret C0 hR hS hf (Nat.le_of_ble_eq_true rfl) (Nat.le_of_ble_eq_true rfl) d16
def f_X7_box (h : HP) (r0 : Nat) (x1 : Int32) (x2 : Int32) (x3 : Int32) : Option XR :=
  x_rc h r0 7 <| x_cV (f_X7_checkItem h r0 x1) fun h1 =>
  x_cV (f_X7_checkAxis h1 x2) fun h2 =>
  x_cV (f_X7_checkRange h2 x3 0 3) fun h3 =>
  x_rc h3 r0 7 <| x_cV (f_X7_arrange h3 r0) fun h4 =>
  x_rc h4 r0 7 <| x_cQ (f_X7_layoutOf h4 r0 x2) fun h6 a5 =>
  if x3 = 0 then
    (
      x_rc h6 a5 0 <| x_cI (f_X0_boxBegin h6 a5 x1) fun h8 i7 =>
      some (h8, xi i7)
    )
  else
    (
    if x3 = 1 then
      (
        x_rc h6 a5 0 <| x_cI (f_X0_boxSize h6 a5 x1) fun h10 i9 =>
        some (h10, xi i9)
      )
    else
      (
      if x3 = 2 then
        (
          x_rc h6 a5 0 <| x_cI (f_X0_areaBegin h6 a5 x1) fun h12 i11 =>
          some (h12, xi i11)
        )
      else
        (
        x_rc h6 a5 0 <| x_cI (f_X0_areaSize h6 a5 x1) fun h14 i13 =>
        some (h14, xi i13)
        )
      )
    )
set_option maxRecDepth 100000 in
set_option maxHeartbeats 4000000 in
theorem ct_X7_box (E : XE) (l : Launch) (hl0 : l.stackTraces = false) (h : HP) (r0 : Nat) (x1 : Int32) (x2 : Int32) (x3 : Int32) : x_ct E l yX7_box (Cond.code yX7_box cX7_box 5 (some .int)) 15 303 3 18 [.ref (xa E r0), .int x1, .int x2, .int x3] h (f_X7_box h r0 x1 x2 x3) := by
  refine x_ofW hl0 (by decide +kernel) ?_
  intro z hf p e s m args below meth c C0 hxt hargs hR
  subst hargs
  have C0 : x_C E p l s m meth c ([.ref (xa E r0), .int x1, .int x2, .int x3] : List Value).toArray cX7_box 5 "GridEngine" "box" (some .int) := C0
  obtain ⟨hx, hb, -⟩ := id C0
  have hS : va_S (x_A E) s.heap s.heap [] := va_S.rf
  have hl := lv_entry ([.ref (xa E r0), .int x1, .int x2, .int x3]) (n := 5) (Nat.le_of_ble_eq_true rfl)
  rw [lg_entry_eq]
  generalize (lg_sl ([.ref (xa E r0), .int x1, .int x2, .int x3]) ++ List.replicate (5 - (lg_sl ([.ref (xa E r0), .int x1, .int x2, .int x3])).length) Slot.unset).toArray = ls at hl ⊢
  have hl : lv_has ls 5 [(0, .ref (xa E r0)), (1, .int x1), (2, .int x2), (3, .int x3)] := hl
  unfold f_X7_box at hf
  have h0 : x_by cX7_box 0 [42, 27, 182, 0, 179, 28, 184, 0, 103, 29, 3, 6, 184, 0, 130, 42, 182, 0, 134, 42, 28, 182, 0, 213, 58, 4, 29] := by unfold x_by; decide +kernel
  obtain ⟨d0, h0⟩ := de_aload_n0 h0
  obtain ⟨d1, h0⟩ := de_iload_n1 h0
  obtain ⟨d2, h0⟩ := de_invokevirtual 179 (by decide) h0
  obtain ⟨d5, h0⟩ := de_iload_n2 h0
  obtain ⟨d6, h0⟩ := de_invokestatic 103 (by decide) h0
  obtain ⟨d9, h0⟩ := de_iload_n3 h0
  obtain ⟨d10, h0⟩ := de_iconst_0 h0
  obtain ⟨d11, h0⟩ := de_iconst_3 h0
  obtain ⟨d12, h0⟩ := de_invokestatic 130 (by decide) h0
  obtain ⟨d15, h0⟩ := de_aload_n0 h0
  obtain ⟨d16, h0⟩ := de_invokevirtual 134 (by decide) h0
  obtain ⟨d19, h0⟩ := de_aload_n0 h0
  obtain ⟨d20, h0⟩ := de_iload_n2 h0
  obtain ⟨d21, h0⟩ := de_invokevirtual 213 (by decide) h0
  obtain ⟨d24, h0⟩ := de_astore h0
  obtain ⟨d26, h0⟩ := de_iload_n3 h0
  have d27 : decode cX7_box 27 = .ok (.tableswitch 46 0 2 #[25, 32, 39], 25) := by decide +kernel
  refine lv_aload_n hx hb d0 rfl (lv_at hl 0 rfl) ?_
  refine lv_iload_n hx hb d1 rfl (lv_at hl 1 rfl) ?_
  obtain ⟨hs9, hf⟩ := x_if hf
  refine x_thenV C0 hxt hS hf (fun z0 e0 => x_runV C0 hR hS me_X7_checkItem wi_X7_checkItem wl_X7_checkItem ml_X7_179 hs9 xcl_7 (As := [.int x1]) (ct_X7_checkItem E l C0.2.2.2.2.2.2.2.1 _ r0 x1) rfl rfl hl.1 (Nat.le_of_ble_eq_true rfl) d2 ⟨(Nat.le_of_ble_eq_true rfl), (Nat.le_of_ble_eq_true rfl)⟩ ⟨(Nat.le_of_ble_eq_true rfl), (Nat.le_of_ble_eq_true rfl)⟩ e0) (Nat.le_of_ble_eq_true rfl) (Nat.le_of_ble_eq_true rfl) (fun h9 H locs hR hS hf => ?_)
  refine lv_iload_n hx hb d5 rfl (lv_at hl 2 rfl) ?_
  refine x_thenV C0 hxt hS hf (fun z0 e0 => x_runS C0 hR hS me_X7_checkAxis wt_X7_checkAxis ml_X7_103 (As := [.int x2]) (ct_X7_checkAxis E l C0.2.2.2.2.2.2.2.1 _ x2) rfl rfl hl.1 (Nat.le_of_ble_eq_true rfl) d6 ⟨(Nat.le_of_ble_eq_true rfl), (Nat.le_of_ble_eq_true rfl)⟩ ⟨(Nat.le_of_ble_eq_true rfl), (Nat.le_of_ble_eq_true rfl)⟩ e0) (Nat.le_of_ble_eq_true rfl) (Nat.le_of_ble_eq_true rfl) (fun h9 H locs hR hS hf => ?_)
  refine lv_iload_n hx hb d9 rfl (lv_at hl 3 rfl) ?_
  refine lv_iconst (v := 0) hx hb d10 (by decide) ?_
  refine lv_iconst (v := 3) hx hb d11 (by decide) ?_
  refine x_thenV C0 hxt hS hf (fun z0 e0 => x_runS C0 hR hS me_X7_checkRange wt_X7_checkRange ml_X7_130 (As := [.int x3, .int 0, .int 3]) (ct_X7_checkRange E l C0.2.2.2.2.2.2.2.1 _ x3 0 3) rfl rfl hl.1 (Nat.le_of_ble_eq_true rfl) d12 ⟨(Nat.le_of_ble_eq_true rfl), (Nat.le_of_ble_eq_true rfl)⟩ ⟨(Nat.le_of_ble_eq_true rfl), (Nat.le_of_ble_eq_true rfl)⟩ e0) (Nat.le_of_ble_eq_true rfl) (Nat.le_of_ble_eq_true rfl) (fun h9 H locs hR hS hf => ?_)
  refine lv_aload_n hx hb d15 rfl (lv_at hl 0 rfl) ?_
  obtain ⟨hs9, hf⟩ := x_if hf
  refine x_thenV C0 hxt hS hf (fun z0 e0 => x_runV C0 hR hS me_X7_arrange wi_X7_arrange wl_X7_arrange ml_X7_134 hs9 xcl_7 (As := []) (ct_X7_arrange E l C0.2.2.2.2.2.2.2.1 _ r0) rfl rfl hl.1 (Nat.le_of_ble_eq_true rfl) d16 ⟨(Nat.le_of_ble_eq_true rfl), (Nat.le_of_ble_eq_true rfl)⟩ ⟨(Nat.le_of_ble_eq_true rfl), (Nat.le_of_ble_eq_true rfl)⟩ e0) (Nat.le_of_ble_eq_true rfl) (Nat.le_of_ble_eq_true rfl) (fun h9 H locs hR hS hf => ?_)
  refine lv_aload_n hx hb d19 rfl (lv_at hl 0 rfl) ?_
  refine lv_iload_n hx hb d20 rfl (lv_at hl 2 rfl) ?_
  obtain ⟨hs9, hf⟩ := x_if hf
  refine x_thenQ C0 hxt hS hf (fun z0 e0 => x_runV C0 hR hS me_X7_layoutOf wi_X7_layoutOf wl_X7_layoutOf ml_X7_213 hs9 xcl_7 (As := [.int x2]) (ct_X7_layoutOf E l C0.2.2.2.2.2.2.2.1 _ r0 x2) rfl rfl hl.1 (Nat.le_of_ble_eq_true rfl) d21 ⟨(Nat.le_of_ble_eq_true rfl), (Nat.le_of_ble_eq_true rfl)⟩ ⟨(Nat.le_of_ble_eq_true rfl), (Nat.le_of_ble_eq_true rfl)⟩ e0) (Nat.le_of_ble_eq_true rfl) (Nat.le_of_ble_eq_true rfl) (fun h9 a5 H locs hR hS hf => ?_)
  refine lv_astore (lv' := [(4, .ref (xa E a5)), (0, .ref (xa E r0)), (1, .int x1), (2, .int x2), (3, .int x3)]) hx hb d24 hl (by decide) rfl (fun ls hl => ?_)
  refine lv_iload_n hx hb d26 rfl (lv_at hl 4 rfl) ?_
  by_cases q0 : x3 = 0
  · have hf := x_pos q0 hf
    refine lv_tableIn (tgt := 52) hx hb d27 (by rw [q0]; decide) (by rw [q0]; decide) (by rw [q0]; first | done | rfl) (by decide) ?_
    have h0 : x_by cX7_box 52 [25, 4, 27, 182, 0, 233, 172] := by unfold x_by; decide +kernel
    obtain ⟨d52, h0⟩ := de_aload h0
    obtain ⟨d54, h0⟩ := de_iload_n1 h0
    obtain ⟨d55, h0⟩ := de_invokevirtual 233 (by decide) h0
    obtain ⟨d58, h0⟩ := de_ireturn h0
    refine lv_aload hx hb d52 (lv_at hl 0 rfl) ?_
    refine lv_iload_n hx hb d54 rfl (lv_at hl 2 rfl) ?_
    obtain ⟨hs9, hf⟩ := x_if hf
    refine x_thenI C0 hxt hS hf (fun z0 e0 => x_runV C0 hR hS me_X0_boxBegin wi_X0_boxBegin wl_X0_boxBegin ml_X7_233 hs9 xcl_0 (As := [.int x1]) (ct_X0_boxBegin E l C0.2.2.2.2.2.2.2.1 _ a5 x1) rfl rfl hl.1 (Nat.le_of_ble_eq_true rfl) d55 ⟨(Nat.le_of_ble_eq_true rfl), (Nat.le_of_ble_eq_true rfl)⟩ ⟨(Nat.le_of_ble_eq_true rfl), (Nat.le_of_ble_eq_true rfl)⟩ e0) (Nat.le_of_ble_eq_true rfl) (Nat.le_of_ble_eq_true rfl) (fun h9 i7 H locs hR hS hf => ?_)
    exact x_iret C0 hR hS hf (Nat.le_of_ble_eq_true rfl) (Nat.le_of_ble_eq_true rfl) d58
  · have hf := x_neg q0 hf
    by_cases q1 : x3 = 1
    · have hf := x_pos q1 hf
      refine lv_tableIn (tgt := 59) hx hb d27 (by rw [q1]; decide) (by rw [q1]; decide) (by rw [q1]; first | done | rfl) (by decide) ?_
      have h0 : x_by cX7_box 59 [25, 4, 27, 182, 0, 236, 172] := by unfold x_by; decide +kernel
      obtain ⟨d59, h0⟩ := de_aload h0
      obtain ⟨d61, h0⟩ := de_iload_n1 h0
      obtain ⟨d62, h0⟩ := de_invokevirtual 236 (by decide) h0
      obtain ⟨d65, h0⟩ := de_ireturn h0
      refine lv_aload hx hb d59 (lv_at hl 0 rfl) ?_
      refine lv_iload_n hx hb d61 rfl (lv_at hl 2 rfl) ?_
      obtain ⟨hs9, hf⟩ := x_if hf
      refine x_thenI C0 hxt hS hf (fun z0 e0 => x_runV C0 hR hS me_X0_boxSize wi_X0_boxSize wl_X0_boxSize ml_X7_236 hs9 xcl_0 (As := [.int x1]) (ct_X0_boxSize E l C0.2.2.2.2.2.2.2.1 _ a5 x1) rfl rfl hl.1 (Nat.le_of_ble_eq_true rfl) d62 ⟨(Nat.le_of_ble_eq_true rfl), (Nat.le_of_ble_eq_true rfl)⟩ ⟨(Nat.le_of_ble_eq_true rfl), (Nat.le_of_ble_eq_true rfl)⟩ e0) (Nat.le_of_ble_eq_true rfl) (Nat.le_of_ble_eq_true rfl) (fun h9 i9 H locs hR hS hf => ?_)
      exact x_iret C0 hR hS hf (Nat.le_of_ble_eq_true rfl) (Nat.le_of_ble_eq_true rfl) d65
    · have hf := x_neg q1 hf
      by_cases q2 : x3 = 2
      · have hf := x_pos q2 hf
        refine lv_tableIn (tgt := 66) hx hb d27 (by rw [q2]; decide) (by rw [q2]; decide) (by rw [q2]; first | done | rfl) (by decide) ?_
        have h0 : x_by cX7_box 66 [25, 4, 27, 182, 0, 239, 172] := by unfold x_by; decide +kernel
        obtain ⟨d66, h0⟩ := de_aload h0
        obtain ⟨d68, h0⟩ := de_iload_n1 h0
        obtain ⟨d69, h0⟩ := de_invokevirtual 239 (by decide) h0
        obtain ⟨d72, h0⟩ := de_ireturn h0
        refine lv_aload hx hb d66 (lv_at hl 0 rfl) ?_
        refine lv_iload_n hx hb d68 rfl (lv_at hl 2 rfl) ?_
        obtain ⟨hs9, hf⟩ := x_if hf
        refine x_thenI C0 hxt hS hf (fun z0 e0 => x_runV C0 hR hS me_X0_areaBegin wi_X0_areaBegin wl_X0_areaBegin ml_X7_239 hs9 xcl_0 (As := [.int x1]) (ct_X0_areaBegin E l C0.2.2.2.2.2.2.2.1 _ a5 x1) rfl rfl hl.1 (Nat.le_of_ble_eq_true rfl) d69 ⟨(Nat.le_of_ble_eq_true rfl), (Nat.le_of_ble_eq_true rfl)⟩ ⟨(Nat.le_of_ble_eq_true rfl), (Nat.le_of_ble_eq_true rfl)⟩ e0) (Nat.le_of_ble_eq_true rfl) (Nat.le_of_ble_eq_true rfl) (fun h9 i11 H locs hR hS hf => ?_)
        exact x_iret C0 hR hS hf (Nat.le_of_ble_eq_true rfl) (Nat.le_of_ble_eq_true rfl) d72
      · have hf := x_neg q2 hf
        have g0 : (x3).toInt ≠ 0 := fun e9 => q0 (Int32.toInt_inj.mp (e9.trans (by decide)))
        have g1 : (x3).toInt ≠ 1 := fun e9 => q1 (Int32.toInt_inj.mp (e9.trans (by decide)))
        have g2 : (x3).toInt ≠ 2 := fun e9 => q2 (Int32.toInt_inj.mp (e9.trans (by decide)))
        refine lv_tableOut (tgt := 73) hx hb d27 (by omega) (by decide) ?_
        have h0 : x_by cX7_box 73 [25, 4, 27, 182, 0, 242, 172] := by unfold x_by; decide +kernel
        obtain ⟨d73, h0⟩ := de_aload h0
        obtain ⟨d75, h0⟩ := de_iload_n1 h0
        obtain ⟨d76, h0⟩ := de_invokevirtual 242 (by decide) h0
        obtain ⟨d79, h0⟩ := de_ireturn h0
        refine lv_aload hx hb d73 (lv_at hl 0 rfl) ?_
        refine lv_iload_n hx hb d75 rfl (lv_at hl 2 rfl) ?_
        obtain ⟨hs9, hf⟩ := x_if hf
        refine x_thenI C0 hxt hS hf (fun z0 e0 => x_runV C0 hR hS me_X0_areaSize wi_X0_areaSize wl_X0_areaSize ml_X7_242 hs9 xcl_0 (As := [.int x1]) (ct_X0_areaSize E l C0.2.2.2.2.2.2.2.1 _ a5 x1) rfl rfl hl.1 (Nat.le_of_ble_eq_true rfl) d76 ⟨(Nat.le_of_ble_eq_true rfl), (Nat.le_of_ble_eq_true rfl)⟩ ⟨(Nat.le_of_ble_eq_true rfl), (Nat.le_of_ble_eq_true rfl)⟩ e0) (Nat.le_of_ble_eq_true rfl) (Nat.le_of_ble_eq_true rfl) (fun h9 i13 H locs hR hS hf => ?_)
        exact x_iret C0 hR hS hf (Nat.le_of_ble_eq_true rfl) (Nat.le_of_ble_eq_true rfl) d79
def f_X7_unmet_b73 (k20 : HP → Nat → Int32 → Int32 → Nat → Int32 → Int32 → Option XR) (h : HP) (r0 : Nat) (x1 : Int32) (x2 : Int32) (r3 : Nat) (x4 : Int32) (x5 : Int32) : Option XR :=
  k20 h r0 x1 x2 r3 x4 (x5 + 1)
def f_X7_unmet_b48 (k20 : HP → Nat → Int32 → Int32 → Nat → Int32 → Int32 → Option XR) (h : HP) (t0 : Int32) (t1 : Int32) (t2 : Int32) (t3 : Nat) (r0 : Nat) (x1 : Int32) (x2 : Int32) (r3 : Nat) (x4 : Int32) (x5 : Int32) : Option XR :=
  x_rc h t3 4 <| x_cI (f_X4_itemField h t3 t2 t1 t0) fun h2 i1 =>
  x_rc h2 r3 0 <| x_cI (f_X0_areaSize h2 r3 x5) fun h4 i3 =>
  if i1 ≤ i3 then
    (
      f_X7_unmet_b73 k20 h4 r0 x1 x2 r3 x4 x5
    )
  else
    (
      x_lI (x4 ||| (1 <<< (x5 &&& 31))) fun i5 =>
      f_X7_unmet_b73 k20 h4 r0 x1 x2 r3 i5 x5
    )
def f_X7_unmet_b20 (k20 : HP → Nat → Int32 → Int32 → Nat → Int32 → Int32 → Option XR) (h : HP) (r0 : Nat) (x1 : Int32) (x2 : Int32) (r3 : Nat) (x4 : Int32) (x5 : Int32) : Option XR :=
  x_gR h r0 7 3 fun a1 =>
  x_gI h a1 4 4 fun i2 =>
  if i2 ≤ x5 then
    (
      some (h, xi x4)
    )
  else
    (
      x_gR h r0 7 3 fun a3 =>
      if x2 = 0 then
        (
          f_X7_unmet_b48 k20 h 0 x1 x5 a3 r0 x1 x2 r3 x4 x5
        )
      else
        (
          f_X7_unmet_b48 k20 h 1 x1 x5 a3 r0 x1 x2 r3 x4 x5
        )
    )
def f_X7_unmet_L20  : Nat → HP → Nat → Int32 → Int32 → Nat → Int32 → Int32 → Option XR
  | 0 => fun _ _ _ _ _ _ _ => none
  | n + 1 => f_X7_unmet_b20 (f_X7_unmet_L20 n)
def f_X7_unmet (h : HP) (r0 : Nat) (x1 : Int32) (x2 : Int32) : Option XR :=
  x_cV (f_X7_checkAxis h x1) fun h1 =>
  x_rc h1 r0 7 <| x_cV (f_X7_arrange h1 r0) fun h2 =>
  x_rc h2 r0 7 <| x_cQ (f_X7_layoutOf h2 r0 x1) fun h4 a3 =>
  f_X7_unmet_L20 FU h4 r0 x1 x2 a3 0 0
set_option maxRecDepth 100000 in
set_option maxHeartbeats 4000000 in
theorem s_X7_unmet_b73 {p : Program} {l : Launch} {e : Env} {s : State} {m : MethodId} {args : Array Value} {below : List Frame} {meth : Method} {c : Code} {E : XE} {z : XR} (C0 : x_C E p l s m meth c args cX7_unmet 7 "GridEngine" "unmet" (some .int)) (hxt : ∀ x ∈ c.exceptionTable.toList, False) {k20 : HP → Nat → Int32 → Int32 → Nat → Int32 → Int32 → Option XR} (hk20 : ∀ (h : HP) (r0 : Nat) (x1 : Int32) (x2 : Int32) (r3 : Nat) (x4 : Int32) (x5 : Int32) (H : Heap) (locs : List Loc) (ls : Array Slot), x_Rep E h H → va_S (x_A E) s.heap H locs → lv_has ls 7 [(0, .ref (xa E r0)), (1, .int x1), (2, .int x2), (3, .ref (xa E r3)), (4, .int x4), (5, .int x5)] → k20 h r0 x1 x2 r3 x4 x5 = some z → W p l e ({ frames := 15, cells := 1, slots := 6, locals := 303 } : Room) s m args below meth c H locs 1 6 (x_Q E below args s 1 6 z) (F0 m 20 ls [])) : ∀ (h : HP) (r0 : Nat) (x1 : Int32) (x2 : Int32) (r3 : Nat) (x4 : Int32) (x5 : Int32) (H : Heap) (locs : List Loc) (ls : Array Slot), x_Rep E h H → va_S (x_A E) s.heap H locs → lv_has ls 7 [(0, .ref (xa E r0)), (1, .int x1), (2, .int x2), (3, .ref (xa E r3)), (4, .int x4), (5, .int x5)] → f_X7_unmet_b73 k20 h r0 x1 x2 r3 x4 x5 = some z → W p l e ({ frames := 15, cells := 1, slots := 6, locals := 303 } : Room) s m args below meth c H locs 1 6 (x_Q E below args s 1 6 z) (F0 m 73 ls []) := by
  intro h r0 x1 x2 r3 x4 x5 H locs ls hR hS hl hf
  obtain ⟨hx, hb, -⟩ := id C0
  unfold f_X7_unmet_b73 at hf
  have h0 : x_by cX7_unmet 73 [132, 5, 1, 167, 255, 200] := by unfold x_by; decide +kernel
  obtain ⟨d73, h0⟩ := de_iinc (1) (by decide) h0
  obtain ⟨d76, h0⟩ := de_goto (-56) (by decide) h0
  refine lv_iinc (v := (x5 + 1)) (lv' := [(5, .int (x5 + 1)), (0, .ref (xa E r0)), (1, .int x1), (2, .int x2), (3, .ref (xa E r3)), (4, .int x4)]) hx hb d73 hl (k := 5) rfl rfl (by decide) rfl (fun ls hl => ?_)
  refine lv_goto (tgt := 20) hx hb d76 (by decide) ?_
  exact hk20 _ _ _ _ _ _ _ _ _ _ hR hS (lv_sub hl [1, 2, 3, 4, 5, 0] rfl) hf
set_option maxRecDepth 100000 in
set_option maxHeartbeats 4000000 in
theorem s_X7_unmet_b48 {p : Program} {l : Launch} {e : Env} {s : State} {m : MethodId} {args : Array Value} {below : List Frame} {meth : Method} {c : Code} {E : XE} {z : XR} (C0 : x_C E p l s m meth c args cX7_unmet 7 "GridEngine" "unmet" (some .int)) (hxt : ∀ x ∈ c.exceptionTable.toList, False) {k20 : HP → Nat → Int32 → Int32 → Nat → Int32 → Int32 → Option XR} (hk20 : ∀ (h : HP) (r0 : Nat) (x1 : Int32) (x2 : Int32) (r3 : Nat) (x4 : Int32) (x5 : Int32) (H : Heap) (locs : List Loc) (ls : Array Slot), x_Rep E h H → va_S (x_A E) s.heap H locs → lv_has ls 7 [(0, .ref (xa E r0)), (1, .int x1), (2, .int x2), (3, .ref (xa E r3)), (4, .int x4), (5, .int x5)] → k20 h r0 x1 x2 r3 x4 x5 = some z → W p l e ({ frames := 15, cells := 1, slots := 6, locals := 303 } : Room) s m args below meth c H locs 1 6 (x_Q E below args s 1 6 z) (F0 m 20 ls [])) : ∀ (h : HP) (t0 : Int32) (t1 : Int32) (t2 : Int32) (t3 : Nat) (r0 : Nat) (x1 : Int32) (x2 : Int32) (r3 : Nat) (x4 : Int32) (x5 : Int32) (H : Heap) (locs : List Loc) (ls : Array Slot), x_Rep E h H → va_S (x_A E) s.heap H locs → lv_has ls 7 [(0, .ref (xa E r0)), (1, .int x1), (2, .int x2), (3, .ref (xa E r3)), (4, .int x4), (5, .int x5)] → f_X7_unmet_b48 k20 h t0 t1 t2 t3 r0 x1 x2 r3 x4 x5 = some z → W p l e ({ frames := 15, cells := 1, slots := 6, locals := 303 } : Room) s m args below meth c H locs 1 6 (x_Q E below args s 1 6 z) (F0 m 48 ls [.int t0, .int t1, .int t2, .ref (xa E t3)]) := by
  intro h t0 t1 t2 t3 r0 x1 x2 r3 x4 x5 H locs ls hR hS hl hf
  obtain ⟨hx, hb, -⟩ := id C0
  unfold f_X7_unmet_b48 at hf
  have h0 : x_by cX7_unmet 48 [182, 0, 182, 54, 6, 45, 21, 5, 182, 0, 242, 21, 6, 162, 0, 12] := by unfold x_by; decide +kernel
  obtain ⟨d48, h0⟩ := de_invokevirtual 182 (by decide) h0
  obtain ⟨d51, h0⟩ := de_istore h0
  obtain ⟨d53, h0⟩ := de_aload_n3 h0
  obtain ⟨d54, h0⟩ := de_iload h0
  obtain ⟨d56, h0⟩ := de_invokevirtual 242 (by decide) h0
  obtain ⟨d59, h0⟩ := de_iload h0
  obtain ⟨d61, h0⟩ := de_icmp_ge (12) (by decide) h0
  obtain ⟨hs9, hf⟩ := x_if hf
  refine x_thenI C0 hxt hS hf (fun z0 e0 => x_runV C0 hR hS me_X4_itemField wi_X4_itemField wl_X4_itemField ml_X7_182 hs9 xcl_4 (As := [.int t2, .int t1, .int t0]) (ct_X4_itemField E l C0.2.2.2.2.2.2.2.1 _ t3 t2 t1 t0) rfl rfl hl.1 (Nat.le_of_ble_eq_true rfl) d48 ⟨(Nat.le_of_ble_eq_true rfl), (Nat.le_of_ble_eq_true rfl)⟩ ⟨(Nat.le_of_ble_eq_true rfl), (Nat.le_of_ble_eq_true rfl)⟩ e0) (Nat.le_of_ble_eq_true rfl) (Nat.le_of_ble_eq_true rfl) (fun h9 i1 H locs hR hS hf => ?_)
  refine lv_istore (lv' := [(6, .int i1), (0, .ref (xa E r0)), (1, .int x1), (2, .int x2), (3, .ref (xa E r3)), (4, .int x4), (5, .int x5)]) hx hb d51 hl (by decide) rfl (fun ls hl => ?_)
  refine lv_aload_n hx hb d53 rfl (lv_at hl 4 rfl) ?_
  refine lv_iload hx hb d54 (lv_at hl 6 rfl) ?_
  obtain ⟨hs9, hf⟩ := x_if hf
  refine x_thenI C0 hxt hS hf (fun z0 e0 => x_runV C0 hR hS me_X0_areaSize wi_X0_areaSize wl_X0_areaSize ml_X7_242 hs9 xcl_0 (As := [.int x5]) (ct_X0_areaSize E l C0.2.2.2.2.2.2.2.1 _ r3 x5) rfl rfl hl.1 (Nat.le_of_ble_eq_true rfl) d56 ⟨(Nat.le_of_ble_eq_true rfl), (Nat.le_of_ble_eq_true rfl)⟩ ⟨(Nat.le_of_ble_eq_true rfl), (Nat.le_of_ble_eq_true rfl)⟩ e0) (Nat.le_of_ble_eq_true rfl) (Nat.le_of_ble_eq_true rfl) (fun h9 i3 H locs hR hS hf => ?_)
  refine lv_iload hx hb d59 (lv_at hl 0 rfl) ?_
  refine lv_icmp_ge (tgt := 73) hx hb d61 (by decide) (fun q => ?_) (fun q => ?_)
  · have hf := x_pos q hf
    exact s_X7_unmet_b73 C0 hxt hk20 _ _ _ _ _ _ _ _ _ _ hR hS (lv_sub hl [1, 2, 3, 4, 5, 6] rfl) hf
  · have hf := x_neg q hf
    have h0 : x_by cX7_unmet 64 [21, 4, 4, 21, 5, 120, 128, 54, 4] := by unfold x_by; decide +kernel
    obtain ⟨d64, h0⟩ := de_iload h0
    obtain ⟨d66, h0⟩ := de_iconst_1 h0
    obtain ⟨d67, h0⟩ := de_iload h0
    obtain ⟨d69, h0⟩ := de_ishl h0
    obtain ⟨d70, h0⟩ := de_ior h0
    obtain ⟨d71, h0⟩ := de_istore h0
    refine lv_iload hx hb d64 (lv_at hl 5 rfl) ?_
    refine lv_iconst (v := 1) hx hb d66 (by decide) ?_
    refine lv_iload hx hb d67 (lv_at hl 6 rfl) ?_
    refine lv_ishl hx hb d69 ?_
    refine lv_ior hx hb d70 ?_
    refine lv_topi (fun i5 ei5 => ?_)
    have hf := x_lI_el ei5 hf
    refine lv_istore (lv' := [(4, .int i5), (6, .int i1), (0, .ref (xa E r0)), (1, .int x1), (2, .int x2), (3, .ref (xa E r3)), (5, .int x5)]) hx hb d71 hl (by decide) rfl (fun ls hl => ?_)
    exact s_X7_unmet_b73 C0 hxt hk20 _ _ _ _ _ _ _ _ _ _ hR hS (lv_sub hl [2, 3, 4, 5, 0, 6] rfl) hf
set_option maxRecDepth 100000 in
set_option maxHeartbeats 4000000 in
theorem s_X7_unmet_b20 {p : Program} {l : Launch} {e : Env} {s : State} {m : MethodId} {args : Array Value} {below : List Frame} {meth : Method} {c : Code} {E : XE} {z : XR} (C0 : x_C E p l s m meth c args cX7_unmet 7 "GridEngine" "unmet" (some .int)) (hxt : ∀ x ∈ c.exceptionTable.toList, False) {k20 : HP → Nat → Int32 → Int32 → Nat → Int32 → Int32 → Option XR} (hk20 : ∀ (h : HP) (r0 : Nat) (x1 : Int32) (x2 : Int32) (r3 : Nat) (x4 : Int32) (x5 : Int32) (H : Heap) (locs : List Loc) (ls : Array Slot), x_Rep E h H → va_S (x_A E) s.heap H locs → lv_has ls 7 [(0, .ref (xa E r0)), (1, .int x1), (2, .int x2), (3, .ref (xa E r3)), (4, .int x4), (5, .int x5)] → k20 h r0 x1 x2 r3 x4 x5 = some z → W p l e ({ frames := 15, cells := 1, slots := 6, locals := 303 } : Room) s m args below meth c H locs 1 6 (x_Q E below args s 1 6 z) (F0 m 20 ls [])) : ∀ (h : HP) (r0 : Nat) (x1 : Int32) (x2 : Int32) (r3 : Nat) (x4 : Int32) (x5 : Int32) (H : Heap) (locs : List Loc) (ls : Array Slot), x_Rep E h H → va_S (x_A E) s.heap H locs → lv_has ls 7 [(0, .ref (xa E r0)), (1, .int x1), (2, .int x2), (3, .ref (xa E r3)), (4, .int x4), (5, .int x5)] → f_X7_unmet_b20 k20 h r0 x1 x2 r3 x4 x5 = some z → W p l e ({ frames := 15, cells := 1, slots := 6, locals := 303 } : Room) s m args below meth c H locs 1 6 (x_Q E below args s 1 6 z) (F0 m 20 ls []) := by
  intro h r0 x1 x2 r3 x4 x5 H locs ls hR hS hl hf
  obtain ⟨hx, hb, -⟩ := id C0
  unfold f_X7_unmet_b20 at hf
  have h0 : x_by cX7_unmet 20 [21, 5, 42, 180, 0, 27, 180, 0, 170, 162, 0, 50] := by unfold x_by; decide +kernel
  obtain ⟨d20, h0⟩ := de_iload h0
  obtain ⟨d22, h0⟩ := de_aload_n0 h0
  obtain ⟨d23, h0⟩ := de_getfield 27 (by decide) h0
  obtain ⟨d26, h0⟩ := de_getfield 170 (by decide) h0
  obtain ⟨d29, h0⟩ := de_icmp_ge (50) (by decide) h0
  refine lv_iload hx hb d20 (lv_at hl 5 rfl) ?_
  refine lv_aload_n hx hb d22 rfl (lv_at hl 0 rfl) ?_
  refine x_getR C0 hR hf xcl_7 (Nat.le_of_ble_eq_true rfl) rfl fl_X7_27 d23 (fun a1 hf => ?_)
  refine x_getI C0 hR hf xcl_4 (Nat.le_of_ble_eq_true rfl) rfl fl_X7_170 d26 (fun i2 hf => ?_)
  refine lv_icmp_ge (tgt := 79) hx hb d29 (by decide) (fun q => ?_) (fun q => ?_)
  · have hf := x_pos q hf
    have h0 : x_by cX7_unmet 79 [21, 4, 172] := by unfold x_by; decide +kernel
    obtain ⟨d79, h0⟩ := de_iload h0
    obtain ⟨d81, h0⟩ := de_ireturn h0
    refine lv_iload hx hb d79 (lv_at hl 4 rfl) ?_
    exact x_iret C0 hR hS hf (Nat.le_of_ble_eq_true rfl) (Nat.le_of_ble_eq_true rfl) d81
  · have hf := x_neg q hf
    have h0 : x_by cX7_unmet 32 [42, 180, 0, 27, 21, 5, 27, 28, 153, 0, 7] := by unfold x_by; decide +kernel
    obtain ⟨d32, h0⟩ := de_aload_n0 h0
    obtain ⟨d33, h0⟩ := de_getfield 27 (by decide) h0
    obtain ⟨d36, h0⟩ := de_iload h0
    obtain ⟨d38, h0⟩ := de_iload_n1 h0
    obtain ⟨d39, h0⟩ := de_iload_n2 h0
    obtain ⟨d40, h0⟩ := de_if_eq (7) (by decide) h0
    refine lv_aload_n hx hb d32 rfl (lv_at hl 0 rfl) ?_
    refine x_getR C0 hR hf xcl_7 (Nat.le_of_ble_eq_true rfl) rfl fl_X7_27 d33 (fun a3 hf => ?_)
    refine lv_iload hx hb d36 (lv_at hl 5 rfl) ?_
    refine lv_iload_n hx hb d38 rfl (lv_at hl 1 rfl) ?_
    refine lv_iload_n hx hb d39 rfl (lv_at hl 2 rfl) ?_
    refine lv_if_eq (tgt := 47) hx hb d40 (by decide) (fun q => ?_) (fun q => ?_)
    · have hf := x_pos q hf
      have h0 : x_by cX7_unmet 47 [3] := by unfold x_by; decide +kernel
      obtain ⟨d47, h0⟩ := de_iconst_0 h0
      refine lv_iconst (v := 0) hx hb d47 (by decide) ?_
      exact s_X7_unmet_b48 C0 hxt hk20 _ _ _ _ _ _ _ _ _ _ _ _ _ _ hR hS (lv_sub hl [0, 1, 2, 3, 4, 5] rfl) hf
    · have hf := x_neg q hf
      have h0 : x_by cX7_unmet 43 [4, 167, 0, 4] := by unfold x_by; decide +kernel
      obtain ⟨d43, h0⟩ := de_iconst_1 h0
      obtain ⟨d44, h0⟩ := de_goto (4) (by decide) h0
      refine lv_iconst (v := 1) hx hb d43 (by decide) ?_
      refine lv_goto (tgt := 48) hx hb d44 (by decide) ?_
      exact s_X7_unmet_b48 C0 hxt hk20 _ _ _ _ _ _ _ _ _ _ _ _ _ _ hR hS (lv_sub hl [0, 1, 2, 3, 4, 5] rfl) hf
theorem s_X7_unmet_L20 {p : Program} {l : Launch} {e : Env} {s : State} {m : MethodId} {args : Array Value} {below : List Frame} {meth : Method} {c : Code} {E : XE} {z : XR} (C0 : x_C E p l s m meth c args cX7_unmet 7 "GridEngine" "unmet" (some .int)) (hxt : ∀ x ∈ c.exceptionTable.toList, False)  : ∀ n : Nat, ∀ (h : HP) (r0 : Nat) (x1 : Int32) (x2 : Int32) (r3 : Nat) (x4 : Int32) (x5 : Int32) (H : Heap) (locs : List Loc) (ls : Array Slot), x_Rep E h H → va_S (x_A E) s.heap H locs → lv_has ls 7 [(0, .ref (xa E r0)), (1, .int x1), (2, .int x2), (3, .ref (xa E r3)), (4, .int x4), (5, .int x5)] → f_X7_unmet_L20 n h r0 x1 x2 r3 x4 x5 = some z → W p l e ({ frames := 15, cells := 1, slots := 6, locals := 303 } : Room) s m args below meth c H locs 1 6 (x_Q E below args s 1 6 z) (F0 m 20 ls []) := by
  intro n
  induction n with
  | zero => intro h r0 x1 x2 r3 x4 x5 H locs ls hR hS hl hf; cases (show (none : Option XR) = some z from hf)
  | succ n ih => intro h r0 x1 x2 r3 x4 x5 H locs ls hR hS hl hf; exact s_X7_unmet_b20 C0 hxt ih h r0 x1 x2 r3 x4 x5 H locs ls hR hS hl (show f_X7_unmet_b20 (f_X7_unmet_L20 n) h r0 x1 x2 r3 x4 x5 = some z from hf)
set_option maxRecDepth 100000 in
set_option maxHeartbeats 4000000 in
theorem ct_X7_unmet (E : XE) (l : Launch) (hl0 : l.stackTraces = false) (h : HP) (r0 : Nat) (x1 : Int32) (x2 : Int32) : x_ct E l yX7_unmet (Cond.code yX7_unmet cX7_unmet 7 (some .int)) 15 303 1 6 [.ref (xa E r0), .int x1, .int x2] h (f_X7_unmet h r0 x1 x2) := by
  refine x_ofW hl0 (by decide +kernel) ?_
  intro z hf p e s m args below meth c C0 hxt hargs hR
  subst hargs
  have C0 : x_C E p l s m meth c ([.ref (xa E r0), .int x1, .int x2] : List Value).toArray cX7_unmet 7 "GridEngine" "unmet" (some .int) := C0
  obtain ⟨hx, hb, -⟩ := id C0
  have hS : va_S (x_A E) s.heap s.heap [] := va_S.rf
  have hl := lv_entry ([.ref (xa E r0), .int x1, .int x2]) (n := 7) (Nat.le_of_ble_eq_true rfl)
  rw [lg_entry_eq]
  generalize (lg_sl ([.ref (xa E r0), .int x1, .int x2]) ++ List.replicate (7 - (lg_sl ([.ref (xa E r0), .int x1, .int x2])).length) Slot.unset).toArray = ls at hl ⊢
  have hl : lv_has ls 7 [(0, .ref (xa E r0)), (1, .int x1), (2, .int x2)] := hl
  unfold f_X7_unmet at hf
  have h0 : x_by cX7_unmet 0 [27, 184, 0, 103, 42, 182, 0, 134, 42, 27, 182, 0, 213, 78, 3, 54, 4, 3, 54, 5] := by unfold x_by; decide +kernel
  obtain ⟨d0, h0⟩ := de_iload_n1 h0
  obtain ⟨d1, h0⟩ := de_invokestatic 103 (by decide) h0
  obtain ⟨d4, h0⟩ := de_aload_n0 h0
  obtain ⟨d5, h0⟩ := de_invokevirtual 134 (by decide) h0
  obtain ⟨d8, h0⟩ := de_aload_n0 h0
  obtain ⟨d9, h0⟩ := de_iload_n1 h0
  obtain ⟨d10, h0⟩ := de_invokevirtual 213 (by decide) h0
  obtain ⟨d13, h0⟩ := de_astore_n3 h0
  obtain ⟨d14, h0⟩ := de_iconst_0 h0
  obtain ⟨d15, h0⟩ := de_istore h0
  obtain ⟨d17, h0⟩ := de_iconst_0 h0
  obtain ⟨d18, h0⟩ := de_istore h0
  refine lv_iload_n hx hb d0 rfl (lv_at hl 1 rfl) ?_
  refine x_thenV C0 hxt hS hf (fun z0 e0 => x_runS C0 hR hS me_X7_checkAxis wt_X7_checkAxis ml_X7_103 (As := [.int x1]) (ct_X7_checkAxis E l C0.2.2.2.2.2.2.2.1 _ x1) rfl rfl hl.1 (Nat.le_of_ble_eq_true rfl) d1 ⟨(Nat.le_of_ble_eq_true rfl), (Nat.le_of_ble_eq_true rfl)⟩ ⟨(Nat.le_of_ble_eq_true rfl), (Nat.le_of_ble_eq_true rfl)⟩ e0) (Nat.le_of_ble_eq_true rfl) (Nat.le_of_ble_eq_true rfl) (fun h9 H locs hR hS hf => ?_)
  refine lv_aload_n hx hb d4 rfl (lv_at hl 0 rfl) ?_
  obtain ⟨hs9, hf⟩ := x_if hf
  refine x_thenV C0 hxt hS hf (fun z0 e0 => x_runV C0 hR hS me_X7_arrange wi_X7_arrange wl_X7_arrange ml_X7_134 hs9 xcl_7 (As := []) (ct_X7_arrange E l C0.2.2.2.2.2.2.2.1 _ r0) rfl rfl hl.1 (Nat.le_of_ble_eq_true rfl) d5 ⟨(Nat.le_of_ble_eq_true rfl), (Nat.le_of_ble_eq_true rfl)⟩ ⟨(Nat.le_of_ble_eq_true rfl), (Nat.le_of_ble_eq_true rfl)⟩ e0) (Nat.le_of_ble_eq_true rfl) (Nat.le_of_ble_eq_true rfl) (fun h9 H locs hR hS hf => ?_)
  refine lv_aload_n hx hb d8 rfl (lv_at hl 0 rfl) ?_
  refine lv_iload_n hx hb d9 rfl (lv_at hl 1 rfl) ?_
  obtain ⟨hs9, hf⟩ := x_if hf
  refine x_thenQ C0 hxt hS hf (fun z0 e0 => x_runV C0 hR hS me_X7_layoutOf wi_X7_layoutOf wl_X7_layoutOf ml_X7_213 hs9 xcl_7 (As := [.int x1]) (ct_X7_layoutOf E l C0.2.2.2.2.2.2.2.1 _ r0 x1) rfl rfl hl.1 (Nat.le_of_ble_eq_true rfl) d10 ⟨(Nat.le_of_ble_eq_true rfl), (Nat.le_of_ble_eq_true rfl)⟩ ⟨(Nat.le_of_ble_eq_true rfl), (Nat.le_of_ble_eq_true rfl)⟩ e0) (Nat.le_of_ble_eq_true rfl) (Nat.le_of_ble_eq_true rfl) (fun h9 a3 H locs hR hS hf => ?_)
  refine lv_astore_n (lv' := [(3, .ref (xa E a3)), (0, .ref (xa E r0)), (1, .int x1), (2, .int x2)]) hx hb d13 rfl hl (by decide) rfl (fun ls hl => ?_)
  refine lv_iconst (v := 0) hx hb d14 (by decide) ?_
  refine lv_istore (lv' := [(4, .int 0), (3, .ref (xa E a3)), (0, .ref (xa E r0)), (1, .int x1), (2, .int x2)]) hx hb d15 hl (by decide) rfl (fun ls hl => ?_)
  refine lv_iconst (v := 0) hx hb d17 (by decide) ?_
  refine lv_istore (lv' := [(5, .int 0), (4, .int 0), (3, .ref (xa E a3)), (0, .ref (xa E r0)), (1, .int x1), (2, .int x2)]) hx hb d18 hl (by decide) rfl (fun ls hl => ?_)
  exact s_X7_unmet_L20 C0 hxt FU _ _ _ _ _ _ _ _ _ _ hR hS (lv_sub hl [3, 4, 5, 2, 1, 0] rfl) hf
def f_X7_itemUnder_b44 (k14 : HP → Nat → Int32 → Int32 → Int32 → Option XR) (h : HP) (r0 : Nat) (x1 : Int32) (x2 : Int32) (x3 : Int32) : Option XR :=
  k14 h r0 x1 x2 (x3 + (-1))
def f_X7_itemUnder_b14 (k14 : HP → Nat → Int32 → Int32 → Int32 → Option XR) (h : HP) (r0 : Nat) (x1 : Int32) (x2 : Int32) (x3 : Int32) : Option XR :=
  if x3 < 0 then
    (
      some (h_dirty h, xt "java/util/NoSuchElementException")
    )
  else
    (
      x_gR h r0 7 10 fun a1 =>
      x_rc h a1 0 <| x_cI (f_X0_isInBox h a1 x3 x1) fun h3 i2 =>
      if i2 = 0 then
        (
          f_X7_itemUnder_b44 k14 h3 r0 x1 x2 x3
        )
      else
        (
          x_gR h3 r0 7 11 fun a4 =>
          x_rc h3 a4 0 <| x_cI (f_X0_isInBox h3 a4 x3 x2) fun h6 i5 =>
          if i5 = 0 then
            (
              f_X7_itemUnder_b44 k14 h6 r0 x1 x2 x3
            )
          else
            (
              some (h6, xi x3)
            )
        )
    )
def f_X7_itemUnder_L14  : Nat → HP → Nat → Int32 → Int32 → Int32 → Option XR
  | 0 => fun _ _ _ _ _ => none
  | n + 1 => f_X7_itemUnder_b14 (f_X7_itemUnder_L14 n)
def f_X7_itemUnder (h : HP) (r0 : Nat) (x1 : Int32) (x2 : Int32) : Option XR :=
  x_rc h r0 7 <| x_cV (f_X7_arrange h r0) fun h1 =>
  x_gR h1 r0 7 3 fun a2 =>
  x_gI h1 a2 4 4 fun i3 =>
  x_lI (i3 - 1) fun i4 =>
  f_X7_itemUnder_L14 FU h1 r0 x1 x2 i4
set_option maxRecDepth 100000 in
set_option maxHeartbeats 4000000 in
theorem s_X7_itemUnder_b44 {p : Program} {l : Launch} {e : Env} {s : State} {m : MethodId} {args : Array Value} {below : List Frame} {meth : Method} {c : Code} {E : XE} {z : XR} (C0 : x_C E p l s m meth c args cX7_itemUnder 4 "GridEngine" "itemUnder" (some .int)) (hxt : ∀ x ∈ c.exceptionTable.toList, False) {k14 : HP → Nat → Int32 → Int32 → Int32 → Option XR} (hk14 : ∀ (h : HP) (r0 : Nat) (x1 : Int32) (x2 : Int32) (x3 : Int32) (H : Heap) (locs : List Loc) (ls : Array Slot), x_Rep E h H → va_S (x_A E) s.heap H locs → lv_has ls 4 [(0, .ref (xa E r0)), (1, .int x1), (2, .int x2), (3, .int x3)] → k14 h r0 x1 x2 x3 = some z → W p l e ({ frames := 15, cells := 1, slots := 6, locals := 303 } : Room) s m args below meth c H locs 0 0 (x_Q E below args s 1 6 z) (F0 m 14 ls [])) : ∀ (h : HP) (r0 : Nat) (x1 : Int32) (x2 : Int32) (x3 : Int32) (H : Heap) (locs : List Loc) (ls : Array Slot), x_Rep E h H → va_S (x_A E) s.heap H locs → lv_has ls 4 [(0, .ref (xa E r0)), (1, .int x1), (2, .int x2), (3, .int x3)] → f_X7_itemUnder_b44 k14 h r0 x1 x2 x3 = some z → W p l e ({ frames := 15, cells := 1, slots := 6, locals := 303 } : Room) s m args below meth c H locs 0 0 (x_Q E below args s 1 6 z) (F0 m 44 ls []) := by
  intro h r0 x1 x2 x3 H locs ls hR hS hl hf
  obtain ⟨hx, hb, -⟩ := id C0
  unfold f_X7_itemUnder_b44 at hf
  have h0 : x_by cX7_itemUnder 44 [132, 3, 255, 167, 255, 223] := by unfold x_by; decide +kernel
  obtain ⟨d44, h0⟩ := de_iinc (-1) (by decide) h0
  obtain ⟨d47, h0⟩ := de_goto (-33) (by decide) h0
  refine lv_iinc (v := (x3 + (-1))) (lv' := [(3, .int (x3 + (-1))), (0, .ref (xa E r0)), (1, .int x1), (2, .int x2)]) hx hb d44 hl (k := 3) rfl rfl (by decide) rfl (fun ls hl => ?_)
  refine lv_goto (tgt := 14) hx hb d47 (by decide) ?_
  exact hk14 _ _ _ _ _ _ _ _ hR hS (lv_sub hl [1, 2, 3, 0] rfl) hf
set_option maxRecDepth 100000 in
set_option maxHeartbeats 4000000 in
theorem s_X7_itemUnder_b14 {p : Program} {l : Launch} {e : Env} {s : State} {m : MethodId} {args : Array Value} {below : List Frame} {meth : Method} {c : Code} {E : XE} {z : XR} (C0 : x_C E p l s m meth c args cX7_itemUnder 4 "GridEngine" "itemUnder" (some .int)) (hxt : ∀ x ∈ c.exceptionTable.toList, False) {k14 : HP → Nat → Int32 → Int32 → Int32 → Option XR} (hk14 : ∀ (h : HP) (r0 : Nat) (x1 : Int32) (x2 : Int32) (x3 : Int32) (H : Heap) (locs : List Loc) (ls : Array Slot), x_Rep E h H → va_S (x_A E) s.heap H locs → lv_has ls 4 [(0, .ref (xa E r0)), (1, .int x1), (2, .int x2), (3, .int x3)] → k14 h r0 x1 x2 x3 = some z → W p l e ({ frames := 15, cells := 1, slots := 6, locals := 303 } : Room) s m args below meth c H locs 0 0 (x_Q E below args s 1 6 z) (F0 m 14 ls [])) : ∀ (h : HP) (r0 : Nat) (x1 : Int32) (x2 : Int32) (x3 : Int32) (H : Heap) (locs : List Loc) (ls : Array Slot), x_Rep E h H → va_S (x_A E) s.heap H locs → lv_has ls 4 [(0, .ref (xa E r0)), (1, .int x1), (2, .int x2), (3, .int x3)] → f_X7_itemUnder_b14 k14 h r0 x1 x2 x3 = some z → W p l e ({ frames := 15, cells := 1, slots := 6, locals := 303 } : Room) s m args below meth c H locs 0 0 (x_Q E below args s 1 6 z) (F0 m 14 ls []) := by
  intro h r0 x1 x2 x3 H locs ls hR hS hl hf
  obtain ⟨hx, hb, -⟩ := id C0
  unfold f_X7_itemUnder_b14 at hf
  have h0 : x_by cX7_itemUnder 14 [29, 155, 0, 35] := by unfold x_by; decide +kernel
  obtain ⟨d14, h0⟩ := de_iload_n3 h0
  obtain ⟨d15, h0⟩ := de_if_lt (35) (by decide) h0
  refine lv_iload_n hx hb d14 rfl (lv_at hl 3 rfl) ?_
  refine lv_if_lt (tgt := 50) hx hb d15 (by decide) (fun q => ?_) (fun q => ?_)
  · have hf := x_pos q hf
    have h0 : x_by cX7_itemUnder 50 [187, 0, 204, 89, 18, 248, 183, 0, 208, 191] := by unfold x_by; decide +kernel
    obtain ⟨d50, h0⟩ := de_new 204 (by decide) h0
    obtain ⟨d53, h0⟩ := de_dup h0
    obtain ⟨d54, h0⟩ := de_ldc h0
    obtain ⟨d56, h0⟩ := de_invokespecial 208 (by decide) h0
    obtain ⟨d59, h0⟩ := de_athrow h0
    exact x_throwN C0 hxt hR hS hf cl_X7_204 cz_NoSuchElementException sr_X7_248 x_thN208 hl.1 d50 d53 d54 d56 d59 (Nat.le_of_ble_eq_true rfl) (Nat.le_of_ble_eq_true rfl) (Nat.le_of_ble_eq_true rfl) (Nat.le_of_ble_eq_true rfl) (Nat.le_of_ble_eq_true rfl) (Nat.le_of_ble_eq_true rfl)
  · have hf := x_neg q hf
    have h0 : x_by cX7_itemUnder 18 [42, 180, 0, 62, 29, 27, 182, 0, 245, 153, 0, 17] := by unfold x_by; decide +kernel
    obtain ⟨d18, h0⟩ := de_aload_n0 h0
    obtain ⟨d19, h0⟩ := de_getfield 62 (by decide) h0
    obtain ⟨d22, h0⟩ := de_iload_n3 h0
    obtain ⟨d23, h0⟩ := de_iload_n1 h0
    obtain ⟨d24, h0⟩ := de_invokevirtual 245 (by decide) h0
    obtain ⟨d27, h0⟩ := de_if_eq (17) (by decide) h0
    refine lv_aload_n hx hb d18 rfl (lv_at hl 0 rfl) ?_
    refine x_getR C0 hR hf xcl_7 (Nat.le_of_ble_eq_true rfl) rfl fl_X7_62 d19 (fun a1 hf => ?_)
    refine lv_iload_n hx hb d22 rfl (lv_at hl 3 rfl) ?_
    refine lv_iload_n hx hb d23 rfl (lv_at hl 1 rfl) ?_
    obtain ⟨hs9, hf⟩ := x_if hf
    refine x_thenI C0 hxt hS hf (fun z0 e0 => x_runV C0 hR hS me_X0_isInBox wi_X0_isInBox wl_X0_isInBox ml_X7_245 hs9 xcl_0 (As := [.int x3, .int x1]) (ct_X0_isInBox E l C0.2.2.2.2.2.2.2.1 _ a1 x3 x1) rfl rfl hl.1 (Nat.le_of_ble_eq_true rfl) d24 ⟨(Nat.le_of_ble_eq_true rfl), (Nat.le_of_ble_eq_true rfl)⟩ ⟨(Nat.le_of_ble_eq_true rfl), (Nat.le_of_ble_eq_true rfl)⟩ e0) (Nat.le_of_ble_eq_true rfl) (Nat.le_of_ble_eq_true rfl) (fun h9 i2 H locs hR hS hf => ?_)
    refine lv_if_eq (tgt := 44) hx hb d27 (by decide) (fun q => ?_) (fun q => ?_)
    · have hf := x_pos q hf
      exact s_X7_itemUnder_b44 C0 hxt hk14 _ _ _ _ _ _ _ _ hR hS (lv_sub hl [0, 1, 2, 3] rfl) hf
    · have hf := x_neg q hf
      have h0 : x_by cX7_itemUnder 30 [42, 180, 0, 66, 29, 28, 182, 0, 245, 153, 0, 5] := by unfold x_by; decide +kernel
      obtain ⟨d30, h0⟩ := de_aload_n0 h0
      obtain ⟨d31, h0⟩ := de_getfield 66 (by decide) h0
      obtain ⟨d34, h0⟩ := de_iload_n3 h0
      obtain ⟨d35, h0⟩ := de_iload_n2 h0
      obtain ⟨d36, h0⟩ := de_invokevirtual 245 (by decide) h0
      obtain ⟨d39, h0⟩ := de_if_eq (5) (by decide) h0
      refine lv_aload_n hx hb d30 rfl (lv_at hl 0 rfl) ?_
      refine x_getR C0 hR hf xcl_7 (Nat.le_of_ble_eq_true rfl) rfl fl_X7_66 d31 (fun a4 hf => ?_)
      refine lv_iload_n hx hb d34 rfl (lv_at hl 3 rfl) ?_
      refine lv_iload_n hx hb d35 rfl (lv_at hl 2 rfl) ?_
      obtain ⟨hs9, hf⟩ := x_if hf
      refine x_thenI C0 hxt hS hf (fun z0 e0 => x_runV C0 hR hS me_X0_isInBox wi_X0_isInBox wl_X0_isInBox ml_X7_245 hs9 xcl_0 (As := [.int x3, .int x2]) (ct_X0_isInBox E l C0.2.2.2.2.2.2.2.1 _ a4 x3 x2) rfl rfl hl.1 (Nat.le_of_ble_eq_true rfl) d36 ⟨(Nat.le_of_ble_eq_true rfl), (Nat.le_of_ble_eq_true rfl)⟩ ⟨(Nat.le_of_ble_eq_true rfl), (Nat.le_of_ble_eq_true rfl)⟩ e0) (Nat.le_of_ble_eq_true rfl) (Nat.le_of_ble_eq_true rfl) (fun h9 i5 H locs hR hS hf => ?_)
      refine lv_if_eq (tgt := 44) hx hb d39 (by decide) (fun q => ?_) (fun q => ?_)
      · have hf := x_pos q hf
        exact s_X7_itemUnder_b44 C0 hxt hk14 _ _ _ _ _ _ _ _ hR hS (lv_sub hl [0, 1, 2, 3] rfl) hf
      · have hf := x_neg q hf
        have h0 : x_by cX7_itemUnder 42 [29, 172] := by unfold x_by; decide +kernel
        obtain ⟨d42, h0⟩ := de_iload_n3 h0
        obtain ⟨d43, h0⟩ := de_ireturn h0
        refine lv_iload_n hx hb d42 rfl (lv_at hl 3 rfl) ?_
        exact x_iret C0 hR hS hf (Nat.le_of_ble_eq_true rfl) (Nat.le_of_ble_eq_true rfl) d43
theorem s_X7_itemUnder_L14 {p : Program} {l : Launch} {e : Env} {s : State} {m : MethodId} {args : Array Value} {below : List Frame} {meth : Method} {c : Code} {E : XE} {z : XR} (C0 : x_C E p l s m meth c args cX7_itemUnder 4 "GridEngine" "itemUnder" (some .int)) (hxt : ∀ x ∈ c.exceptionTable.toList, False)  : ∀ n : Nat, ∀ (h : HP) (r0 : Nat) (x1 : Int32) (x2 : Int32) (x3 : Int32) (H : Heap) (locs : List Loc) (ls : Array Slot), x_Rep E h H → va_S (x_A E) s.heap H locs → lv_has ls 4 [(0, .ref (xa E r0)), (1, .int x1), (2, .int x2), (3, .int x3)] → f_X7_itemUnder_L14 n h r0 x1 x2 x3 = some z → W p l e ({ frames := 15, cells := 1, slots := 6, locals := 303 } : Room) s m args below meth c H locs 0 0 (x_Q E below args s 1 6 z) (F0 m 14 ls []) := by
  intro n
  induction n with
  | zero => intro h r0 x1 x2 x3 H locs ls hR hS hl hf; cases (show (none : Option XR) = some z from hf)
  | succ n ih => intro h r0 x1 x2 x3 H locs ls hR hS hl hf; exact s_X7_itemUnder_b14 C0 hxt ih h r0 x1 x2 x3 H locs ls hR hS hl (show f_X7_itemUnder_b14 (f_X7_itemUnder_L14 n) h r0 x1 x2 x3 = some z from hf)
set_option maxRecDepth 100000 in
set_option maxHeartbeats 4000000 in
theorem ct_X7_itemUnder (E : XE) (l : Launch) (hl0 : l.stackTraces = false) (h : HP) (r0 : Nat) (x1 : Int32) (x2 : Int32) : x_ct E l yX7_itemUnder (Cond.code yX7_itemUnder cX7_itemUnder 4 (some .int)) 15 303 1 6 [.ref (xa E r0), .int x1, .int x2] h (f_X7_itemUnder h r0 x1 x2) := by
  refine x_ofW hl0 (by decide +kernel) ?_
  intro z hf p e s m args below meth c C0 hxt hargs hR
  subst hargs
  have C0 : x_C E p l s m meth c ([.ref (xa E r0), .int x1, .int x2] : List Value).toArray cX7_itemUnder 4 "GridEngine" "itemUnder" (some .int) := C0
  obtain ⟨hx, hb, -⟩ := id C0
  have hS : va_S (x_A E) s.heap s.heap [] := va_S.rf
  have hl := lv_entry ([.ref (xa E r0), .int x1, .int x2]) (n := 4) (Nat.le_of_ble_eq_true rfl)
  rw [lg_entry_eq]
  generalize (lg_sl ([.ref (xa E r0), .int x1, .int x2]) ++ List.replicate (4 - (lg_sl ([.ref (xa E r0), .int x1, .int x2])).length) Slot.unset).toArray = ls at hl ⊢
  have hl : lv_has ls 4 [(0, .ref (xa E r0)), (1, .int x1), (2, .int x2)] := hl
  unfold f_X7_itemUnder at hf
  have h0 : x_by cX7_itemUnder 0 [42, 182, 0, 134, 42, 180, 0, 27, 180, 0, 170, 4, 100, 62] := by unfold x_by; decide +kernel
  obtain ⟨d0, h0⟩ := de_aload_n0 h0
  obtain ⟨d1, h0⟩ := de_invokevirtual 134 (by decide) h0
  obtain ⟨d4, h0⟩ := de_aload_n0 h0
  obtain ⟨d5, h0⟩ := de_getfield 27 (by decide) h0
  obtain ⟨d8, h0⟩ := de_getfield 170 (by decide) h0
  obtain ⟨d11, h0⟩ := de_iconst_1 h0
  obtain ⟨d12, h0⟩ := de_isub h0
  obtain ⟨d13, h0⟩ := de_istore_n3 h0
  refine lv_aload_n hx hb d0 rfl (lv_at hl 0 rfl) ?_
  obtain ⟨hs9, hf⟩ := x_if hf
  refine x_thenV C0 hxt hS hf (fun z0 e0 => x_runV C0 hR hS me_X7_arrange wi_X7_arrange wl_X7_arrange ml_X7_134 hs9 xcl_7 (As := []) (ct_X7_arrange E l C0.2.2.2.2.2.2.2.1 _ r0) rfl rfl hl.1 (Nat.le_of_ble_eq_true rfl) d1 ⟨(Nat.le_of_ble_eq_true rfl), (Nat.le_of_ble_eq_true rfl)⟩ ⟨(Nat.le_of_ble_eq_true rfl), (Nat.le_of_ble_eq_true rfl)⟩ e0) (Nat.le_of_ble_eq_true rfl) (Nat.le_of_ble_eq_true rfl) (fun h9 H locs hR hS hf => ?_)
  refine lv_aload_n hx hb d4 rfl (lv_at hl 0 rfl) ?_
  refine x_getR C0 hR hf xcl_7 (Nat.le_of_ble_eq_true rfl) rfl fl_X7_27 d5 (fun a2 hf => ?_)
  refine x_getI C0 hR hf xcl_4 (Nat.le_of_ble_eq_true rfl) rfl fl_X7_170 d8 (fun i3 hf => ?_)
  refine lv_iconst (v := 1) hx hb d11 (by decide) ?_
  refine lv_isub hx hb d12 ?_
  refine lv_topi (fun i4 ei4 => ?_)
  have hf := x_lI_el ei4 hf
  refine lv_istore_n (lv' := [(3, .int i4), (0, .ref (xa E r0)), (1, .int x1), (2, .int x2)]) hx hb d13 rfl hl (by decide) rfl (fun ls hl => ?_)
  exact s_X7_itemUnder_L14 C0 hxt FU _ _ _ _ _ _ _ _ hR hS (lv_sub hl [1, 2, 3, 0] rfl) hf
def f_X7_checkSlot_b9  (h : HP)  : Option XR :=
  some (h_dirty h, xt "java/lang/IndexOutOfBoundsException")
def f_X7_checkSlot (h : HP) (r0 : Nat) (x1 : Int32) : Option XR :=
  if x1 < 0 then
    (
      f_X7_checkSlot_b9 h
    )
  else
    (
      if x1 < 3 then
        (
          some (h, xv)
        )
      else
        (
          f_X7_checkSlot_b9 h
        )
    )
set_option maxRecDepth 100000 in
set_option maxHeartbeats 4000000 in
theorem s_X7_checkSlot_b9 {p : Program} {l : Launch} {e : Env} {s : State} {m : MethodId} {args : Array Value} {below : List Frame} {meth : Method} {c : Code} {E : XE} {z : XR} (C0 : x_C E p l s m meth c args cX7_checkSlot 2 "GridEngine" "checkSlot" none) (hxt : ∀ x ∈ c.exceptionTable.toList, False)  : ∀ (h : HP)  (H : Heap) (locs : List Loc) (ls : Array Slot), x_Rep E h H → va_S (x_A E) s.heap H locs → lv_has ls 2 [] → f_X7_checkSlot_b9 h  = some z → W p l e ({ frames := 8, cells := 1, slots := 6, locals := 130 } : Room) s m args below meth c H locs 0 0 (x_Q E below args s 1 6 z) (F0 m 9 ls []) := by
  intro h  H locs ls hR hS hl hf
  obtain ⟨hx, hb, -⟩ := id C0
  unfold f_X7_checkSlot_b9 at hf
  have h0 : x_by cX7_checkSlot 9 [187, 1, 10, 89, 19, 1, 17, 183, 1, 14, 191] := by unfold x_by; decide +kernel
  obtain ⟨d9, h0⟩ := de_new 266 (by decide) h0
  obtain ⟨d12, h0⟩ := de_dup h0
  obtain ⟨d13, h0⟩ := de_ldc_w 273 (by decide) h0
  obtain ⟨d16, h0⟩ := de_invokespecial 270 (by decide) h0
  obtain ⟨d19, h0⟩ := de_athrow h0
  exact x_throwW C0 hxt hR hS hf (by decide +kernel) cl_X7_266 cz_IndexOutOfBoundsException sr_X7_273 th_X7_270 hl.1 d9 d12 d13 d16 d19 (Nat.le_of_ble_eq_true rfl) (Nat.le_of_ble_eq_true rfl) (Nat.le_of_ble_eq_true rfl) (Nat.le_of_ble_eq_true rfl) (Nat.le_of_ble_eq_true rfl) (Nat.le_of_ble_eq_true rfl)
set_option maxRecDepth 100000 in
set_option maxHeartbeats 4000000 in
theorem ct_X7_checkSlot (E : XE) (l : Launch) (hl0 : l.stackTraces = false) (h : HP) (r0 : Nat) (x1 : Int32) : x_ct E l yX7_checkSlot (Cond.code yX7_checkSlot cX7_checkSlot 2 none) 8 130 1 6 [.ref (xa E r0), .int x1] h (f_X7_checkSlot h r0 x1) := by
  refine x_ofW hl0 (by decide +kernel) ?_
  intro z hf p e s m args below meth c C0 hxt hargs hR
  subst hargs
  have C0 : x_C E p l s m meth c ([.ref (xa E r0), .int x1] : List Value).toArray cX7_checkSlot 2 "GridEngine" "checkSlot" none := C0
  obtain ⟨hx, hb, -⟩ := id C0
  have hS : va_S (x_A E) s.heap s.heap [] := va_S.rf
  have hl := lv_entry ([.ref (xa E r0), .int x1]) (n := 2) (Nat.le_of_ble_eq_true rfl)
  rw [lg_entry_eq]
  generalize (lg_sl ([.ref (xa E r0), .int x1]) ++ List.replicate (2 - (lg_sl ([.ref (xa E r0), .int x1])).length) Slot.unset).toArray = ls at hl ⊢
  have hl : lv_has ls 2 [(0, .ref (xa E r0)), (1, .int x1)] := hl
  unfold f_X7_checkSlot at hf
  have h0 : x_by cX7_checkSlot 0 [27, 155, 0, 8] := by unfold x_by; decide +kernel
  obtain ⟨d0, h0⟩ := de_iload_n1 h0
  obtain ⟨d1, h0⟩ := de_if_lt (8) (by decide) h0
  refine lv_iload_n hx hb d0 rfl (lv_at hl 1 rfl) ?_
  refine lv_if_lt (tgt := 9) hx hb d1 (by decide) (fun q => ?_) (fun q => ?_)
  · have hf := x_pos q hf
    exact s_X7_checkSlot_b9 C0 hxt _ _ _ _ hR hS (lv_sub hl [] rfl) hf
  · have hf := x_neg q hf
    have h0 : x_by cX7_checkSlot 4 [27, 6, 161, 0, 14] := by unfold x_by; decide +kernel
    obtain ⟨d4, h0⟩ := de_iload_n1 h0
    obtain ⟨d5, h0⟩ := de_iconst_3 h0
    obtain ⟨d6, h0⟩ := de_icmp_lt (14) (by decide) h0
    refine lv_iload_n hx hb d4 rfl (lv_at hl 1 rfl) ?_
    refine lv_iconst (v := 3) hx hb d5 (by decide) ?_
    refine lv_icmp_lt (tgt := 20) hx hb d6 (by decide) (fun q => ?_) (fun q => ?_)
    · have hf := x_pos q hf
      have h0 : x_by cX7_checkSlot 20 [177] := by unfold x_by; decide +kernel
      obtain ⟨d20, h0⟩ := de_return h0
      exact x_vret C0 hR hS hf (Nat.le_of_ble_eq_true rfl) (Nat.le_of_ble_eq_true rfl) d20
    · have hf := x_neg q hf
      exact s_X7_checkSlot_b9 C0 hxt _ _ _ _ hR hS (lv_sub hl [] rfl) hf
def f_X7_save (h : HP) (r0 : Nat) (x1 : Int32) : Option XR :=
  x_rc h r0 7 <| x_cV (f_X7_checkSlot h r0 x1) fun h1 =>
  x_gR h1 r0 7 4 fun a2 =>
  x_aR h1 104 a2 x1 fun a3 =>
  x_gR h1 r0 7 3 fun a4 =>
  x_rc h1 a3 4 <| x_cV (f_X4_copyFrom h1 a3 a4) fun h5 =>
  x_gR h5 r0 7 5 fun a6 =>
  x_sZ h5 a6 x1 1 fun h7 =>
  x_gR h7 r0 7 3 fun a8 =>
  x_gI h7 a8 4 4 fun i9 =>
  some (h7, xi i9)
set_option maxRecDepth 100000 in
set_option maxHeartbeats 4000000 in
theorem ct_X7_save (E : XE) (l : Launch) (hl0 : l.stackTraces = false) (h : HP) (r0 : Nat) (x1 : Int32) : x_ct E l yX7_save (Cond.code yX7_save cX7_save 2 (some .int)) 9 151 1 6 [.ref (xa E r0), .int x1] h (f_X7_save h r0 x1) := by
  refine x_ofW hl0 (by decide +kernel) ?_
  intro z hf p e s m args below meth c C0 hxt hargs hR
  subst hargs
  have C0 : x_C E p l s m meth c ([.ref (xa E r0), .int x1] : List Value).toArray cX7_save 2 "GridEngine" "save" (some .int) := C0
  obtain ⟨hx, hb, -⟩ := id C0
  have hS : va_S (x_A E) s.heap s.heap [] := va_S.rf
  have hl := lv_entry ([.ref (xa E r0), .int x1]) (n := 2) (Nat.le_of_ble_eq_true rfl)
  rw [lg_entry_eq]
  generalize (lg_sl ([.ref (xa E r0), .int x1]) ++ List.replicate (2 - (lg_sl ([.ref (xa E r0), .int x1])).length) Slot.unset).toArray = ls at hl ⊢
  have hl : lv_has ls 2 [(0, .ref (xa E r0)), (1, .int x1)] := hl
  unfold f_X7_save at hf
  have h0 : x_by cX7_save 0 [42, 27, 182, 0, 250, 42, 180, 0, 31, 27, 50, 42, 180, 0, 27, 182, 0, 253, 42, 180, 0, 35, 27, 4, 84, 42, 180, 0, 27, 180, 0, 170, 172] := by unfold x_by; decide +kernel
  obtain ⟨d0, h0⟩ := de_aload_n0 h0
  obtain ⟨d1, h0⟩ := de_iload_n1 h0
  obtain ⟨d2, h0⟩ := de_invokevirtual 250 (by decide) h0
  obtain ⟨d5, h0⟩ := de_aload_n0 h0
  obtain ⟨d6, h0⟩ := de_getfield 31 (by decide) h0
  obtain ⟨d9, h0⟩ := de_iload_n1 h0
  obtain ⟨d10, h0⟩ := de_aaload h0
  obtain ⟨d11, h0⟩ := de_aload_n0 h0
  obtain ⟨d12, h0⟩ := de_getfield 27 (by decide) h0
  obtain ⟨d15, h0⟩ := de_invokevirtual 253 (by decide) h0
  obtain ⟨d18, h0⟩ := de_aload_n0 h0
  obtain ⟨d19, h0⟩ := de_getfield 35 (by decide) h0
  obtain ⟨d22, h0⟩ := de_iload_n1 h0
  obtain ⟨d23, h0⟩ := de_iconst_1 h0
  obtain ⟨d24, h0⟩ := de_bastore h0
  obtain ⟨d25, h0⟩ := de_aload_n0 h0
  obtain ⟨d26, h0⟩ := de_getfield 27 (by decide) h0
  obtain ⟨d29, h0⟩ := de_getfield 170 (by decide) h0
  obtain ⟨d32, h0⟩ := de_ireturn h0
  refine lv_aload_n hx hb d0 rfl (lv_at hl 0 rfl) ?_
  refine lv_iload_n hx hb d1 rfl (lv_at hl 1 rfl) ?_
  obtain ⟨hs9, hf⟩ := x_if hf
  refine x_thenV C0 hxt hS hf (fun z0 e0 => x_runV C0 hR hS me_X7_checkSlot wi_X7_checkSlot wl_X7_checkSlot ml_X7_250 hs9 xcl_7 (As := [.int x1]) (ct_X7_checkSlot E l C0.2.2.2.2.2.2.2.1 _ r0 x1) rfl rfl hl.1 (Nat.le_of_ble_eq_true rfl) d2 ⟨(Nat.le_of_ble_eq_true rfl), (Nat.le_of_ble_eq_true rfl)⟩ ⟨(Nat.le_of_ble_eq_true rfl), (Nat.le_of_ble_eq_true rfl)⟩ e0) (Nat.le_of_ble_eq_true rfl) (Nat.le_of_ble_eq_true rfl) (fun h9 H locs hR hS hf => ?_)
  refine lv_aload_n hx hb d5 rfl (lv_at hl 0 rfl) ?_
  refine x_getR C0 hR hf xcl_7 (Nat.le_of_ble_eq_true rfl) rfl fl_X7_31 d6 (fun a2 hf => ?_)
  refine lv_iload_n hx hb d9 rfl (lv_at hl 1 rfl) ?_
  refine x_aald (t := 4) C0 hR hf rfl rfl d10 (fun a3 hf => ?_)
  refine lv_aload_n hx hb d11 rfl (lv_at hl 0 rfl) ?_
  refine x_getR C0 hR hf xcl_7 (Nat.le_of_ble_eq_true rfl) rfl fl_X7_27 d12 (fun a4 hf => ?_)
  obtain ⟨hs9, hf⟩ := x_if hf
  refine x_thenV C0 hxt hS hf (fun z0 e0 => x_runV C0 hR hS me_X4_copyFrom wi_X4_copyFrom wl_X4_copyFrom ml_X7_253 hs9 xcl_4 (As := [.ref (xa E a4)]) (ct_X4_copyFrom E l C0.2.2.2.2.2.2.2.1 _ a3 a4) rfl rfl hl.1 (Nat.le_of_ble_eq_true rfl) d15 ⟨(Nat.le_of_ble_eq_true rfl), (Nat.le_of_ble_eq_true rfl)⟩ ⟨(Nat.le_of_ble_eq_true rfl), (Nat.le_of_ble_eq_true rfl)⟩ e0) (Nat.le_of_ble_eq_true rfl) (Nat.le_of_ble_eq_true rfl) (fun h9 H locs hR hS hf => ?_)
  refine lv_aload_n hx hb d18 rfl (lv_at hl 0 rfl) ?_
  refine x_getR C0 hR hf xcl_7 (Nat.le_of_ble_eq_true rfl) rfl fl_X7_35 d19 (fun a6 hf => ?_)
  refine lv_iload_n hx hb d22 rfl (lv_at hl 1 rfl) ?_
  refine lv_iconst (v := 1) hx hb d23 (by decide) ?_
  refine x_zast C0 hR hS hf d24 (fun H locs hR hS hf => ?_)
  refine lv_aload_n hx hb d25 rfl (lv_at hl 0 rfl) ?_
  refine x_getR C0 hR hf xcl_7 (Nat.le_of_ble_eq_true rfl) rfl fl_X7_27 d26 (fun a8 hf => ?_)
  refine x_getI C0 hR hf xcl_4 (Nat.le_of_ble_eq_true rfl) rfl fl_X7_170 d29 (fun i9 hf => ?_)
  exact x_iret C0 hR hS hf (Nat.le_of_ble_eq_true rfl) (Nat.le_of_ble_eq_true rfl) d32
def f_X7_restore (h : HP) (r0 : Nat) (x1 : Int32) : Option XR :=
  x_rc h r0 7 <| x_cV (f_X7_checkSlot h r0 x1) fun h1 =>
  x_gR h1 r0 7 5 fun a2 =>
  x_aI h1 102 a2 x1 fun i3 =>
  if i3 = 0 then
    (
      some (h_dirty h1, xt "java/lang/IllegalStateException")
    )
  else
    (
      x_rc h1 r0 7 <| x_cV (f_X7_rememberChange h1 r0) fun h4 =>
      x_gR h4 r0 7 3 fun a5 =>
      x_gR h4 r0 7 4 fun a6 =>
      x_aR h4 104 a6 x1 fun a7 =>
      x_rc h4 a5 4 <| x_cV (f_X4_copyFrom h4 a5 a7) fun h8 =>
      x_gR h8 r0 7 3 fun a9 =>
      x_gI h8 a9 4 4 fun i10 =>
      some (h8, xi i10)
    )
set_option maxRecDepth 100000 in
set_option maxHeartbeats 4000000 in
theorem ct_X7_restore (E : XE) (l : Launch) (hl0 : l.stackTraces = false) (h : HP) (r0 : Nat) (x1 : Int32) : x_ct E l yX7_restore (Cond.code yX7_restore cX7_restore 2 (some .int)) 10 171 2 12 [.ref (xa E r0), .int x1] h (f_X7_restore h r0 x1) := by
  refine x_ofW hl0 (by decide +kernel) ?_
  intro z hf p e s m args below meth c C0 hxt hargs hR
  subst hargs
  have C0 : x_C E p l s m meth c ([.ref (xa E r0), .int x1] : List Value).toArray cX7_restore 2 "GridEngine" "restore" (some .int) := C0
  obtain ⟨hx, hb, -⟩ := id C0
  have hS : va_S (x_A E) s.heap s.heap [] := va_S.rf
  have hl := lv_entry ([.ref (xa E r0), .int x1]) (n := 2) (Nat.le_of_ble_eq_true rfl)
  rw [lg_entry_eq]
  generalize (lg_sl ([.ref (xa E r0), .int x1]) ++ List.replicate (2 - (lg_sl ([.ref (xa E r0), .int x1])).length) Slot.unset).toArray = ls at hl ⊢
  have hl : lv_has ls 2 [(0, .ref (xa E r0)), (1, .int x1)] := hl
  unfold f_X7_restore at hf
  have h0 : x_by cX7_restore 0 [42, 27, 182, 0, 250, 42, 180, 0, 35, 27, 51, 154, 0, 14] := by unfold x_by; decide +kernel
  obtain ⟨d0, h0⟩ := de_aload_n0 h0
  obtain ⟨d1, h0⟩ := de_iload_n1 h0
  obtain ⟨d2, h0⟩ := de_invokevirtual 250 (by decide) h0
  obtain ⟨d5, h0⟩ := de_aload_n0 h0
  obtain ⟨d6, h0⟩ := de_getfield 35 (by decide) h0
  obtain ⟨d9, h0⟩ := de_iload_n1 h0
  obtain ⟨d10, h0⟩ := de_baload h0
  obtain ⟨d11, h0⟩ := de_if_ne (14) (by decide) h0
  refine lv_aload_n hx hb d0 rfl (lv_at hl 0 rfl) ?_
  refine lv_iload_n hx hb d1 rfl (lv_at hl 1 rfl) ?_
  obtain ⟨hs9, hf⟩ := x_if hf
  refine x_thenV C0 hxt hS hf (fun z0 e0 => x_runV C0 hR hS me_X7_checkSlot wi_X7_checkSlot wl_X7_checkSlot ml_X7_250 hs9 xcl_7 (As := [.int x1]) (ct_X7_checkSlot E l C0.2.2.2.2.2.2.2.1 _ r0 x1) rfl rfl hl.1 (Nat.le_of_ble_eq_true rfl) d2 ⟨(Nat.le_of_ble_eq_true rfl), (Nat.le_of_ble_eq_true rfl)⟩ ⟨(Nat.le_of_ble_eq_true rfl), (Nat.le_of_ble_eq_true rfl)⟩ e0) (Nat.le_of_ble_eq_true rfl) (Nat.le_of_ble_eq_true rfl) (fun h9 H locs hR hS hf => ?_)
  refine lv_aload_n hx hb d5 rfl (lv_at hl 0 rfl) ?_
  refine x_getR C0 hR hf xcl_7 (Nat.le_of_ble_eq_true rfl) rfl fl_X7_35 d6 (fun a2 hf => ?_)
  refine lv_iload_n hx hb d9 rfl (lv_at hl 1 rfl) ?_
  refine x_zald C0 hR hf d10 (fun i3 hf => ?_)
  refine lv_if_ne (tgt := 25) hx hb d11 (by decide) (fun q => ?_) (fun q => ?_)
  · have hf := x_neg q hf
    have h0 : x_by cX7_restore 25 [42, 182, 0, 117, 42, 180, 0, 27, 42, 180, 0, 31, 27, 50, 182, 0, 253, 42, 180, 0, 27, 180, 0, 170, 172] := by unfold x_by; decide +kernel
    obtain ⟨d25, h0⟩ := de_aload_n0 h0
    obtain ⟨d26, h0⟩ := de_invokevirtual 117 (by decide) h0
    obtain ⟨d29, h0⟩ := de_aload_n0 h0
    obtain ⟨d30, h0⟩ := de_getfield 27 (by decide) h0
    obtain ⟨d33, h0⟩ := de_aload_n0 h0
    obtain ⟨d34, h0⟩ := de_getfield 31 (by decide) h0
    obtain ⟨d37, h0⟩ := de_iload_n1 h0
    obtain ⟨d38, h0⟩ := de_aaload h0
    obtain ⟨d39, h0⟩ := de_invokevirtual 253 (by decide) h0
    obtain ⟨d42, h0⟩ := de_aload_n0 h0
    obtain ⟨d43, h0⟩ := de_getfield 27 (by decide) h0
    obtain ⟨d46, h0⟩ := de_getfield 170 (by decide) h0
    obtain ⟨d49, h0⟩ := de_ireturn h0
    refine lv_aload_n hx hb d25 rfl (lv_at hl 0 rfl) ?_
    obtain ⟨hs9, hf⟩ := x_if hf
    refine x_thenV C0 hxt hS hf (fun z0 e0 => x_runV C0 hR hS me_X7_rememberChange wi_X7_rememberChange wl_X7_rememberChange ml_X7_117 hs9 xcl_7 (As := []) (ct_X7_rememberChange E l C0.2.2.2.2.2.2.2.1 _ r0) rfl rfl hl.1 (Nat.le_of_ble_eq_true rfl) d26 ⟨(Nat.le_of_ble_eq_true rfl), (Nat.le_of_ble_eq_true rfl)⟩ ⟨(Nat.le_of_ble_eq_true rfl), (Nat.le_of_ble_eq_true rfl)⟩ e0) (Nat.le_of_ble_eq_true rfl) (Nat.le_of_ble_eq_true rfl) (fun h9 H locs hR hS hf => ?_)
    refine lv_aload_n hx hb d29 rfl (lv_at hl 0 rfl) ?_
    refine x_getR C0 hR hf xcl_7 (Nat.le_of_ble_eq_true rfl) rfl fl_X7_27 d30 (fun a5 hf => ?_)
    refine lv_aload_n hx hb d33 rfl (lv_at hl 0 rfl) ?_
    refine x_getR C0 hR hf xcl_7 (Nat.le_of_ble_eq_true rfl) rfl fl_X7_31 d34 (fun a6 hf => ?_)
    refine lv_iload_n hx hb d37 rfl (lv_at hl 1 rfl) ?_
    refine x_aald (t := 4) C0 hR hf rfl rfl d38 (fun a7 hf => ?_)
    obtain ⟨hs9, hf⟩ := x_if hf
    refine x_thenV C0 hxt hS hf (fun z0 e0 => x_runV C0 hR hS me_X4_copyFrom wi_X4_copyFrom wl_X4_copyFrom ml_X7_253 hs9 xcl_4 (As := [.ref (xa E a7)]) (ct_X4_copyFrom E l C0.2.2.2.2.2.2.2.1 _ a5 a7) rfl rfl hl.1 (Nat.le_of_ble_eq_true rfl) d39 ⟨(Nat.le_of_ble_eq_true rfl), (Nat.le_of_ble_eq_true rfl)⟩ ⟨(Nat.le_of_ble_eq_true rfl), (Nat.le_of_ble_eq_true rfl)⟩ e0) (Nat.le_of_ble_eq_true rfl) (Nat.le_of_ble_eq_true rfl) (fun h9 H locs hR hS hf => ?_)
    refine lv_aload_n hx hb d42 rfl (lv_at hl 0 rfl) ?_
    refine x_getR C0 hR hf xcl_7 (Nat.le_of_ble_eq_true rfl) rfl fl_X7_27 d43 (fun a9 hf => ?_)
    refine x_getI C0 hR hf xcl_4 (Nat.le_of_ble_eq_true rfl) rfl fl_X7_170 d46 (fun i10 hf => ?_)
    exact x_iret C0 hR hS hf (Nat.le_of_ble_eq_true rfl) (Nat.le_of_ble_eq_true rfl) d49
  · have hf := x_pos q hf
    have h0 : x_by cX7_restore 14 [187, 0, 96, 89, 19, 1, 0, 183, 0, 100, 191] := by unfold x_by; decide +kernel
    obtain ⟨d14, h0⟩ := de_new 96 (by decide) h0
    obtain ⟨d17, h0⟩ := de_dup h0
    obtain ⟨d18, h0⟩ := de_ldc_w 256 (by decide) h0
    obtain ⟨d21, h0⟩ := de_invokespecial 100 (by decide) h0
    obtain ⟨d24, h0⟩ := de_athrow h0
    exact x_throwW C0 hxt hR hS hf (by decide +kernel) cl_X7_96 cz_IllegalStateException sr_X7_256 th_X7_100 hl.1 d14 d17 d18 d21 d24 (Nat.le_of_ble_eq_true rfl) (Nat.le_of_ble_eq_true rfl) (Nat.le_of_ble_eq_true rfl) (Nat.le_of_ble_eq_true rfl) (Nat.le_of_ble_eq_true rfl) (Nat.le_of_ble_eq_true rfl)
def f_X7_undo_b37  (h : HP) (t0 : Int32) (t1 : Nat) (r0 : Nat) : Option XR :=
  x_pI h t1 7 7 t0 fun h1 =>
  x_gI h1 r0 7 8 fun i2 =>
  x_pI h1 r0 7 8 (i2 - 1) fun h3 =>
  x_gR h3 r0 7 3 fun a4 =>
  x_gR h3 r0 7 6 fun a5 =>
  x_gI h3 r0 7 7 fun i6 =>
  x_aR h3 104 a5 i6 fun a7 =>
  x_rc h3 a4 4 <| x_cV (f_X4_copyFrom h3 a4 a7) fun h8 =>
  x_pZ h8 r0 7 15 0 fun h9 =>
  x_gI h9 r0 7 8 fun i10 =>
  some (h9, xi i10)
def f_X7_undo (h : HP) (r0 : Nat) : Option XR :=
  x_gI h r0 7 8 fun i1 =>
  if 0 < i1 then
    (
      x_gI h r0 7 7 fun i2 =>
      if i2 ≤ 0 then
        (
          f_X7_undo_b37 h 7 r0 r0
        )
      else
        (
          x_gI h r0 7 7 fun i3 =>
          f_X7_undo_b37 h (i3 - 1) r0 r0
        )
    )
  else
    (
      some (h_dirty h, xt "java/lang/IllegalStateException")
    )
set_option maxRecDepth 100000 in
set_option maxHeartbeats 4000000 in
theorem s_X7_undo_b37 {p : Program} {l : Launch} {e : Env} {s : State} {m : MethodId} {args : Array Value} {below : List Frame} {meth : Method} {c : Code} {E : XE} {z : XR} (C0 : x_C E p l s m meth c args cX7_undo 1 "GridEngine" "undo" (some .int)) (hxt : ∀ x ∈ c.exceptionTable.toList, False)  : ∀ (h : HP) (t0 : Int32) (t1 : Nat) (r0 : Nat) (H : Heap) (locs : List Loc) (ls : Array Slot), x_Rep E h H → va_S (x_A E) s.heap H locs → lv_has ls 1 [(0, .ref (xa E r0))] → f_X7_undo_b37 h t0 t1 r0 = some z → W p l e ({ frames := 9, cells := 1, slots := 6, locals := 151 } : Room) s m args below meth c H locs 0 0 (x_Q E below args s 1 6 z) (F0 m 37 ls [.int t0, .ref (xa E t1)]) := by
  intro h t0 t1 r0 H locs ls hR hS hl hf
  obtain ⟨hx, hb, -⟩ := id C0
  unfold f_X7_undo_b37 at hf
  have h0 : x_by cX7_undo 37 [181, 0, 42, 42, 89, 180, 0, 45, 4, 100, 181, 0, 45, 42, 180, 0, 27, 42, 180, 0, 39, 42, 180, 0, 42, 50, 182, 0, 253, 42, 3, 181, 0, 92, 42, 180, 0, 45, 172] := by unfold x_by; decide +kernel
  obtain ⟨d37, h0⟩ := de_putfield 42 (by decide) h0
  obtain ⟨d40, h0⟩ := de_aload_n0 h0
  obtain ⟨d41, h0⟩ := de_dup h0
  obtain ⟨d42, h0⟩ := de_getfield 45 (by decide) h0
  obtain ⟨d45, h0⟩ := de_iconst_1 h0
  obtain ⟨d46, h0⟩ := de_isub h0
  obtain ⟨d47, h0⟩ := de_putfield 45 (by decide) h0
  obtain ⟨d50, h0⟩ := de_aload_n0 h0
  obtain ⟨d51, h0⟩ := de_getfield 27 (by decide) h0
  obtain ⟨d54, h0⟩ := de_aload_n0 h0
  obtain ⟨d55, h0⟩ := de_getfield 39 (by decide) h0
  obtain ⟨d58, h0⟩ := de_aload_n0 h0
  obtain ⟨d59, h0⟩ := de_getfield 42 (by decide) h0
  obtain ⟨d62, h0⟩ := de_aaload h0
  obtain ⟨d63, h0⟩ := de_invokevirtual 253 (by decide) h0
  obtain ⟨d66, h0⟩ := de_aload_n0 h0
  obtain ⟨d67, h0⟩ := de_iconst_0 h0
  obtain ⟨d68, h0⟩ := de_putfield 92 (by decide) h0
  obtain ⟨d71, h0⟩ := de_aload_n0 h0
  obtain ⟨d72, h0⟩ := de_getfield 45 (by decide) h0
  obtain ⟨d75, h0⟩ := de_ireturn h0
  refine x_putI C0 hR hS hf xcl_7 (Nat.le_of_ble_eq_true rfl) rfl fl_X7_42 (Or.inl rfl) d37 (fun H locs hR hS hf => ?_)
  refine lv_aload_n hx hb d40 rfl (lv_at hl 0 rfl) ?_
  refine lv_dup hx hb d41 rfl ?_
  refine x_getI C0 hR hf xcl_7 (Nat.le_of_ble_eq_true rfl) rfl fl_X7_45 d42 (fun i2 hf => ?_)
  refine lv_iconst (v := 1) hx hb d45 (by decide) ?_
  refine lv_isub hx hb d46 ?_
  refine x_putI C0 hR hS hf xcl_7 (Nat.le_of_ble_eq_true rfl) rfl fl_X7_45 (Or.inl rfl) d47 (fun H locs hR hS hf => ?_)
  refine lv_aload_n hx hb d50 rfl (lv_at hl 0 rfl) ?_
  refine x_getR C0 hR hf xcl_7 (Nat.le_of_ble_eq_true rfl) rfl fl_X7_27 d51 (fun a4 hf => ?_)
  refine lv_aload_n hx hb d54 rfl (lv_at hl 0 rfl) ?_
  refine x_getR C0 hR hf xcl_7 (Nat.le_of_ble_eq_true rfl) rfl fl_X7_39 d55 (fun a5 hf => ?_)
  refine lv_aload_n hx hb d58 rfl (lv_at hl 0 rfl) ?_
  refine x_getI C0 hR hf xcl_7 (Nat.le_of_ble_eq_true rfl) rfl fl_X7_42 d59 (fun i6 hf => ?_)
  refine x_aald (t := 4) C0 hR hf rfl rfl d62 (fun a7 hf => ?_)
  obtain ⟨hs9, hf⟩ := x_if hf
  refine x_thenV C0 hxt hS hf (fun z0 e0 => x_runV C0 hR hS me_X4_copyFrom wi_X4_copyFrom wl_X4_copyFrom ml_X7_253 hs9 xcl_4 (As := [.ref (xa E a7)]) (ct_X4_copyFrom E l C0.2.2.2.2.2.2.2.1 _ a4 a7) rfl rfl hl.1 (Nat.le_of_ble_eq_true rfl) d63 ⟨(Nat.le_of_ble_eq_true rfl), (Nat.le_of_ble_eq_true rfl)⟩ ⟨(Nat.le_of_ble_eq_true rfl), (Nat.le_of_ble_eq_true rfl)⟩ e0) (Nat.le_of_ble_eq_true rfl) (Nat.le_of_ble_eq_true rfl) (fun h9 H locs hR hS hf => ?_)
  refine lv_aload_n hx hb d66 rfl (lv_at hl 0 rfl) ?_
  refine lv_iconst (v := 0) hx hb d67 (by decide) ?_
  refine x_putZ C0 hR hS hf xcl_7 (Nat.le_of_ble_eq_true rfl) rfl fl_X7_92 (Or.inl rfl) d68 (fun H locs hR hS hf => ?_)
  refine lv_aload_n hx hb d71 rfl (lv_at hl 0 rfl) ?_
  refine x_getI C0 hR hf xcl_7 (Nat.le_of_ble_eq_true rfl) rfl fl_X7_45 d72 (fun i10 hf => ?_)
  exact x_iret C0 hR hS hf (Nat.le_of_ble_eq_true rfl) (Nat.le_of_ble_eq_true rfl) d75
set_option maxRecDepth 100000 in
set_option maxHeartbeats 4000000 in
theorem ct_X7_undo (E : XE) (l : Launch) (hl0 : l.stackTraces = false) (h : HP) (r0 : Nat) : x_ct E l yX7_undo (Cond.code yX7_undo cX7_undo 1 (some .int)) 9 151 1 6 [.ref (xa E r0)] h (f_X7_undo h r0) := by
  refine x_ofW hl0 (by decide +kernel) ?_
  intro z hf p e s m args below meth c C0 hxt hargs hR
  subst hargs
  have C0 : x_C E p l s m meth c ([.ref (xa E r0)] : List Value).toArray cX7_undo 1 "GridEngine" "undo" (some .int) := C0
  obtain ⟨hx, hb, -⟩ := id C0
  have hS : va_S (x_A E) s.heap s.heap [] := va_S.rf
  have hl := lv_entry ([.ref (xa E r0)]) (n := 1) (Nat.le_of_ble_eq_true rfl)
  rw [lg_entry_eq]
  generalize (lg_sl ([.ref (xa E r0)]) ++ List.replicate (1 - (lg_sl ([.ref (xa E r0)])).length) Slot.unset).toArray = ls at hl ⊢
  have hl : lv_has ls 1 [(0, .ref (xa E r0))] := hl
  unfold f_X7_undo at hf
  have h0 : x_by cX7_undo 0 [42, 180, 0, 45, 157, 0, 14] := by unfold x_by; decide +kernel
  obtain ⟨d0, h0⟩ := de_aload_n0 h0
  obtain ⟨d1, h0⟩ := de_getfield 45 (by decide) h0
  obtain ⟨d4, h0⟩ := de_if_gt (14) (by decide) h0
  refine lv_aload_n hx hb d0 rfl (lv_at hl 0 rfl) ?_
  refine x_getI C0 hR hf xcl_7 (Nat.le_of_ble_eq_true rfl) rfl fl_X7_45 d1 (fun i1 hf => ?_)
  refine lv_if_gt (tgt := 18) hx hb d4 (by decide) (fun q => ?_) (fun q => ?_)
  · have hf := x_pos q hf
    have h0 : x_by cX7_undo 18 [42, 42, 180, 0, 42, 158, 0, 12] := by unfold x_by; decide +kernel
    obtain ⟨d18, h0⟩ := de_aload_n0 h0
    obtain ⟨d19, h0⟩ := de_aload_n0 h0
    obtain ⟨d20, h0⟩ := de_getfield 42 (by decide) h0
    obtain ⟨d23, h0⟩ := de_if_le (12) (by decide) h0
    refine lv_aload_n hx hb d18 rfl (lv_at hl 0 rfl) ?_
    refine lv_aload_n hx hb d19 rfl (lv_at hl 0 rfl) ?_
    refine x_getI C0 hR hf xcl_7 (Nat.le_of_ble_eq_true rfl) rfl fl_X7_42 d20 (fun i2 hf => ?_)
    refine lv_if_le (tgt := 35) hx hb d23 (by decide) (fun q => ?_) (fun q => ?_)
    · have hf := x_pos q hf
      have h0 : x_by cX7_undo 35 [16, 7] := by unfold x_by; decide +kernel
      obtain ⟨d35, h0⟩ := de_bipush (7) (by decide) h0
      refine lv_bipush (v := 7) hx hb d35 (by decide) ?_
      exact s_X7_undo_b37 C0 hxt _ _ _ _ _ _ _ hR hS (lv_sub hl [0] rfl) hf
    · have hf := x_neg q hf
      have h0 : x_by cX7_undo 26 [42, 180, 0, 42, 4, 100, 167, 0, 5] := by unfold x_by; decide +kernel
      obtain ⟨d26, h0⟩ := de_aload_n0 h0
      obtain ⟨d27, h0⟩ := de_getfield 42 (by decide) h0
      obtain ⟨d30, h0⟩ := de_iconst_1 h0
      obtain ⟨d31, h0⟩ := de_isub h0
      obtain ⟨d32, h0⟩ := de_goto (5) (by decide) h0
      refine lv_aload_n hx hb d26 rfl (lv_at hl 0 rfl) ?_
      refine x_getI C0 hR hf xcl_7 (Nat.le_of_ble_eq_true rfl) rfl fl_X7_42 d27 (fun i3 hf => ?_)
      refine lv_iconst (v := 1) hx hb d30 (by decide) ?_
      refine lv_isub hx hb d31 ?_
      refine lv_goto (tgt := 37) hx hb d32 (by decide) ?_
      exact s_X7_undo_b37 C0 hxt _ _ _ _ _ _ _ hR hS (lv_sub hl [0] rfl) hf
  · have hf := x_neg q hf
    have h0 : x_by cX7_undo 7 [187, 0, 96, 89, 19, 1, 2, 183, 0, 100, 191] := by unfold x_by; decide +kernel
    obtain ⟨d7, h0⟩ := de_new 96 (by decide) h0
    obtain ⟨d10, h0⟩ := de_dup h0
    obtain ⟨d11, h0⟩ := de_ldc_w 258 (by decide) h0
    obtain ⟨d14, h0⟩ := de_invokespecial 100 (by decide) h0
    obtain ⟨d17, h0⟩ := de_athrow h0
    exact x_throwW C0 hxt hR hS hf (by decide +kernel) cl_X7_96 cz_IllegalStateException sr_X7_258 th_X7_100 hl.1 d7 d10 d11 d14 d17 (Nat.le_of_ble_eq_true rfl) (Nat.le_of_ble_eq_true rfl) (Nat.le_of_ble_eq_true rfl) (Nat.le_of_ble_eq_true rfl) (Nat.le_of_ble_eq_true rfl) (Nat.le_of_ble_eq_true rfl)

set_option maxRecDepth 100000 in
set_option maxHeartbeats 4000000 in
theorem ct_J3_checkIndex_8e157n (E : XE) (l : Launch) (hl0 : l.stackTraces = false) (h : HP) (x0 x1 : Int32) (g0 : ¬ x0 < 0) (g1 : x0 < x1) : x_ct E l yJ3_checkIndex_8e157 (Cond.code yJ3_checkIndex_8e157 cJ3_checkIndex_8e157 3 (some .int)) 8 130 0 0 [.int x0, .int x1, .null] h (some (h, xi x0)) := by
  refine x_ofW hl0 (by decide +kernel) ?_
  intro z hf p e s m args below meth c C0 hxt hargs hR
  subst hargs
  have C0 : x_C E p l s m meth c ([.int x0, .int x1, .null] : List Value).toArray cJ3_checkIndex_8e157 3 "jdk/internal/util/Preconditions" "checkIndex" (some .int) := C0
  obtain ⟨hx, hb, -⟩ := id C0
  have hS : va_S (x_A E) s.heap s.heap [] := va_S.rf
  have hl := lv_entry ([.int x0, .int x1, .null]) (n := 3) (Nat.le_of_ble_eq_true rfl)
  rw [lg_entry_eq]
  generalize (lg_sl ([.int x0, .int x1, .null]) ++ List.replicate (3 - (lg_sl ([.int x0, .int x1, .null])).length) Slot.unset).toArray = ls at hl ⊢
  have hl : lv_has ls 3 [(0, .int x0), (1, .int x1), (2, .null)] := hl
  have d0 : decode cJ3_checkIndex_8e157 0 = .ok (.iload_n 0, 1) := by decide +kernel
  have d1 : decode cJ3_checkIndex_8e157 1 = .ok (.ifCond .lt 8, 3) := by decide +kernel
  have d4 : decode cJ3_checkIndex_8e157 4 = .ok (.iload_n 0, 1) := by decide +kernel
  have d5 : decode cJ3_checkIndex_8e157 5 = .ok (.iload_n 1, 1) := by decide +kernel
  have d6 : decode cJ3_checkIndex_8e157 6 = .ok (.if_icmp .lt 10, 3) := by decide +kernel
  have d16 : decode cJ3_checkIndex_8e157 16 = .ok (.iload_n 0, 1) := by decide +kernel
  have d17 : decode cJ3_checkIndex_8e157 17 = .ok (.ireturn, 1) := by decide +kernel
  refine lv_iload_n hx hb d0 rfl (lv_at hl 0 rfl) ?_
  refine lv_if_lt (tgt := 9) hx hb d1 (by decide) (fun q => absurd q g0) (fun q => ?_)
  refine lv_iload_n hx hb d4 rfl (lv_at hl 0 rfl) ?_
  refine lv_iload_n hx hb d5 rfl (lv_at hl 1 rfl) ?_
  refine lv_icmp_lt (tgt := 16) hx hb d6 (by decide) (fun q => ?_) (fun q => absurd g1 q)
  refine lv_iload_n hx hb d16 rfl (lv_at hl 0 rfl) ?_
  exact x_iret C0 hR hS hf (Nat.le_of_ble_eq_true rfl) (Nat.le_of_ble_eq_true rfl) d17
set_option maxRecDepth 100000 in
set_option maxHeartbeats 4000000 in
theorem ct_J3_checkIndex_8e157t (E : XE) (l : Launch) (hl0 : l.stackTraces = false) (h : HP) (t9 : Nat) (x0 x1 : Int32) (g0 : ¬ x0 < 0) (g1 : x0 < x1) : x_ct E l yJ3_checkIndex_8e157 (Cond.code yJ3_checkIndex_8e157 cJ3_checkIndex_8e157 3 (some .int)) 8 130 0 0 [.int x0, .int x1, .ref t9] h (some (h, xi x0)) := by
  refine x_ofW hl0 (by decide +kernel) ?_
  intro z hf p e s m args below meth c C0 hxt hargs hR
  subst hargs
  have C0 : x_C E p l s m meth c ([.int x0, .int x1, .ref t9] : List Value).toArray cJ3_checkIndex_8e157 3 "jdk/internal/util/Preconditions" "checkIndex" (some .int) := C0
  obtain ⟨hx, hb, -⟩ := id C0
  have hS : va_S (x_A E) s.heap s.heap [] := va_S.rf
  have hl := lv_entry ([.int x0, .int x1, .ref t9]) (n := 3) (Nat.le_of_ble_eq_true rfl)
  rw [lg_entry_eq]
  generalize (lg_sl ([.int x0, .int x1, .ref t9]) ++ List.replicate (3 - (lg_sl ([.int x0, .int x1, .ref t9])).length) Slot.unset).toArray = ls at hl ⊢
  have hl : lv_has ls 3 [(0, .int x0), (1, .int x1), (2, .ref t9)] := hl
  have d0 : decode cJ3_checkIndex_8e157 0 = .ok (.iload_n 0, 1) := by decide +kernel
  have d1 : decode cJ3_checkIndex_8e157 1 = .ok (.ifCond .lt 8, 3) := by decide +kernel
  have d4 : decode cJ3_checkIndex_8e157 4 = .ok (.iload_n 0, 1) := by decide +kernel
  have d5 : decode cJ3_checkIndex_8e157 5 = .ok (.iload_n 1, 1) := by decide +kernel
  have d6 : decode cJ3_checkIndex_8e157 6 = .ok (.if_icmp .lt 10, 3) := by decide +kernel
  have d16 : decode cJ3_checkIndex_8e157 16 = .ok (.iload_n 0, 1) := by decide +kernel
  have d17 : decode cJ3_checkIndex_8e157 17 = .ok (.ireturn, 1) := by decide +kernel
  refine lv_iload_n hx hb d0 rfl (lv_at hl 0 rfl) ?_
  refine lv_if_lt (tgt := 9) hx hb d1 (by decide) (fun q => absurd q g0) (fun q => ?_)
  refine lv_iload_n hx hb d4 rfl (lv_at hl 0 rfl) ?_
  refine lv_iload_n hx hb d5 rfl (lv_at hl 1 rfl) ?_
  refine lv_icmp_lt (tgt := 16) hx hb d6 (by decide) (fun q => ?_) (fun q => absurd g1 q)
  refine lv_iload_n hx hb d16 rfl (lv_at hl 0 rfl) ?_
  exact x_iret C0 hR hS hf (Nat.le_of_ble_eq_true rfl) (Nat.le_of_ble_eq_true rfl) d17
set_option maxRecDepth 100000 in
set_option maxHeartbeats 4000000 in
theorem ct_J0_checkIndex_df160 (E : XE) (l : Launch) (hl0 : l.stackTraces = false) (h : HP) (x0 x1 : Int32) (g0 : ¬ x0 < 0) (g1 : x0 < x1) : x_ct E l yJ0_checkIndex_df160 (Cond.code yJ0_checkIndex_df160 cJ0_checkIndex_df160 2 none) 9 152 0 0 [.int x0, .int x1] h (some (h, xv)) := by
  refine x_ofW hl0 (by decide +kernel) ?_
  intro z hf p e s m args below meth c C0 hxt hargs hR
  subst hargs
  have C0 : x_C E p l s m meth c ([.int x0, .int x1] : List Value).toArray cJ0_checkIndex_df160 2 "java/lang/String" "checkIndex" none := C0
  obtain ⟨hx, hb, -⟩ := id C0
  have hS : va_S (x_A E) s.heap s.heap [] := va_S.rf
  have hl := lv_entry ([.int x0, .int x1]) (n := 2) (Nat.le_of_ble_eq_true rfl)
  rw [lg_entry_eq]
  generalize (lg_sl ([.int x0, .int x1]) ++ List.replicate (2 - (lg_sl ([.int x0, .int x1])).length) Slot.unset).toArray = ls at hl ⊢
  have hl : lv_has ls 2 [(0, .int x0), (1, .int x1)] := hl
  have d0 : decode cJ0_checkIndex_df160 0 = .ok (.iload_n 0, 1) := by decide +kernel
  have d1 : decode cJ0_checkIndex_df160 1 = .ok (.iload_n 1, 1) := by decide +kernel
  have d2 : decode cJ0_checkIndex_df160 2 = .ok (.getstatic 1053, 3) := by decide +kernel
  have d5 : decode cJ0_checkIndex_df160 5 = .ok (.invokestatic 1059, 3) := by decide +kernel
  have d8 : decode cJ0_checkIndex_df160 8 = .ok (.pop, 1) := by decide +kernel
  have d9 : decode cJ0_checkIndex_df160 9 = .ok (.return_, 1) := by decide +kernel
  refine lv_iload_n hx hb d0 rfl (lv_at hl 0 rfl) ?_
  refine lv_iload_n hx hb d1 rfl (lv_at hl 1 rfl) ?_
  rcases C0.2.2.2.2.2.1.2.2.2.2.2.2.2.2.2.1 with hZ | ⟨t9, hZ⟩
  · refine va_gets hx hb hZ hS C0.2.2.2.1 (C0.2.2.2.2.1 _ fs_1053) (fun _ h9 => h9) d2 ?_
    refine x_useI (x_runS C0 hR hS me_J3_checkIndex_8e157 wt_J3_checkIndex_8e157 ml_J0_1059 (As := [.int x0, .int x1, .null]) (ct_J3_checkIndex_8e157n E l C0.2.2.2.2.2.2.2.1 h x0 x1 g0 g1) rfl rfl hl.1 (Nat.le_of_ble_eq_true rfl) d5 ⟨(Nat.le_of_ble_eq_true rfl), (Nat.le_of_ble_eq_true rfl)⟩ ⟨(Nat.le_of_ble_eq_true rfl), (Nat.le_of_ble_eq_true rfl)⟩ (z0 := (h, xi x0)) rfl) hS (fun H locs hR hS => ?_)
    refine lv_pop hx hb d8 rfl ?_
    exact x_vret C0 hR hS hf (Nat.le_of_ble_eq_true rfl) (Nat.le_of_ble_eq_true rfl) d9
  · refine va_gets hx hb hZ hS C0.2.2.2.1 (C0.2.2.2.2.1 _ fs_1053) (fun _ h9 => h9) d2 ?_
    refine x_useI (x_runS C0 hR hS me_J3_checkIndex_8e157 wt_J3_checkIndex_8e157 ml_J0_1059 (As := [.int x0, .int x1, .ref t9]) (ct_J3_checkIndex_8e157t E l C0.2.2.2.2.2.2.2.1 h t9 x0 x1 g0 g1) rfl rfl hl.1 (Nat.le_of_ble_eq_true rfl) d5 ⟨(Nat.le_of_ble_eq_true rfl), (Nat.le_of_ble_eq_true rfl)⟩ ⟨(Nat.le_of_ble_eq_true rfl), (Nat.le_of_ble_eq_true rfl)⟩ (z0 := (h, xi x0)) rfl) hS (fun H locs hR hS => ?_)
    refine lv_pop hx hb d8 rfl ?_
    exact x_vret C0 hR hS hf (Nat.le_of_ble_eq_true rfl) (Nat.le_of_ble_eq_true rfl) d9
set_option maxRecDepth 100000 in
set_option maxHeartbeats 4000000 in
theorem ct_J1_charAt_3b067 (E : XE) (l : Launch) (hl0 : l.stackTraces = false) (h : HP) (i : Nat) (q : String × Nat × String × List Int32) (hq : x_wd[i]? = some q) (x1 : Int32) (g0 : 0 ≤ x1.toInt) (g1 : x1.toInt < q.2.2.2.length) : x_ct E l yJ1_charAt_3b067 (Cond.code yJ1_charAt_3b067 cJ1_charAt_3b067 2 (some .char)) 10 174 0 0 [.ref (E.2.2.2.2.1 (501 + i)), .int x1] h (some (h, xi (q.2.2.2.getD x1.toNatClampNeg 0))) := by
  refine x_ofW hl0 (by decide +kernel) ?_
  intro z hf p e s m args below meth c C0 hxt hargs hR
  subst hargs
  have C0 : x_C E p l s m meth c ([.ref (E.2.2.2.2.1 (501 + i)), .int x1] : List Value).toArray cJ1_charAt_3b067 2 "java/lang/StringLatin1" "charAt" (some .char) := C0
  obtain ⟨hx, hb, -⟩ := id C0
  have hS : va_S (x_A E) s.heap s.heap [] := va_S.rf
  have hl := lv_entry ([.ref (E.2.2.2.2.1 (501 + i)), .int x1]) (n := 2) (Nat.le_of_ble_eq_true rfl)
  rw [lg_entry_eq]
  generalize (lg_sl ([.ref (E.2.2.2.2.1 (501 + i)), .int x1]) ++ List.replicate (2 - (lg_sl ([.ref (E.2.2.2.2.1 (501 + i)), .int x1])).length) Slot.unset).toArray = ls at hl ⊢
  have hl : lv_has ls 2 [(0, .ref (E.2.2.2.2.1 (501 + i))), (1, .int x1)] := hl
  have d0 : decode cJ1_charAt_3b067 0 = .ok (.iload_n 1, 1) := by decide +kernel
  have d1 : decode cJ1_charAt_3b067 1 = .ok (.aload_n 0, 1) := by decide +kernel
  have d2 : decode cJ1_charAt_3b067 2 = .ok (.arraylength, 1) := by decide +kernel
  have d3 : decode cJ1_charAt_3b067 3 = .ok (.invokestatic 9, 3) := by decide +kernel
  have d6 : decode cJ1_charAt_3b067 6 = .ok (.aload_n 0, 1) := by decide +kernel
  have d7 : decode cJ1_charAt_3b067 7 = .ok (.iload_n 1, 1) := by decide +kernel
  have d8 : decode cJ1_charAt_3b067 8 = .ok (.baload, 1) := by decide +kernel
  have d9 : decode cJ1_charAt_3b067 9 = .ok (.sipush 255, 3) := by decide +kernel
  have d12 : decode cJ1_charAt_3b067 12 = .ok (.iand, 1) := by decide +kernel
  have d13 : decode cJ1_charAt_3b067 13 = .ok (.i2c, 1) := by decide +kernel
  have d14 : decode cJ1_charAt_3b067 14 = .ok (.ireturn, 1) := by decide +kernel
  obtain ⟨-, -, -, -, hT⟩ := C0.2.2.2.2.2.1.2.2.2.2.2.2.1 i q hq
  obtain ⟨hlen, hby⟩ := x_wd_bytes q (List.mem_of_getElem? hq)
  have hin : vp_in x1 q.2.2.2.length := vp_in_iff.mpr ⟨g0, g1⟩
  have hlt : x1 < Int32.ofNat q.2.2.2.length := by
    rw [Int32.lt_iff_toInt_lt, show (Int32.ofNat q.2.2.2.length).toInt = (q.2.2.2.length : Int) from nI_toInt (by omega)]
    exact g1
  refine lv_iload_n hx hb d0 rfl (lv_at hl 1 rfl) ?_
  refine lv_aload_n hx hb d1 rfl (lv_at hl 0 rfl) ?_
  refine va_tlen hx hb hT hS rfl d2 ?_
  refine x_useV (x_runS C0 hR hS me_J0_checkIndex_df160 wt_J0_checkIndex_df160 ml_J1_9 (As := [.int x1, .int (Int32.ofNat q.2.2.2.length)]) (ct_J0_checkIndex_df160 E l C0.2.2.2.2.2.2.2.1 h x1 _ (x_nonneg g0) hlt) rfl rfl hl.1 (Nat.le_of_ble_eq_true rfl) d3 ⟨(Nat.le_of_ble_eq_true rfl), (Nat.le_of_ble_eq_true rfl)⟩ ⟨(Nat.le_of_ble_eq_true rfl), (Nat.le_of_ble_eq_true rfl)⟩ (z0 := (h, xv)) rfl) hS (fun H locs hR hS => ?_)
  refine lv_aload_n hx hb d6 rfl (lv_at hl 0 rfl) ?_
  refine lv_iload_n hx hb d7 rfl (lv_at hl 1 rfl) ?_
  refine va_tb hx hb hT hS hin rfl d8 ?_
  refine lv_sipush (v := 255) hx hb d9 (by decide) ?_
  refine lv_iand hx hb d12 ?_
  refine lv_i2c hx hb d13 rfl ?_
  have hm : q.2.2.2.getD x1.toNatClampNeg 0 ∈ q.2.2.2 := by
    rw [List.getD_eq_getElem?_getD, List.getElem?_eq_getElem (by have := x_inn hin; omega)]
    exact List.getElem_mem _
  obtain ⟨b1, b2⟩ := hby _ hm
  rw [b1]
  exact x_zret' C0 hR hS (narrow_of_fits b2) hf (Nat.le_of_ble_eq_true rfl) (Nat.le_of_ble_eq_true rfl) d14
set_option maxRecDepth 100000 in
set_option maxHeartbeats 4000000 in
theorem ct_J0_isLatin1_aae02 (E : XE) (l : Launch) (hl0 : l.stackTraces = false) (h : HP) (i : Nat) (q : String × Nat × String × List Int32) (hq : x_wd[i]? = some q) : x_ct E l yJ0_isLatin1_aae02 (Cond.code yJ0_isLatin1_aae02 cJ0_isLatin1_aae02 1 (some .boolean)) 8 130 0 0 [.ref (xa E (1000001 + i))] h (some (h, xi 1)) := by
  refine x_ofW hl0 (by decide +kernel) ?_
  intro z hf p e s m args below meth c C0 hxt hargs hR
  subst hargs
  have C0 : x_C E p l s m meth c ([.ref (xa E (1000001 + i))] : List Value).toArray cJ0_isLatin1_aae02 1 "java/lang/String" "isLatin1" (some .boolean) := C0
  obtain ⟨hx, hb, -⟩ := id C0
  have hS : va_S (x_A E) s.heap s.heap [] := va_S.rf
  have hl := lv_entry ([.ref (xa E (1000001 + i))]) (n := 1) (Nat.le_of_ble_eq_true rfl)
  rw [lg_entry_eq]
  generalize (lg_sl ([.ref (xa E (1000001 + i))]) ++ List.replicate (1 - (lg_sl ([.ref (xa E (1000001 + i))])).length) Slot.unset).toArray = ls at hl ⊢
  have hl : lv_has ls 1 [(0, .ref (xa E (1000001 + i)))] := hl
  have d0 : decode cJ0_isLatin1_aae02 0 = .ok (.getstatic 38, 3) := by decide +kernel
  have d3 : decode cJ0_isLatin1_aae02 3 = .ok (.ifCond .eq 14, 3) := by decide +kernel
  have d6 : decode cJ0_isLatin1_aae02 6 = .ok (.aload_n 0, 1) := by decide +kernel
  have d7 : decode cJ0_isLatin1_aae02 7 = .ok (.getfield 15, 3) := by decide +kernel
  have d10 : decode cJ0_isLatin1_aae02 10 = .ok (.ifCond .ne 7, 3) := by decide +kernel
  have d13 : decode cJ0_isLatin1_aae02 13 = .ok (.iconst 1, 1) := by decide +kernel
  have d14 : decode cJ0_isLatin1_aae02 14 = .ok (.goto 4, 3) := by decide +kernel
  have d18 : decode cJ0_isLatin1_aae02 18 = .ok (.ireturn, 1) := by decide +kernel
  obtain ⟨-, -, hcd, hvl, hT⟩ := C0.2.2.2.2.2.1.2.2.2.2.2.2.1 i q hq
  have hZ := C0.2.2.2.2.2.1.2.2.2.2.2.2.2.2.1
  have hcd : va_OF "java/lang/String" "coder" "B" (.int 0) (xa E (1000001 + i)) (x_A E) s s.heap := by rw [xa_w]; exact hcd
  have hvl : va_OF "java/lang/String" "value" "[B" (.ref (E.2.2.2.2.1 (501 + i))) (xa E (1000001 + i)) (x_A E) s s.heap := by rw [xa_w]; exact hvl
  refine va_gets hx hb hZ hS C0.2.2.2.1 (C0.2.2.2.2.1 _ fs_38) (fun _ h9 => h9) d0 ?_
  refine lv_if_eq (tgt := 17) hx hb d3 (by decide) (fun q9 => absurd q9 (by decide)) (fun _ => ?_)
  refine lv_aload_n hx hb d6 rfl (lv_at hl 0 rfl) ?_
  refine vk_getf hx hb hcd hS C0.2.2.2.1 (C0.2.2.2.2.1 _ fs_15) (fun _ h9 => h9) d7 ?_
  refine lv_if_ne (tgt := 17) hx hb d10 (by decide) (fun q9 => absurd rfl q9) (fun _ => ?_)
  refine lv_iconst (v := 1) hx hb d13 (by decide) ?_
  refine lv_goto (tgt := 18) hx hb d14 (by decide) ?_
  exact x_zret' C0 hR hS (by decide) hf (Nat.le_of_ble_eq_true rfl) (Nat.le_of_ble_eq_true rfl) d18
set_option maxRecDepth 100000 in
set_option maxHeartbeats 4000000 in
theorem ct_J0_coder_7d493 (E : XE) (l : Launch) (hl0 : l.stackTraces = false) (h : HP) (i : Nat) (q : String × Nat × String × List Int32) (hq : x_wd[i]? = some q) : x_ct E l yJ0_coder_7d493 (Cond.code yJ0_coder_7d493 cJ0_coder_7d493 1 (some .byte)) 8 130 0 0 [.ref (xa E (1000001 + i))] h (some (h, xi 0)) := by
  refine x_ofW hl0 (by decide +kernel) ?_
  intro z hf p e s m args below meth c C0 hxt hargs hR
  subst hargs
  have C0 : x_C E p l s m meth c ([.ref (xa E (1000001 + i))] : List Value).toArray cJ0_coder_7d493 1 "java/lang/String" "coder" (some .byte) := C0
  obtain ⟨hx, hb, -⟩ := id C0
  have hS : va_S (x_A E) s.heap s.heap [] := va_S.rf
  have hl := lv_entry ([.ref (xa E (1000001 + i))]) (n := 1) (Nat.le_of_ble_eq_true rfl)
  rw [lg_entry_eq]
  generalize (lg_sl ([.ref (xa E (1000001 + i))]) ++ List.replicate (1 - (lg_sl ([.ref (xa E (1000001 + i))])).length) Slot.unset).toArray = ls at hl ⊢
  have hl : lv_has ls 1 [(0, .ref (xa E (1000001 + i)))] := hl
  have d0 : decode cJ0_coder_7d493 0 = .ok (.getstatic 38, 3) := by decide +kernel
  have d3 : decode cJ0_coder_7d493 3 = .ok (.ifCond .eq 10, 3) := by decide +kernel
  have d6 : decode cJ0_coder_7d493 6 = .ok (.aload_n 0, 1) := by decide +kernel
  have d7 : decode cJ0_coder_7d493 7 = .ok (.getfield 15, 3) := by decide +kernel
  have d10 : decode cJ0_coder_7d493 10 = .ok (.goto 4, 3) := by decide +kernel
  have d14 : decode cJ0_coder_7d493 14 = .ok (.ireturn, 1) := by decide +kernel
  obtain ⟨-, -, hcd, hvl, hT⟩ := C0.2.2.2.2.2.1.2.2.2.2.2.2.1 i q hq
  have hZ := C0.2.2.2.2.2.1.2.2.2.2.2.2.2.2.1
  have hcd : va_OF "java/lang/String" "coder" "B" (.int 0) (xa E (1000001 + i)) (x_A E) s s.heap := by rw [xa_w]; exact hcd
  have hvl : va_OF "java/lang/String" "value" "[B" (.ref (E.2.2.2.2.1 (501 + i))) (xa E (1000001 + i)) (x_A E) s s.heap := by rw [xa_w]; exact hvl
  refine va_gets hx hb hZ hS C0.2.2.2.1 (C0.2.2.2.2.1 _ fs_38) (fun _ h9 => h9) d0 ?_
  refine lv_if_eq (tgt := 13) hx hb d3 (by decide) (fun q9 => absurd q9 (by decide)) (fun _ => ?_)
  refine lv_aload_n hx hb d6 rfl (lv_at hl 0 rfl) ?_
  refine vk_getf hx hb hcd hS C0.2.2.2.1 (C0.2.2.2.2.1 _ fs_15) (fun _ h9 => h9) d7 ?_
  refine lv_goto (tgt := 14) hx hb d10 (by decide) ?_
  exact x_zret' C0 hR hS (by decide) hf (Nat.le_of_ble_eq_true rfl) (Nat.le_of_ble_eq_true rfl) d14
set_option maxRecDepth 100000 in
set_option maxHeartbeats 4000000 in
theorem ct_J0_length_8abf5 (E : XE) (l : Launch) (hl0 : l.stackTraces = false) (h : HP) (w : Nat) : x_ct E l yJ0_length_8abf5 (Cond.code yJ0_length_8abf5 cJ0_length_8abf5 1 (some .int)) 9 152 0 0 [.ref (xa E w)] h (f_J0_length_8abf5 h w) := by
  refine x_ofW hl0 (by decide +kernel) ?_
  intro z hf p e s m args below meth c C0 hxt hargs hR
  subst hargs
  have C0 : x_C E p l s m meth c ([.ref (xa E w)] : List Value).toArray cJ0_length_8abf5 1 "java/lang/String" "length" (some .int) := C0
  obtain ⟨hx, hb, -⟩ := id C0
  have hS : va_S (x_A E) s.heap s.heap [] := va_S.rf
  have hl := lv_entry ([.ref (xa E w)]) (n := 1) (Nat.le_of_ble_eq_true rfl)
  rw [lg_entry_eq]
  generalize (lg_sl ([.ref (xa E w)]) ++ List.replicate (1 - (lg_sl ([.ref (xa E w)])).length) Slot.unset).toArray = ls at hl ⊢
  have hl : lv_has ls 1 [(0, .ref (xa E w))] := hl
  have d0 : decode cJ0_length_8abf5 0 = .ok (.aload_n 0, 1) := by decide +kernel
  have d1 : decode cJ0_length_8abf5 1 = .ok (.getfield 9, 3) := by decide +kernel
  have d4 : decode cJ0_length_8abf5 4 = .ok (.arraylength, 1) := by decide +kernel
  have d5 : decode cJ0_length_8abf5 5 = .ok (.aload_n 0, 1) := by decide +kernel
  have d6 : decode cJ0_length_8abf5 6 = .ok (.invokevirtual 335, 3) := by decide +kernel
  have d9 : decode cJ0_length_8abf5 9 = .ok (.ishr, 1) := by decide +kernel
  have d10 : decode cJ0_length_8abf5 10 = .ok (.ireturn, 1) := by decide +kernel
  unfold f_J0_length_8abf5 at hf
  split at hf
  · next bs hw =>
    obtain ⟨i, q, rfl, hq, rfl⟩ := x_wdA_el hw
    obtain ⟨-, -, hcd, hvl, hT⟩ := C0.2.2.2.2.2.1.2.2.2.2.2.2.1 i q hq
    have hZ := C0.2.2.2.2.2.1.2.2.2.2.2.2.2.2.1
    have hcd : va_OF "java/lang/String" "coder" "B" (.int 0) (xa E (1000001 + i)) (x_A E) s s.heap := by rw [xa_w]; exact hcd
    have hvl : va_OF "java/lang/String" "value" "[B" (.ref (E.2.2.2.2.1 (501 + i))) (xa E (1000001 + i)) (x_A E) s s.heap := by rw [xa_w]; exact hvl
    have hlen := (x_wd_bytes q (List.mem_of_getElem? hq)).1
    refine lv_aload_n hx hb d0 rfl (lv_at hl 0 rfl) ?_
    refine vk_getf hx hb hvl hS C0.2.2.2.1 (C0.2.2.2.2.1 _ fs_9) (fun _ h9 => h9) d1 ?_
    refine va_tlen hx hb hT hS rfl d4 ?_
    refine lv_aload_n hx hb d5 rfl (lv_at hl 0 rfl) ?_
    refine x_useI (x_runVs C0 hR hS me_J0_coder_7d493 wi_J0_coder_7d493 wl_J0_coder_7d493 ml_J0_335 hw rfl (As := []) (ct_J0_coder_7d493 E l C0.2.2.2.2.2.2.2.1 h i q hq) rfl rfl hl.1 (Nat.le_of_ble_eq_true rfl) d6 ⟨(Nat.le_of_ble_eq_true rfl), (Nat.le_of_ble_eq_true rfl)⟩ ⟨(Nat.le_of_ble_eq_true rfl), (Nat.le_of_ble_eq_true rfl)⟩ (z0 := (h, xi 0)) rfl) hS (fun H locs hR hS => ?_)
    refine lv_ishr hx hb d9 ?_
    have h9 : Int32.ofNat q.2.2.2.length >>> ((0 : Int32) &&& 31) = Int32.ofNat q.2.2.2.length := by
      rw [show ((0 : Int32) &&& 31) = 0 by decide]
      exact Int32.shiftRight_zero
    rw [h9]
    exact x_iret C0 hR hS hf (Nat.le_of_ble_eq_true rfl) (Nat.le_of_ble_eq_true rfl) d10
  · cases hf
set_option maxRecDepth 100000 in
set_option maxHeartbeats 4000000 in
theorem ct_J0_charAt_5068e (E : XE) (l : Launch) (hl0 : l.stackTraces = false) (h : HP) (w : Nat) (x1 : Int32) : x_ct E l yJ0_charAt_5068e (Cond.code yJ0_charAt_5068e cJ0_charAt_5068e 2 (some .char)) 11 196 0 0 [.ref (xa E w), .int x1] h (f_J0_charAt_5068e h w x1) := by
  refine x_ofW hl0 (by decide +kernel) ?_
  intro z hf p e s m args below meth c C0 hxt hargs hR
  subst hargs
  have C0 : x_C E p l s m meth c ([.ref (xa E w), .int x1] : List Value).toArray cJ0_charAt_5068e 2 "java/lang/String" "charAt" (some .char) := C0
  obtain ⟨hx, hb, -⟩ := id C0
  have hS : va_S (x_A E) s.heap s.heap [] := va_S.rf
  have hl := lv_entry ([.ref (xa E w), .int x1]) (n := 2) (Nat.le_of_ble_eq_true rfl)
  rw [lg_entry_eq]
  generalize (lg_sl ([.ref (xa E w), .int x1]) ++ List.replicate (2 - (lg_sl ([.ref (xa E w), .int x1])).length) Slot.unset).toArray = ls at hl ⊢
  have hl : lv_has ls 2 [(0, .ref (xa E w)), (1, .int x1)] := hl
  have d0 : decode cJ0_charAt_5068e 0 = .ok (.aload_n 0, 1) := by decide +kernel
  have d1 : decode cJ0_charAt_5068e 1 = .ok (.invokevirtual 492, 3) := by decide +kernel
  have d4 : decode cJ0_charAt_5068e 4 = .ok (.ifCond .eq 12, 3) := by decide +kernel
  have d7 : decode cJ0_charAt_5068e 7 = .ok (.aload_n 0, 1) := by decide +kernel
  have d8 : decode cJ0_charAt_5068e 8 = .ok (.getfield 9, 3) := by decide +kernel
  have d11 : decode cJ0_charAt_5068e 11 = .ok (.iload_n 1, 1) := by decide +kernel
  have d12 : decode cJ0_charAt_5068e 12 = .ok (.invokestatic 495, 3) := by decide +kernel
  have d15 : decode cJ0_charAt_5068e 15 = .ok (.ireturn, 1) := by decide +kernel
  unfold f_J0_charAt_5068e at hf
  split at hf
  · next bs hw =>
    obtain ⟨i, q, rfl, hq, rfl⟩ := x_wdA_el hw
    obtain ⟨⟨g0, g1⟩, hf⟩ := x_if hf
    obtain ⟨-, -, hcd, hvl, hT⟩ := C0.2.2.2.2.2.1.2.2.2.2.2.2.1 i q hq
    have hZ := C0.2.2.2.2.2.1.2.2.2.2.2.2.2.2.1
    have hcd : va_OF "java/lang/String" "coder" "B" (.int 0) (xa E (1000001 + i)) (x_A E) s s.heap := by rw [xa_w]; exact hcd
    have hvl : va_OF "java/lang/String" "value" "[B" (.ref (E.2.2.2.2.1 (501 + i))) (xa E (1000001 + i)) (x_A E) s s.heap := by rw [xa_w]; exact hvl
    obtain ⟨hlen, hby⟩ := x_wd_bytes q (List.mem_of_getElem? hq)
    refine lv_aload_n hx hb d0 rfl (lv_at hl 0 rfl) ?_
    refine x_useI (x_runVs C0 hR hS me_J0_isLatin1_aae02 wi_J0_isLatin1_aae02 wl_J0_isLatin1_aae02 ml_J0_492 hw rfl (As := []) (ct_J0_isLatin1_aae02 E l C0.2.2.2.2.2.2.2.1 h i q hq) rfl rfl hl.1 (Nat.le_of_ble_eq_true rfl) d1 ⟨(Nat.le_of_ble_eq_true rfl), (Nat.le_of_ble_eq_true rfl)⟩ ⟨(Nat.le_of_ble_eq_true rfl), (Nat.le_of_ble_eq_true rfl)⟩ (z0 := (h, xi 1)) rfl) hS (fun H locs hR hS => ?_)
    refine lv_if_eq (tgt := 16) hx hb d4 (by decide) (fun q9 => absurd q9 (by decide)) (fun _ => ?_)
    refine lv_aload_n hx hb d7 rfl (lv_at hl 0 rfl) ?_
    refine vk_getf hx hb hvl hS C0.2.2.2.1 (C0.2.2.2.2.1 _ fs_9) (fun _ h9 => h9) d8 ?_
    refine lv_iload_n hx hb d11 rfl (lv_at hl 1 rfl) ?_
    refine x_useI (x_runS C0 hR hS me_J1_charAt_3b067 wt_J1_charAt_3b067 ml_J0_495 (As := [.ref (E.2.2.2.2.1 (501 + i)), .int x1]) (ct_J1_charAt_3b067 E l C0.2.2.2.2.2.2.2.1 h i q hq x1 g0 g1) rfl rfl hl.1 (Nat.le_of_ble_eq_true rfl) d12 ⟨(Nat.le_of_ble_eq_true rfl), (Nat.le_of_ble_eq_true rfl)⟩ ⟨(Nat.le_of_ble_eq_true rfl), (Nat.le_of_ble_eq_true rfl)⟩ (z0 := (h, xi (q.2.2.2.getD x1.toNatClampNeg 0))) rfl) hS (fun H locs hR hS => ?_)
    have hm : q.2.2.2.getD x1.toNatClampNeg 0 ∈ q.2.2.2 := by
      rw [List.getD_eq_getElem?_getD, List.getElem?_eq_getElem (by have := x_inn (vp_in_iff.mpr ⟨g0, g1⟩); omega)]
      exact List.getElem_mem _
    exact x_zret' C0 hR hS (narrow_of_fits (hby _ hm).2) hf (Nat.le_of_ble_eq_true rfl) (Nat.le_of_ble_eq_true rfl) d15
  · cases hf

/-! ===== the engine lays the grid out ===== -/
theorem bxb_bd {A : CF} {ax : Int} (hA : okA A) (hP : plB A) (x0 : 0 ≤ ax) (x1 : ax < 2) {i : Int} (i0 : 0 ≤ i) (i1 : i < nit A) : (-2147483648 ≤ bxb A ax i ∧ bxb A ax i ≤ 2147483647) ∧ (-2000000000 ≤ ars A ax i - bxs A ax i ∧ ars A ax i - bxs A ax i ≤ 2000000000) ∧ (-2147483648 ≤ bxb A ax i + bxs A ax i ∧ bxb A ax i + bxs A ax i ≤ 2147483647) ∧ (-1000000000 ≤ bgn A ax (pl A i ax) ∧ bgn A ax (pl A i ax) ≤ 1000000000) := by
  obtain ⟨b1, b2, b3, b4⟩ := item_bd hA hP x0 x1 i0 i1
  have h1 := (bgn_bd hA hP x0 x1 b1.1 b1.2.2 b2).2
  have h2 := (bgn_bd hA hP x0 x1 b4 b1.2.1 b3).2
  have h3 := (str_bd hA hP x0 x1 (pl A i ax + itf A i ax 3 - 1)).1
  have hok := hA.2.2.2.2.2 i ax i0 i1 x0 x1
  have hco := hok.1
  have e : ars A ax i = bgn A ax (pl A i ax + itf A i ax 3 - 1) + str A ax (pl A i ax + itf A i ax 3 - 1) - bgn A ax (pl A i ax) := rfl
  by_cases q : itf A i ax 4 = 0
  · have s : bxs A ax i = ars A ax i := if_pos q
    have t : bxb A ax i = bgn A ax (pl A i ax) := by
      unfold bxb
      rw [if_neg (by omega), if_neg (by omega)]
    omega
  · have s : bxs A ax i = max (min (ars A ax i) (itf A i ax 1)) (itf A i ax 0) := if_neg q
    have sb : 0 ≤ bxs A ax i ∧ bxs A ax i ≤ 999 := by omega
    unfold bxb
    repeat' split
    all_goals omega
section ArrE
variable {J : CF} {b : Nat} {c : Bool} {A I : CF} {o : Nat} {ax : Int}
theorem e_boxBegin (h : LZ I A o ax) {i : Int} (i0 : 0 ≤ i) (i1 : i < nit A) : f_X0_boxBegin (Sx I J b c) o (iW i) = some (Sx I J b c, xi (iW (bxb A ax i))) := by
  have hX := h.1.1
  obtain ⟨ho, hx, h1, hA, hP, hM, hR⟩ := hX
  have bb1 := bxb_bd hA hP (ax := ax) (by omega) (by omega) i0 i1
  have hok := hA.2.2.2.2.2 i ax i0 i1 (by omega) (by omega)
  have hal := hok.2.2.2
  have e1 := e_areaSize (J := J) (b := b) (c := c) h i0 i1
  have e2 := e_boxSize (J := J) (b := b) (c := c) h i0 i1
  have e3 := e_areaBegin (J := J) (b := b) (c := c) h i0 i1
  have e4 := e_itemF (J := J) (b := b) (c := c) h.1.1 i0 i1 (f := 4) (by omega) (by omega)
  have ed := e_floorDiv (h := Sx I J b c) (x := ars A ax i - bxs A ax i) (by omega) (by omega)
  unfold bxb
  by_cases q2 : itf A i ax 4 = 2
  · simp (disch := first | assumption | omega) only [f_X0_boxBegin, ↓rcL, ↓gIL_0, ↓gIL_10, ↓gIL_11, ↓gIL_12, ↓gIL_13, ↓gIL_14, ↓gIL_15, ↓pIL_0, ↓pIL_10, ↓pIL_11, ↓pIL_12, ↓pIL_13, ↓pIL_14, ↓pIL_15, ↓gRL_1, ↓gRL_2, ↓gRL_3, ↓gRL_4, ↓gRL_5, ↓gRL_6, ↓gRL_7, ↓gRL_8, ↓gRL_9, ↓aIL1, ↓sZL1, ↓lnL1, ↓aIL2, ↓sIL2, ↓lnL2, ↓aIL3, ↓sIL3, ↓lnL3, ↓aIL4, ↓sIL4, ↓lnL4, ↓aIL5, ↓sIL5, ↓lnL5, ↓aIL6, ↓sIL6, ↓lnL6, ↓aIL7, ↓sIL7, ↓lnL7, ↓c_I, ↓c_J, ↓c_Q, ↓c_V, ↓c_It, ↓c_Jt, ↓c_Vt, ↓k_I, ↓k_J, ↓n_I, ↓n_V, li0, li1, li2, li3, li4, li5, li6, li7, li8, li9, li10, li11, li12, li13, li14, li15, li16, li17, li18, li19, li20, li21, li22, li23, li24, li25, li26, li27, li28, li29, li30, li31, li32, li33, li34, li35, li36, li37, li38, li39, li40, li41, li42, li44, li48, li57, li63, li64, li65, li97, li99, li100, li101, li102, li104, li105, li106, li109, li114, li120, li128, li130, li300, li514, li999, li1000, li8192, li9999, li65536, li1000000, li1000001, li1000002, li1000003, li1000004, li1000005, li1000006, li1000007, li1000008, li1000009, li1000010, li1000011, li1000012, li1000013, li1000014, li1000015, li1000016, li1000017, li1000018, li1000019, li2147483647, lj0, lj1, W_add, W_sub, W_mul, W_neg, V_add, V_sub, V_mul, V_neg, W_ite, W_le, W_lt, W_inj, V_le, V_lt, V_inj, W_V, V_W, lgc_ge, lgc_gt, lgc_le, lgc_lt, lgc_eq, ge_iff_le, gt_iff_lt, e1, e2, e3, e4, q2, ↓reduceIte]
  · by_cases q3 : itf A i ax 4 = 3
    · simp (disch := first | assumption | omega) only [f_X0_boxBegin, ↓rcL, ↓gIL_0, ↓gIL_10, ↓gIL_11, ↓gIL_12, ↓gIL_13, ↓gIL_14, ↓gIL_15, ↓pIL_0, ↓pIL_10, ↓pIL_11, ↓pIL_12, ↓pIL_13, ↓pIL_14, ↓pIL_15, ↓gRL_1, ↓gRL_2, ↓gRL_3, ↓gRL_4, ↓gRL_5, ↓gRL_6, ↓gRL_7, ↓gRL_8, ↓gRL_9, ↓aIL1, ↓sZL1, ↓lnL1, ↓aIL2, ↓sIL2, ↓lnL2, ↓aIL3, ↓sIL3, ↓lnL3, ↓aIL4, ↓sIL4, ↓lnL4, ↓aIL5, ↓sIL5, ↓lnL5, ↓aIL6, ↓sIL6, ↓lnL6, ↓aIL7, ↓sIL7, ↓lnL7, ↓c_I, ↓c_J, ↓c_Q, ↓c_V, ↓c_It, ↓c_Jt, ↓c_Vt, ↓k_I, ↓k_J, ↓n_I, ↓n_V, li0, li1, li2, li3, li4, li5, li6, li7, li8, li9, li10, li11, li12, li13, li14, li15, li16, li17, li18, li19, li20, li21, li22, li23, li24, li25, li26, li27, li28, li29, li30, li31, li32, li33, li34, li35, li36, li37, li38, li39, li40, li41, li42, li44, li48, li57, li63, li64, li65, li97, li99, li100, li101, li102, li104, li105, li106, li109, li114, li120, li128, li130, li300, li514, li999, li1000, li8192, li9999, li65536, li1000000, li1000001, li1000002, li1000003, li1000004, li1000005, li1000006, li1000007, li1000008, li1000009, li1000010, li1000011, li1000012, li1000013, li1000014, li1000015, li1000016, li1000017, li1000018, li1000019, li2147483647, lj0, lj1, W_add, W_sub, W_mul, W_neg, V_add, V_sub, V_mul, V_neg, W_ite, W_le, W_lt, W_inj, V_le, V_lt, V_inj, W_V, V_W, lgc_ge, lgc_gt, lgc_le, lgc_lt, lgc_eq, ge_iff_le, gt_iff_lt, e1, e2, e3, e4, q3, ed, Int.reduceEq, ↓reduceIte]
    · simp (disch := first | assumption | omega) only [f_X0_boxBegin, ↓rcL, ↓gIL_0, ↓gIL_10, ↓gIL_11, ↓gIL_12, ↓gIL_13, ↓gIL_14, ↓gIL_15, ↓pIL_0, ↓pIL_10, ↓pIL_11, ↓pIL_12, ↓pIL_13, ↓pIL_14, ↓pIL_15, ↓gRL_1, ↓gRL_2, ↓gRL_3, ↓gRL_4, ↓gRL_5, ↓gRL_6, ↓gRL_7, ↓gRL_8, ↓gRL_9, ↓aIL1, ↓sZL1, ↓lnL1, ↓aIL2, ↓sIL2, ↓lnL2, ↓aIL3, ↓sIL3, ↓lnL3, ↓aIL4, ↓sIL4, ↓lnL4, ↓aIL5, ↓sIL5, ↓lnL5, ↓aIL6, ↓sIL6, ↓lnL6, ↓aIL7, ↓sIL7, ↓lnL7, ↓c_I, ↓c_J, ↓c_Q, ↓c_V, ↓c_It, ↓c_Jt, ↓c_Vt, ↓k_I, ↓k_J, ↓n_I, ↓n_V, li0, li1, li2, li3, li4, li5, li6, li7, li8, li9, li10, li11, li12, li13, li14, li15, li16, li17, li18, li19, li20, li21, li22, li23, li24, li25, li26, li27, li28, li29, li30, li31, li32, li33, li34, li35, li36, li37, li38, li39, li40, li41, li42, li44, li48, li57, li63, li64, li65, li97, li99, li100, li101, li102, li104, li105, li106, li109, li114, li120, li128, li130, li300, li514, li999, li1000, li8192, li9999, li65536, li1000000, li1000001, li1000002, li1000003, li1000004, li1000005, li1000006, li1000007, li1000008, li1000009, li1000010, li1000011, li1000012, li1000013, li1000014, li1000015, li1000016, li1000017, li1000018, li1000019, li2147483647, lj0, lj1, W_add, W_sub, W_mul, W_neg, V_add, V_sub, V_mul, V_neg, W_ite, W_le, W_lt, W_inj, V_le, V_lt, V_inj, W_V, V_W, lgc_ge, lgc_gt, lgc_le, lgc_lt, lgc_eq, ge_iff_le, gt_iff_lt, e1, e2, e3, e4, q2, q3, ↓reduceIte]
theorem e_inBox (h : LZ I A o ax) {i v : Int} (i0 : 0 ≤ i) (i1 : i < nit A) (v0 : -2147483648 ≤ v) (v1 : v ≤ 2147483647) : f_X0_isInBox (Sx I J b c) o (iW i) (iW v) = some (Sx I J b c, xi (iW (bb (bxb A ax i ≤ v ∧ v < bxb A ax i + bxs A ax i)))) := by
  have hX := h.1.1
  obtain ⟨ho, hx, h1, hA, hP, hM, hR⟩ := hX
  have bb1 := bxb_bd hA hP (ax := ax) (by omega) (by omega) i0 i1
  have e1 := e_boxBegin (J := J) (b := b) (c := c) h i0 i1
  have e2 := e_boxSize (J := J) (b := b) (c := c) h i0 i1
  by_cases q1 : v < bxb A ax i
  · rw [bb_neg (by omega)]
    simp (disch := first | assumption | omega) only [f_X0_isInBox, f_X0_isInBox_b26, f_X0_isInBox_b27, ↓rcL, ↓gIL_0, ↓gIL_10, ↓gIL_11, ↓gIL_12, ↓gIL_13, ↓gIL_14, ↓gIL_15, ↓pIL_0, ↓pIL_10, ↓pIL_11, ↓pIL_12, ↓pIL_13, ↓pIL_14, ↓pIL_15, ↓gRL_1, ↓gRL_2, ↓gRL_3, ↓gRL_4, ↓gRL_5, ↓gRL_6, ↓gRL_7, ↓gRL_8, ↓gRL_9, ↓aIL1, ↓sZL1, ↓lnL1, ↓aIL2, ↓sIL2, ↓lnL2, ↓aIL3, ↓sIL3, ↓lnL3, ↓aIL4, ↓sIL4, ↓lnL4, ↓aIL5, ↓sIL5, ↓lnL5, ↓aIL6, ↓sIL6, ↓lnL6, ↓aIL7, ↓sIL7, ↓lnL7, ↓c_I, ↓c_J, ↓c_Q, ↓c_V, ↓c_It, ↓c_Jt, ↓c_Vt, ↓k_I, ↓k_J, ↓n_I, ↓n_V, li0, li1, li2, li3, li4, li5, li6, li7, li8, li9, li10, li11, li12, li13, li14, li15, li16, li17, li18, li19, li20, li21, li22, li23, li24, li25, li26, li27, li28, li29, li30, li31, li32, li33, li34, li35, li36, li37, li38, li39, li40, li41, li42, li44, li48, li57, li63, li64, li65, li97, li99, li100, li101, li102, li104, li105, li106, li109, li114, li120, li128, li130, li300, li514, li999, li1000, li8192, li9999, li65536, li1000000, li1000001, li1000002, li1000003, li1000004, li1000005, li1000006, li1000007, li1000008, li1000009, li1000010, li1000011, li1000012, li1000013, li1000014, li1000015, li1000016, li1000017, li1000018, li1000019, li2147483647, lj0, lj1, W_add, W_sub, W_mul, W_neg, V_add, V_sub, V_mul, V_neg, W_ite, W_le, W_lt, W_inj, V_le, V_lt, V_inj, W_V, V_W, lgc_ge, lgc_gt, lgc_le, lgc_lt, lgc_eq, ge_iff_le, gt_iff_lt, e1, q1, ↓reduceIte, r_Z]
  · by_cases q2 : bxb A ax i + bxs A ax i ≤ v
    · rw [bb_neg (by omega)]
      simp (disch := first | assumption | omega) only [f_X0_isInBox, f_X0_isInBox_b26, f_X0_isInBox_b27, ↓rcL, ↓gIL_0, ↓gIL_10, ↓gIL_11, ↓gIL_12, ↓gIL_13, ↓gIL_14, ↓gIL_15, ↓pIL_0, ↓pIL_10, ↓pIL_11, ↓pIL_12, ↓pIL_13, ↓pIL_14, ↓pIL_15, ↓gRL_1, ↓gRL_2, ↓gRL_3, ↓gRL_4, ↓gRL_5, ↓gRL_6, ↓gRL_7, ↓gRL_8, ↓gRL_9, ↓aIL1, ↓sZL1, ↓lnL1, ↓aIL2, ↓sIL2, ↓lnL2, ↓aIL3, ↓sIL3, ↓lnL3, ↓aIL4, ↓sIL4, ↓lnL4, ↓aIL5, ↓sIL5, ↓lnL5, ↓aIL6, ↓sIL6, ↓lnL6, ↓aIL7, ↓sIL7, ↓lnL7, ↓c_I, ↓c_J, ↓c_Q, ↓c_V, ↓c_It, ↓c_Jt, ↓c_Vt, ↓k_I, ↓k_J, ↓n_I, ↓n_V, li0, li1, li2, li3, li4, li5, li6, li7, li8, li9, li10, li11, li12, li13, li14, li15, li16, li17, li18, li19, li20, li21, li22, li23, li24, li25, li26, li27, li28, li29, li30, li31, li32, li33, li34, li35, li36, li37, li38, li39, li40, li41, li42, li44, li48, li57, li63, li64, li65, li97, li99, li100, li101, li102, li104, li105, li106, li109, li114, li120, li128, li130, li300, li514, li999, li1000, li8192, li9999, li65536, li1000000, li1000001, li1000002, li1000003, li1000004, li1000005, li1000006, li1000007, li1000008, li1000009, li1000010, li1000011, li1000012, li1000013, li1000014, li1000015, li1000016, li1000017, li1000018, li1000019, li2147483647, lj0, lj1, W_add, W_sub, W_mul, W_neg, V_add, V_sub, V_mul, V_neg, W_ite, W_le, W_lt, W_inj, V_le, V_lt, V_inj, W_V, V_W, lgc_ge, lgc_gt, lgc_le, lgc_lt, lgc_eq, ge_iff_le, gt_iff_lt, e1, e2, q1, q2, ↓reduceIte, r_Z]
    · rw [bb_pos (by omega)]
      simp (disch := first | assumption | omega) only [f_X0_isInBox, f_X0_isInBox_b26, f_X0_isInBox_b27, ↓rcL, ↓gIL_0, ↓gIL_10, ↓gIL_11, ↓gIL_12, ↓gIL_13, ↓gIL_14, ↓gIL_15, ↓pIL_0, ↓pIL_10, ↓pIL_11, ↓pIL_12, ↓pIL_13, ↓pIL_14, ↓pIL_15, ↓gRL_1, ↓gRL_2, ↓gRL_3, ↓gRL_4, ↓gRL_5, ↓gRL_6, ↓gRL_7, ↓gRL_8, ↓gRL_9, ↓aIL1, ↓sZL1, ↓lnL1, ↓aIL2, ↓sIL2, ↓lnL2, ↓aIL3, ↓sIL3, ↓lnL3, ↓aIL4, ↓sIL4, ↓lnL4, ↓aIL5, ↓sIL5, ↓lnL5, ↓aIL6, ↓sIL6, ↓lnL6, ↓aIL7, ↓sIL7, ↓lnL7, ↓c_I, ↓c_J, ↓c_Q, ↓c_V, ↓c_It, ↓c_Jt, ↓c_Vt, ↓k_I, ↓k_J, ↓n_I, ↓n_V, li0, li1, li2, li3, li4, li5, li6, li7, li8, li9, li10, li11, li12, li13, li14, li15, li16, li17, li18, li19, li20, li21, li22, li23, li24, li25, li26, li27, li28, li29, li30, li31, li32, li33, li34, li35, li36, li37, li38, li39, li40, li41, li42, li44, li48, li57, li63, li64, li65, li97, li99, li100, li101, li102, li104, li105, li106, li109, li114, li120, li128, li130, li300, li514, li999, li1000, li8192, li9999, li65536, li1000000, li1000001, li1000002, li1000003, li1000004, li1000005, li1000006, li1000007, li1000008, li1000009, li1000010, li1000011, li1000012, li1000013, li1000014, li1000015, li1000016, li1000017, li1000018, li1000019, li2147483647, lj0, lj1, W_add, W_sub, W_mul, W_neg, V_add, V_sub, V_mul, V_neg, W_ite, W_le, W_lt, W_inj, V_le, V_lt, V_inj, W_V, V_W, lgc_ge, lgc_gt, lgc_le, lgc_lt, lgc_eq, ge_iff_le, gt_iff_lt, e1, e2, q1, q2, ↓reduceIte, r_Z]
theorem LZ.fr {I' : CF} (h : LZ I A o ax) (hf : ∀ a : Int, (8 ≤ a ∧ a ≤ 12) ∨ a = 17 ∨ a = 19 ∨ (o ≤ a ∧ a ≤ o + 7) → I' a = I a) : LZ I' A o ax := by
  obtain ⟨hY, h15, hS, hp⟩ := h
  refine ⟨hY.fr (fun k _ _ => by rw [hf o (by omega)]) (hf _ (by omega)) (fun a ha => hf a (by omega)), by rw [hf o (by omega)]; exact h15, ?_, ?_⟩
  · rw [hf (o + 2) (by omega), hf (o + 3) (by omega), hf (o + 4) (by omega), hf (o + 5) (by omega), hf (o + 6) (by omega)]
    exact hS
  · rw [hf (o + 7) (by omega)]
    exact hp
theorem e_layoutOf {k : Int} (hk : k = 0 ∨ k = 1) : f_X7_layoutOf (Sx I J b c) 0 (iW k) = some (Sx I J b c, xq (if k = 0 then 20 else 28)) := by
  rcases hk with rfl | rfl
  · simp (disch := first | assumption | omega) only [f_X7_layoutOf, f_X7_layoutOf_b15, ↓rc0, ↓gI0_1, ↓gI0_7, ↓gI0_8, ↓gI0_15, ↓pI0_1, ↓pI0_7, ↓pI0_8, ↓pZ0_15, ↓gR0_0, ↓gR0_2, ↓gR0_3, ↓gR0_4, ↓gR0_5, ↓gR0_6, ↓gR0_9, ↓gR0_10, ↓gR0_11, ↓gR0_12, ↓gR0_13, ↓gR0_14, ↓aI1, ↓ln1, ↓aI14, ↓sZ14, ↓ln14, ↓aR13, ↓aR15, ↓c_I, ↓c_J, ↓c_Q, ↓c_V, ↓c_It, ↓c_Jt, ↓c_Vt, ↓k_I, ↓k_J, ↓n_I, ↓n_V, li0, li1, li2, li3, li4, li5, li6, li7, li8, li9, li10, li11, li12, li13, li14, li15, li16, li17, li18, li19, li20, li21, li22, li23, li24, li25, li26, li27, li28, li29, li30, li31, li32, li33, li34, li35, li36, li37, li38, li39, li40, li41, li42, li44, li48, li57, li63, li64, li65, li97, li99, li100, li101, li102, li104, li105, li106, li109, li114, li120, li128, li130, li300, li514, li999, li1000, li8192, li9999, li65536, li1000000, li1000001, li1000002, li1000003, li1000004, li1000005, li1000006, li1000007, li1000008, li1000009, li1000010, li1000011, li1000012, li1000013, li1000014, li1000015, li1000016, li1000017, li1000018, li1000019, li2147483647, lj0, lj1, W_add, W_sub, W_mul, W_neg, V_add, V_sub, V_mul, V_neg, W_ite, W_le, W_lt, W_inj, V_le, V_lt, V_inj, W_V, V_W, lgc_ge, lgc_gt, lgc_le, lgc_lt, lgc_eq, ge_iff_le, gt_iff_lt, ↓reduceIte]
  · simp (disch := first | assumption | omega) only [f_X7_layoutOf, f_X7_layoutOf_b15, ↓rc0, ↓gI0_1, ↓gI0_7, ↓gI0_8, ↓gI0_15, ↓pI0_1, ↓pI0_7, ↓pI0_8, ↓pZ0_15, ↓gR0_0, ↓gR0_2, ↓gR0_3, ↓gR0_4, ↓gR0_5, ↓gR0_6, ↓gR0_9, ↓gR0_10, ↓gR0_11, ↓gR0_12, ↓gR0_13, ↓gR0_14, ↓aI1, ↓ln1, ↓aI14, ↓sZ14, ↓ln14, ↓aR13, ↓aR15, ↓c_I, ↓c_J, ↓c_Q, ↓c_V, ↓c_It, ↓c_Jt, ↓c_Vt, ↓k_I, ↓k_J, ↓n_I, ↓n_V, li0, li1, li2, li3, li4, li5, li6, li7, li8, li9, li10, li11, li12, li13, li14, li15, li16, li17, li18, li19, li20, li21, li22, li23, li24, li25, li26, li27, li28, li29, li30, li31, li32, li33, li34, li35, li36, li37, li38, li39, li40, li41, li42, li44, li48, li57, li63, li64, li65, li97, li99, li100, li101, li102, li104, li105, li106, li109, li114, li120, li128, li130, li300, li514, li999, li1000, li8192, li9999, li65536, li1000000, li1000001, li1000002, li1000003, li1000004, li1000005, li1000006, li1000007, li1000008, li1000009, li1000010, li1000011, li1000012, li1000013, li1000014, li1000015, li1000016, li1000017, li1000018, li1000019, li2147483647, lj0, lj1, W_add, W_sub, W_mul, W_neg, V_add, V_sub, V_mul, V_neg, W_ite, W_le, W_lt, W_inj, V_le, V_lt, V_inj, W_V, V_W, lgc_ge, lgc_gt, lgc_le, lgc_lt, lgc_eq, ge_iff_le, gt_iff_lt, Int.reduceEq, ↓reduceIte]
end ArrE
section ArrF
variable {b : Nat} {c : Bool} {A : CF} {o : Nat} {ax : Int}
/-- one axis -/
theorem e_axis {I J : CF} (hX : LX I A o ax) : ∃ I' J', LZ I' A o ax ∧ (∀ a : Int, (a < 36 ∨ 46 < a) → (a < o ∨ o + 7 < a) → I' a = I a) ∧ (∀ a : Int, a ≠ 44 → a ≠ 46 → J' a = J a) ∧ ∀ kk : HP → Option XR,
    (x_rc (Sx I J b c) o 0 <| x_cV (f_X0_collapseTracks (Sx I J b c) o) fun h4 =>
      x_gR h4 0 7 13 fun a5 =>
      x_rc h4 a5 1 <| x_cV (f_X1_findBases h4 a5 o) fun h6 =>
      x_gR h6 0 7 13 fun a7 =>
      x_rc h6 a7 1 <| x_cV (f_X1_findLimits h6 a7 o) fun h8 =>
      x_gR h8 0 7 12 fun a9 =>
      x_rc h8 o 0 <| x_cV (f_X0_growTracks h8 o a9) fun h10 =>
      x_gR h10 0 7 14 fun a11 =>
      x_rc h10 a11 3 <| x_cV (f_X3_shareOut h10 a11 o) fun h12 =>
      x_gR h12 0 7 12 fun a13 =>
      x_rc h12 o 0 <| x_cV (f_X0_stretchTracks h12 o a13) fun h14 =>
      x_rc h14 o 0 <| x_cV (f_X0_findPositions h14 o) fun h15 => kk h15) = kk (Sx I' J' b c) := by
  have ho := hX.1
  have hob := isL_bd ho
  obtain ⟨I1, p1, p2, p3⟩ := e_collapse (J := J) (b := b) (c := c) hX
  obtain ⟨I2, q1, q2, q3, q4⟩ := e_bases (J := J) (b := b) (c := c) p2
  obtain ⟨I3, r1, r2, r3, r4, r5⟩ := e_limits (J := J) (b := b) (c := c) q2 q3
  obtain ⟨I4, s1, s2, s3⟩ := e_grow (J := J) (b := b) (c := c) r2 r3 r4
  have hY4 : LY I4 A o ax := r2.fr (fun k _ _ => by rw [s3 o (by omega) (by omega)]) (s3 _ (by omega) (by omega)) (fun a ha => s3 a (by omega) (by omega))
  obtain ⟨I5, J5, t1, t2, t3, t4⟩ := e_shareOut (b := b) (c := c) (J := J) (show FX I4 A o ax from ⟨hY4, s2⟩)
  have hY5 : LY I5 A o ax := hY4.fr (fun k _ _ => by rw [t3 o (by omega) (by omega)]) (t3 _ (by omega) (by omega)) (fun a ha => t3 a (by omega) (by omega))
  obtain ⟨I6, u1, u2, u3⟩ := e_stretch (J := J5) (b := b) (c := c) hY5 t2
  have hY6 : LY I6 A o ax := hY5.fr (fun k _ _ => by rw [u3 o (by omega) (by omega)]) (u3 _ (by omega) (by omega)) (fun a ha => u3 a (by omega) (by omega))
  obtain ⟨I7, v1, v2, v3, v4, v5⟩ := e_positions (J := J5) (b := b) (c := c) hY6 u2
  refine ⟨I7, J5, ⟨v2, v3, fun k k0 k1 => ?_, v4⟩, fun a ha hb => by rw [v5 a (by omega) (by omega), u3 a (by omega) (by omega), t3 a (by omega) (by omega), s3 a (by omega) (by omega), r5 a (by omega) (by omega), q4 a (by omega) (by omega), p3 a (by omega) (by omega)], t4, fun kk => ?_⟩
  · rw [v5 (o + 2) (by omega) (by omega), v5 (o + 3) (by omega) (by omega), v5 (o + 4) (by omega) (by omega), v5 (o + 5) (by omega) (by omega), v5 (o + 6) (by omega) (by omega)]
    refine ⟨?_, ?_, ?_, ?_, u2 k k0 k1⟩
    · rw [u3 _ (by omega) (by omega), t3 _ (by omega) (by omega), s3 _ (by omega) (by omega)]
      exact r3 k k0 k1
    · rw [u3 _ (by omega) (by omega), t3 _ (by omega) (by omega), s3 _ (by omega) (by omega)]
      exact r4 k k0 k1
    · rw [u3 _ (by omega) (by omega), t3 _ (by omega) (by omega)]
      exact s2 k k0 k1
    · rw [u3 _ (by omega) (by omega)]
      exact t2 k k0 k1
  · simp (disch := first | assumption | omega) only [↓rc0, ↓gI0_1, ↓gI0_7, ↓gI0_8, ↓gI0_15, ↓pI0_1, ↓pI0_7, ↓pI0_8, ↓pZ0_15, ↓gR0_0, ↓gR0_2, ↓gR0_3, ↓gR0_4, ↓gR0_5, ↓gR0_6, ↓gR0_9, ↓gR0_10, ↓gR0_11, ↓gR0_12, ↓gR0_13, ↓gR0_14, ↓aI1, ↓ln1, ↓aI14, ↓sZ14, ↓ln14, ↓aR13, ↓aR15, ↓rcL, ↓gIL_0, ↓gIL_10, ↓gIL_11, ↓gIL_12, ↓gIL_13, ↓gIL_14, ↓gIL_15, ↓pIL_0, ↓pIL_10, ↓pIL_11, ↓pIL_12, ↓pIL_13, ↓pIL_14, ↓pIL_15, ↓gRL_1, ↓gRL_2, ↓gRL_3, ↓gRL_4, ↓gRL_5, ↓gRL_6, ↓gRL_7, ↓gRL_8, ↓gRL_9, ↓aIL1, ↓sZL1, ↓lnL1, ↓aIL2, ↓sIL2, ↓lnL2, ↓aIL3, ↓sIL3, ↓lnL3, ↓aIL4, ↓sIL4, ↓lnL4, ↓aIL5, ↓sIL5, ↓lnL5, ↓aIL6, ↓sIL6, ↓lnL6, ↓aIL7, ↓sIL7, ↓lnL7, ↓rc41, ↓gR41_0, ↓gR41_1, ↓gR41_2, ↓aI42, ↓sI42, ↓ln42, ↓aI43, ↓sI43, ↓ln43, ↓rc44, ↓gJ44_2, ↓gJ44_3, ↓gJ44_4, ↓gJ44_5, ↓pJ44_2, ↓pJ44_3, ↓pJ44_4, ↓pJ44_5, ↓gR44_0, ↓gR44_1, ↓aI45, ↓sZ45, ↓ln45, ↓aJ46, ↓sJ46, ↓c_I, ↓c_J, ↓c_Q, ↓c_V, ↓c_It, ↓c_Jt, ↓c_Vt, ↓k_I, ↓k_J, ↓n_I, ↓n_V, p1, q1, r1, s1, t1, u1, v1]
theorem e_arr17 {I J : CF} {k17 : HP → Nat → Int32 → Option XR} {k : Int} (hk : k = 0 ∨ k = 1) (hX : LX I A (if k = 0 then 20 else 28) k) : ∃ I' J', LZ I' A (if k = 0 then 20 else 28) k ∧ (∀ a : Int, (a < 36 ∨ 46 < a) → (a < ((if k = 0 then 20 else 28 : Nat) : Int) ∨ ((if k = 0 then 20 else 28 : Nat) : Int) + 7 < a) → I' a = I a) ∧ (∀ a : Int, a ≠ 44 → a ≠ 46 → J' a = J a) ∧ f_X7_arrange_b17 k17 (Sx I J b c) 0 (iW k) = k17 (Sx I' J' b c) 0 (iW (k + 1)) := by
  obtain ⟨I', J', h1, h2, h3, h4⟩ := e_axis (b := b) (c := c) (J := J) hX
  refine ⟨I', J', h1, h2, h3, ?_⟩
  have hl := e_layoutOf (I := I) (J := J) (b := b) (c := c) hk
  unfold f_X7_arrange_b17
  rw [if_neg (show ¬ (2 : Int32) ≤ iW k by rw [li2, W_le (by omega) (by omega) (by omega) (by omega)]; omega), rc0, hl, c_Q, li1, W_add]
  exact h4 (fun h15 => k17 h15 0 (iW (k + 1)))
theorem e_arrange {I J : CF} (hA : okA A) (hM : EM I A) (h20 : I 20 0 = 0) (h28 : I 28 0 = 1) (h01 : I 0 15 = 0 ∨ I 0 15 = 1) (hz : I 0 15 = 1 → LZ I A 20 0 ∧ LZ I A 28 1) :
    ∃ I' J', f_X7_arrange (Sx I J b c) 0 = some (Sx I' J' b c, xv) ∧ LZ I' A 20 0 ∧ LZ I' A 28 1 ∧ I' 0 15 = 1 ∧ (∀ a : Int, (a < 16 ∨ 46 < a) → a ≠ 0 → I' a = I a) ∧ (∀ k, k ≠ 15 → I' 0 k = I 0 k) ∧ ∀ a : Int, a ≠ 44 → a ≠ 46 → J' a = J a := by
  by_cases hq : I 0 15 = 0
  · obtain ⟨I1, p1, p2, p3, p4⟩ := e_placeAll (J := J) (b := b) (c := c) hA hM
    have hX1 : LX I1 A 20 0 := ⟨Or.inl rfl, Or.inl rfl, by show I1 20 0 = 0; rw [p4 20 (by omega)]; exact h20, hA, p3, hM.fr (fun a a0 a1 => p4 a (by omega)), p2⟩
    obtain ⟨I2, J2, q1, q2, q3, q4⟩ := e_arr17 (b := b) (c := c) (J := J) (k17 := f_X7_arrange_L17 99999) (k := 0) (Or.inl rfl) hX1
    have q1 : LZ I2 A 20 0 := q1
    have q2 : ∀ a : Int, (a < 36 ∨ 46 < a) → (a < 20 ∨ 20 + 7 < a) → I2 a = I1 a := q2
    have hX2 : LX I2 A 28 1 := ⟨Or.inr rfl, Or.inr rfl, by show I2 28 0 = 1; rw [q2 28 (by omega) (by omega), p4 28 (by omega)]; exact h28, hA, p3, q1.1.1.2.2.2.2.2.1, q1.1.1.2.2.2.2.2.2⟩
    obtain ⟨I3, J3, r1, r2, r3, r4⟩ := e_arr17 (b := b) (c := c) (J := J2) (k17 := f_X7_arrange_L17 99998) (k := 1) (Or.inr rfl) hX2
    have r1 : LZ I3 A 28 1 := r1
    have r2 : ∀ a : Int, (a < 36 ∨ 46 < a) → (a < 28 ∨ 28 + 7 < a) → I3 a = I2 a := r2
    refine ⟨uI I3 0 15 1, J3, ?_, q1.fr (fun a ha => ?_), r1.fr (fun a ha => u_obj (by omega)), u_eq, fun a ha ha' => ?_, fun k hk => ?_, fun a ha ha' => by rw [r3 a ha ha', q3 a ha ha']⟩
    · have e2 : f_X7_arrange_L17 FU (Sx I1 J b c) 0 0 = f_X7_arrange_L17 99999 (Sx I2 J2 b c) 0 (iW (0 + 1)) := q4
      have e3 : f_X7_arrange_L17 99999 (Sx I2 J2 b c) 0 (iW (0 + 1)) = f_X7_arrange_L17 99998 (Sx I3 J3 b c) 0 (iW (1 + 1)) := r4
      have e4 : f_X7_arrange_L17 99998 (Sx I3 J3 b c) 0 (iW (1 + 1)) = some (Sx (uI I3 0 15 1) J3 b c, xv) := by
        show f_X7_arrange_b17 (f_X7_arrange_L17 99997) (Sx I3 J3 b c) 0 (iW (1 + 1)) = _
        unfold f_X7_arrange_b17
        rw [if_pos (show (2 : Int32) ≤ iW (1 + 1) by decide), li1, pZ0_15 (Or.inr rfl)]
      unfold f_X7_arrange
      rw [gI0_15, hq, if_pos (show iW 0 = 0 from rfl), gR0_9, rc16, p1, c_V, e2, e3, e4]
    · rw [u_obj (by omega), r2 a (by omega) (by omega)]
    · rw [u_obj ha', r2 a (by omega) (by omega), q2 a (by omega) (by omega), p4 a (by omega)]
    · rw [u_ne hk, r2 0 (by omega) (by omega), q2 0 (by omega) (by omega), p4 0 (by omega)]
  · have h1 : I 0 15 = 1 := by omega
    obtain ⟨z1, z2⟩ := hz h1
    refine ⟨I, J, ?_, z1, z2, h1, fun _ _ _ => rfl, fun _ _ => rfl, fun _ _ _ => rfl⟩
    unfold f_X7_arrange
    rw [gI0_15, h1, if_neg (show ¬ iW 1 = 0 by decide)]
end ArrF

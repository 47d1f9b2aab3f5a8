/-! ===== the engine's Filling ===== -/
section FillE
variable {J : CF} {b : Nat} {c : Bool}
/-- tracks that take part: places 0 to count - 1 -/
def fmay (n : Int) (k : Int) : Prop := 0 ≤ k ∧ k < n
def FOK (I : CF) : Prop := (0 ≤ I 36 4 ∧ I 36 4 ≤ 64) ∧ ∀ i, 0 ≤ i → i < I 36 4 → (0 < I 38 i ∧ I 38 i ≤ 999) ∧ (0 ≤ I 39 i ∧ I 39 i ≤ 1000000) ∧ (0 ≤ I 40 i ∧ I 40 i ≤ 1000000)
theorem e_startAnew {I : CF} : f_X2_startAnew (Sx I J b c) 36 = some (Sx (uI I 36 4 0) J b c, xv) := by
  simp only [f_X2_startAnew, ↓rc36, ↓gI36_4, ↓pI36_4, ↓gR36_0, ↓gR36_1, ↓gR36_2, ↓gR36_3, ↓aI37, ↓sI37, ↓ln37, ↓aI38, ↓sI38, ↓ln38, ↓aI39, ↓sI39, ↓ln39, ↓aI40, ↓sI40, ↓ln40, li0, li1, li2, li3, li4, li5, li6, li7, li8, li9, li10, li11, li12, li13, li14, li15, li16, li17, li18, li19, li20, li21, li22, li23, li24, li25, li26, li27, li28, li29, li30, li31, li32, li33, li34, li35, li36, li37, li38, li39, li40, li41, li42, li44, li48, li57, li63, li64, li65, li97, li99, li100, li101, li102, li104, li105, li106, li109, li114, li120, li128, li130, li300, li514, li999, li1000, li8192, li9999, li65536, li1000000, li1000001, li1000002, li1000003, li1000004, li1000005, li1000006, li1000007, li1000008, li1000009, li1000010, li1000011, li1000012, li1000013, li1000014, li1000015, li1000016, li1000017, li1000018, li1000019, li2147483647, lj0, lj1, W_add, W_sub, W_mul, W_neg, V_add, V_sub, V_mul, V_neg, W_ite]
theorem e_admit {I : CF} {t w r : Int} (h0 : 0 ≤ I 36 4) (h1 : I 36 4 < 64) (hw : 0 < w) (hw1 : w ≤ 2147483647) (hr0 : -2147483648 ≤ r) (hr : r ≤ 2147483647) : ∃ I', f_X2_admit (Sx I J b c) 36 (iW t) (iW w) (iW r) = some (Sx I' J b c, xv) ∧ I' 36 4 = I 36 4 + 1 ∧ I' 37 = up1 (I 37) (I 36 4) t ∧ I' 38 = up1 (I 38) (I 36 4) w ∧ I' 39 = up1 (I 39) (I 36 4) (if 0 < r then r else 0) ∧ I' 40 = up1 (I 40) (I 36 4) 0 ∧ ∀ a, a < 36 ∨ 40 < a → I' a = I a := by
  refine ⟨uI (uI (uI (uI (uI I 37 (I 36 4) t) 38 (I 36 4) w) 39 (I 36 4) (if 0 < r then r else 0)) 40 (I 36 4) 0) 36 4 (I 36 4 + 1), ?_, ?_⟩
  · have n1 : ¬ (64 ≤ I 36 4) := by omega
    have n2 : ¬ (w ≤ 0) := by omega
    simp (disch := first | assumption | omega) only [f_X2_admit, f_X2_admit_b67, ↓rc36, ↓gI36_4, ↓pI36_4, ↓gR36_0, ↓gR36_1, ↓gR36_2, ↓gR36_3, ↓aI37, ↓sI37, ↓ln37, ↓aI38, ↓sI38, ↓ln38, ↓aI39, ↓sI39, ↓ln39, ↓aI40, ↓sI40, ↓ln40, ↓c_I, ↓c_J, ↓c_Q, ↓c_V, ↓c_It, ↓c_Jt, ↓c_Vt, ↓k_I, ↓k_J, ↓n_I, ↓n_V, li0, li1, li2, li3, li4, li5, li6, li7, li8, li9, li10, li11, li12, li13, li14, li15, li16, li17, li18, li19, li20, li21, li22, li23, li24, li25, li26, li27, li28, li29, li30, li31, li32, li33, li34, li35, li36, li37, li38, li39, li40, li41, li42, li44, li48, li57, li63, li64, li65, li97, li99, li100, li101, li102, li104, li105, li106, li109, li114, li120, li128, li130, li300, li514, li999, li1000, li8192, li9999, li65536, li1000000, li1000001, li1000002, li1000003, li1000004, li1000005, li1000006, li1000007, li1000008, li1000009, li1000010, li1000011, li1000012, li1000013, li1000014, li1000015, li1000016, li1000017, li1000018, li1000019, li2147483647, lj0, lj1, W_add, W_sub, W_mul, W_neg, V_add, V_sub, V_mul, V_neg, W_ite, W_le, W_lt, W_inj, V_le, V_lt, V_inj, W_V, V_W, lgc_ge, lgc_gt, lgc_le, lgc_lt, lgc_eq, ge_iff_le, gt_iff_lt, u_obj, u_eq, n1, n2, if_false, if_neg, not_false_eq_true, ↓reduceIte]
  · refine ⟨u_eq, ?_, ?_, ?_, ?_, ?_⟩
    · funext j
      simp only [uI, up1, Int.reduceEq, false_and, true_and, if_false]
    · funext j
      simp only [uI, up1, Int.reduceEq, false_and, true_and, if_false]
    · funext j
      simp only [uI, up1, Int.reduceEq, false_and, true_and, if_false]
    · funext j
      simp only [uI, up1, Int.reduceEq, false_and, true_and, if_false]
    · intro a ha
      simp (disch := omega) only [u_obj]
theorem e_isAhead {I : CF} (hF : FOK I) {x y : Int} (x0 : 0 ≤ x) (x1 : x < I 36 4) (y0 : 0 ≤ y) (y1 : y < I 36 4) : f_X2_isAhead (Sx I J b c) 36 (iW x) (iW y) = some (Sx I J b c, xi (iW (if (I 40 x + 1) * I 38 y < (I 40 y + 1) * I 38 x then 1 else 0))) := by
  obtain ⟨⟨h0, h1⟩, hi⟩ := hF
  obtain ⟨a1, a2, a3⟩ := hi x x0 x1
  obtain ⟨b1, b2, b3⟩ := hi y y0 y1
  have m1 := mul_bd (a := I 40 x + 1) (b := I 38 y) (A := 1000001) (B := 999) (by omega) (by omega) (by omega) (by omega)
  have m2 := mul_bd (a := I 40 y + 1) (b := I 38 x) (A := 1000001) (B := 999) (by omega) (by omega) (by omega) (by omega)
  simp (disch := first | assumption | omega) only [f_X2_isAhead, f_X2_isAhead_b43, ↓rc36, ↓gI36_4, ↓pI36_4, ↓gR36_0, ↓gR36_1, ↓gR36_2, ↓gR36_3, ↓aI37, ↓sI37, ↓ln37, ↓aI38, ↓sI38, ↓ln38, ↓aI39, ↓sI39, ↓ln39, ↓aI40, ↓sI40, ↓ln40, ↓c_I, ↓c_J, ↓c_Q, ↓c_V, ↓c_It, ↓c_Jt, ↓c_Vt, ↓k_I, ↓k_J, ↓n_I, ↓n_V, li0, li1, li2, li3, li4, li5, li6, li7, li8, li9, li10, li11, li12, li13, li14, li15, li16, li17, li18, li19, li20, li21, li22, li23, li24, li25, li26, li27, li28, li29, li30, li31, li32, li33, li34, li35, li36, li37, li38, li39, li40, li41, li42, li44, li48, li57, li63, li64, li65, li97, li99, li100, li101, li102, li104, li105, li106, li109, li114, li120, li128, li130, li300, li514, li999, li1000, li8192, li9999, li65536, li1000000, li1000001, li1000002, li1000003, li1000004, li1000005, li1000006, li1000007, li1000008, li1000009, li1000010, li1000011, li1000012, li1000013, li1000014, li1000015, li1000016, li1000017, li1000018, li1000019, li2147483647, lj0, lj1, W_add, W_sub, W_mul, W_neg, V_add, V_sub, V_mul, V_neg, W_ite, W_le, W_lt, W_inj, V_le, V_lt, V_inj, W_V, V_W, lgc_ge, lgc_gt, lgc_le, lgc_lt, lgc_eq, ge_iff_le, gt_iff_lt]
  by_cases q : (I 40 y + 1) * I 38 x ≤ (I 40 x + 1) * I 38 y
  · rw [if_pos q, if_neg (by omega), r_Z (Or.inl rfl)]
  · rw [if_neg q, if_pos (by omega), r_Z (Or.inr rfl)]
theorem e_nextPlace_L {I : CF} (hF : FOK I) : ∀ (n : Nat) (k p : Int), I 36 4 - k < n → 0 ≤ k → k ≤ I 36 4 → (p = -1 ∨ 0 ≤ p ∧ p < k) → PB (av (fmay (I 36 4)) (I 39) (I 40)) (I 38) (I 40) (-1) k p →
    ∃ p', f_X2_nextPlace_L4 n (Sx I J b c) 36 (iW p) (iW k) = some (Sx I J b c, xi (iW p')) ∧ PB (av (fmay (I 36 4)) (I 39) (I 40)) (I 38) (I 40) (-1) (I 36 4) p' := by
  have hF' := hF
  obtain ⟨⟨h0, h1⟩, hi⟩ := hF'
  intro n
  induction n with
  | zero => intro k p a1 a2 a3; omega
  | succ n ih =>
    intro k p a1 a2 a3 hp hb
    show ∃ p', f_X2_nextPlace_b4 (f_X2_nextPlace_L4 n) (Sx I J b c) 36 (iW p) (iW k) = _ ∧ _
    by_cases hk : k = I 36 4
    · refine ⟨p, ?_, hk ▸ hb⟩
      subst hk
      simp (disch := first | assumption | omega) only [f_X2_nextPlace_b4, ↓rc36, ↓gI36_4, ↓pI36_4, ↓gR36_0, ↓gR36_1, ↓gR36_2, ↓gR36_3, ↓aI37, ↓sI37, ↓ln37, ↓aI38, ↓sI38, ↓ln38, ↓aI39, ↓sI39, ↓ln39, ↓aI40, ↓sI40, ↓ln40, ↓c_I, ↓c_J, ↓c_Q, ↓c_V, ↓c_It, ↓c_Jt, ↓c_Vt, ↓k_I, ↓k_J, ↓n_I, ↓n_V, li0, li1, li2, li3, li4, li5, li6, li7, li8, li9, li10, li11, li12, li13, li14, li15, li16, li17, li18, li19, li20, li21, li22, li23, li24, li25, li26, li27, li28, li29, li30, li31, li32, li33, li34, li35, li36, li37, li38, li39, li40, li41, li42, li44, li48, li57, li63, li64, li65, li97, li99, li100, li101, li102, li104, li105, li106, li109, li114, li120, li128, li130, li300, li514, li999, li1000, li8192, li9999, li65536, li1000000, li1000001, li1000002, li1000003, li1000004, li1000005, li1000006, li1000007, li1000008, li1000009, li1000010, li1000011, li1000012, li1000013, li1000014, li1000015, li1000016, li1000017, li1000018, li1000019, li2147483647, lj0, lj1, W_add, W_sub, W_mul, W_neg, V_add, V_sub, V_mul, V_neg, W_ite, W_le, W_lt, W_inj, V_le, V_lt, V_inj, W_V, V_W, lgc_ge, lgc_gt, lgc_le, lgc_lt, lgc_eq, ge_iff_le, gt_iff_lt, Int.le_refl, ↓reduceIte]
    · obtain ⟨c1, c2, c3⟩ := hi k a2 (by omega)
      have n1 : ¬ (I 36 4 ≤ k) := by omega
      by_cases hav : I 39 k ≤ I 40 k
      · simp (disch := first | assumption | omega) only [f_X2_nextPlace_b4, f_X2_nextPlace_b42, ↓rc36, ↓gI36_4, ↓pI36_4, ↓gR36_0, ↓gR36_1, ↓gR36_2, ↓gR36_3, ↓aI37, ↓sI37, ↓ln37, ↓aI38, ↓sI38, ↓ln38, ↓aI39, ↓sI39, ↓ln39, ↓aI40, ↓sI40, ↓ln40, ↓c_I, ↓c_J, ↓c_Q, ↓c_V, ↓c_It, ↓c_Jt, ↓c_Vt, ↓k_I, ↓k_J, ↓n_I, ↓n_V, li0, li1, li2, li3, li4, li5, li6, li7, li8, li9, li10, li11, li12, li13, li14, li15, li16, li17, li18, li19, li20, li21, li22, li23, li24, li25, li26, li27, li28, li29, li30, li31, li32, li33, li34, li35, li36, li37, li38, li39, li40, li41, li42, li44, li48, li57, li63, li64, li65, li97, li99, li100, li101, li102, li104, li105, li106, li109, li114, li120, li128, li130, li300, li514, li999, li1000, li8192, li9999, li65536, li1000000, li1000001, li1000002, li1000003, li1000004, li1000005, li1000006, li1000007, li1000008, li1000009, li1000010, li1000011, li1000012, li1000013, li1000014, li1000015, li1000016, li1000017, li1000018, li1000019, li2147483647, lj0, lj1, W_add, W_sub, W_mul, W_neg, V_add, V_sub, V_mul, V_neg, W_ite, W_le, W_lt, W_inj, V_le, V_lt, V_inj, W_V, V_W, lgc_ge, lgc_gt, lgc_le, lgc_lt, lgc_eq, ge_iff_le, gt_iff_lt, n1, hav, ↓reduceIte]
        exact ih (k + 1) p (by omega) (by omega) (by omega) (by omega) (hb.skip (fun q => by have := q.2; omega))
      · have hok : av (fmay (I 36 4)) (I 39) (I 40) k := ⟨⟨a2, by omega⟩, by omega⟩
        by_cases hpn : p < 0
        · have : p = -1 := by omega
          subst this
          simp (disch := first | assumption | omega) only [f_X2_nextPlace_b4, f_X2_nextPlace_b42, f_X2_nextPlace_b40, ↓rc36, ↓gI36_4, ↓pI36_4, ↓gR36_0, ↓gR36_1, ↓gR36_2, ↓gR36_3, ↓aI37, ↓sI37, ↓ln37, ↓aI38, ↓sI38, ↓ln38, ↓aI39, ↓sI39, ↓ln39, ↓aI40, ↓sI40, ↓ln40, ↓c_I, ↓c_J, ↓c_Q, ↓c_V, ↓c_It, ↓c_Jt, ↓c_Vt, ↓k_I, ↓k_J, ↓n_I, ↓n_V, li0, li1, li2, li3, li4, li5, li6, li7, li8, li9, li10, li11, li12, li13, li14, li15, li16, li17, li18, li19, li20, li21, li22, li23, li24, li25, li26, li27, li28, li29, li30, li31, li32, li33, li34, li35, li36, li37, li38, li39, li40, li41, li42, li44, li48, li57, li63, li64, li65, li97, li99, li100, li101, li102, li104, li105, li106, li109, li114, li120, li128, li130, li300, li514, li999, li1000, li8192, li9999, li65536, li1000000, li1000001, li1000002, li1000003, li1000004, li1000005, li1000006, li1000007, li1000008, li1000009, li1000010, li1000011, li1000012, li1000013, li1000014, li1000015, li1000016, li1000017, li1000018, li1000019, li2147483647, lj0, lj1, W_add, W_sub, W_mul, W_neg, V_add, V_sub, V_mul, V_neg, W_ite, W_le, W_lt, W_inj, V_le, V_lt, V_inj, W_V, V_W, lgc_ge, lgc_gt, lgc_le, lgc_lt, lgc_eq, ge_iff_le, gt_iff_lt, n1, hav, hpn, ↓reduceIte]
          exact ih (k + 1) k (by omega) (by omega) (by omega) (by omega) (hb.first hok (by omega))
        · have e1 := e_isAhead (J := J) (b := b) (c := c) hF (x := k) (y := p) a2 (by omega) (by omega) (by omega)
          simp (disch := first | assumption | omega) only [f_X2_nextPlace_b4, f_X2_nextPlace_b42, f_X2_nextPlace_b40, ↓rc36, ↓gI36_4, ↓pI36_4, ↓gR36_0, ↓gR36_1, ↓gR36_2, ↓gR36_3, ↓aI37, ↓sI37, ↓ln37, ↓aI38, ↓sI38, ↓ln38, ↓aI39, ↓sI39, ↓ln39, ↓aI40, ↓sI40, ↓ln40, ↓c_I, ↓c_J, ↓c_Q, ↓c_V, ↓c_It, ↓c_Jt, ↓c_Vt, ↓k_I, ↓k_J, ↓n_I, ↓n_V, li0, li1, li2, li3, li4, li5, li6, li7, li8, li9, li10, li11, li12, li13, li14, li15, li16, li17, li18, li19, li20, li21, li22, li23, li24, li25, li26, li27, li28, li29, li30, li31, li32, li33, li34, li35, li36, li37, li38, li39, li40, li41, li42, li44, li48, li57, li63, li64, li65, li97, li99, li100, li101, li102, li104, li105, li106, li109, li114, li120, li128, li130, li300, li514, li999, li1000, li8192, li9999, li65536, li1000000, li1000001, li1000002, li1000003, li1000004, li1000005, li1000006, li1000007, li1000008, li1000009, li1000010, li1000011, li1000012, li1000013, li1000014, li1000015, li1000016, li1000017, li1000018, li1000019, li2147483647, lj0, lj1, W_add, W_sub, W_mul, W_neg, V_add, V_sub, V_mul, V_neg, W_ite, W_le, W_lt, W_inj, V_le, V_lt, V_inj, W_V, V_W, lgc_ge, lgc_gt, lgc_le, lgc_lt, lgc_eq, ge_iff_le, gt_iff_lt, n1, hav, hpn, e1, ↓reduceIte]
          by_cases q : (I 40 k + 1) * I 38 p < (I 40 p + 1) * I 38 k
          · simp only [q, ↓reduceIte, Int.reduceEq]
            exact ih (k + 1) k (by omega) (by omega) (by omega) (by omega) (hb.take (by omega) hok (by omega) (fun j hj => (hi j hj.1.1 hj.1.2).1.1) q)
          · simp only [q, ↓reduceIte]
            exact ih (k + 1) p (by omega) (by omega) (by omega) (by omega) (hb.keep (by omega) hok q)
def mis (I : CF) (L i : Int) : Int := if 0 < (if I 38 i * L < I 39 i then I 38 i * L else I 39 i) - I 40 i then (if I 38 i * L < I 39 i then I 38 i * L else I 39 i) - I 40 i else 0
theorem mis_bd {I : CF} (hF : FOK I) {i L : Int} (i0 : 0 ≤ i) (i1 : i < I 36 4) (l0 : 0 ≤ L) (l1 : L ≤ 20000) : 0 ≤ mis I L i ∧ mis I L i ≤ 1000000 := by
  obtain ⟨a1, a2, a3⟩ := hF.2 i i0 i1
  unfold mis
  repeat' split
  all_goals omega
theorem e_missing {I : CF} (hF : FOK I) {i L : Int} (i0 : 0 ≤ i) (i1 : i < I 36 4) (l0 : 0 ≤ L) (l1 : L ≤ 20000) : f_X2_missingPixels (Sx I J b c) 36 (iW i) (iW L) = some (Sx I J b c, xi (iW (mis I L i))) := by
  have hF' := hF
  obtain ⟨⟨h0, h1⟩, hi⟩ := hF'
  obtain ⟨a1, a2, a3⟩ := hi i i0 i1
  have m1 := mul_bd (a := I 38 i) (b := L) (A := 999) (B := 20000) (by omega) (by omega) (by omega) (by omega)
  have m2 : -2147483648 ≤ (if I 38 i * L < I 39 i then I 38 i * L else I 39 i) - I 40 i ∧ (if I 38 i * L < I 39 i then I 38 i * L else I 39 i) - I 40 i ≤ 2147483647 := by
    split <;> omega
  obtain ⟨m3, m4⟩ := m2
  unfold mis
  simp (disch := first | assumption | omega) only [f_X2_missingPixels, ↓rc36, ↓gI36_4, ↓pI36_4, ↓gR36_0, ↓gR36_1, ↓gR36_2, ↓gR36_3, ↓aI37, ↓sI37, ↓ln37, ↓aI38, ↓sI38, ↓ln38, ↓aI39, ↓sI39, ↓ln39, ↓aI40, ↓sI40, ↓ln40, ↓c_I, ↓c_J, ↓c_Q, ↓c_V, ↓c_It, ↓c_Jt, ↓c_Vt, ↓k_I, ↓k_J, ↓n_I, ↓n_V, li0, li1, li2, li3, li4, li5, li6, li7, li8, li9, li10, li11, li12, li13, li14, li15, li16, li17, li18, li19, li20, li21, li22, li23, li24, li25, li26, li27, li28, li29, li30, li31, li32, li33, li34, li35, li36, li37, li38, li39, li40, li41, li42, li44, li48, li57, li63, li64, li65, li97, li99, li100, li101, li102, li104, li105, li106, li109, li114, li120, li128, li130, li300, li514, li999, li1000, li8192, li9999, li65536, li1000000, li1000001, li1000002, li1000003, li1000004, li1000005, li1000006, li1000007, li1000008, li1000009, li1000010, li1000011, li1000012, li1000013, li1000014, li1000015, li1000016, li1000017, li1000018, li1000019, li2147483647, lj0, lj1, W_add, W_sub, W_mul, W_neg, V_add, V_sub, V_mul, V_neg, W_ite, W_le, W_lt, W_inj, V_le, V_lt, V_inj, W_V, V_W, lgc_ge, lgc_gt, lgc_le, lgc_lt, lgc_eq, ge_iff_le, gt_iff_lt]
theorem e_cost_L {I : CF} (hF : FOK I) {L : Int} (l0 : 0 ≤ L) (l1 : L ≤ 20000) : ∀ (n : Nat) (k s : Int), I 36 4 - k < n → 0 ≤ k → k ≤ I 36 4 → s = sz (mis I L) k → f_X2_costOfLevel_L5 n (Sx I J b c) 36 (iW L) (jV s) (iW k) = some (Sx I J b c, xj (jV (sz (mis I L) (I 36 4)))) := by
  have hF' := hF
  obtain ⟨⟨h0, h1⟩, hi⟩ := hF'
  intro n
  induction n with
  | zero => intro k p a1 a2 a3; omega
  | succ n ih =>
    intro k s a1 a2 a3 hs
    show f_X2_costOfLevel_b5 (f_X2_costOfLevel_L5 n) (Sx I J b c) 36 (iW L) (jV s) (iW k) = _
    by_cases hk : k = I 36 4
    · subst hk
      simp (disch := first | assumption | omega) only [f_X2_costOfLevel_b5, ↓rc36, ↓gI36_4, ↓pI36_4, ↓gR36_0, ↓gR36_1, ↓gR36_2, ↓gR36_3, ↓aI37, ↓sI37, ↓ln37, ↓aI38, ↓sI38, ↓ln38, ↓aI39, ↓sI39, ↓ln39, ↓aI40, ↓sI40, ↓ln40, ↓c_I, ↓c_J, ↓c_Q, ↓c_V, ↓c_It, ↓c_Jt, ↓c_Vt, ↓k_I, ↓k_J, ↓n_I, ↓n_V, li0, li1, li2, li3, li4, li5, li6, li7, li8, li9, li10, li11, li12, li13, li14, li15, li16, li17, li18, li19, li20, li21, li22, li23, li24, li25, li26, li27, li28, li29, li30, li31, li32, li33, li34, li35, li36, li37, li38, li39, li40, li41, li42, li44, li48, li57, li63, li64, li65, li97, li99, li100, li101, li102, li104, li105, li106, li109, li114, li120, li128, li130, li300, li514, li999, li1000, li8192, li9999, li65536, li1000000, li1000001, li1000002, li1000003, li1000004, li1000005, li1000006, li1000007, li1000008, li1000009, li1000010, li1000011, li1000012, li1000013, li1000014, li1000015, li1000016, li1000017, li1000018, li1000019, li2147483647, lj0, lj1, W_add, W_sub, W_mul, W_neg, V_add, V_sub, V_mul, V_neg, W_ite, W_le, W_lt, W_inj, V_le, V_lt, V_inj, W_V, V_W, lgc_ge, lgc_gt, lgc_le, lgc_lt, lgc_eq, ge_iff_le, gt_iff_lt, Int.le_refl, ↓reduceIte, hs]
    · have n1 : ¬ (I 36 4 ≤ k) := by omega
      have e1 := e_missing (J := J) (b := b) (c := c) hF (i := k) (L := L) a2 (by omega) l0 l1
      obtain ⟨b0, b1⟩ := mis_bd hF (i := k) (L := L) a2 (by omega) l0 l1
      simp (disch := first | assumption | omega) only [f_X2_costOfLevel_b5, ↓rc36, ↓gI36_4, ↓pI36_4, ↓gR36_0, ↓gR36_1, ↓gR36_2, ↓gR36_3, ↓aI37, ↓sI37, ↓ln37, ↓aI38, ↓sI38, ↓ln38, ↓aI39, ↓sI39, ↓ln39, ↓aI40, ↓sI40, ↓ln40, ↓c_I, ↓c_J, ↓c_Q, ↓c_V, ↓c_It, ↓c_Jt, ↓c_Vt, ↓k_I, ↓k_J, ↓n_I, ↓n_V, li0, li1, li2, li3, li4, li5, li6, li7, li8, li9, li10, li11, li12, li13, li14, li15, li16, li17, li18, li19, li20, li21, li22, li23, li24, li25, li26, li27, li28, li29, li30, li31, li32, li33, li34, li35, li36, li37, li38, li39, li40, li41, li42, li44, li48, li57, li63, li64, li65, li97, li99, li100, li101, li102, li104, li105, li106, li109, li114, li120, li128, li130, li300, li514, li999, li1000, li8192, li9999, li65536, li1000000, li1000001, li1000002, li1000003, li1000004, li1000005, li1000006, li1000007, li1000008, li1000009, li1000010, li1000011, li1000012, li1000013, li1000014, li1000015, li1000016, li1000017, li1000018, li1000019, li2147483647, lj0, lj1, W_add, W_sub, W_mul, W_neg, V_add, V_sub, V_mul, V_neg, W_ite, W_le, W_lt, W_inj, V_le, V_lt, V_inj, W_V, V_W, lgc_ge, lgc_gt, lgc_le, lgc_lt, lgc_eq, ge_iff_le, gt_iff_lt, n1, e1, ↓reduceIte]
      exact ih (k + 1) (s + mis I L k) (by omega) (by omega) (by omega) (by rw [sz_s a2, hs])
theorem e_cost {I : CF} (hF : FOK I) {L : Int} (l0 : 0 ≤ L) (l1 : L ≤ 20000) : f_X2_costOfLevel (Sx I J b c) 36 (iW L) = some (Sx I J b c, xj (jV (sz (mis I L) (I 36 4)))) := by
  unfold f_X2_costOfLevel
  have hF' := hF
  obtain ⟨⟨h0, h1⟩, hi⟩ := hF'
  exact e_cost_L hF l0 l1 FU 0 0 (by unfold FU; omega) (by omega) h0 (sz_0 (by omega)).symm
theorem sz_mis {I : CF} (hF : FOK I) {L : Int} (l0 : 0 ≤ L) (l1 : L ≤ 20000) : 0 ≤ sz (mis I L) (I 36 4) ∧ sz (mis I L) (I 36 4) ≤ 64000000 := by
  refine ⟨sz_nonneg fun i a b => (mis_bd hF a b l0 l1).1, ?_⟩
  have h := sN_le (f := mis I L) (M := 1000000) (n := (I 36 4).toNat) (fun i a b => (mis_bd hF a (by omega) l0 l1).2)
  have := hF.1
  unfold sz
  omega
/-- the second loop of pourLevels -/
theorem e_pourLevels_b {L : Int} (l0 : 0 ≤ L) (l1 : L ≤ 20000) {I0 : CF} (hF0 : FOK I0) : ∀ (n : Nat) (k s : Int) (I : CF), I0 36 4 - k < n → 0 ≤ k → k ≤ I0 36 4 → s = sz (mis I0 L) k → (∀ a, a ≠ 40 → I a = I0 a) → (∀ i, I 40 i = if 0 ≤ i ∧ i < k then I0 40 i + mis I0 L i else I0 40 i) →
    ∃ I', f_X2_pourLevels_L39 n (Sx I J b c) 36 (iW L) (iW s) (iW k) = some (Sx I' J b c, xi (iW (sz (mis I0 L) (I0 36 4)))) ∧ (∀ a, a ≠ 40 → I' a = I0 a) ∧ ∀ i, I' 40 i = if 0 ≤ i ∧ i < I0 36 4 then I0 40 i + mis I0 L i else I0 40 i := by
  have hF' := hF0
  obtain ⟨⟨h0, h1⟩, hi⟩ := hF'
  intro n
  induction n with
  | zero => intro k p I a1 a2 a3; omega
  | succ n ih =>
    intro k s I a1 a2 a3 hs ho hv
    show ∃ I', f_X2_pourLevels_b39 (f_X2_pourLevels_L39 n) (Sx I J b c) 36 (iW L) (iW s) (iW k) = _ ∧ _
    have e36 : I 36 = I0 36 := ho 36 (by decide)
    have e38 : I 38 = I0 38 := ho 38 (by decide)
    have e39 : I 39 = I0 39 := ho 39 (by decide)
    by_cases hk : k = I0 36 4
    · refine ⟨I, ?_, ho, hk ▸ hv⟩
      subst hk
      simp (disch := first | assumption | omega) only [f_X2_pourLevels_b39, ↓rc36, ↓gI36_4, ↓pI36_4, ↓gR36_0, ↓gR36_1, ↓gR36_2, ↓gR36_3, ↓aI37, ↓sI37, ↓ln37, ↓aI38, ↓sI38, ↓ln38, ↓aI39, ↓sI39, ↓ln39, ↓aI40, ↓sI40, ↓ln40, ↓c_I, ↓c_J, ↓c_Q, ↓c_V, ↓c_It, ↓c_Jt, ↓c_Vt, ↓k_I, ↓k_J, ↓n_I, ↓n_V, li0, li1, li2, li3, li4, li5, li6, li7, li8, li9, li10, li11, li12, li13, li14, li15, li16, li17, li18, li19, li20, li21, li22, li23, li24, li25, li26, li27, li28, li29, li30, li31, li32, li33, li34, li35, li36, li37, li38, li39, li40, li41, li42, li44, li48, li57, li63, li64, li65, li97, li99, li100, li101, li102, li104, li105, li106, li109, li114, li120, li128, li130, li300, li514, li999, li1000, li8192, li9999, li65536, li1000000, li1000001, li1000002, li1000003, li1000004, li1000005, li1000006, li1000007, li1000008, li1000009, li1000010, li1000011, li1000012, li1000013, li1000014, li1000015, li1000016, li1000017, li1000018, li1000019, li2147483647, lj0, lj1, W_add, W_sub, W_mul, W_neg, V_add, V_sub, V_mul, V_neg, W_ite, W_le, W_lt, W_inj, V_le, V_lt, V_inj, W_V, V_W, lgc_ge, lgc_gt, lgc_le, lgc_lt, lgc_eq, ge_iff_le, gt_iff_lt, e36, Int.le_refl, ↓reduceIte, hs]
    · have n1 : ¬ (I0 36 4 ≤ k) := by omega
      have hvk : I 40 k = I0 40 k := by rw [hv, if_neg (by omega)]
      have em : mis I L k = mis I0 L k := by
        unfold mis
        rw [e38, e39, hvk]
      have hF : FOK I := by
        refine ⟨by rw [e36]; exact ⟨h0, h1⟩, fun i i0 i1 => ?_⟩
        rw [e36] at i1
        have := hi i i0 i1
        rw [e38, e39, hv]
        refine ⟨this.1, this.2.1, ?_⟩
        split
        · have h5 := mis_bd hF0 i0 i1 l0 l1
          have h6 : I0 40 i + mis I0 L i ≤ 1000000 := by
            unfold mis
            repeat' split
            all_goals omega
          omega
        · exact this.2.2
      have e1 := e_missing (J := J) (b := b) (c := c) hF (i := k) (L := L) a2 (by rw [e36]; omega) l0 l1
      rw [em] at e1
      simp (disch := first | assumption | omega) only [f_X2_pourLevels_b39, ↓rc36, ↓gI36_4, ↓pI36_4, ↓gR36_0, ↓gR36_1, ↓gR36_2, ↓gR36_3, ↓aI37, ↓sI37, ↓ln37, ↓aI38, ↓sI38, ↓ln38, ↓aI39, ↓sI39, ↓ln39, ↓aI40, ↓sI40, ↓ln40, ↓c_I, ↓c_J, ↓c_Q, ↓c_V, ↓c_It, ↓c_Jt, ↓c_Vt, ↓k_I, ↓k_J, ↓n_I, ↓n_V, li0, li1, li2, li3, li4, li5, li6, li7, li8, li9, li10, li11, li12, li13, li14, li15, li16, li17, li18, li19, li20, li21, li22, li23, li24, li25, li26, li27, li28, li29, li30, li31, li32, li33, li34, li35, li36, li37, li38, li39, li40, li41, li42, li44, li48, li57, li63, li64, li65, li97, li99, li100, li101, li102, li104, li105, li106, li109, li114, li120, li128, li130, li300, li514, li999, li1000, li8192, li9999, li65536, li1000000, li1000001, li1000002, li1000003, li1000004, li1000005, li1000006, li1000007, li1000008, li1000009, li1000010, li1000011, li1000012, li1000013, li1000014, li1000015, li1000016, li1000017, li1000018, li1000019, li2147483647, lj0, lj1, W_add, W_sub, W_mul, W_neg, V_add, V_sub, V_mul, V_neg, W_ite, W_le, W_lt, W_inj, V_le, V_lt, V_inj, W_V, V_W, lgc_ge, lgc_gt, lgc_le, lgc_lt, lgc_eq, ge_iff_le, gt_iff_lt, e36, n1, e1, ↓reduceIte]
      refine ih (k + 1) (s + mis I0 L k) (uI I 40 k (I 40 k + mis I0 L k)) (by omega) (by omega) (by omega) (by rw [sz_s a2, hs]) (fun a ha => by rw [u_obj ha]; exact ho a ha) (fun i => ?_)
      rw [u_at]
      by_cases q : i = k
      · subst q
        rw [if_pos rfl, if_pos (by omega), hvk]
      · rw [if_neg q, hv]
        by_cases q2 : 0 ≤ i ∧ i < k
        · rw [if_pos q2, if_pos (by omega)]
        · rw [if_neg q2, if_neg (by omega)]
theorem td2 {s : Int} (h : 0 ≤ s) : s.tdiv 2 = s / 2 := Int.tdiv_eq_ediv_of_nonneg h
theorem e_pourLevels_L {I : CF} (hF : FOK I) {p : Int} (p0 : -2000000000 ≤ p) (p1 : p ≤ 100000) : ∀ (n : Nat) (L s : Int), s < n → 0 ≤ s → 0 ≤ L → L + 2 * s ≤ 16384 → (sz (mis I L) (I 36 4) ≤ p ∨ sz (mis I L) (I 36 4) = 0) →
    ∃ L' I', f_X2_pourLevels_L6 n (Sx I J b c) 36 (iW p) (iW L) (iW s) = some (Sx I' J b c, xi (iW (sz (mis I L') (I 36 4)))) ∧ 0 ≤ L' ∧ L' ≤ 16384 ∧ (sz (mis I L') (I 36 4) ≤ p ∨ sz (mis I L') (I 36 4) = 0) ∧ (∀ a, a ≠ 40 → I' a = I a) ∧ ∀ i, I' 40 i = if 0 ≤ i ∧ i < I 36 4 then I 40 i + mis I L' i else I 40 i := by
  have hF' := hF
  obtain ⟨⟨h0, h1⟩, hi⟩ := hF'
  intro n
  induction n with
  | zero => intro L s a1 a2; omega
  | succ n ih =>
    intro L s a1 a2 a3 a4 hc
    show ∃ L' I', f_X2_pourLevels_b6 (f_X2_pourLevels_L6 n) (Sx I J b c) 36 (iW p) (iW L) (iW s) = _ ∧ _
    by_cases hs : s ≤ 0
    · obtain ⟨I', e1, e2, e3⟩ := e_pourLevels_b (J := J) (b := b) (c := c) (L := L) a3 (by omega) hF FU 0 0 I (by unfold FU; omega) (by omega) h0 (sz_0 (by omega)).symm (fun _ _ => rfl) (fun i => by rw [if_neg (by omega)])
      refine ⟨L, I', ?_, a3, by omega, hc, e2, e3⟩
      simp (disch := first | assumption | omega) only [f_X2_pourLevels_b6, ↓rc36, ↓gI36_4, ↓pI36_4, ↓gR36_0, ↓gR36_1, ↓gR36_2, ↓gR36_3, ↓aI37, ↓sI37, ↓ln37, ↓aI38, ↓sI38, ↓ln38, ↓aI39, ↓sI39, ↓ln39, ↓aI40, ↓sI40, ↓ln40, ↓c_I, ↓c_J, ↓c_Q, ↓c_V, ↓c_It, ↓c_Jt, ↓c_Vt, ↓k_I, ↓k_J, ↓n_I, ↓n_V, li0, li1, li2, li3, li4, li5, li6, li7, li8, li9, li10, li11, li12, li13, li14, li15, li16, li17, li18, li19, li20, li21, li22, li23, li24, li25, li26, li27, li28, li29, li30, li31, li32, li33, li34, li35, li36, li37, li38, li39, li40, li41, li42, li44, li48, li57, li63, li64, li65, li97, li99, li100, li101, li102, li104, li105, li106, li109, li114, li120, li128, li130, li300, li514, li999, li1000, li8192, li9999, li65536, li1000000, li1000001, li1000002, li1000003, li1000004, li1000005, li1000006, li1000007, li1000008, li1000009, li1000010, li1000011, li1000012, li1000013, li1000014, li1000015, li1000016, li1000017, li1000018, li1000019, li2147483647, lj0, lj1, W_add, W_sub, W_mul, W_neg, V_add, V_sub, V_mul, V_neg, W_ite, W_le, W_lt, W_inj, V_le, V_lt, V_inj, W_V, V_W, lgc_ge, lgc_gt, lgc_le, lgc_lt, lgc_eq, ge_iff_le, gt_iff_lt, hs, ↓reduceIte]
      exact e1
    · have e1 := e_cost (J := J) (b := b) (c := c) hF (L := L + s) (by omega) (by omega)
      obtain ⟨g0, g1⟩ := sz_mis hF (L := L + s) (by omega) (by omega)
      have d0 : ((0 : Int) ≤ s / 2) := by omega
      by_cases q : p < sz (mis I (L + s)) (I 36 4)
      · obtain ⟨L', I', hh⟩ := ih L (s / 2) (by omega) (by omega) a3 (by omega) hc
        refine ⟨L', I', ?_, hh.2⟩
        rw [← hh.1]
        simp (disch := first | assumption | omega) only [f_X2_pourLevels_b6, f_X2_pourLevels_b27, ↓rc36, ↓gI36_4, ↓pI36_4, ↓gR36_0, ↓gR36_1, ↓gR36_2, ↓gR36_3, ↓aI37, ↓sI37, ↓ln37, ↓aI38, ↓sI38, ↓ln38, ↓aI39, ↓sI39, ↓ln39, ↓aI40, ↓sI40, ↓ln40, ↓c_I, ↓c_J, ↓c_Q, ↓c_V, ↓c_It, ↓c_Jt, ↓c_Vt, ↓k_I, ↓k_J, ↓n_I, ↓n_V, li0, li1, li2, li3, li4, li5, li6, li7, li8, li9, li10, li11, li12, li13, li14, li15, li16, li17, li18, li19, li20, li21, li22, li23, li24, li25, li26, li27, li28, li29, li30, li31, li32, li33, li34, li35, li36, li37, li38, li39, li40, li41, li42, li44, li48, li57, li63, li64, li65, li97, li99, li100, li101, li102, li104, li105, li106, li109, li114, li120, li128, li130, li300, li514, li999, li1000, li8192, li9999, li65536, li1000000, li1000001, li1000002, li1000003, li1000004, li1000005, li1000006, li1000007, li1000008, li1000009, li1000010, li1000011, li1000012, li1000013, li1000014, li1000015, li1000016, li1000017, li1000018, li1000019, li2147483647, lj0, lj1, W_add, W_sub, W_mul, W_neg, V_add, V_sub, V_mul, V_neg, W_ite, W_le, W_lt, W_inj, V_le, V_lt, V_inj, W_V, V_W, lgc_ge, lgc_gt, lgc_le, lgc_lt, lgc_eq, ge_iff_le, gt_iff_lt, hs, e1, q, ↓reduceIte, W_div, W_d, td2]
      · obtain ⟨L', I', hh⟩ := ih (L + s) (s / 2) (by omega) (by omega) (by omega) (by omega) (Or.inl (by omega))
        refine ⟨L', I', ?_, hh.2⟩
        rw [← hh.1]
        simp (disch := first | assumption | omega) only [f_X2_pourLevels_b6, f_X2_pourLevels_b27, ↓rc36, ↓gI36_4, ↓pI36_4, ↓gR36_0, ↓gR36_1, ↓gR36_2, ↓gR36_3, ↓aI37, ↓sI37, ↓ln37, ↓aI38, ↓sI38, ↓ln38, ↓aI39, ↓sI39, ↓ln39, ↓aI40, ↓sI40, ↓ln40, ↓c_I, ↓c_J, ↓c_Q, ↓c_V, ↓c_It, ↓c_Jt, ↓c_Vt, ↓k_I, ↓k_J, ↓n_I, ↓n_V, li0, li1, li2, li3, li4, li5, li6, li7, li8, li9, li10, li11, li12, li13, li14, li15, li16, li17, li18, li19, li20, li21, li22, li23, li24, li25, li26, li27, li28, li29, li30, li31, li32, li33, li34, li35, li36, li37, li38, li39, li40, li41, li42, li44, li48, li57, li63, li64, li65, li97, li99, li100, li101, li102, li104, li105, li106, li109, li114, li120, li128, li130, li300, li514, li999, li1000, li8192, li9999, li65536, li1000000, li1000001, li1000002, li1000003, li1000004, li1000005, li1000006, li1000007, li1000008, li1000009, li1000010, li1000011, li1000012, li1000013, li1000014, li1000015, li1000016, li1000017, li1000018, li1000019, li2147483647, lj0, lj1, W_add, W_sub, W_mul, W_neg, V_add, V_sub, V_mul, V_neg, W_ite, W_le, W_lt, W_inj, V_le, V_lt, V_inj, W_V, V_W, lgc_ge, lgc_gt, lgc_le, lgc_lt, lgc_eq, ge_iff_le, gt_iff_lt, hs, e1, q, ↓reduceIte, W_div, W_d, td2]
theorem e_pour_L : ∀ (n p : Nat) (I : CF), p < n → p ≤ 100000 → FOK I → (∀ i, 0 ≤ i → i < I 36 4 → I 40 i + p ≤ 1000000) →
    ∃ I' s, f_X2_pour_L8 n (Sx I J b c) 36 (iW p) = some (Sx I' J b c, xi (iW (s : Nat))) ∧ (∀ a, a ≠ 40 → I' a = I a) ∧ Gr (fmay (I 36 4)) (I 38) (I 39) p (I 40) (I' 40) s := by
  intro n
  induction n with
  | zero => intro p I h; omega
  | succ n ih =>
    intro p I hp hp1 hF hb
    show ∃ I' s, f_X2_pour_b8 (f_X2_pour_L8 n) (Sx I J b c) 36 (iW p) = _ ∧ _
    have hF' := hF
    obtain ⟨⟨h0, h1⟩, hi⟩ := hF'
    match p with
    | 0 =>
      refine ⟨I, 0, ?_, fun _ _ => rfl, rfl, rfl⟩
      simp (disch := first | assumption | omega) only [f_X2_pour_b8, ↓rc36, ↓gI36_4, ↓pI36_4, ↓gR36_0, ↓gR36_1, ↓gR36_2, ↓gR36_3, ↓aI37, ↓sI37, ↓ln37, ↓aI38, ↓sI38, ↓ln38, ↓aI39, ↓sI39, ↓ln39, ↓aI40, ↓sI40, ↓ln40, ↓c_I, ↓c_J, ↓c_Q, ↓c_V, ↓c_It, ↓c_Jt, ↓c_Vt, ↓k_I, ↓k_J, ↓n_I, ↓n_V, li0, li1, li2, li3, li4, li5, li6, li7, li8, li9, li10, li11, li12, li13, li14, li15, li16, li17, li18, li19, li20, li21, li22, li23, li24, li25, li26, li27, li28, li29, li30, li31, li32, li33, li34, li35, li36, li37, li38, li39, li40, li41, li42, li44, li48, li57, li63, li64, li65, li97, li99, li100, li101, li102, li104, li105, li106, li109, li114, li120, li128, li130, li300, li514, li999, li1000, li8192, li9999, li65536, li1000000, li1000001, li1000002, li1000003, li1000004, li1000005, li1000006, li1000007, li1000008, li1000009, li1000010, li1000011, li1000012, li1000013, li1000014, li1000015, li1000016, li1000017, li1000018, li1000019, li2147483647, lj0, lj1, W_add, W_sub, W_mul, W_neg, V_add, V_sub, V_mul, V_neg, W_ite, W_le, W_lt, W_inj, V_le, V_lt, V_inj, W_V, V_W, lgc_ge, lgc_gt, lgc_le, lgc_lt, lgc_eq, ge_iff_le, gt_iff_lt, Int.le_refl, ↓reduceIte, Int.natCast_zero, Int.cast_ofNat_Int]
    | p + 1 =>
      obtain ⟨b', e1, hb'⟩ := e_nextPlace_L (J := J) (b := b) (c := c) hF FU 0 (-1) (by unfold FU; omega) (by omega) h0 (Or.inl rfl) (Or.inl ⟨rfl, fun j hj q => by have := hj.1.1; omega⟩)
      have e1 : f_X2_nextPlace (Sx I J b c) 36 = some (Sx I J b c, xi (iW b')) := e1
      rcases hb'.done (fun j hj => hj.1.2) with ⟨g1, g2⟩ | ⟨g1, g2⟩
      · refine ⟨I, p + 1, ?_, fun _ _ => rfl, Or.inl ⟨g2, rfl, rfl⟩⟩
        subst g1
        have n1 : ¬ (((p + 1 : Nat) : Int) ≤ 0) := by omega
        simp (disch := first | assumption | omega) only [f_X2_pour_b8, ↓rc36, ↓gI36_4, ↓pI36_4, ↓gR36_0, ↓gR36_1, ↓gR36_2, ↓gR36_3, ↓aI37, ↓sI37, ↓ln37, ↓aI38, ↓sI38, ↓ln38, ↓aI39, ↓sI39, ↓ln39, ↓aI40, ↓sI40, ↓ln40, ↓c_I, ↓c_J, ↓c_Q, ↓c_V, ↓c_It, ↓c_Jt, ↓c_Vt, ↓k_I, ↓k_J, ↓n_I, ↓n_V, li0, li1, li2, li3, li4, li5, li6, li7, li8, li9, li10, li11, li12, li13, li14, li15, li16, li17, li18, li19, li20, li21, li22, li23, li24, li25, li26, li27, li28, li29, li30, li31, li32, li33, li34, li35, li36, li37, li38, li39, li40, li41, li42, li44, li48, li57, li63, li64, li65, li97, li99, li100, li101, li102, li104, li105, li106, li109, li114, li120, li128, li130, li300, li514, li999, li1000, li8192, li9999, li65536, li1000000, li1000001, li1000002, li1000003, li1000004, li1000005, li1000006, li1000007, li1000008, li1000009, li1000010, li1000011, li1000012, li1000013, li1000014, li1000015, li1000016, li1000017, li1000018, li1000019, li2147483647, lj0, lj1, W_add, W_sub, W_mul, W_neg, V_add, V_sub, V_mul, V_neg, W_ite, W_le, W_lt, W_inj, V_le, V_lt, V_inj, W_V, V_W, lgc_ge, lgc_gt, lgc_le, lgc_lt, lgc_eq, ge_iff_le, gt_iff_lt, e1, n1, Int.reduceLE, Int.reduceNeg, ↓reduceIte]
      · have g3 := g2.1.1.1
        have g4 := g2.1.1.2
        have g5 := hb b' g3 g4
        have := (hi b' g3 g4).2.2
        have hF2 : FOK (uI I 40 b' (I 40 b' + 1)) := by
          refine ⟨?_, fun i i0 i1 => ?_⟩
          · rw [u_obj (by decide)]
            exact ⟨h0, h1⟩
          · rw [u_obj (by decide)] at i1
            rw [u_obj (by decide), u_obj (by decide), u_at]
            have := hi i i0 i1
            refine ⟨this.1, this.2.1, ?_⟩
            split <;> omega
        obtain ⟨I', s, k1, k2, k3⟩ := ih p (uI I 40 b' (I 40 b' + 1)) (by omega) (by omega) hF2 (fun i i0 i1 => by
          rw [u_obj (by decide)] at i1
          have := hb i i0 i1
          rw [u_at]
          split <;> omega)
        refine ⟨I', s, ?_, fun a ha => by rw [k2 a ha, u_obj ha], ?_⟩
        · rw [← k1]
          have n1 : ¬ (((p + 1 : Nat) : Int) ≤ 0) := by omega
          have n2 : 0 ≤ b' := g3
          have n3 : ((p + 1 : Nat) : Int) + -1 = p := by omega
          simp (disch := first | assumption | omega) only [f_X2_pour_b8, ↓rc36, ↓gI36_4, ↓pI36_4, ↓gR36_0, ↓gR36_1, ↓gR36_2, ↓gR36_3, ↓aI37, ↓sI37, ↓ln37, ↓aI38, ↓sI38, ↓ln38, ↓aI39, ↓sI39, ↓ln39, ↓aI40, ↓sI40, ↓ln40, ↓c_I, ↓c_J, ↓c_Q, ↓c_V, ↓c_It, ↓c_Jt, ↓c_Vt, ↓k_I, ↓k_J, ↓n_I, ↓n_V, li0, li1, li2, li3, li4, li5, li6, li7, li8, li9, li10, li11, li12, li13, li14, li15, li16, li17, li18, li19, li20, li21, li22, li23, li24, li25, li26, li27, li28, li29, li30, li31, li32, li33, li34, li35, li36, li37, li38, li39, li40, li41, li42, li44, li48, li57, li63, li64, li65, li97, li99, li100, li101, li102, li104, li105, li106, li109, li114, li120, li128, li130, li300, li514, li999, li1000, li8192, li9999, li65536, li1000000, li1000001, li1000002, li1000003, li1000004, li1000005, li1000006, li1000007, li1000008, li1000009, li1000010, li1000011, li1000012, li1000013, li1000014, li1000015, li1000016, li1000017, li1000018, li1000019, li2147483647, lj0, lj1, W_add, W_sub, W_mul, W_neg, V_add, V_sub, V_mul, V_neg, W_ite, W_le, W_lt, W_inj, V_le, V_lt, V_inj, W_V, V_W, lgc_ge, lgc_gt, lgc_le, lgc_lt, lgc_eq, ge_iff_le, gt_iff_lt, e1, n1, n2, n3, ↓reduceIte]
        · refine Or.inr ⟨b', g2, ?_⟩
          rw [u_obj (by decide), u_obj (by decide), u_obj (by decide)] at k3
          have : uI I 40 b' (I 40 b' + 1) 40 = up1 (I 40) b' (I 40 b' + 1) := by
            funext j
            rw [u_at]
            rfl
          rw [this] at k3
          exact k3
/-- pour: the pixels given out one by one -/
theorem e_pour {I : CF} (hF : FOK I) {p : Int} (p0 : -2000000000 ≤ p) (p1 : p ≤ 99999) (hb : ∀ i, 0 ≤ i → i < I 36 4 → I 40 i ≤ 100000) :
    ∃ I' s, f_X2_pour (Sx I J b c) 36 (iW p) = some (Sx I' J b c, xi (iW (s : Nat))) ∧ (∀ a, a ≠ 40 → I' a = I a) ∧ Gr (fmay (I 36 4)) (I 38) (I 39) p.toNat (I 40) (I' 40) s := by
  obtain ⟨L, I1, e1, l0, l1, hc, ho, hv⟩ := e_pourLevels_L (J := J) (b := b) (c := c) hF p0 (by omega) FU 0 8192 (by unfold FU; omega) (by omega) (by omega) (by omega) (Or.inr (by
    have h : sz (mis I 0) (I 36 4) = sz (fun _ => 0) (I 36 4) := sz_congr fun i i0 i1 => by
      have := (hF.2 i i0 i1).2.2
      have := (hF.2 i i0 i1).2.1
      unfold mis
      rw [Int.mul_zero]
      repeat' split
      all_goals omega
    rw [h]
    unfold sz
    exact sN_ind (P := fun _ x => x = 0) rfl (fun n x h => by rw [h]; rfl) _))
  have e1 : f_X2_pourLevels (Sx I J b c) 36 (iW p) = _ := e1
  have h0 := hF.1
  have g0 := (sz_mis hF l0 (L := L) (by omega)).1
  have g1 := (sz_mis hF l0 (L := L) (by omega)).2
  have e36 : I1 36 = I 36 := ho 36 (by decide)
  have e38 : I1 38 = I 38 := ho 38 (by decide)
  have e39 : I1 39 = I 39 := ho 39 (by decide)
  have hmi : ∀ i, 0 ≤ i → i < I 36 4 → mis I L i ≤ sz (mis I L) (I 36 4) := fun i i0 i1 => sz_ge (fun j j0 j1 => (mis_bd hF j0 j1 l0 (by omega)).1) i0 i1
  have hF1 : FOK I1 := by
    refine ⟨by rw [e36]; exact h0, fun i i0 i1 => ?_⟩
    rw [e36] at i1
    have h2 := hF.2 i i0 i1
    have h3 := hb i i0 i1
    have h4 := hmi i i0 i1
    have h5 := mis_bd hF i0 i1 l0 (L := L) (by omega)
    rw [e38, e39, hv, if_pos ⟨i0, i1⟩]
    omega
  have key : ∀ (q : Nat), (q : Int) = p - sz (mis I L) (I 36 4) ∨ (q = 0 ∧ p - sz (mis I L) (I 36 4) ≤ 0) → ∃ I' s, f_X2_pour_L8 FU (Sx I1 J b c) 36 (iW (p - sz (mis I L) (I 36 4))) = some (Sx I' J b c, xi (iW (s : Nat))) ∧ (∀ a, a ≠ 40 → I' a = I1 a) ∧ Gr (fmay (I 36 4)) (I 38) (I 39) q (I1 40) (I' 40) s := by
    rintro q (hq | ⟨rfl, hq⟩)
    · obtain ⟨I', s, k1, k2, k3⟩ := e_pour_L (J := J) (b := b) (c := c) FU q I1 (by unfold FU; omega) (by omega) hF1 (fun i i0 i1 => by
        rw [e36] at i1
        have h3 := hb i i0 i1
        have h4 := hmi i i0 i1
        rw [hv, if_pos ⟨i0, i1⟩]
        omega)
      rw [e36, e38, e39] at k3
      exact ⟨I', s, by rw [← hq]; exact k1, k2, k3⟩
    · refine ⟨I1, 0, ?_, fun _ _ => rfl, rfl, rfl⟩
      show f_X2_pour_b8 (f_X2_pour_L8 99999) (Sx I1 J b c) 36 (iW (p - sz (mis I L) (I 36 4))) = _
      simp (disch := first | assumption | omega) only [f_X2_pour_b8, ↓rc36, ↓gI36_4, ↓pI36_4, ↓gR36_0, ↓gR36_1, ↓gR36_2, ↓gR36_3, ↓aI37, ↓sI37, ↓ln37, ↓aI38, ↓sI38, ↓ln38, ↓aI39, ↓sI39, ↓ln39, ↓aI40, ↓sI40, ↓ln40, ↓c_I, ↓c_J, ↓c_Q, ↓c_V, ↓c_It, ↓c_Jt, ↓c_Vt, ↓k_I, ↓k_J, ↓n_I, ↓n_V, li0, li1, li2, li3, li4, li5, li6, li7, li8, li9, li10, li11, li12, li13, li14, li15, li16, li17, li18, li19, li20, li21, li22, li23, li24, li25, li26, li27, li28, li29, li30, li31, li32, li33, li34, li35, li36, li37, li38, li39, li40, li41, li42, li44, li48, li57, li63, li64, li65, li97, li99, li100, li101, li102, li104, li105, li106, li109, li114, li120, li128, li130, li300, li514, li999, li1000, li8192, li9999, li65536, li1000000, li1000001, li1000002, li1000003, li1000004, li1000005, li1000006, li1000007, li1000008, li1000009, li1000010, li1000011, li1000012, li1000013, li1000014, li1000015, li1000016, li1000017, li1000018, li1000019, li2147483647, lj0, lj1, W_add, W_sub, W_mul, W_neg, V_add, V_sub, V_mul, V_neg, W_ite, W_le, W_lt, W_inj, V_le, V_lt, V_inj, W_V, V_W, lgc_ge, lgc_gt, lgc_le, lgc_lt, lgc_eq, ge_iff_le, gt_iff_lt, hq, ↓reduceIte, Int.natCast_zero, Int.cast_ofNat_Int]
  obtain ⟨I', s, k1, k2, k3⟩ := key (p - sz (mis I L) (I 36 4)).toNat (by omega)
  refine ⟨I', s, ?_, fun a ha => by rw [k2 a ha, ho a ha], ?_⟩
  · rw [← k1]
    simp (disch := first | assumption | omega) only [f_X2_pour, ↓rc36, ↓gI36_4, ↓pI36_4, ↓gR36_0, ↓gR36_1, ↓gR36_2, ↓gR36_3, ↓aI37, ↓sI37, ↓ln37, ↓aI38, ↓sI38, ↓ln38, ↓aI39, ↓sI39, ↓ln39, ↓aI40, ↓sI40, ↓ln40, ↓c_I, ↓c_J, ↓c_Q, ↓c_V, ↓c_It, ↓c_Jt, ↓c_Vt, ↓k_I, ↓k_J, ↓n_I, ↓n_V, li0, li1, li2, li3, li4, li5, li6, li7, li8, li9, li10, li11, li12, li13, li14, li15, li16, li17, li18, li19, li20, li21, li22, li23, li24, li25, li26, li27, li28, li29, li30, li31, li32, li33, li34, li35, li36, li37, li38, li39, li40, li41, li42, li44, li48, li57, li63, li64, li65, li97, li99, li100, li101, li102, li104, li105, li106, li109, li114, li120, li128, li130, li300, li514, li999, li1000, li8192, li9999, li65536, li1000000, li1000001, li1000002, li1000003, li1000004, li1000005, li1000006, li1000007, li1000008, li1000009, li1000010, li1000011, li1000012, li1000013, li1000014, li1000015, li1000016, li1000017, li1000018, li1000019, li2147483647, lj0, lj1, W_add, W_sub, W_mul, W_neg, V_add, V_sub, V_mul, V_neg, W_ite, W_le, W_lt, W_inj, V_le, V_lt, V_inj, W_V, V_W, lgc_ge, lgc_gt, lgc_le, lgc_lt, lgc_eq, ge_iff_le, gt_iff_lt, e1]
  · have hm : p.toNat = (p - sz (mis I L) (I 36 4)).toNat + (sz (mis I L) (I 36 4)).toNat := by omega
    rw [hm]
    refine Gr.levels (n := I 36 4) (L := L) (t := I1 40) (fun i i0 i1 => (hF.2 i i0 i1).1.1) k3 (sz (mis I L) (I 36 4)).toNat (I 40) ?_ ?_ ?_
    · rw [Int.toNat_of_nonneg g0]
      refine sz_congr fun i i0 i1 => ?_
      rw [hv, if_pos ⟨i0, i1⟩]
      omega
    · intro i hi
      rw [hv, if_neg hi]
    · intro i i0 i1
      have h2 := hF.2 i i0 i1
      have h3 : (if I 38 i * L < I 39 i then I 38 i * L else I 39 i) ≤ I 39 i ∧ (if I 38 i * L < I 39 i then I 38 i * L else I 39 i) ≤ I 38 i * L ∧ (I 39 i ≤ (if I 38 i * L < I 39 i then I 38 i * L else I 39 i) ∨ I 38 i * L ≤ (if I 38 i * L < I 39 i then I 38 i * L else I 39 i)) := by
        split <;> omega
      rw [hv, if_pos ⟨i0, i1⟩]
      unfold mis
      generalize (if I 38 i * L < I 39 i then I 38 i * L else I 39 i) = m at h3 ⊢
      split <;> omega
theorem e_dropBounds_L : ∀ (n : Nat) (k : Int) (I I0 : CF), 0 ≤ I0 36 4 → I0 36 4 ≤ 64 → I0 36 4 - k < n → 0 ≤ k → k ≤ I0 36 4 → (∀ a, a ≠ 39 → I a = I0 a) → (∀ i, I 39 i = if 0 ≤ i ∧ i < k then 1000000 else I0 39 i) →
    ∃ I', f_X2_dropBounds_L2 n (Sx I J b c) 36 (iW k) = some (Sx I' J b c, xv) ∧ (∀ a, a ≠ 39 → I' a = I0 a) ∧ ∀ i, I' 39 i = if 0 ≤ i ∧ i < I0 36 4 then 1000000 else I0 39 i := by
  intro n
  induction n with
  | zero => intro k I I0 h0 h1 a1 a2 a3; omega
  | succ n ih =>
    intro k I I0 h0 h1 a1 a2 a3 ho hv
    show ∃ I', f_X2_dropBounds_b2 (f_X2_dropBounds_L2 n) (Sx I J b c) 36 (iW k) = _ ∧ _
    have e36 : I 36 = I0 36 := ho 36 (by decide)
    by_cases hk : k = I0 36 4
    · refine ⟨I, ?_, ho, hk ▸ hv⟩
      subst hk
      simp (disch := first | assumption | omega) only [f_X2_dropBounds_b2, ↓rc36, ↓gI36_4, ↓pI36_4, ↓gR36_0, ↓gR36_1, ↓gR36_2, ↓gR36_3, ↓aI37, ↓sI37, ↓ln37, ↓aI38, ↓sI38, ↓ln38, ↓aI39, ↓sI39, ↓ln39, ↓aI40, ↓sI40, ↓ln40, ↓c_I, ↓c_J, ↓c_Q, ↓c_V, ↓c_It, ↓c_Jt, ↓c_Vt, ↓k_I, ↓k_J, ↓n_I, ↓n_V, li0, li1, li2, li3, li4, li5, li6, li7, li8, li9, li10, li11, li12, li13, li14, li15, li16, li17, li18, li19, li20, li21, li22, li23, li24, li25, li26, li27, li28, li29, li30, li31, li32, li33, li34, li35, li36, li37, li38, li39, li40, li41, li42, li44, li48, li57, li63, li64, li65, li97, li99, li100, li101, li102, li104, li105, li106, li109, li114, li120, li128, li130, li300, li514, li999, li1000, li8192, li9999, li65536, li1000000, li1000001, li1000002, li1000003, li1000004, li1000005, li1000006, li1000007, li1000008, li1000009, li1000010, li1000011, li1000012, li1000013, li1000014, li1000015, li1000016, li1000017, li1000018, li1000019, li2147483647, lj0, lj1, W_add, W_sub, W_mul, W_neg, V_add, V_sub, V_mul, V_neg, W_ite, W_le, W_lt, W_inj, V_le, V_lt, V_inj, W_V, V_W, lgc_ge, lgc_gt, lgc_le, lgc_lt, lgc_eq, ge_iff_le, gt_iff_lt, e36, Int.le_refl, ↓reduceIte]
    · have n1 : ¬ (I0 36 4 ≤ k) := by omega
      simp (disch := first | assumption | omega) only [f_X2_dropBounds_b2, ↓rc36, ↓gI36_4, ↓pI36_4, ↓gR36_0, ↓gR36_1, ↓gR36_2, ↓gR36_3, ↓aI37, ↓sI37, ↓ln37, ↓aI38, ↓sI38, ↓ln38, ↓aI39, ↓sI39, ↓ln39, ↓aI40, ↓sI40, ↓ln40, ↓c_I, ↓c_J, ↓c_Q, ↓c_V, ↓c_It, ↓c_Jt, ↓c_Vt, ↓k_I, ↓k_J, ↓n_I, ↓n_V, li0, li1, li2, li3, li4, li5, li6, li7, li8, li9, li10, li11, li12, li13, li14, li15, li16, li17, li18, li19, li20, li21, li22, li23, li24, li25, li26, li27, li28, li29, li30, li31, li32, li33, li34, li35, li36, li37, li38, li39, li40, li41, li42, li44, li48, li57, li63, li64, li65, li97, li99, li100, li101, li102, li104, li105, li106, li109, li114, li120, li128, li130, li300, li514, li999, li1000, li8192, li9999, li65536, li1000000, li1000001, li1000002, li1000003, li1000004, li1000005, li1000006, li1000007, li1000008, li1000009, li1000010, li1000011, li1000012, li1000013, li1000014, li1000015, li1000016, li1000017, li1000018, li1000019, li2147483647, lj0, lj1, W_add, W_sub, W_mul, W_neg, V_add, V_sub, V_mul, V_neg, W_ite, W_le, W_lt, W_inj, V_le, V_lt, V_inj, W_V, V_W, lgc_ge, lgc_gt, lgc_le, lgc_lt, lgc_eq, ge_iff_le, gt_iff_lt, e36, n1, ↓reduceIte]
      refine ih (k + 1) (uI I 39 k 1000000) I0 h0 h1 (by omega) (by omega) (by omega) (fun a ha => by rw [u_obj ha]; exact ho a ha) (fun i => ?_)
      rw [u_at]
      by_cases q : i = k
      · subst q
        rw [if_pos rfl, if_pos (by omega)]
      · rw [if_neg q, hv]
        by_cases q2 : 0 ≤ i ∧ i < k
        · rw [if_pos q2, if_pos (by omega)]
        · rw [if_neg q2, if_neg (by omega)]
theorem e_dropBounds {I : CF} (h0 : 0 ≤ I 36 4) (h1 : I 36 4 ≤ 64) : ∃ I', f_X2_dropBounds (Sx I J b c) 36 = some (Sx I' J b c, xv) ∧ (∀ a, a ≠ 39 → I' a = I a) ∧ ∀ i, I' 39 i = if 0 ≤ i ∧ i < I 36 4 then 1000000 else I 39 i :=
  e_dropBounds_L FU 0 I I h0 h1 (by unfold FU; omega) (by omega) h0 (fun _ _ => rfl) (fun i => by rw [if_neg (by omega)])
/-- raise: r1 the sizes before, r2 the sizes to be raised -/
theorem e_raise_L {r1 r2 : Nat} (s1 : SHL[r1]? = some (100, 65)) (s2 : SHL[r2]? = some (100, 65)) (g1 : (r1 : Int) ≠ r2) (g2 : (r2 : Int) < 36 ∨ 40 < (r2 : Int)) {I0 : CF} (h0 : 0 ≤ I0 36 4) (h1 : I0 36 4 ≤ 64)
    (hi : ∀ i, 0 ≤ i → i < I0 36 4 → 0 ≤ I0 37 i ∧ I0 37 i < 65 ∧ 0 ≤ I0 40 i ∧ I0 40 i ≤ 1000000) (hb : ∀ t, 0 ≤ t → t < 65 → (0 ≤ I0 r1 t ∧ I0 r1 t ≤ 100000000) ∧ (0 ≤ I0 r2 t ∧ I0 r2 t ≤ 100000000)) {gT : Int → Int} (hg : ∀ i, 0 ≤ i → i < I0 36 4 → gT (I0 37 i) = I0 40 i) (hinj : ∀ i j, 0 ≤ i → i < j → j < I0 36 4 → I0 37 i < I0 37 j) :
    ∀ (n : Nat) (k : Int) (I : CF), I0 36 4 - k < n → 0 ≤ k → k ≤ I0 36 4 → (∀ a : Int, a ≠ r2 → I a = I0 a) → (∀ t, (∀ i, 0 ≤ i → i < k → I0 37 i ≠ t) → I r2 t = I0 r2 t) → (∀ i, 0 ≤ i → i < k → I r2 (I0 37 i) = max (I0 r2 (I0 37 i)) (I0 r1 (I0 37 i) + gT (I0 37 i))) →
    ∃ I', f_X2_raise_L2 n (Sx I J b c) 36 r1 r2 (iW k) = some (Sx I' J b c, xv) ∧ (∀ a : Int, a ≠ r2 → I' a = I0 a) ∧ (∀ t, (∀ i, 0 ≤ i → i < I0 36 4 → I0 37 i ≠ t) → I' r2 t = I0 r2 t) ∧ (∀ i, 0 ≤ i → i < I0 36 4 → I' r2 (I0 37 i) = max (I0 r2 (I0 37 i)) (I0 r1 (I0 37 i) + gT (I0 37 i))) := by
  intro n
  induction n with
  | zero => intro k I a1 a2 a3; omega
  | succ n ih =>
    intro k I a1 a2 a3 ho hv1 hv2
    show ∃ I', f_X2_raise_b2 (f_X2_raise_L2 n) (Sx I J b c) 36 r1 r2 (iW k) = _ ∧ _
    have e36 : I 36 = I0 36 := ho 36 (by omega)
    have e37 : I 37 = I0 37 := ho 37 (by omega)
    have e40 : I 40 = I0 40 := ho 40 (by omega)
    have er1 : I r1 = I0 r1 := ho r1 g1
    by_cases hk : k = I0 36 4
    · refine ⟨I, ?_, ho, hk ▸ hv1, hk ▸ hv2⟩
      subst hk
      simp (disch := first | assumption | omega) only [f_X2_raise_b2, ↓rc36, ↓gI36_4, ↓pI36_4, ↓gR36_0, ↓gR36_1, ↓gR36_2, ↓gR36_3, ↓aI37, ↓sI37, ↓ln37, ↓aI38, ↓sI38, ↓ln38, ↓aI39, ↓sI39, ↓ln39, ↓aI40, ↓sI40, ↓ln40, ↓c_I, ↓c_J, ↓c_Q, ↓c_V, ↓c_It, ↓c_Jt, ↓c_Vt, ↓k_I, ↓k_J, ↓n_I, ↓n_V, li0, li1, li2, li3, li4, li5, li6, li7, li8, li9, li10, li11, li12, li13, li14, li15, li16, li17, li18, li19, li20, li21, li22, li23, li24, li25, li26, li27, li28, li29, li30, li31, li32, li33, li34, li35, li36, li37, li38, li39, li40, li41, li42, li44, li48, li57, li63, li64, li65, li97, li99, li100, li101, li102, li104, li105, li106, li109, li114, li120, li128, li130, li300, li514, li999, li1000, li8192, li9999, li65536, li1000000, li1000001, li1000002, li1000003, li1000004, li1000005, li1000006, li1000007, li1000008, li1000009, li1000010, li1000011, li1000012, li1000013, li1000014, li1000015, li1000016, li1000017, li1000018, li1000019, li2147483647, lj0, lj1, W_add, W_sub, W_mul, W_neg, V_add, V_sub, V_mul, V_neg, W_ite, W_le, W_lt, W_inj, V_le, V_lt, V_inj, W_V, V_W, lgc_ge, lgc_gt, lgc_le, lgc_lt, lgc_eq, ge_iff_le, gt_iff_lt, e36, Int.le_refl, ↓reduceIte]
    · have n1 : ¬ (I0 36 4 ≤ k) := by omega
      obtain ⟨b1, b2, b3, b4⟩ := hi k a2 (by omega)
      have n2 : ¬ (I0 37 k < 0) := by omega
      have n3 : ¬ (65 ≤ I0 37 k) := by omega
      obtain ⟨c1, c2⟩ := hb (I0 37 k) b1 b2
      have hr2 : I r2 (I0 37 k) = I0 r2 (I0 37 k) := hv1 _ (fun i i0 i1 e => by have := hinj i k i0 i1 (by omega); omega)
      have ha1 := fun (f : Int32 → Option XR) => a_I (I := I) (J := J) (b := b) (c := c) (f := f) s1 (by decide) b1 (z := I0 37 k) (by omega)
      have ha2 := fun (f : Int32 → Option XR) => a_I (I := I) (J := J) (b := b) (c := c) (f := f) s2 (by decide) b1 (z := I0 37 k) (by omega)
      have hs2 := fun (v : Int) (f : HP → Option XR) => s_I (I := I) (J := J) (b := b) (c := c) (f := f) (v := v) s2 (by decide) b1 (z := I0 37 k) (by omega)
      have hl1 := fun (f : Int32 → Option XR) => l_n (I := I) (J := J) (b := b) (c := c) (f := f) s1 (by decide)
      have hl2 := fun (f : Int32 → Option XR) => l_n (I := I) (J := J) (b := b) (c := c) (f := f) s2 (by decide)
      simp (disch := first | assumption | omega) only [f_X2_raise_b2, f_X2_raise_b59, ↓rc36, ↓gI36_4, ↓pI36_4, ↓gR36_0, ↓gR36_1, ↓gR36_2, ↓gR36_3, ↓aI37, ↓sI37, ↓ln37, ↓aI38, ↓sI38, ↓ln38, ↓aI39, ↓sI39, ↓ln39, ↓aI40, ↓sI40, ↓ln40, ↓c_I, ↓c_J, ↓c_Q, ↓c_V, ↓c_It, ↓c_Jt, ↓c_Vt, ↓k_I, ↓k_J, ↓n_I, ↓n_V, li0, li1, li2, li3, li4, li5, li6, li7, li8, li9, li10, li11, li12, li13, li14, li15, li16, li17, li18, li19, li20, li21, li22, li23, li24, li25, li26, li27, li28, li29, li30, li31, li32, li33, li34, li35, li36, li37, li38, li39, li40, li41, li42, li44, li48, li57, li63, li64, li65, li97, li99, li100, li101, li102, li104, li105, li106, li109, li114, li120, li128, li130, li300, li514, li999, li1000, li8192, li9999, li65536, li1000000, li1000001, li1000002, li1000003, li1000004, li1000005, li1000006, li1000007, li1000008, li1000009, li1000010, li1000011, li1000012, li1000013, li1000014, li1000015, li1000016, li1000017, li1000018, li1000019, li2147483647, lj0, lj1, W_add, W_sub, W_mul, W_neg, V_add, V_sub, V_mul, V_neg, W_ite, W_le, W_lt, W_inj, V_le, V_lt, V_inj, W_V, V_W, lgc_ge, lgc_gt, lgc_le, lgc_lt, lgc_eq, ge_iff_le, gt_iff_lt, e36, e37, e40, er1, hr2, n1, n2, n3, ha1, ha2, hs2, hl1, hl2, Int.cast_ofNat_Int, ↓reduceIte]
      have hmax : (if I0 r2 (I0 37 k) < I0 r1 (I0 37 k) + I0 40 k then I0 r1 (I0 37 k) + I0 40 k else I0 r2 (I0 37 k)) = max (I0 r2 (I0 37 k)) (I0 r1 (I0 37 k) + gT (I0 37 k)) := by
        rw [hg k a2 (by omega)]
        split <;> omega
      rw [hmax]
      refine ih (k + 1) _ (by omega) (by omega) (by omega) (fun a ha => by rw [u_obj ha]; exact ho a ha) (fun t ht => ?_) (fun i i0 i1 => ?_)
      · rw [u_ne (fun e => ht k a2 (by omega) e.symm)]
        exact hv1 t (fun i i0 i1 => ht i i0 (by omega))
      · by_cases q : i = k
        · subst q
          rw [u_eq]
        · rw [u_ne (by have := hinj i k i0 (by omega) (by omega); omega)]
          exact hv2 i i0 (by omega)
end FillE

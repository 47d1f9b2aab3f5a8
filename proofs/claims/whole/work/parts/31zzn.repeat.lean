/-! ===== a repeat closed and opened, both sides ===== -/
section CloseE
variable {J : CF} {c : Bool} {I : CF} {p nm kd z cn oc L : Int} {g PT OS OC T : Int → Int}
/-- the engine's copying against the reference's -/
theorem e_copyTracks {zq se s n cc : Int} {R R' : CF} (hC : CR zq cn n PT R) (hs0 : 0 ≤ s) (hsn : s ≤ n) (hse : (se = s ∧ s ≤ 12) ∨ (se = 13 ∧ 13 ≤ s)) (c0 : 0 ≤ cc) (c1 : cc ≤ 999) (hR : RI s n (min 1000 (s + cc * (n - s))) R R') : ∃ cn' PT', f_X6_copyTracks (Sx (EPS I p nm kd z cn oc g PT OS OC) J 1 c) 2 (iW se) (iW cc) = some (Sx (EPS I p nm kd z cn' oc g PT' OS OC) J 1 c, xv) ∧ CR zq cn' (min 1000 (s + cc * (n - s))) PT' R' := by
  obtain ⟨h1, h2, h3, h4, hv5⟩ := hC
  have hval : ∀ r, 0 ≤ r → r < min 1000 (s + cc * (n - s)) → r < 12 → okR zq (R' r) := fun r r0 r1 r2 => by
    by_cases e : r < s
    · exact (hv5 r r0 (by omega) r2).eq (fun k k0 k1 => (hR r k r0 r2 k0 k1).1 e)
    · have hlen : 0 < n - s := by
        apply Classical.byContradiction
        intro hn
        have h0 : n - s = 0 := by omega
        rw [h0, Int.mul_zero] at r1
        omega
      have hmm := Int.emod_nonneg (r - s) (show n - s ≠ 0 by omega)
      have hml := Int.emod_lt_of_pos (r - s) hlen
      have hle : (r - s) % (n - s) ≤ r - s := by
        by_cases hrc : r < n
        · rw [Int.emod_eq_of_lt (by omega) (by omega)]
          omega
        · omega
      exact (hv5 (s + (r - s) % (n - s)) (by omega) (by omega) (by omega)).eq (fun k k0 k1 => (hR r k r0 r2 k0 k1).2 (by omega) (Or.inr r1))
  have hm0 : 0 ≤ cc * (n - s) := Int.mul_nonneg c0 (by omega)
  by_cases q0 : cc = 0
  · subst q0
    have hz : (0 : Int) * (n - s) = 0 := Int.zero_mul _
    rw [hz] at hR ⊢
    rw [hz] at hval
    refine ⟨se, PT, ?_, by omega, by omega, by omega, fun r k r0 r1 r2 k0 k1 => ?_, hval⟩
    · simp (disch := first | assumption | omega) only [f_X6_copyTracks, f_X6_copyTracks_b70, ↓rc2, ↓gI2_1, ↓gI2_2, ↓gI2_3, ↓gI2_4, ↓gI2_5, ↓gI2_6, ↓gI2_9, ↓pI2_1, ↓pI2_2, ↓pI2_3, ↓pI2_4, ↓pI2_6, ↓pI2_9, ↓pZ2_5, ↓gR2_0, ↓gR2_7, ↓gR2_8, ↓gR2_10, ↓gR2_11, ↓aI3, ↓ln3, ↓aI4, ↓sI4, ↓ln4, ↓aI5, ↓sI5, ↓ln5, ↓aI6, ↓sI6, ↓ln6, ↓aI7, ↓sI7, ↓ln7, ↓c_I, ↓c_J, ↓c_Q, ↓c_V, ↓c_It, ↓c_Jt, ↓c_Vt, ↓k_I, ↓k_J, ↓n_I, ↓n_V, li0, li1, li2, li3, li4, li5, li6, li7, li8, li9, li10, li11, li12, li13, li14, li15, li16, li17, li18, li19, li20, li21, li22, li23, li24, li25, li26, li27, li28, li29, li30, li31, li32, li33, li34, li35, li36, li37, li38, li39, li40, li41, li42, li44, li48, li57, li63, li64, li65, li97, li99, li100, li101, li102, li104, li105, li106, li109, li114, li120, li128, li130, li300, li514, li999, li1000, li8192, li9999, li65536, li1000000, li1000001, li1000002, li1000003, li1000004, li1000005, li1000006, li1000007, li1000008, li1000009, li1000010, li1000011, li1000012, li1000013, li1000014, li1000015, li1000016, li1000017, li1000018, li1000019, li2147483647, lj0, lj1, W_add, W_sub, W_mul, W_neg, V_add, V_sub, V_mul, V_neg, W_ite, W_le, W_lt, W_inj, V_le, V_lt, V_inj, W_V, V_W, lgc_ge, lgc_gt, lgc_le, lgc_lt, lgc_eq, ge_iff_le, gt_iff_lt, ep6, ew6, ↓reduceIte]
    · rw [(hR r k r0 r2 k0 k1).1 (by omega)]
      exact h4 r k r0 (by omega) r2 k0 k1
  · have hm1 : n - s ≤ cc * (n - s) := by
      have := Int.mul_le_mul_of_nonneg_right (show 1 ≤ cc by omega) (show 0 ≤ n - s by omega)
      omega
    by_cases q1 : cn - se ≤ 0
    · refine ⟨cn, PT, ?_, ?_, by omega, by omega, fun r k r0 r1 r2 k0 k1 => ?_, hval⟩
      · simp (disch := first | assumption | omega) only [f_X6_copyTracks, f_X6_copyTracks_b70, ↓rc2, ↓gI2_1, ↓gI2_2, ↓gI2_3, ↓gI2_4, ↓gI2_5, ↓gI2_6, ↓gI2_9, ↓pI2_1, ↓pI2_2, ↓pI2_3, ↓pI2_4, ↓pI2_6, ↓pI2_9, ↓pZ2_5, ↓gR2_0, ↓gR2_7, ↓gR2_8, ↓gR2_10, ↓gR2_11, ↓aI3, ↓ln3, ↓aI4, ↓sI4, ↓ln4, ↓aI5, ↓sI5, ↓ln5, ↓aI6, ↓sI6, ↓ln6, ↓aI7, ↓sI7, ↓ln7, ↓c_I, ↓c_J, ↓c_Q, ↓c_V, ↓c_It, ↓c_Jt, ↓c_Vt, ↓k_I, ↓k_J, ↓n_I, ↓n_V, li0, li1, li2, li3, li4, li5, li6, li7, li8, li9, li10, li11, li12, li13, li14, li15, li16, li17, li18, li19, li20, li21, li22, li23, li24, li25, li26, li27, li28, li29, li30, li31, li32, li33, li34, li35, li36, li37, li38, li39, li40, li41, li42, li44, li48, li57, li63, li64, li65, li97, li99, li100, li101, li102, li104, li105, li106, li109, li114, li120, li128, li130, li300, li514, li999, li1000, li8192, li9999, li65536, li1000000, li1000001, li1000002, li1000003, li1000004, li1000005, li1000006, li1000007, li1000008, li1000009, li1000010, li1000011, li1000012, li1000013, li1000014, li1000015, li1000016, li1000017, li1000018, li1000019, li2147483647, lj0, lj1, W_add, W_sub, W_mul, W_neg, V_add, V_sub, V_mul, V_neg, W_ite, W_le, W_lt, W_inj, V_le, V_lt, V_inj, W_V, V_W, lgc_ge, lgc_gt, lgc_le, lgc_lt, lgc_eq, ge_iff_le, gt_iff_lt, ep6, q0, q1, ↓reduceIte]
      · have hh : s = n ∨ 13 ≤ s := by omega
        rcases hh with hh | hh
        · have : cc * (n - s) = 0 := by rw [hh, Int.sub_self, Int.mul_zero]
          omega
        · omega
      · have hh : s = n ∨ 13 ≤ s := by omega
        have hrs : r < s := by
          rcases hh with hh | hh
          · have : cc * (n - s) = 0 := by rw [hh, Int.sub_self, Int.mul_zero]
            omega
          · omega
        rw [(hR r k r0 r2 k0 k1).1 hrs]
        exact h4 r k r0 (by omega) r2 k0 k1
    · have hss : se = s ∧ s ≤ 12 := by omega
      obtain ⟨rfl, hs12⟩ := hss
      have hl : 0 < cn - se := by omega
      have hml : cn - se ≤ cc * (cn - se) := by
        have := Int.mul_le_mul_of_nonneg_right (show 1 ≤ cc by omega) (show 0 ≤ cn - se by omega)
        omega
      have hmb := mul_bd (a := cc) (b := cn - se) (A := 999) (B := 13) c0 c1 (by omega) (by omega)
      obtain ⟨PT', k1, k2⟩ := e_cpL (J := J) (c := c) (I := I) (p := p) (nm := nm) (kd := kd) (z := z) (cn := cn) (oc := oc) (g := g) (OS := OS) (OC := OC) (s := se) (len := cn - se) (tot := min 13 (se + cc * (cn - se))) (PT0 := PT) hs0 hl (by omega) FU cn PT (by unfold FU; omega) (by omega) (by omega) (fun r k r0 r1 k0 k1 => by
        by_cases e : r < se
        · rw [if_pos e]
        · rw [if_neg e, Int.emod_eq_of_lt (by omega) (by omega), show se + (r - se) = r by omega])
      refine ⟨min 13 (se + cc * (cn - se)), PT', ?_, ?_, by omega, by omega, fun r k r0 r1 r2 e0 e1 => ?_, hval⟩
      · rw [← k1]
        by_cases q2 : se + cc * (cn - se) < 13
        · rw [show min 13 (se + cc * (cn - se)) = se + cc * (cn - se) by omega]
          simp (disch := first | assumption | omega) only [f_X6_copyTracks, ↓rc2, ↓gI2_1, ↓gI2_2, ↓gI2_3, ↓gI2_4, ↓gI2_5, ↓gI2_6, ↓gI2_9, ↓pI2_1, ↓pI2_2, ↓pI2_3, ↓pI2_4, ↓pI2_6, ↓pI2_9, ↓pZ2_5, ↓gR2_0, ↓gR2_7, ↓gR2_8, ↓gR2_10, ↓gR2_11, ↓aI3, ↓ln3, ↓aI4, ↓sI4, ↓ln4, ↓aI5, ↓sI5, ↓ln5, ↓aI6, ↓sI6, ↓ln6, ↓aI7, ↓sI7, ↓ln7, ↓c_I, ↓c_J, ↓c_Q, ↓c_V, ↓c_It, ↓c_Jt, ↓c_Vt, ↓k_I, ↓k_J, ↓n_I, ↓n_V, li0, li1, li2, li3, li4, li5, li6, li7, li8, li9, li10, li11, li12, li13, li14, li15, li16, li17, li18, li19, li20, li21, li22, li23, li24, li25, li26, li27, li28, li29, li30, li31, li32, li33, li34, li35, li36, li37, li38, li39, li40, li41, li42, li44, li48, li57, li63, li64, li65, li97, li99, li100, li101, li102, li104, li105, li106, li109, li114, li120, li128, li130, li300, li514, li999, li1000, li8192, li9999, li65536, li1000000, li1000001, li1000002, li1000003, li1000004, li1000005, li1000006, li1000007, li1000008, li1000009, li1000010, li1000011, li1000012, li1000013, li1000014, li1000015, li1000016, li1000017, li1000018, li1000019, li2147483647, lj0, lj1, W_add, W_sub, W_mul, W_neg, V_add, V_sub, V_mul, V_neg, W_ite, W_le, W_lt, W_inj, V_le, V_lt, V_inj, W_V, V_W, lgc_ge, lgc_gt, lgc_le, lgc_lt, lgc_eq, ge_iff_le, gt_iff_lt, ep6, q0, q1, q2, ↓reduceIte]
        · rw [show min 13 (se + cc * (cn - se)) = 13 by omega]
          simp (disch := first | assumption | omega) only [f_X6_copyTracks, ↓rc2, ↓gI2_1, ↓gI2_2, ↓gI2_3, ↓gI2_4, ↓gI2_5, ↓gI2_6, ↓gI2_9, ↓pI2_1, ↓pI2_2, ↓pI2_3, ↓pI2_4, ↓pI2_6, ↓pI2_9, ↓pZ2_5, ↓gR2_0, ↓gR2_7, ↓gR2_8, ↓gR2_10, ↓gR2_11, ↓aI3, ↓ln3, ↓aI4, ↓sI4, ↓ln4, ↓aI5, ↓sI5, ↓ln5, ↓aI6, ↓sI6, ↓ln6, ↓aI7, ↓sI7, ↓ln7, ↓c_I, ↓c_J, ↓c_Q, ↓c_V, ↓c_It, ↓c_Jt, ↓c_Vt, ↓k_I, ↓k_J, ↓n_I, ↓n_V, li0, li1, li2, li3, li4, li5, li6, li7, li8, li9, li10, li11, li12, li13, li14, li15, li16, li17, li18, li19, li20, li21, li22, li23, li24, li25, li26, li27, li28, li29, li30, li31, li32, li33, li34, li35, li36, li37, li38, li39, li40, li41, li42, li44, li48, li57, li63, li64, li65, li97, li99, li100, li101, li102, li104, li105, li106, li109, li114, li120, li128, li130, li300, li514, li999, li1000, li8192, li9999, li65536, li1000000, li1000001, li1000002, li1000003, li1000004, li1000005, li1000006, li1000007, li1000008, li1000009, li1000010, li1000011, li1000012, li1000013, li1000014, li1000015, li1000016, li1000017, li1000018, li1000019, li2147483647, lj0, lj1, W_add, W_sub, W_mul, W_neg, V_add, V_sub, V_mul, V_neg, W_ite, W_le, W_lt, W_inj, V_le, V_lt, V_inj, W_V, V_W, lgc_ge, lgc_gt, lgc_le, lgc_lt, lgc_eq, ge_iff_le, gt_iff_lt, ep6, q0, q1, q2, ↓reduceIte]
      · by_cases hn : cn = n
        · rw [hn]
          omega
        · have : 13 - se ≤ cc * (13 - se) := by
            have := Int.mul_le_mul_of_nonneg_right (show 1 ≤ cc by omega) (show 0 ≤ 13 - se by omega)
            omega
          have hc13 : cn = 13 := by omega
          rw [hc13]
          omega
      · by_cases hn : cn = n
        · subst hn
          rw [k2 r k r0 (by omega) e0 e1]
          by_cases e : r < se
          · rw [if_pos e, (hR r k r0 r2 e0 e1).1 e]
            exact h4 r k r0 (by omega) r2 e0 e1
          · rw [if_neg e, (hR r k r0 r2 e0 e1).2 (by omega) (Or.inr r1)]
            have hmm := Int.emod_nonneg (r - se) (show cn - se ≠ 0 by omega)
            have hml := Int.emod_lt_of_pos (r - se) hl
            have hle : (r - se) % (cn - se) ≤ r - se := by
              by_cases hrc : r < cn
              · rw [Int.emod_eq_of_lt (by omega) (by omega)]
                omega
              · omega
            exact h4 _ k (by omega) (by omega) (by omega) e0 e1
        · have hc13 : cn = 13 := by omega
          rw [k2 r k r0 (by omega) e0 e1]
          by_cases e : r < se
          · rw [if_pos e, (hR r k r0 r2 e0 e1).1 e]
            exact h4 r k r0 (by omega) r2 e0 e1
          · rw [if_neg e, (hR r k r0 r2 e0 e1).2 (by omega) (Or.inl (by omega)), Int.emod_eq_of_lt (by omega) (by omega), Int.emod_eq_of_lt (by omega) (by omega), show se + (r - se) = r by omega]
            exact h4 r k r0 (by omega) r2 e0 e1
/-- nothing is closed where no bracket follows -/
theorem e_closeN (hT : TXe I L T) (p0 : 0 ≤ p) (p1 : p ≤ L) (o0 : 0 ≤ oc) (o1 : oc ≤ 4) (hq : oc ≤ 0 ∨ ¬ sn T L (p, 0) 41) (fuel : Nat) : f_X6_closeRepeats_L0 (fuel + 1) (Sx (EPS I p nm kd z cn oc g PT OS OC) J 1 c) 2 = some (Sx (EPS I p nm kd z cn oc g PT OS OC) J 1 c, xv) := by
  show f_X6_closeRepeats_b0 (f_X6_closeRepeats_L0 fuel) (Sx (EPS I p nm kd z cn oc g PT OS OC) J 1 c) 2 = _
  by_cases q0 : oc ≤ 0
  · simp (disch := first | assumption | omega) only [f_X6_closeRepeats_b0, f_X6_closeRepeats_b69, ↓rc2, ↓gI2_1, ↓gI2_2, ↓gI2_3, ↓gI2_4, ↓gI2_5, ↓gI2_6, ↓gI2_9, ↓pI2_1, ↓pI2_2, ↓pI2_3, ↓pI2_4, ↓pI2_6, ↓pI2_9, ↓pZ2_5, ↓gR2_0, ↓gR2_7, ↓gR2_8, ↓gR2_10, ↓gR2_11, ↓aI3, ↓ln3, ↓aI4, ↓sI4, ↓ln4, ↓aI5, ↓sI5, ↓ln5, ↓aI6, ↓sI6, ↓ln6, ↓aI7, ↓sI7, ↓ln7, ↓c_I, ↓c_J, ↓c_Q, ↓c_V, ↓c_It, ↓c_Jt, ↓c_Vt, ↓k_I, ↓k_J, ↓n_I, ↓n_V, li0, li1, li2, li3, li4, li5, li6, li7, li8, li9, li10, li11, li12, li13, li14, li15, li16, li17, li18, li19, li20, li21, li22, li23, li24, li25, li26, li27, li28, li29, li30, li31, li32, li33, li34, li35, li36, li37, li38, li39, li40, li41, li42, li44, li48, li57, li63, li64, li65, li97, li99, li100, li101, li102, li104, li105, li106, li109, li114, li120, li128, li130, li300, li514, li999, li1000, li8192, li9999, li65536, li1000000, li1000001, li1000002, li1000003, li1000004, li1000005, li1000006, li1000007, li1000008, li1000009, li1000010, li1000011, li1000012, li1000013, li1000014, li1000015, li1000016, li1000017, li1000018, li1000019, li2147483647, lj0, lj1, W_add, W_sub, W_mul, W_neg, V_add, V_sub, V_mul, V_neg, W_ite, W_le, W_lt, W_inj, V_le, V_lt, V_inj, W_V, V_W, lgc_ge, lgc_gt, lgc_le, lgc_lt, lgc_eq, ge_iff_le, gt_iff_lt, ep9, q0, ↓reduceIte]
  · have hn : ¬ sn T L (p, 0) 41 := by
      rcases hq with h | h
      · exact absurd h q0
      · exact h
    have n1 : ¬ ((4 : Int) < oc) := by omega
    have e1 := e_next (J := J) (c := c) (nm := nm) (kd := kd) (z := z) (cn := cn) (oc := oc) (g := g) (PT := PT) (OS := OS) (OC := OC) hT p0 p1 (ch := 41) (by omega) (by omega)
    rw [bb_neg hn] at e1
    simp (disch := first | assumption | omega) only [f_X6_closeRepeats_b0, f_X6_closeRepeats_b69, ↓rc2, ↓gI2_1, ↓gI2_2, ↓gI2_3, ↓gI2_4, ↓gI2_5, ↓gI2_6, ↓gI2_9, ↓pI2_1, ↓pI2_2, ↓pI2_3, ↓pI2_4, ↓pI2_6, ↓pI2_9, ↓pZ2_5, ↓gR2_0, ↓gR2_7, ↓gR2_8, ↓gR2_10, ↓gR2_11, ↓aI3, ↓ln3, ↓aI4, ↓sI4, ↓ln4, ↓aI5, ↓sI5, ↓ln5, ↓aI6, ↓sI6, ↓ln6, ↓aI7, ↓sI7, ↓ln7, ↓c_I, ↓c_J, ↓c_Q, ↓c_V, ↓c_It, ↓c_Jt, ↓c_Vt, ↓k_I, ↓k_J, ↓n_I, ↓n_V, li0, li1, li2, li3, li4, li5, li6, li7, li8, li9, li10, li11, li12, li13, li14, li15, li16, li17, li18, li19, li20, li21, li22, li23, li24, li25, li26, li27, li28, li29, li30, li31, li32, li33, li34, li35, li36, li37, li38, li39, li40, li41, li42, li44, li48, li57, li63, li64, li65, li97, li99, li100, li101, li102, li104, li105, li106, li109, li114, li120, li128, li130, li300, li514, li999, li1000, li8192, li9999, li65536, li1000000, li1000001, li1000002, li1000003, li1000004, li1000005, li1000006, li1000007, li1000008, li1000009, li1000010, li1000011, li1000012, li1000013, li1000014, li1000015, li1000016, li1000017, li1000018, li1000019, li2147483647, lj0, lj1, W_add, W_sub, W_mul, W_neg, V_add, V_sub, V_mul, V_neg, W_ite, W_le, W_lt, W_inj, V_le, V_lt, V_inj, W_V, V_W, lgc_ge, lgc_gt, lgc_le, lgc_lt, lgc_eq, ge_iff_le, gt_iff_lt, ep9, q0, n1, e1, ↓reduceIte]
theorem e_closeY (hT : TXe I L T) (p0 : 0 ≤ p) (p1 : p ≤ L) (o0 : 0 < oc) (o1 : oc ≤ 4) (hq : sn T L (p, 0) 41) {cn' : Int} {PT' : Int → Int} (hc : f_X6_copyTracks (Sx (EPS I (p + 1) nm kd z cn (oc - 1) g PT OS OC) J 1 c) 2 (iW (OS (oc - 1))) (iW (OC (oc - 1))) = some (Sx (EPS I (p + 1) nm kd z cn' (oc - 1) g PT' OS OC) J 1 c, xv)) (fuel : Nat) : f_X6_closeRepeats_L0 (fuel + 1) (Sx (EPS I p nm kd z cn oc g PT OS OC) J 1 c) 2 = f_X6_closeRepeats_L0 fuel (Sx (EPS I (p + 1) nm kd z cn' (oc - 1) g PT' OS OC) J 1 c) 2 := by
  show f_X6_closeRepeats_b0 (f_X6_closeRepeats_L0 fuel) (Sx (EPS I p nm kd z cn oc g PT OS OC) J 1 c) 2 = _
  have q0 : ¬ (oc ≤ 0) := by omega
  have n1 : ¬ ((4 : Int) < oc) := by omega
  have e1 := e_next (J := J) (c := c) (nm := nm) (kd := kd) (z := z) (cn := cn) (oc := oc) (g := g) (PT := PT) (OS := OS) (OC := OC) hT p0 p1 (ch := 41) (by omega) (by omega)
  rw [bb_pos hq] at e1
  simp (disch := first | assumption | omega) only [f_X6_closeRepeats_b0, ↓rc2, ↓gI2_1, ↓gI2_2, ↓gI2_3, ↓gI2_4, ↓gI2_5, ↓gI2_6, ↓gI2_9, ↓pI2_1, ↓pI2_2, ↓pI2_3, ↓pI2_4, ↓pI2_6, ↓pI2_9, ↓pZ2_5, ↓gR2_0, ↓gR2_7, ↓gR2_8, ↓gR2_10, ↓gR2_11, ↓aI3, ↓ln3, ↓aI4, ↓sI4, ↓ln4, ↓aI5, ↓sI5, ↓ln5, ↓aI6, ↓sI6, ↓ln6, ↓aI7, ↓sI7, ↓ln7, ↓c_I, ↓c_J, ↓c_Q, ↓c_V, ↓c_It, ↓c_Jt, ↓c_Vt, ↓k_I, ↓k_J, ↓n_I, ↓n_V, li0, li1, li2, li3, li4, li5, li6, li7, li8, li9, li10, li11, li12, li13, li14, li15, li16, li17, li18, li19, li20, li21, li22, li23, li24, li25, li26, li27, li28, li29, li30, li31, li32, li33, li34, li35, li36, li37, li38, li39, li40, li41, li42, li44, li48, li57, li63, li64, li65, li97, li99, li100, li101, li102, li104, li105, li106, li109, li114, li120, li128, li130, li300, li514, li999, li1000, li8192, li9999, li65536, li1000000, li1000001, li1000002, li1000003, li1000004, li1000005, li1000006, li1000007, li1000008, li1000009, li1000010, li1000011, li1000012, li1000013, li1000014, li1000015, li1000016, li1000017, li1000018, li1000019, li2147483647, lj0, lj1, W_add, W_sub, W_mul, W_neg, V_add, V_sub, V_mul, V_neg, W_ite, W_le, W_lt, W_inj, V_le, V_lt, V_inj, W_V, V_W, lgc_ge, lgc_gt, lgc_le, lgc_lt, lgc_eq, ge_iff_le, gt_iff_lt, ep9, ep2, q0, n1, e1, ew2, ew9, epS, epC, hc, Int.reduceEq, ↓reduceIte]
/-- where a repeat's head leads -/
noncomputable def hd0 (T : Int → Int) (L d : Int) (s : Int × Int) : Int × Int := if d = 4 then ((wS T L [114, 101, 112, 101, 97, 116] s).1, 1) else wS T L [114, 101, 112, 101, 97, 116] s
noncomputable def hdN (T : Int → Int) (L d : Int) (s : Int × Int) : (Int × Int) × Int := nS T L (mS T L 40 (hd0 T L d s))
noncomputable def hdS (T : Int → Int) (L d : Int) (s : Int × Int) : Int × Int := mS T L 44 (hdN T L d s).1
theorem hd_ok {d : Int} {s : Int × Int} (hs : okP L s) : okP L (hd0 T L d s) ∧ okP L (mS T L 40 (hd0 T L d s)) ∧ okP L (hdN T L d s).1 ∧ okP L (hdS T L d s) ∧ s.1 ≤ (hdS T L d s).1 ∧ 0 ≤ (hdN T L d s).2 ∧ (hdN T L d s).2 ≤ 999 := by
  have h1 := wS_ok (T := T) [114, 101, 112, 101, 97, 116] hs
  have h2 : okP L (hd0 T L d s) ∧ s.1 ≤ (hd0 T L d s).1 := by
    unfold hd0
    split
    · exact ⟨⟨h1.1.1, h1.1.2.1, Or.inr rfl⟩, h1.2.1⟩
    · exact ⟨h1.1, h1.2.1⟩
  have h3 := mS_ok (T := T) (ch := 40) h2.1
  have h4 := nS_ok (T := T) h3.1
  have h5 := mS_ok (T := T) (ch := 44) h4.1
  exact ⟨h2.1, h3.1, h4.1, h5.1, Int.le_trans h2.2 (Int.le_trans h3.2.1 (Int.le_trans h4.2.1 h5.2.1)), h4.2.2.2.1, h4.2.2.2.2⟩
theorem e_open (hT : TXe I L T) (p0 : 0 ≤ p) (p1 : p ≤ L) (o0 : 0 ≤ oc) (o1 : oc ≤ 4) : ∃ nm', f_X6_openRepeat (Sx (EPS I p nm kd z cn oc g PT OS OC) J 1 c) 2 = if (hdS T L oc (p, 0)).2 = 0 then some (Sx (EPS I (hdS T L oc (p, 0)).1 nm' kd z cn (oc + 1) g PT (ug OS oc cn) (ug OC oc (hdN T L oc (p, 0)).2)) J 1 c, xi (iW 1)) else some (Sx (EPS I (hdS T L oc (p, 0)).1 nm' kd z cn oc g PT OS OC) J 1 c, xi (iW 0)) := by
  have hs : okP L (p, 0) := ⟨p0, p1, Or.inl rfl⟩
  have w1 := e_word (J := J) (c := c) (nm := nm) (kd := kd) (z := z) (cn := cn) (oc := oc) (g := g) (PT := PT) (OS := OS) (OC := OC) wd_2 (by decide) (by decide) hT p0 p1
  have hw := (wS_ok (T := T) [114, 101, 112, 101, 97, 116] hs).1
  unfold hdS hdN hd0
  generalize wS T L [114, 101, 112, 101, 97, 116] (p, 0) = s1 at w1 hw ⊢
  obtain ⟨p2, f2⟩ := s1
  have hp2 : 0 ≤ p2 ∧ p2 ≤ L ∧ (f2 = 0 ∨ f2 = 1) := hw
  have fail : ∀ (q : Int × Int), q.2 = 1 → (mS T L 44 (nS T L (mS T L 40 q)).1) = q := fun q hq => by
    rw [mS_f hq, nS_f hq, mS_f hq]
  rcases hp2.2.2 with rfl | rfl
  · have w1 : f_X6_takeWord (Sx (EPS I p nm kd z cn oc g PT OS OC) J 1 c) 2 1000002 = some (Sx (EPS I p2 nm kd z cn oc g PT OS OC) J 1 c, xi (iW (bb ((0 : Int) = 0)))) := w1
    rw [bb_pos rfl] at w1
    by_cases q4 : oc = 4
    · rw [if_pos q4]
      refine ⟨nm, ?_⟩
      rw [fail _ rfl, if_neg (show ¬ ((1 : Int) = 0) by decide)]
      have n4 : ¬ (oc < 4) := by omega
      simp (disch := first | assumption | omega) only [f_X6_openRepeat, f_X6_openRepeat_b17, ↓rc2, ↓gI2_1, ↓gI2_2, ↓gI2_3, ↓gI2_4, ↓gI2_5, ↓gI2_6, ↓gI2_9, ↓pI2_1, ↓pI2_2, ↓pI2_3, ↓pI2_4, ↓pI2_6, ↓pI2_9, ↓pZ2_5, ↓gR2_0, ↓gR2_7, ↓gR2_8, ↓gR2_10, ↓gR2_11, ↓aI3, ↓ln3, ↓aI4, ↓sI4, ↓ln4, ↓aI5, ↓sI5, ↓ln5, ↓aI6, ↓sI6, ↓ln6, ↓aI7, ↓sI7, ↓ln7, ↓c_I, ↓c_J, ↓c_Q, ↓c_V, ↓c_It, ↓c_Jt, ↓c_Vt, ↓k_I, ↓k_J, ↓n_I, ↓n_V, li0, li1, li2, li3, li4, li5, li6, li7, li8, li9, li10, li11, li12, li13, li14, li15, li16, li17, li18, li19, li20, li21, li22, li23, li24, li25, li26, li27, li28, li29, li30, li31, li32, li33, li34, li35, li36, li37, li38, li39, li40, li41, li42, li44, li48, li57, li63, li64, li65, li97, li99, li100, li101, li102, li104, li105, li106, li109, li114, li120, li128, li130, li300, li514, li999, li1000, li8192, li9999, li65536, li1000000, li1000001, li1000002, li1000003, li1000004, li1000005, li1000006, li1000007, li1000008, li1000009, li1000010, li1000011, li1000012, li1000013, li1000014, li1000015, li1000016, li1000017, li1000018, li1000019, li2147483647, lj0, lj1, W_add, W_sub, W_mul, W_neg, V_add, V_sub, V_mul, V_neg, W_ite, W_le, W_lt, W_inj, V_le, V_lt, V_inj, W_V, V_W, lgc_ge, lgc_gt, lgc_le, lgc_lt, lgc_eq, ge_iff_le, gt_iff_lt, w1, ep9, n4, Int.reduceEq, ↓reduceIte, r_Z]
    · rw [if_neg q4]
      have n4 : oc < 4 := by omega
      have w2 := e_word (J := J) (c := c) (nm := nm) (kd := kd) (z := z) (cn := cn) (oc := oc) (g := g) (PT := PT) (OS := OS) (OC := OC) wd_3 (by decide) (by decide) hT hp2.1 hp2.2.1
      have hw2 : wS T L [40] (p2, 0) = mS T L 40 (p2, 0) := rfl
      rw [hw2] at w2
      have hm2 := (mS_ok (T := T) (ch := 40) (show okP L (p2, 0) from ⟨hp2.1, hp2.2.1, Or.inl rfl⟩)).1
      generalize mS T L 40 (p2, 0) = s3 at w2 hm2 ⊢
      obtain ⟨p3, f3⟩ := s3
      have hp3 : 0 ≤ p3 ∧ p3 ≤ L ∧ (f3 = 0 ∨ f3 = 1) := hm2
      rcases hp3.2.2 with rfl | rfl
      · have w2 : f_X6_takeWord (Sx (EPS I p2 nm kd z cn oc g PT OS OC) J 1 c) 2 1000003 = some (Sx (EPS I p3 nm kd z cn oc g PT OS OC) J 1 c, xi (iW (bb ((0 : Int) = 0)))) := w2
        rw [bb_pos rfl] at w2
        have e2 := e_num (J := J) (c := c) (nm := nm) (kd := kd) (z := z) (cn := cn) (oc := oc) (g := g) (PT := PT) (OS := OS) (OC := OC) hT hp3.1 hp3.2.1
        have hn := (nS_ok (T := T) (L := L) (s := (p3, 0)) ⟨hp3.1, hp3.2.1, Or.inl rfl⟩).1
        by_cases q : dg T L (p3, 0)
        · rw [cif_pos q] at e2
          have h2 := nS_2 q hp3.1 hp3.2.1
          rw [bb_pos h2] at e2
          generalize nS T L (p3, 0) = N at e2 h2 hn ⊢
          obtain ⟨⟨n1, f1⟩, v⟩ := N
          have h2 : f1 = 0 := h2
          subst h2
          have hn : 0 ≤ n1 ∧ n1 ≤ L ∧ _ := hn
          have e2 : f_X6_takeNumber (Sx (EPS I p3 nm kd z cn oc g PT OS OC) J 1 c) 2 = some (Sx (EPS I n1 v kd z cn oc g PT OS OC) J 1 c, xi (iW 1)) := e2
          have w3 := e_word (J := J) (c := c) (nm := v) (kd := kd) (z := z) (cn := cn) (oc := oc) (g := g) (PT := PT) (OS := OS) (OC := OC) wd_4 (by decide) (by decide) hT hn.1 hn.2.1
          have hw3 : wS T L [44] (n1, 0) = mS T L 44 (n1, 0) := rfl
          rw [hw3] at w3
          refine ⟨v, ?_⟩
          show _ = if (mS T L 44 (n1, 0)).2 = 0 then some (Sx (EPS I (mS T L 44 (n1, 0)).1 v kd z cn (oc + 1) g PT (ug OS oc cn) (ug OC oc v)) J 1 c, xi (iW 1)) else some (Sx (EPS I (mS T L 44 (n1, 0)).1 v kd z cn oc g PT OS OC) J 1 c, xi (iW 0))
          by_cases qe : (mS T L 44 (n1, 0)).2 = 0
          · rw [if_pos qe]
            rw [bb_pos qe] at w3
            simp (disch := first | assumption | omega) only [f_X6_openRepeat, f_X6_openRepeat_b17, f_X6_openRepeat_b44, ↓rc2, ↓gI2_1, ↓gI2_2, ↓gI2_3, ↓gI2_4, ↓gI2_5, ↓gI2_6, ↓gI2_9, ↓pI2_1, ↓pI2_2, ↓pI2_3, ↓pI2_4, ↓pI2_6, ↓pI2_9, ↓pZ2_5, ↓gR2_0, ↓gR2_7, ↓gR2_8, ↓gR2_10, ↓gR2_11, ↓aI3, ↓ln3, ↓aI4, ↓sI4, ↓ln4, ↓aI5, ↓sI5, ↓ln5, ↓aI6, ↓sI6, ↓ln6, ↓aI7, ↓sI7, ↓ln7, ↓c_I, ↓c_J, ↓c_Q, ↓c_V, ↓c_It, ↓c_Jt, ↓c_Vt, ↓k_I, ↓k_J, ↓n_I, ↓n_V, li0, li1, li2, li3, li4, li5, li6, li7, li8, li9, li10, li11, li12, li13, li14, li15, li16, li17, li18, li19, li20, li21, li22, li23, li24, li25, li26, li27, li28, li29, li30, li31, li32, li33, li34, li35, li36, li37, li38, li39, li40, li41, li42, li44, li48, li57, li63, li64, li65, li97, li99, li100, li101, li102, li104, li105, li106, li109, li114, li120, li128, li130, li300, li514, li999, li1000, li8192, li9999, li65536, li1000000, li1000001, li1000002, li1000003, li1000004, li1000005, li1000006, li1000007, li1000008, li1000009, li1000010, li1000011, li1000012, li1000013, li1000014, li1000015, li1000016, li1000017, li1000018, li1000019, li2147483647, lj0, lj1, W_add, W_sub, W_mul, W_neg, V_add, V_sub, V_mul, V_neg, W_ite, W_le, W_lt, W_inj, V_le, V_lt, V_inj, W_V, V_W, lgc_ge, lgc_gt, lgc_le, lgc_lt, lgc_eq, ge_iff_le, gt_iff_lt, w1, ep9, n4, w2, e2, w3, ep3, ep6, ewS, ewC, ew9, Int.reduceEq, ↓reduceIte, r_Z]
          · rw [if_neg qe]
            rw [bb_neg qe] at w3
            simp (disch := first | assumption | omega) only [f_X6_openRepeat, f_X6_openRepeat_b17, f_X6_openRepeat_b44, ↓rc2, ↓gI2_1, ↓gI2_2, ↓gI2_3, ↓gI2_4, ↓gI2_5, ↓gI2_6, ↓gI2_9, ↓pI2_1, ↓pI2_2, ↓pI2_3, ↓pI2_4, ↓pI2_6, ↓pI2_9, ↓pZ2_5, ↓gR2_0, ↓gR2_7, ↓gR2_8, ↓gR2_10, ↓gR2_11, ↓aI3, ↓ln3, ↓aI4, ↓sI4, ↓ln4, ↓aI5, ↓sI5, ↓ln5, ↓aI6, ↓sI6, ↓ln6, ↓aI7, ↓sI7, ↓ln7, ↓c_I, ↓c_J, ↓c_Q, ↓c_V, ↓c_It, ↓c_Jt, ↓c_Vt, ↓k_I, ↓k_J, ↓n_I, ↓n_V, li0, li1, li2, li3, li4, li5, li6, li7, li8, li9, li10, li11, li12, li13, li14, li15, li16, li17, li18, li19, li20, li21, li22, li23, li24, li25, li26, li27, li28, li29, li30, li31, li32, li33, li34, li35, li36, li37, li38, li39, li40, li41, li42, li44, li48, li57, li63, li64, li65, li97, li99, li100, li101, li102, li104, li105, li106, li109, li114, li120, li128, li130, li300, li514, li999, li1000, li8192, li9999, li65536, li1000000, li1000001, li1000002, li1000003, li1000004, li1000005, li1000006, li1000007, li1000008, li1000009, li1000010, li1000011, li1000012, li1000013, li1000014, li1000015, li1000016, li1000017, li1000018, li1000019, li2147483647, lj0, lj1, W_add, W_sub, W_mul, W_neg, V_add, V_sub, V_mul, V_neg, W_ite, W_le, W_lt, W_inj, V_le, V_lt, V_inj, W_V, V_W, lgc_ge, lgc_gt, lgc_le, lgc_lt, lgc_eq, ge_iff_le, gt_iff_lt, w1, ep9, n4, w2, e2, w3, Int.reduceEq, ↓reduceIte, r_Z]
        · rw [cif_neg q] at e2
          have h2 : nS T L (p3, 0) = ((p3, 1), 0) := by
            unfold nS
            rw [cif_neg q]
          rw [h2] at e2 ⊢
          have e2 : f_X6_takeNumber (Sx (EPS I p3 nm kd z cn oc g PT OS OC) J 1 c) 2 = some (Sx (EPS I p3 nm kd z cn oc g PT OS OC) J 1 c, xi (iW (bb ((1 : Int) = 0)))) := e2
          rw [bb_neg (by decide)] at e2
          refine ⟨nm, ?_⟩
          show _ = if (mS T L 44 (p3, 1)).2 = 0 then _ else some (Sx (EPS I (mS T L 44 (p3, 1)).1 nm kd z cn oc g PT OS OC) J 1 c, xi (iW 0))
          rw [mS_1, if_neg (show ¬ ((1 : Int) = 0) by decide)]
          simp (disch := first | assumption | omega) only [f_X6_openRepeat, f_X6_openRepeat_b17, f_X6_openRepeat_b44, ↓rc2, ↓gI2_1, ↓gI2_2, ↓gI2_3, ↓gI2_4, ↓gI2_5, ↓gI2_6, ↓gI2_9, ↓pI2_1, ↓pI2_2, ↓pI2_3, ↓pI2_4, ↓pI2_6, ↓pI2_9, ↓pZ2_5, ↓gR2_0, ↓gR2_7, ↓gR2_8, ↓gR2_10, ↓gR2_11, ↓aI3, ↓ln3, ↓aI4, ↓sI4, ↓ln4, ↓aI5, ↓sI5, ↓ln5, ↓aI6, ↓sI6, ↓ln6, ↓aI7, ↓sI7, ↓ln7, ↓c_I, ↓c_J, ↓c_Q, ↓c_V, ↓c_It, ↓c_Jt, ↓c_Vt, ↓k_I, ↓k_J, ↓n_I, ↓n_V, li0, li1, li2, li3, li4, li5, li6, li7, li8, li9, li10, li11, li12, li13, li14, li15, li16, li17, li18, li19, li20, li21, li22, li23, li24, li25, li26, li27, li28, li29, li30, li31, li32, li33, li34, li35, li36, li37, li38, li39, li40, li41, li42, li44, li48, li57, li63, li64, li65, li97, li99, li100, li101, li102, li104, li105, li106, li109, li114, li120, li128, li130, li300, li514, li999, li1000, li8192, li9999, li65536, li1000000, li1000001, li1000002, li1000003, li1000004, li1000005, li1000006, li1000007, li1000008, li1000009, li1000010, li1000011, li1000012, li1000013, li1000014, li1000015, li1000016, li1000017, li1000018, li1000019, li2147483647, lj0, lj1, W_add, W_sub, W_mul, W_neg, V_add, V_sub, V_mul, V_neg, W_ite, W_le, W_lt, W_inj, V_le, V_lt, V_inj, W_V, V_W, lgc_ge, lgc_gt, lgc_le, lgc_lt, lgc_eq, ge_iff_le, gt_iff_lt, w1, ep9, n4, w2, e2, Int.reduceEq, ↓reduceIte, r_Z]
      · have w2 : f_X6_takeWord (Sx (EPS I p2 nm kd z cn oc g PT OS OC) J 1 c) 2 1000003 = some (Sx (EPS I p3 nm kd z cn oc g PT OS OC) J 1 c, xi (iW (bb ((1 : Int) = 0)))) := w2
        rw [bb_neg (by decide)] at w2
        refine ⟨nm, ?_⟩
        rw [nS_f rfl]
        show _ = if (mS T L 44 (p3, 1)).2 = 0 then _ else some (Sx (EPS I (mS T L 44 (p3, 1)).1 nm kd z cn oc g PT OS OC) J 1 c, xi (iW 0))
        rw [mS_1, if_neg (show ¬ ((1 : Int) = 0) by decide)]
        simp (disch := first | assumption | omega) only [f_X6_openRepeat, f_X6_openRepeat_b17, f_X6_openRepeat_b44, ↓rc2, ↓gI2_1, ↓gI2_2, ↓gI2_3, ↓gI2_4, ↓gI2_5, ↓gI2_6, ↓gI2_9, ↓pI2_1, ↓pI2_2, ↓pI2_3, ↓pI2_4, ↓pI2_6, ↓pI2_9, ↓pZ2_5, ↓gR2_0, ↓gR2_7, ↓gR2_8, ↓gR2_10, ↓gR2_11, ↓aI3, ↓ln3, ↓aI4, ↓sI4, ↓ln4, ↓aI5, ↓sI5, ↓ln5, ↓aI6, ↓sI6, ↓ln6, ↓aI7, ↓sI7, ↓ln7, ↓c_I, ↓c_J, ↓c_Q, ↓c_V, ↓c_It, ↓c_Jt, ↓c_Vt, ↓k_I, ↓k_J, ↓n_I, ↓n_V, li0, li1, li2, li3, li4, li5, li6, li7, li8, li9, li10, li11, li12, li13, li14, li15, li16, li17, li18, li19, li20, li21, li22, li23, li24, li25, li26, li27, li28, li29, li30, li31, li32, li33, li34, li35, li36, li37, li38, li39, li40, li41, li42, li44, li48, li57, li63, li64, li65, li97, li99, li100, li101, li102, li104, li105, li106, li109, li114, li120, li128, li130, li300, li514, li999, li1000, li8192, li9999, li65536, li1000000, li1000001, li1000002, li1000003, li1000004, li1000005, li1000006, li1000007, li1000008, li1000009, li1000010, li1000011, li1000012, li1000013, li1000014, li1000015, li1000016, li1000017, li1000018, li1000019, li2147483647, lj0, lj1, W_add, W_sub, W_mul, W_neg, V_add, V_sub, V_mul, V_neg, W_ite, W_le, W_lt, W_inj, V_le, V_lt, V_inj, W_V, V_W, lgc_ge, lgc_gt, lgc_le, lgc_lt, lgc_eq, ge_iff_le, gt_iff_lt, w1, ep9, n4, w2, Int.reduceEq, ↓reduceIte, r_Z]
  · have w1 : f_X6_takeWord (Sx (EPS I p nm kd z cn oc g PT OS OC) J 1 c) 2 1000002 = some (Sx (EPS I p2 nm kd z cn oc g PT OS OC) J 1 c, xi (iW (bb ((1 : Int) = 0)))) := w1
    rw [bb_neg (by decide)] at w1
    refine ⟨nm, ?_⟩
    have hh : (if oc = 4 then (p2, 1) else (p2, 1) : Int × Int) = (p2, 1) := by split <;> rfl
    show _ = if (mS T L 44 (nS T L (mS T L 40 (if oc = 4 then (p2, 1) else (p2, 1)))).1).2 = 0 then _ else some (Sx (EPS I (mS T L 44 (nS T L (mS T L 40 (if oc = 4 then (p2, 1) else (p2, 1)))).1).1 nm kd z cn oc g PT OS OC) J 1 c, xi (iW 0))
    rw [hh, fail _ rfl, if_neg (show ¬ ((1 : Int) = 0) by decide)]
    simp (disch := first | assumption | omega) only [f_X6_openRepeat, f_X6_openRepeat_b17, ↓rc2, ↓gI2_1, ↓gI2_2, ↓gI2_3, ↓gI2_4, ↓gI2_5, ↓gI2_6, ↓gI2_9, ↓pI2_1, ↓pI2_2, ↓pI2_3, ↓pI2_4, ↓pI2_6, ↓pI2_9, ↓pZ2_5, ↓gR2_0, ↓gR2_7, ↓gR2_8, ↓gR2_10, ↓gR2_11, ↓aI3, ↓ln3, ↓aI4, ↓sI4, ↓ln4, ↓aI5, ↓sI5, ↓ln5, ↓aI6, ↓sI6, ↓ln6, ↓aI7, ↓sI7, ↓ln7, ↓c_I, ↓c_J, ↓c_Q, ↓c_V, ↓c_It, ↓c_Jt, ↓c_Vt, ↓k_I, ↓k_J, ↓n_I, ↓n_V, li0, li1, li2, li3, li4, li5, li6, li7, li8, li9, li10, li11, li12, li13, li14, li15, li16, li17, li18, li19, li20, li21, li22, li23, li24, li25, li26, li27, li28, li29, li30, li31, li32, li33, li34, li35, li36, li37, li38, li39, li40, li41, li42, li44, li48, li57, li63, li64, li65, li97, li99, li100, li101, li102, li104, li105, li106, li109, li114, li120, li128, li130, li300, li514, li999, li1000, li8192, li9999, li65536, li1000000, li1000001, li1000002, li1000003, li1000004, li1000005, li1000006, li1000007, li1000008, li1000009, li1000010, li1000011, li1000012, li1000013, li1000014, li1000015, li1000016, li1000017, li1000018, li1000019, li2147483647, lj0, lj1, W_add, W_sub, W_mul, W_neg, V_add, V_sub, V_mul, V_neg, W_ite, W_le, W_lt, W_inj, V_le, V_lt, V_inj, W_V, V_W, lgc_ge, lgc_gt, lgc_le, lgc_lt, lgc_eq, ge_iff_le, gt_iff_lt, w1, ↓reduceIte, r_Z]
end CloseE

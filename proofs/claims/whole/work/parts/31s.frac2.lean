/-! ===== the engine's Fractions: sharing what is left ===== -/
section FracF
variable {b : Nat} {c : Bool} {A : CF} {o : Nat} {ax : Int}
/-- what is known of the tracks that are active in the end -/
def actOK (A : CF) (ax : Int) (act : Int → Prop) : Prop := (∀ k, act k → 1 ≤ k ∧ k ≤ nt A ax) ∧ (∀ k, act k → tpt A ax k 2 = 5) ∧ agd A ax act
theorem act_share {act : Int → Prop} (hA : okA A) (hP : plB A) (x0 : 0 ≤ ax) (x1 : ax < 2) (h : actOK A ax act) {k : Int} (hk : act k) :
    1 ≤ fxs A ax act ∧ 0 ≤ lfo A ax act ∧ (0 ≤ lfo A ax act * tpt A ax k 3 ∧ lfo A ax act * tpt A ax k 3 ≤ 9999 * 999) ∧ (0 ≤ (lfo A ax act * tpt A ax k 3).tdiv (fxs A ax act) ∧ (lfo A ax act * tpt A ax k 3).tdiv (fxs A ax act) ≤ 9999) ∧ 0 ≤ (lfo A ax act * tpt A ax k 3).tmod (fxs A ax act) ∧ (lfo A ax act * tpt A ax k 3).tmod (fxs A ax act) ≤ fxs A ax act - 1 ∧ lfo A ax act * tpt A ax k 3 = (lfo A ax act * tpt A ax k 3).tdiv (fxs A ax act) * fxs A ax act + (lfo A ax act * tpt A ax k 3).tmod (fxs A ax act) := by
  have hk1 := h.1 k hk
  have hpt := tpt_ok hA x0 x1 hk1.1
  have hx5 := hpt.2.2.2.2.1 (h.2.1 k hk)
  have fb := fxs_bd hA hP x0 x1 act
  have hf := fb.2 k hk1.1 hk1.2 hk
  have lb := lfo_bd hA hP x0 x1 act
  have hg := h.2.2 k hk
  unfold big at hg
  have gb := (grw_bd hA hP x0 x1 k).1
  have hgf : 0 ≤ grw A ax k * fxs A ax act := Int.mul_nonneg gb.1 fb.1.1
  have hl0 : 0 ≤ lfo A ax act := by
    apply Classical.byContradiction
    intro hn
    have : lfo A ax act * tpt A ax k 3 < 0 * tpt A ax k 3 := Int.mul_lt_mul_of_pos_right (by omega) (by omega)
    rw [Int.zero_mul] at this
    omega
  have m1 := mul_bd (a := lfo A ax act) (b := tpt A ax k 3) (A := 9999) (B := 999) hl0 (by omega) (by omega) (by omega)
  have hd0 : 0 ≤ (lfo A ax act * tpt A ax k 3).tdiv (fxs A ax act) := Int.tdiv_nonneg m1.1 (by omega)
  have hle : lfo A ax act * tpt A ax k 3 ≤ lfo A ax act * fxs A ax act := Int.mul_le_mul_of_nonneg_left hf hl0
  have hm0 : 0 ≤ (lfo A ax act * tpt A ax k 3).tmod (fxs A ax act) := Int.tmod_nonneg _ m1.1
  have hm1 : (lfo A ax act * tpt A ax k 3).tmod (fxs A ax act) < fxs A ax act := Int.tmod_lt_of_pos _ (by omega)
  have hdm : lfo A ax act * tpt A ax k 3 = (lfo A ax act * tpt A ax k 3).tdiv (fxs A ax act) * fxs A ax act + (lfo A ax act * tpt A ax k 3).tmod (fxs A ax act) := by
    have := Int.tdiv_mul_add_tmod (lfo A ax act * tpt A ax k 3) (fxs A ax act)
    omega
  have hd1 : (lfo A ax act * tpt A ax k 3).tdiv (fxs A ax act) ≤ lfo A ax act := by
    have : (lfo A ax act * tpt A ax k 3).tdiv (fxs A ax act) * fxs A ax act ≤ lfo A ax act * fxs A ax act := by omega
    exact Int.le_of_mul_le_mul_right this (by omega)
  exact ⟨by omega, hl0, m1, ⟨hd0, by omega⟩, hm0, by omega, hdm⟩
theorem e_share_L {act : Int → Prop} (hac : actOK A ax act) (hf1 : 1 ≤ fxs A ax act) {I0 J0 : CF} (hS4 : ∀ k, 0 ≤ k → k < 65 → I0 (o + 5) k = grw A ax k) : ∀ (fuel : Nat) (k : Int) (I J : CF), nt A ax - k + 1 < fuel → 1 ≤ k → k ≤ nt A ax + 1 → FX I A o ax → (∀ k, 1 ≤ k → k ≤ nt A ax → I 45 k = bb (act k)) → J 44 2 = lfo A ax act → J 44 3 = fxs A ax act → (∀ j, 0 ≤ j → j < 65 → I (o + 5) j = if j < k then cif (act j) ((lfo A ax act * tpt A ax j 3).tdiv (fxs A ax act)) (grw A ax j) else grw A ax j) → (∀ j, 1 ≤ j → j < k → J 46 j = cif (act j) ((lfo A ax act * tpt A ax j 3).tmod (fxs A ax act)) (-1)) → (∀ a : Int, a ≠ o + 5 → I a = I0 a) → (∀ a, a ≠ 46 → J a = J0 a) →
    ∃ I' J', f_X3_shareLeftover_L18 fuel (Sx I J b c) 44 o (jV (lfo A ax act - rs (fun k => cif (act k) ((lfo A ax act * tpt A ax k 3).tdiv (fxs A ax act)) 0) 1 (k - 1))) (iW k) = f_X3_shareLeftover_L111 FU (Sx I' J' b c) 44 o (jV (lfo A ax act - rs (fun k => cif (act k) ((lfo A ax act * tpt A ax k 3).tdiv (fxs A ax act)) 0) 1 (nt A ax))) (iW 0) ∧ FX I' A o ax ∧ (∀ j, 0 ≤ j → j < 65 → I' (o + 5) j = cif (act j) ((lfo A ax act * tpt A ax j 3).tdiv (fxs A ax act)) (grw A ax j)) ∧ (∀ j, 1 ≤ j → j ≤ nt A ax → J' 46 j = cif (act j) ((lfo A ax act * tpt A ax j 3).tmod (fxs A ax act)) (-1)) ∧ (∀ a : Int, a ≠ o + 5 → I' a = I0 a) ∧ ∀ a, a ≠ 46 → J' a = J0 a := by
  intro fuel
  induction fuel with
  | zero => intro k I J a1 a2 a3; omega
  | succ fuel ih =>
    intro k I J a1 a2 a3 h hact h2 h3 hI hJ hIo hJo
    show ∃ I' J', f_X3_shareLeftover_b18 (f_X3_shareLeftover_L18 fuel) (Sx I J b c) 44 o _ (iW k) = _ ∧ _
    have hX := h.1.1
    obtain ⟨ho, hx, h1, hA, hP, hM, hR⟩ := hX
    have hob := isL_bd ho
    have hnt := hP.2 ax (by omega) (by omega)
    have h10 := h.1.2.1
    by_cases hk : k = nt A ax + 1
    · subst hk
      have n0 : nt A ax < nt A ax + 1 := by omega
      refine ⟨I, J, ?_, h, fun j j0 j1 => ?_, fun j j0 j1 => hJ j j0 (by omega), hIo, hJo⟩
      · rw [show nt A ax + 1 - 1 = nt A ax by omega]
        simp (disch := first | assumption | omega) only [f_X3_shareLeftover_b18, ↓rcL, ↓gIL_0, ↓gIL_10, ↓gIL_11, ↓gIL_12, ↓gIL_13, ↓gIL_14, ↓gIL_15, ↓pIL_0, ↓pIL_10, ↓pIL_11, ↓pIL_12, ↓pIL_13, ↓pIL_14, ↓pIL_15, ↓gRL_1, ↓gRL_2, ↓gRL_3, ↓gRL_4, ↓gRL_5, ↓gRL_6, ↓gRL_7, ↓gRL_8, ↓gRL_9, ↓aIL1, ↓sZL1, ↓lnL1, ↓aIL2, ↓sIL2, ↓lnL2, ↓aIL3, ↓sIL3, ↓lnL3, ↓aIL4, ↓sIL4, ↓lnL4, ↓aIL5, ↓sIL5, ↓lnL5, ↓aIL6, ↓sIL6, ↓lnL6, ↓aIL7, ↓sIL7, ↓lnL7, ↓rc44, ↓gJ44_2, ↓gJ44_3, ↓gJ44_4, ↓gJ44_5, ↓pJ44_2, ↓pJ44_3, ↓pJ44_4, ↓pJ44_5, ↓gR44_0, ↓gR44_1, ↓aI45, ↓sZ45, ↓ln45, ↓aJ46, ↓sJ46, ↓c_I, ↓c_J, ↓c_Q, ↓c_V, ↓c_It, ↓c_Jt, ↓c_Vt, ↓k_I, ↓k_J, ↓n_I, ↓n_V, li0, li1, li2, li3, li4, li5, li6, li7, li8, li9, li10, li11, li12, li13, li14, li15, li16, li17, li18, li19, li20, li21, li22, li23, li24, li25, li26, li27, li28, li29, li30, li31, li32, li33, li34, li35, li36, li37, li38, li39, li40, li41, li42, li44, li48, li57, li63, li64, li65, li97, li99, li100, li101, li102, li104, li105, li106, li109, li114, li120, li128, li130, li300, li514, li999, li1000, li8192, li9999, li65536, li1000000, li1000001, li1000002, li1000003, li1000004, li1000005, li1000006, li1000007, li1000008, li1000009, li1000010, li1000011, li1000012, li1000013, li1000014, li1000015, li1000016, li1000017, li1000018, li1000019, li2147483647, lj0, lj1, W_add, W_sub, W_mul, W_neg, V_add, V_sub, V_mul, V_neg, W_ite, W_le, W_lt, W_inj, V_le, V_lt, V_inj, W_V, V_W, lgc_ge, lgc_gt, lgc_le, lgc_lt, lgc_eq, ge_iff_le, gt_iff_lt, h10, n0, ↓reduceIte]
      · rw [hI j j0 j1]
        by_cases e : j < nt A ax + 1
        · rw [if_pos e]
        · rw [if_neg e, cif_neg (fun z => e (by have := hac.1 j z; omega))]
    · have n1 : ¬ (nt A ax < k) := by omega
      have hak := hact k a2 (by omega)
      have e2 := fun (J : CF) => e_part (J := J) (b := b) (c := c) h.1.1 (k := k) (p := 3) a2 (by omega) (by omega) (by omega)
      have fb := (fxs_bd hA hP (ax := ax) (by omega) (by omega) act).1
      have r2 : rs (fun k => cif (act k) ((lfo A ax act * tpt A ax k 3).tdiv (fxs A ax act)) 0) 1 (k + 1 - 1) = rs (fun k => cif (act k) ((lfo A ax act * tpt A ax k 3).tdiv (fxs A ax act)) 0) 1 (k - 1) + cif (act k) ((lfo A ax act * tpt A ax k 3).tdiv (fxs A ax act)) 0 := by
        rw [show k + 1 - 1 = k by omega]
        exact rs_s (by omega)
      by_cases q : act k
      · rw [bb_pos q] at hak
        rw [cif_pos q] at r2
        obtain ⟨s1, s2, s3, s4, s5, s6, s7⟩ := act_share hA hP (ax := ax) (by omega) (by omega) hac q
        have hpt := tpt_ok hA (ax := ax) (by omega) (by omega) a2
        obtain ⟨I', J', k1, k2⟩ := ih (k + 1) (uI I (o + 5) k ((lfo A ax act * tpt A ax k 3).tdiv (fxs A ax act))) (uI (uI J 46 k (-1)) 46 k (lfo A ax act * tpt A ax k 3 - (lfo A ax act * tpt A ax k 3).tdiv (fxs A ax act) * fxs A ax act)) (by omega) (by omega) (by omega) (h.fr (fun a ha ha' => u_obj ha')) (by rw [u_obj (by omega)]; exact hact) (by rw [u_obj (by decide), u_obj (by decide)]; exact h2) (by rw [u_obj (by decide), u_obj (by decide)]; exact h3) (fun j j0 j1 => by
          rw [u_at]
          by_cases e : j = k
          · rw [if_pos e, if_pos (by omega), e, cif_pos q]
          · rw [if_neg e, hI j j0 j1]
            by_cases e2 : j < k
            · rw [if_pos e2, if_pos (by omega)]
            · rw [if_neg e2, if_neg (by omega)]) (fun j j0 j1 => by
          rw [u_at, u_at]
          by_cases e : j = k
          · rw [if_pos e, e, cif_pos q]
            omega
          · rw [if_neg e, if_neg e]
            exact hJ j j0 (by omega)) (fun a ha => by rw [u_obj ha]; exact hIo a ha) (fun a ha => by rw [u_obj ha, u_obj ha]; exact hJo a ha)
        refine ⟨I', J', ?_, k2⟩
        rw [← k1, r2]
        have hj2 : uI J 46 k (-1) 44 2 = lfo A ax act := by rw [u_obj (by decide)]; exact h2
        have hj3 : uI J 46 k (-1) 44 3 = fxs A ax act := by rw [u_obj (by decide)]; exact h3
        have hne : fxs A ax act ≠ 0 := by omega
        have m9 := mul_bd (a := (lfo A ax act * tpt A ax k 3).tdiv (fxs A ax act)) (b := fxs A ax act) (A := 9999) (B := 62937) (by omega) (by omega) (by omega) (by omega)
        have hv5 : uI I (o + 5) k ((lfo A ax act * tpt A ax k 3).tdiv (fxs A ax act)) (o + 5) k = (lfo A ax act * tpt A ax k 3).tdiv (fxs A ax act) := u_eq
        have hsub : lfo A ax act - rs (fun k => cif (act k) ((lfo A ax act * tpt A ax k 3).tdiv (fxs A ax act)) 0) 1 (k - 1) - (lfo A ax act * tpt A ax k 3).tdiv (fxs A ax act) = lfo A ax act - (rs (fun k => cif (act k) ((lfo A ax act * tpt A ax k 3).tdiv (fxs A ax act)) 0) 1 (k - 1) + (lfo A ax act * tpt A ax k 3).tdiv (fxs A ax act)) := by omega
        simp (disch := first | assumption | omega) only [f_X3_shareLeftover_b18, f_X3_shareLeftover_b102, ↓rcL, ↓gIL_0, ↓gIL_10, ↓gIL_11, ↓gIL_12, ↓gIL_13, ↓gIL_14, ↓gIL_15, ↓pIL_0, ↓pIL_10, ↓pIL_11, ↓pIL_12, ↓pIL_13, ↓pIL_14, ↓pIL_15, ↓gRL_1, ↓gRL_2, ↓gRL_3, ↓gRL_4, ↓gRL_5, ↓gRL_6, ↓gRL_7, ↓gRL_8, ↓gRL_9, ↓aIL1, ↓sZL1, ↓lnL1, ↓aIL2, ↓sIL2, ↓lnL2, ↓aIL3, ↓sIL3, ↓lnL3, ↓aIL4, ↓sIL4, ↓lnL4, ↓aIL5, ↓sIL5, ↓lnL5, ↓aIL6, ↓sIL6, ↓lnL6, ↓aIL7, ↓sIL7, ↓lnL7, ↓rc44, ↓gJ44_2, ↓gJ44_3, ↓gJ44_4, ↓gJ44_5, ↓pJ44_2, ↓pJ44_3, ↓pJ44_4, ↓pJ44_5, ↓gR44_0, ↓gR44_1, ↓aI45, ↓sZ45, ↓ln45, ↓aJ46, ↓sJ46, ↓c_I, ↓c_J, ↓c_Q, ↓c_V, ↓c_It, ↓c_Jt, ↓c_Vt, ↓k_I, ↓k_J, ↓n_I, ↓n_V, li0, li1, li2, li3, li4, li5, li6, li7, li8, li9, li10, li11, li12, li13, li14, li15, li16, li17, li18, li19, li20, li21, li22, li23, li24, li25, li26, li27, li28, li29, li30, li31, li32, li33, li34, li35, li36, li37, li38, li39, li40, li41, li42, li44, li48, li57, li63, li64, li65, li97, li99, li100, li101, li102, li104, li105, li106, li109, li114, li120, li128, li130, li300, li514, li999, li1000, li8192, li9999, li65536, li1000000, li1000001, li1000002, li1000003, li1000004, li1000005, li1000006, li1000007, li1000008, li1000009, li1000010, li1000011, li1000012, li1000013, li1000014, li1000015, li1000016, li1000017, li1000018, li1000019, li2147483647, lj0, lj1, W_add, W_sub, W_mul, W_neg, V_add, V_sub, V_mul, V_neg, W_ite, W_le, W_lt, W_inj, V_le, V_lt, V_inj, W_V, V_W, lgc_ge, lgc_gt, lgc_le, lgc_lt, lgc_eq, ge_iff_le, gt_iff_lt, h10, n1, hak, e2, hj2, hj3, hv5, hsub, V_d, V_div, Int.reduceEq, ↓reduceIte]
      · rw [bb_neg q] at hak
        rw [cif_neg q] at r2
        obtain ⟨I', J', k1, k2⟩ := ih (k + 1) I (uI J 46 k (-1)) (by omega) (by omega) (by omega) h hact (by rw [u_obj (by decide)]; exact h2) (by rw [u_obj (by decide)]; exact h3) (fun j j0 j1 => by
          rw [hI j j0 j1]
          by_cases e : j = k
          · rw [if_neg (by omega), if_pos (by omega), e, cif_neg q]
          · by_cases e2 : j < k
            · rw [if_pos e2, if_pos (by omega)]
            · rw [if_neg e2, if_neg (by omega)]) (fun j j0 j1 => by
          rw [u_at]
          by_cases e : j = k
          · rw [if_pos e, e, cif_neg q]
          · rw [if_neg e]
            exact hJ j j0 (by omega)) hIo (fun a ha => by rw [u_obj ha]; exact hJo a ha)
        refine ⟨I', J', ?_, k2⟩
        rw [← k1, r2, Int.add_zero]
        simp (disch := first | assumption | omega) only [f_X3_shareLeftover_b18, f_X3_shareLeftover_b102, ↓rcL, ↓gIL_0, ↓gIL_10, ↓gIL_11, ↓gIL_12, ↓gIL_13, ↓gIL_14, ↓gIL_15, ↓pIL_0, ↓pIL_10, ↓pIL_11, ↓pIL_12, ↓pIL_13, ↓pIL_14, ↓pIL_15, ↓gRL_1, ↓gRL_2, ↓gRL_3, ↓gRL_4, ↓gRL_5, ↓gRL_6, ↓gRL_7, ↓gRL_8, ↓gRL_9, ↓aIL1, ↓sZL1, ↓lnL1, ↓aIL2, ↓sIL2, ↓lnL2, ↓aIL3, ↓sIL3, ↓lnL3, ↓aIL4, ↓sIL4, ↓lnL4, ↓aIL5, ↓sIL5, ↓lnL5, ↓aIL6, ↓sIL6, ↓lnL6, ↓aIL7, ↓sIL7, ↓lnL7, ↓rc44, ↓gJ44_2, ↓gJ44_3, ↓gJ44_4, ↓gJ44_5, ↓pJ44_2, ↓pJ44_3, ↓pJ44_4, ↓pJ44_5, ↓gR44_0, ↓gR44_1, ↓aI45, ↓sZ45, ↓ln45, ↓aJ46, ↓sJ46, ↓c_I, ↓c_J, ↓c_Q, ↓c_V, ↓c_It, ↓c_Jt, ↓c_Vt, ↓k_I, ↓k_J, ↓n_I, ↓n_V, li0, li1, li2, li3, li4, li5, li6, li7, li8, li9, li10, li11, li12, li13, li14, li15, li16, li17, li18, li19, li20, li21, li22, li23, li24, li25, li26, li27, li28, li29, li30, li31, li32, li33, li34, li35, li36, li37, li38, li39, li40, li41, li42, li44, li48, li57, li63, li64, li65, li97, li99, li100, li101, li102, li104, li105, li106, li109, li114, li120, li128, li130, li300, li514, li999, li1000, li8192, li9999, li65536, li1000000, li1000001, li1000002, li1000003, li1000004, li1000005, li1000006, li1000007, li1000008, li1000009, li1000010, li1000011, li1000012, li1000013, li1000014, li1000015, li1000016, li1000017, li1000018, li1000019, li2147483647, lj0, lj1, W_add, W_sub, W_mul, W_neg, V_add, V_sub, V_mul, V_neg, W_ite, W_le, W_lt, W_inj, V_le, V_lt, V_inj, W_V, V_W, lgc_ge, lgc_gt, lgc_le, lgc_lt, lgc_eq, ge_iff_le, gt_iff_lt, h10, n1, hak, ↓reduceIte]
/-- what is left is less than a pixel for each track -/
theorem rst_le {act : Int → Prop} (hA : okA A) (hP : plB A) (x0 : 0 ≤ ax) (x1 : ax < 2) (hac : actOK A ax act) (hf1 : 1 ≤ fxs A ax act) : lfo A ax act - rs (fun k => cif (act k) ((lfo A ax act * tpt A ax k 3).tdiv (fxs A ax act)) 0) 1 (nt A ax) ≤ nt A ax := by
  have hnt := hP.2 ax x0 x1
  have key : ∀ n : Nat, lfo A ax act * rs (fun k => cif (act k) (tpt A ax k 3) 0) 1 n - fxs A ax act * rs (fun k => cif (act k) ((lfo A ax act * tpt A ax k 3).tdiv (fxs A ax act)) 0) 1 n ≤ n * fxs A ax act := by
    intro n
    induction n with
    | zero =>
      rw [rs_0 (by omega), rs_0 (by omega), Int.mul_zero, Int.mul_zero]
      show (0 : Int) - 0 ≤ 0 * _
      rw [Int.zero_mul]
      omega
    | succ n ih =>
      have hc : ((n + 1 : Nat) : Int) = (n : Int) + 1 := by omega
      have q1 := rs_s (f := fun k => cif (act k) (tpt A ax k 3) 0) (a := 1) (b := (n : Int) + 1) (by omega)
      have q2 := rs_s (f := fun k => cif (act k) ((lfo A ax act * tpt A ax k 3).tdiv (fxs A ax act)) 0) (a := 1) (b := (n : Int) + 1) (by omega)
      rw [show (n : Int) + 1 - 1 = n by omega] at q1 q2
      rw [hc, q1, q2, Int.mul_add, Int.mul_add, Int.add_mul, Int.one_mul]
      by_cases q : act ((n : Int) + 1)
      · obtain ⟨s1, s2, s3, s4, s5, s6, s7⟩ := act_share hA hP x0 x1 hac q
        rw [cif_pos q, cif_pos q]
        have : fxs A ax act * (lfo A ax act * tpt A ax (n + 1) 3).tdiv (fxs A ax act) = (lfo A ax act * tpt A ax (n + 1) 3).tdiv (fxs A ax act) * fxs A ax act := Int.mul_comm _ _
        omega
      · rw [cif_neg q, cif_neg q, Int.mul_zero, Int.mul_zero]
        omega
  have h1 := key (nt A ax).toNat
  rw [Int.toNat_of_nonneg hnt.2.1] at h1
  have h2 : rs (fun k => cif (act k) (tpt A ax k 3) 0) 1 (nt A ax) = fxs A ax act := rfl
  rw [h2, Int.mul_comm (lfo A ax act), ← Int.mul_sub, Int.mul_comm (nt A ax)] at h1
  exact Int.le_of_mul_le_mul_left h1 (by omega)
theorem e_take_L {I : CF} {act : Int → Prop} {m : Int → Int} (hin : ∀ k, act k → 1 ≤ k ∧ k ≤ nt A ax) (hn : nt A ax ≤ 63) {J : CF} (hJ : ∀ j, 1 ≤ j → j ≤ nt A ax → J 46 j = cif (act j) (m j) (-1)) (hm : ∀ k, act k → 0 ≤ m k ∧ m k ≤ 62937) : ∀ (fuel : Nat) (k p : Int), nt A ax - k + 1 < fuel → 1 ≤ k → k ≤ nt A ax + 1 → (0 ≤ p ∧ p < k) → PB act (fun _ => 1) (fun k => - m k) 0 k p →
    ∃ p', f_X3_takeGreatestRemainder_L4 fuel (Sx I J b c) 44 (iW (nt A ax)) (iW p) (iW k) = some (Sx I (uI J 46 p' (-1)) b c, xi (iW p')) ∧ PB act (fun _ => 1) (fun k => - m k) 0 (nt A ax + 1) p' ∧ 0 ≤ p' ∧ p' ≤ nt A ax := by
  intro fuel
  induction fuel with
  | zero => intro k p a1 a2 a3; omega
  | succ fuel ih =>
    intro k p a1 a2 a3 hp hb
    show ∃ p', f_X3_takeGreatestRemainder_b4 (f_X3_takeGreatestRemainder_L4 fuel) (Sx I J b c) 44 (iW (nt A ax)) (iW p) (iW k) = _ ∧ _
    by_cases hk : k = nt A ax + 1
    · subst hk
      have n0 : nt A ax < nt A ax + 1 := by omega
      refine ⟨p, ?_, hb, hp.1, by omega⟩
      simp (disch := first | assumption | omega) only [f_X3_takeGreatestRemainder_b4, ↓rc44, ↓gJ44_2, ↓gJ44_3, ↓gJ44_4, ↓gJ44_5, ↓pJ44_2, ↓pJ44_3, ↓pJ44_4, ↓pJ44_5, ↓gR44_0, ↓gR44_1, ↓aI45, ↓sZ45, ↓ln45, ↓aJ46, ↓sJ46, ↓c_I, ↓c_J, ↓c_Q, ↓c_V, ↓c_It, ↓c_Jt, ↓c_Vt, ↓k_I, ↓k_J, ↓n_I, ↓n_V, li0, li1, li2, li3, li4, li5, li6, li7, li8, li9, li10, li11, li12, li13, li14, li15, li16, li17, li18, li19, li20, li21, li22, li23, li24, li25, li26, li27, li28, li29, li30, li31, li32, li33, li34, li35, li36, li37, li38, li39, li40, li41, li42, li44, li48, li57, li63, li64, li65, li97, li99, li100, li101, li102, li104, li105, li106, li109, li114, li120, li128, li130, li300, li514, li999, li1000, li8192, li9999, li65536, li1000000, li1000001, li1000002, li1000003, li1000004, li1000005, li1000006, li1000007, li1000008, li1000009, li1000010, li1000011, li1000012, li1000013, li1000014, li1000015, li1000016, li1000017, li1000018, li1000019, li2147483647, lj0, lj1, W_add, W_sub, W_mul, W_neg, V_add, V_sub, V_mul, V_neg, W_ite, W_le, W_lt, W_inj, V_le, V_lt, V_inj, W_V, V_W, lgc_ge, lgc_gt, lgc_le, lgc_lt, lgc_eq, ge_iff_le, gt_iff_lt, n0, ↓reduceIte]
    · have n1 : ¬ (nt A ax < k) := by omega
      have hjk := hJ k a2 (by omega)
      by_cases q : act k
      · rw [cif_pos q] at hjk
        have hmk := hm k q
        have n2 : ¬ (m k < 0) := by omega
        by_cases hp0 : p = 0
        · obtain ⟨p', k1, k2⟩ := ih (k + 1) k (by omega) (by omega) (by omega) (by omega) ((hp0 ▸ hb).first q (by omega))
          refine ⟨p', ?_, k2⟩
          rw [← k1, hp0]
          simp (disch := first | assumption | omega) only [f_X3_takeGreatestRemainder_b4, f_X3_takeGreatestRemainder_b40, f_X3_takeGreatestRemainder_b42, ↓rc44, ↓gJ44_2, ↓gJ44_3, ↓gJ44_4, ↓gJ44_5, ↓pJ44_2, ↓pJ44_3, ↓pJ44_4, ↓pJ44_5, ↓gR44_0, ↓gR44_1, ↓aI45, ↓sZ45, ↓ln45, ↓aJ46, ↓sJ46, ↓c_I, ↓c_J, ↓c_Q, ↓c_V, ↓c_It, ↓c_Jt, ↓c_Vt, ↓k_I, ↓k_J, ↓n_I, ↓n_V, li0, li1, li2, li3, li4, li5, li6, li7, li8, li9, li10, li11, li12, li13, li14, li15, li16, li17, li18, li19, li20, li21, li22, li23, li24, li25, li26, li27, li28, li29, li30, li31, li32, li33, li34, li35, li36, li37, li38, li39, li40, li41, li42, li44, li48, li57, li63, li64, li65, li97, li99, li100, li101, li102, li104, li105, li106, li109, li114, li120, li128, li130, li300, li514, li999, li1000, li8192, li9999, li65536, li1000000, li1000001, li1000002, li1000003, li1000004, li1000005, li1000006, li1000007, li1000008, li1000009, li1000010, li1000011, li1000012, li1000013, li1000014, li1000015, li1000016, li1000017, li1000018, li1000019, li2147483647, lj0, lj1, W_add, W_sub, W_mul, W_neg, V_add, V_sub, V_mul, V_neg, W_ite, W_le, W_lt, W_inj, V_le, V_lt, V_inj, W_V, V_W, lgc_ge, lgc_gt, lgc_le, lgc_lt, lgc_eq, ge_iff_le, gt_iff_lt, n1, hjk, n2, ↓reduceIte]
        · have hap : act p := by
            rcases hb with ⟨h1, h2⟩ | ⟨h1, h2, h3⟩
            · exact absurd h1 hp0
            · exact h2.1
          have hjp := hJ p (by omega) (by omega)
          rw [cif_pos hap] at hjp
          have hmp := hm p hap
          by_cases hle : m k ≤ m p
          · obtain ⟨p', k1, k2⟩ := ih (k + 1) p (by omega) (by omega) (by omega) (by omega) (hb.keep hp0 q (by show ¬ (- m k + 1) * 1 < (- m p + 1) * 1; omega))
            refine ⟨p', ?_, k2⟩
            rw [← k1]
            simp (disch := first | assumption | omega) only [f_X3_takeGreatestRemainder_b4, f_X3_takeGreatestRemainder_b40, f_X3_takeGreatestRemainder_b42, ↓rc44, ↓gJ44_2, ↓gJ44_3, ↓gJ44_4, ↓gJ44_5, ↓pJ44_2, ↓pJ44_3, ↓pJ44_4, ↓pJ44_5, ↓gR44_0, ↓gR44_1, ↓aI45, ↓sZ45, ↓ln45, ↓aJ46, ↓sJ46, ↓c_I, ↓c_J, ↓c_Q, ↓c_V, ↓c_It, ↓c_Jt, ↓c_Vt, ↓k_I, ↓k_J, ↓n_I, ↓n_V, li0, li1, li2, li3, li4, li5, li6, li7, li8, li9, li10, li11, li12, li13, li14, li15, li16, li17, li18, li19, li20, li21, li22, li23, li24, li25, li26, li27, li28, li29, li30, li31, li32, li33, li34, li35, li36, li37, li38, li39, li40, li41, li42, li44, li48, li57, li63, li64, li65, li97, li99, li100, li101, li102, li104, li105, li106, li109, li114, li120, li128, li130, li300, li514, li999, li1000, li8192, li9999, li65536, li1000000, li1000001, li1000002, li1000003, li1000004, li1000005, li1000006, li1000007, li1000008, li1000009, li1000010, li1000011, li1000012, li1000013, li1000014, li1000015, li1000016, li1000017, li1000018, li1000019, li2147483647, lj0, lj1, W_add, W_sub, W_mul, W_neg, V_add, V_sub, V_mul, V_neg, W_ite, W_le, W_lt, W_inj, V_le, V_lt, V_inj, W_V, V_W, lgc_ge, lgc_gt, lgc_le, lgc_lt, lgc_eq, ge_iff_le, gt_iff_lt, n1, hjk, n2, hp0, hjp, hle, ↓reduceIte]
          · obtain ⟨p', k1, k2⟩ := ih (k + 1) k (by omega) (by omega) (by omega) (by omega) (hb.take hp0 q (by omega) (fun _ _ => by omega) (by show (- m k + 1) * 1 < (- m p + 1) * 1; omega))
            refine ⟨p', ?_, k2⟩
            rw [← k1]
            simp (disch := first | assumption | omega) only [f_X3_takeGreatestRemainder_b4, f_X3_takeGreatestRemainder_b40, f_X3_takeGreatestRemainder_b42, ↓rc44, ↓gJ44_2, ↓gJ44_3, ↓gJ44_4, ↓gJ44_5, ↓pJ44_2, ↓pJ44_3, ↓pJ44_4, ↓pJ44_5, ↓gR44_0, ↓gR44_1, ↓aI45, ↓sZ45, ↓ln45, ↓aJ46, ↓sJ46, ↓c_I, ↓c_J, ↓c_Q, ↓c_V, ↓c_It, ↓c_Jt, ↓c_Vt, ↓k_I, ↓k_J, ↓n_I, ↓n_V, li0, li1, li2, li3, li4, li5, li6, li7, li8, li9, li10, li11, li12, li13, li14, li15, li16, li17, li18, li19, li20, li21, li22, li23, li24, li25, li26, li27, li28, li29, li30, li31, li32, li33, li34, li35, li36, li37, li38, li39, li40, li41, li42, li44, li48, li57, li63, li64, li65, li97, li99, li100, li101, li102, li104, li105, li106, li109, li114, li120, li128, li130, li300, li514, li999, li1000, li8192, li9999, li65536, li1000000, li1000001, li1000002, li1000003, li1000004, li1000005, li1000006, li1000007, li1000008, li1000009, li1000010, li1000011, li1000012, li1000013, li1000014, li1000015, li1000016, li1000017, li1000018, li1000019, li2147483647, lj0, lj1, W_add, W_sub, W_mul, W_neg, V_add, V_sub, V_mul, V_neg, W_ite, W_le, W_lt, W_inj, V_le, V_lt, V_inj, W_V, V_W, lgc_ge, lgc_gt, lgc_le, lgc_lt, lgc_eq, ge_iff_le, gt_iff_lt, n1, hjk, n2, hp0, hjp, hle, ↓reduceIte]
      · rw [cif_neg q] at hjk
        have n2 : (-1 : Int) < 0 := by omega
        obtain ⟨p', k1, k2⟩ := ih (k + 1) p (by omega) (by omega) (by omega) (by omega) (hb.skip q)
        refine ⟨p', ?_, k2⟩
        rw [← k1]
        simp (disch := first | assumption | omega) only [f_X3_takeGreatestRemainder_b4, f_X3_takeGreatestRemainder_b42, ↓rc44, ↓gJ44_2, ↓gJ44_3, ↓gJ44_4, ↓gJ44_5, ↓pJ44_2, ↓pJ44_3, ↓pJ44_4, ↓pJ44_5, ↓gR44_0, ↓gR44_1, ↓aI45, ↓sZ45, ↓ln45, ↓aJ46, ↓sJ46, ↓c_I, ↓c_J, ↓c_Q, ↓c_V, ↓c_It, ↓c_Jt, ↓c_Vt, ↓k_I, ↓k_J, ↓n_I, ↓n_V, li0, li1, li2, li3, li4, li5, li6, li7, li8, li9, li10, li11, li12, li13, li14, li15, li16, li17, li18, li19, li20, li21, li22, li23, li24, li25, li26, li27, li28, li29, li30, li31, li32, li33, li34, li35, li36, li37, li38, li39, li40, li41, li42, li44, li48, li57, li63, li64, li65, li97, li99, li100, li101, li102, li104, li105, li106, li109, li114, li120, li128, li130, li300, li514, li999, li1000, li8192, li9999, li65536, li1000000, li1000001, li1000002, li1000003, li1000004, li1000005, li1000006, li1000007, li1000008, li1000009, li1000010, li1000011, li1000012, li1000013, li1000014, li1000015, li1000016, li1000017, li1000018, li1000019, li2147483647, lj0, lj1, W_add, W_sub, W_mul, W_neg, V_add, V_sub, V_mul, V_neg, W_ite, W_le, W_lt, W_inj, V_le, V_lt, V_inj, W_V, V_W, lgc_ge, lgc_gt, lgc_le, lgc_lt, lgc_eq, ge_iff_le, gt_iff_lt, n1, hjk, n2, ↓reduceIte]
theorem e_rest_L {m : Int → Int} {I0 J0 : CF} : ∀ (fuel : Nat) (t : Int) (r : Int) (act : Int → Prop) (f : Int → Int) (I J : CF), nt A ax - t + 1 < fuel → 0 ≤ t → t ≤ nt A ax → r ≤ 100000 → -1000000000 ≤ r → (r ≤ nt A ax - t ∨ ∀ k, ¬ act k) → LY I A o ax → (∀ k, act k → 1 ≤ k ∧ k ≤ nt A ax) → (∀ k, act k → 0 ≤ m k ∧ m k ≤ 62937) → (∀ j, 1 ≤ j → j ≤ nt A ax → J 46 j = cif (act j) (m j) (-1)) → (∀ j, 0 ≤ j → j < 65 → I (o + 5) j = f j) → (∀ a : Int, a ≠ o + 5 → I a = I0 a) → (∀ a, a ≠ 46 → J a = J0 a) →
    ∃ I' J' f', f_X3_shareLeftover_L111 fuel (Sx I J b c) 44 o (jV r) (iW t) = some (Sx I' J' b c, xv) ∧ Dr m r.toNat act f f' ∧ (∀ j, 0 ≤ j → j < 65 → I' (o + 5) j = f' j) ∧ (∀ a : Int, a ≠ o + 5 → I' a = I0 a) ∧ ∀ a, a ≠ 46 → J' a = J0 a := by
  intro fuel
  induction fuel with
  | zero => intro t r act f I J a1 a2 a3; omega
  | succ fuel ih =>
    intro t r act f I J a1 a2 a3 hr hr2 hrt h hin hm hJ hI hIo hJo
    show ∃ I' J' f', f_X3_shareLeftover_b111 (f_X3_shareLeftover_L111 fuel) (Sx I J b c) 44 o (jV r) (iW t) = _ ∧ _
    have hX := h.1
    obtain ⟨ho, hx, h1, hA, hP, hM, hR⟩ := hX
    have hob := isL_bd ho
    have hnt := hP.2 ax (by omega) (by omega)
    have h10 := h.2.1
    have stop : (nt A ax ≤ t ∨ r ≤ 0) → ∃ I' J' f', f_X3_shareLeftover_b111 (f_X3_shareLeftover_L111 fuel) (Sx I J b c) 44 o (jV r) (iW t) = some (Sx I' J' b c, xv) ∧ Dr m r.toNat act f f' ∧ (∀ j, 0 ≤ j → j < 65 → I' (o + 5) j = f' j) ∧ (∀ a : Int, a ≠ o + 5 → I' a = I0 a) ∧ ∀ a, a ≠ 46 → J' a = J0 a := by
      intro hs
      refine ⟨I, J, f, ?_, ?_, hI, hIo, hJo⟩
      · by_cases q : nt A ax ≤ t
        · simp (disch := first | assumption | omega) only [f_X3_shareLeftover_b111, f_X3_shareLeftover_b162, ↓rcL, ↓gIL_0, ↓gIL_10, ↓gIL_11, ↓gIL_12, ↓gIL_13, ↓gIL_14, ↓gIL_15, ↓pIL_0, ↓pIL_10, ↓pIL_11, ↓pIL_12, ↓pIL_13, ↓pIL_14, ↓pIL_15, ↓gRL_1, ↓gRL_2, ↓gRL_3, ↓gRL_4, ↓gRL_5, ↓gRL_6, ↓gRL_7, ↓gRL_8, ↓gRL_9, ↓aIL1, ↓sZL1, ↓lnL1, ↓aIL2, ↓sIL2, ↓lnL2, ↓aIL3, ↓sIL3, ↓lnL3, ↓aIL4, ↓sIL4, ↓lnL4, ↓aIL5, ↓sIL5, ↓lnL5, ↓aIL6, ↓sIL6, ↓lnL6, ↓aIL7, ↓sIL7, ↓lnL7, ↓rc44, ↓gJ44_2, ↓gJ44_3, ↓gJ44_4, ↓gJ44_5, ↓pJ44_2, ↓pJ44_3, ↓pJ44_4, ↓pJ44_5, ↓gR44_0, ↓gR44_1, ↓aI45, ↓sZ45, ↓ln45, ↓aJ46, ↓sJ46, ↓c_I, ↓c_J, ↓c_Q, ↓c_V, ↓c_It, ↓c_Jt, ↓c_Vt, ↓k_I, ↓k_J, ↓n_I, ↓n_V, li0, li1, li2, li3, li4, li5, li6, li7, li8, li9, li10, li11, li12, li13, li14, li15, li16, li17, li18, li19, li20, li21, li22, li23, li24, li25, li26, li27, li28, li29, li30, li31, li32, li33, li34, li35, li36, li37, li38, li39, li40, li41, li42, li44, li48, li57, li63, li64, li65, li97, li99, li100, li101, li102, li104, li105, li106, li109, li114, li120, li128, li130, li300, li514, li999, li1000, li8192, li9999, li65536, li1000000, li1000001, li1000002, li1000003, li1000004, li1000005, li1000006, li1000007, li1000008, li1000009, li1000010, li1000011, li1000012, li1000013, li1000014, li1000015, li1000016, li1000017, li1000018, li1000019, li2147483647, lj0, lj1, W_add, W_sub, W_mul, W_neg, V_add, V_sub, V_mul, V_neg, W_ite, W_le, W_lt, W_inj, V_le, V_lt, V_inj, W_V, V_W, lgc_ge, lgc_gt, lgc_le, lgc_lt, lgc_eq, ge_iff_le, gt_iff_lt, h10, q, ↓reduceIte]
        · have q2 : r ≤ 0 := by omega
          simp (disch := first | assumption | omega) only [f_X3_shareLeftover_b111, f_X3_shareLeftover_b162, ↓rcL, ↓gIL_0, ↓gIL_10, ↓gIL_11, ↓gIL_12, ↓gIL_13, ↓gIL_14, ↓gIL_15, ↓pIL_0, ↓pIL_10, ↓pIL_11, ↓pIL_12, ↓pIL_13, ↓pIL_14, ↓pIL_15, ↓gRL_1, ↓gRL_2, ↓gRL_3, ↓gRL_4, ↓gRL_5, ↓gRL_6, ↓gRL_7, ↓gRL_8, ↓gRL_9, ↓aIL1, ↓sZL1, ↓lnL1, ↓aIL2, ↓sIL2, ↓lnL2, ↓aIL3, ↓sIL3, ↓lnL3, ↓aIL4, ↓sIL4, ↓lnL4, ↓aIL5, ↓sIL5, ↓lnL5, ↓aIL6, ↓sIL6, ↓lnL6, ↓aIL7, ↓sIL7, ↓lnL7, ↓rc44, ↓gJ44_2, ↓gJ44_3, ↓gJ44_4, ↓gJ44_5, ↓pJ44_2, ↓pJ44_3, ↓pJ44_4, ↓pJ44_5, ↓gR44_0, ↓gR44_1, ↓aI45, ↓sZ45, ↓ln45, ↓aJ46, ↓sJ46, ↓c_I, ↓c_J, ↓c_Q, ↓c_V, ↓c_It, ↓c_Jt, ↓c_Vt, ↓k_I, ↓k_J, ↓n_I, ↓n_V, li0, li1, li2, li3, li4, li5, li6, li7, li8, li9, li10, li11, li12, li13, li14, li15, li16, li17, li18, li19, li20, li21, li22, li23, li24, li25, li26, li27, li28, li29, li30, li31, li32, li33, li34, li35, li36, li37, li38, li39, li40, li41, li42, li44, li48, li57, li63, li64, li65, li97, li99, li100, li101, li102, li104, li105, li106, li109, li114, li120, li128, li130, li300, li514, li999, li1000, li8192, li9999, li65536, li1000000, li1000001, li1000002, li1000003, li1000004, li1000005, li1000006, li1000007, li1000008, li1000009, li1000010, li1000011, li1000012, li1000013, li1000014, li1000015, li1000016, li1000017, li1000018, li1000019, li2147483647, lj0, lj1, W_add, W_sub, W_mul, W_neg, V_add, V_sub, V_mul, V_neg, W_ite, W_le, W_lt, W_inj, V_le, V_lt, V_inj, W_V, V_W, lgc_ge, lgc_gt, lgc_le, lgc_lt, lgc_eq, ge_iff_le, gt_iff_lt, h10, q, q2, ↓reduceIte]
      · by_cases q2 : r ≤ 0
        · rw [show r.toNat = 0 by omega]
          rfl
        · have hno : ∀ k, ¬ act k := by
            rcases hrt with h | h
            · omega
            · exact h
          obtain ⟨p, hp⟩ : ∃ p, r.toNat = p + 1 := ⟨r.toNat - 1, by omega⟩
          rw [hp]
          exact Or.inl ⟨hno, rfl⟩
    by_cases hs : nt A ax ≤ t ∨ r ≤ 0
    · exact stop hs
    · have n1 : ¬ (nt A ax ≤ t) := fun z => hs (Or.inl z)
      have n2 : ¬ (r ≤ 0) := fun z => hs (Or.inr z)
      obtain ⟨p, x1, x2, x3, x4⟩ := e_take_L (I := I) (b := b) (c := c) (A := A) (ax := ax) hin (by omega) hJ hm FU 1 0 (by unfold FU; omega) (by omega) (by omega) (by omega) (Or.inl ⟨rfl, fun j hj q => by have := hin j hj; omega⟩)
      have x1 : f_X3_takeGreatestRemainder (Sx I J b c) 44 (iW (nt A ax)) = _ := x1
      obtain ⟨pr, hpr⟩ : ∃ pr, r.toNat = pr + 1 := ⟨r.toNat - 1, by omega⟩
      rcases x2.done (fun j hj => by have := hin j hj; omega) with ⟨y1, y2⟩ | ⟨y1, y2⟩
      · have n3 : p ≤ 0 := by omega
        obtain ⟨I', J', f', k1, k2, k3⟩ := ih (t + 1) r act f I (uI J 46 p (-1)) (by omega) (by omega) (by omega) hr hr2 (Or.inr y2) h hin hm (fun j j0 j1 => by rw [u_ne (by omega)]; exact hJ j j0 j1) hI hIo (fun a ha => by rw [u_obj ha]; exact hJo a ha)
        refine ⟨I', J', f', ?_, k2, k3⟩
        rw [← k1]
        simp (disch := first | assumption | omega) only [f_X3_shareLeftover_b111, f_X3_shareLeftover_b156, ↓rcL, ↓gIL_0, ↓gIL_10, ↓gIL_11, ↓gIL_12, ↓gIL_13, ↓gIL_14, ↓gIL_15, ↓pIL_0, ↓pIL_10, ↓pIL_11, ↓pIL_12, ↓pIL_13, ↓pIL_14, ↓pIL_15, ↓gRL_1, ↓gRL_2, ↓gRL_3, ↓gRL_4, ↓gRL_5, ↓gRL_6, ↓gRL_7, ↓gRL_8, ↓gRL_9, ↓aIL1, ↓sZL1, ↓lnL1, ↓aIL2, ↓sIL2, ↓lnL2, ↓aIL3, ↓sIL3, ↓lnL3, ↓aIL4, ↓sIL4, ↓lnL4, ↓aIL5, ↓sIL5, ↓lnL5, ↓aIL6, ↓sIL6, ↓lnL6, ↓aIL7, ↓sIL7, ↓lnL7, ↓rc44, ↓gJ44_2, ↓gJ44_3, ↓gJ44_4, ↓gJ44_5, ↓pJ44_2, ↓pJ44_3, ↓pJ44_4, ↓pJ44_5, ↓gR44_0, ↓gR44_1, ↓aI45, ↓sZ45, ↓ln45, ↓aJ46, ↓sJ46, ↓c_I, ↓c_J, ↓c_Q, ↓c_V, ↓c_It, ↓c_Jt, ↓c_Vt, ↓k_I, ↓k_J, ↓n_I, ↓n_V, li0, li1, li2, li3, li4, li5, li6, li7, li8, li9, li10, li11, li12, li13, li14, li15, li16, li17, li18, li19, li20, li21, li22, li23, li24, li25, li26, li27, li28, li29, li30, li31, li32, li33, li34, li35, li36, li37, li38, li39, li40, li41, li42, li44, li48, li57, li63, li64, li65, li97, li99, li100, li101, li102, li104, li105, li106, li109, li114, li120, li128, li130, li300, li514, li999, li1000, li8192, li9999, li65536, li1000000, li1000001, li1000002, li1000003, li1000004, li1000005, li1000006, li1000007, li1000008, li1000009, li1000010, li1000011, li1000012, li1000013, li1000014, li1000015, li1000016, li1000017, li1000018, li1000019, li2147483647, lj0, lj1, W_add, W_sub, W_mul, W_neg, V_add, V_sub, V_mul, V_neg, W_ite, W_le, W_lt, W_inj, V_le, V_lt, V_inj, W_V, V_W, lgc_ge, lgc_gt, lgc_le, lgc_lt, lgc_eq, ge_iff_le, gt_iff_lt, h10, n1, n2, x1, n3, ↓reduceIte]
      · have hpin := hin p y2.1
        have n3 : ¬ (p ≤ 0) := by omega
        have hfp := hI p (by omega) (by omega)
        obtain ⟨I', J', f', k1, k2, k3⟩ := ih (t + 1) (r - 1) (fun k => act k ∧ k ≠ p) (up1 f p (f p + 1)) (uI I (o + 5) p (f p + 1)) (uI J 46 p (-1)) (by omega) (by omega) (by omega) (by omega) (by omega) (by
          rcases hrt with z | z
          · exact Or.inl (by omega)
          · exact absurd y2.1 (z p)) (h.fr (fun k _ _ => by rw [u_obj (by omega)]) (u_obj (by omega)) (fun a ha => u_obj (by omega))) (fun k hk => hin k hk.1) (fun k hk => hm k hk.1) (fun j j0 j1 => by
          rw [u_at]
          by_cases e : j = p
          · rw [if_pos e, cif_neg (fun z => z.2 e)]
          · rw [if_neg e, hJ j j0 j1]
            by_cases q : act j
            · rw [cif_pos q, cif_pos (show act j ∧ j ≠ p from ⟨q, e⟩)]
            · rw [cif_neg q, cif_neg (fun z => q z.1)]) (fun j j0 j1 => by
          rw [u_at]
          by_cases e : j = p
          · rw [if_pos e, e, up1_eq]
          · rw [if_neg e, up1_ne e]
            exact hI j j0 j1) (fun a ha => by rw [u_obj ha]; exact hIo a ha) (fun a ha => by rw [u_obj ha]; exact hJo a ha)
        refine ⟨I', J', f', ?_, ?_, k3⟩
        · rw [← k1]
          simp (disch := first | assumption | omega) only [f_X3_shareLeftover_b111, f_X3_shareLeftover_b156, ↓rcL, ↓gIL_0, ↓gIL_10, ↓gIL_11, ↓gIL_12, ↓gIL_13, ↓gIL_14, ↓gIL_15, ↓pIL_0, ↓pIL_10, ↓pIL_11, ↓pIL_12, ↓pIL_13, ↓pIL_14, ↓pIL_15, ↓gRL_1, ↓gRL_2, ↓gRL_3, ↓gRL_4, ↓gRL_5, ↓gRL_6, ↓gRL_7, ↓gRL_8, ↓gRL_9, ↓aIL1, ↓sZL1, ↓lnL1, ↓aIL2, ↓sIL2, ↓lnL2, ↓aIL3, ↓sIL3, ↓lnL3, ↓aIL4, ↓sIL4, ↓lnL4, ↓aIL5, ↓sIL5, ↓lnL5, ↓aIL6, ↓sIL6, ↓lnL6, ↓aIL7, ↓sIL7, ↓lnL7, ↓rc44, ↓gJ44_2, ↓gJ44_3, ↓gJ44_4, ↓gJ44_5, ↓pJ44_2, ↓pJ44_3, ↓pJ44_4, ↓pJ44_5, ↓gR44_0, ↓gR44_1, ↓aI45, ↓sZ45, ↓ln45, ↓aJ46, ↓sJ46, ↓c_I, ↓c_J, ↓c_Q, ↓c_V, ↓c_It, ↓c_Jt, ↓c_Vt, ↓k_I, ↓k_J, ↓n_I, ↓n_V, li0, li1, li2, li3, li4, li5, li6, li7, li8, li9, li10, li11, li12, li13, li14, li15, li16, li17, li18, li19, li20, li21, li22, li23, li24, li25, li26, li27, li28, li29, li30, li31, li32, li33, li34, li35, li36, li37, li38, li39, li40, li41, li42, li44, li48, li57, li63, li64, li65, li97, li99, li100, li101, li102, li104, li105, li106, li109, li114, li120, li128, li130, li300, li514, li999, li1000, li8192, li9999, li65536, li1000000, li1000001, li1000002, li1000003, li1000004, li1000005, li1000006, li1000007, li1000008, li1000009, li1000010, li1000011, li1000012, li1000013, li1000014, li1000015, li1000016, li1000017, li1000018, li1000019, li2147483647, lj0, lj1, W_add, W_sub, W_mul, W_neg, V_add, V_sub, V_mul, V_neg, W_ite, W_le, W_lt, W_inj, V_le, V_lt, V_inj, W_V, V_W, lgc_ge, lgc_gt, lgc_le, lgc_lt, lgc_eq, ge_iff_le, gt_iff_lt, h10, n1, n2, x1, n3, hfp, ↓reduceIte]
        · rw [hpr]
          refine Or.inr ⟨p, y2, ?_⟩
          rw [show pr = (r - 1).toNat by omega]
          exact k2
end FracF

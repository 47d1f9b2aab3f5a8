/-! ===== one track, as the engine reads it (the whole) ===== -/
theorem rSd0_g {T : Int → Int} {L z k : Int} {s : Int × Int} {g : Int → Int} (hk : 2 ≤ k) : (rSd0 T L s z g).2.2 k = g k := by
  have h : ∀ u v w : Int, ug (ug (ug g 1 u) 0 v) 1 w k = g k := fun u v w => by
    unfold ug
    rw [if_neg (by omega), if_neg (by omega), if_neg (by omega)]
  have h2 : ∀ u v : Int, ug (ug g 1 u) 0 v k = g k := fun u v => by
    unfold ug
    rw [if_neg (by omega), if_neg (by omega)]
  unfold rSd0
  by_cases q : dg T L s
  · rw [cif_pos q]; exact h _ _ _
  · rw [cif_neg q]
    by_cases q1 : sn T L s 97
    · rw [cif_pos q1]; exact h2 _ _
    · rw [cif_neg q1]
      by_cases q2 : sn T L (mS T L 109 s) 97
      · rw [cif_pos q2]; exact h2 _ _
      · rw [cif_neg q2]; exact h2 _ _
theorem rSd2_g {T : Int → Int} {L z k : Int} {s : Int × Int} {g : Int → Int} (hk : k = 0 ∨ k = 1 ∨ k = 4) : (rSd2 T L s z g).2.2 k = g k := by
  have h5 : ∀ u v w x y : Int, ug (ug (ug (ug (ug g 3 u) 2 v) 3 w) 2 x) 3 y k = g k := fun u v w x y => by
    unfold ug
    rw [if_neg (by omega), if_neg (by omega), if_neg (by omega), if_neg (by omega), if_neg (by omega)]
  have h : ∀ u v w : Int, ug (ug (ug g 3 u) 2 v) 3 w k = g k := fun u v w => by
    unfold ug
    rw [if_neg (by omega), if_neg (by omega), if_neg (by omega)]
  have h2 : ∀ u v : Int, ug (ug g 3 u) 2 v k = g k := fun u v => by
    unfold ug
    rw [if_neg (by omega), if_neg (by omega)]
  unfold rSd2
  by_cases q : dg T L s
  · rw [cif_pos q]
    by_cases q1 : sn T L (nS T L s).1 102
    · rw [cif_pos q1]; exact h5 _ _ _ _ _
    · rw [cif_neg q1]; exact h _ _ _
  · rw [cif_neg q]
    by_cases q1 : sn T L s 97
    · rw [cif_pos q1]; exact h2 _ _
    · rw [cif_neg q1]
      by_cases q2 : sn T L (mS T L 109 s) 97
      · rw [cif_pos q2]; exact h2 _ _
      · rw [cif_neg q2]; exact h2 _ _
section EngV
variable {J : CF} {c : Bool} {I : CF} {L p nm kd z cn oc : Int} {T g PT OS OC gr : Int → Int}
def CM (g : Int → Int) (r : R3) (g' : Int → Int) : Prop := (∀ k, 0 ≤ k → k < 4 → g' k = r.2.2 k) ∧ g' 4 = g 4 ∧ r.2.2 4 = 0
/-- max( .. , .. ) behind min -/
theorem e_mx (hT : TXe I L T) (p0 : 0 ≤ p) (p1 : p ≤ L) (hz : z = 0 ∨ z = 1) (hg : gr 4 = 0) {q nm0 kd0 z0 cn0 oc0 : Int} {g0 : Int → Int} (e0 : f_X6_takeSmallOrLarge (Sx (EPS I q nm0 kd0 z0 cn0 oc0 g0 PT OS OC) J 1 c) 2 = some (Sx (EPS I p nm 1 z cn oc g PT OS OC) J 1 c, xi (iW 1))) (hn : sn T L (p, 0) 109) : ER (f_X6_parseMinOrMax (Sx (EPS I q nm0 kd0 z0 cn0 oc0 g0 PT OS OC) J 1 c) 2) I J c cn oc PT OS OC (rMx T L (p, 0) z gr) (CM g (rMx T L (p, 0) z gr)) := by
  have en := e_next (J := J) (c := c) (nm := nm) (kd := 1) (z := z) (cn := cn) (oc := oc) (g := g) (PT := PT) (OS := OS) (OC := OC) hT p0 p1 (ch := 109) (by omega) (by omega)
  rw [bb_pos hn] at en
  unfold rMx
  have h1 := K3.w (T := T) (w := [109, 97, 120, 40]) (g := gr) (show okP L (p, 0) from ⟨p0, p1, Or.inl rfl⟩) hz
  have w4 := e_word (J := J) (c := c) (nm := nm) (kd := 1) (z := z) (cn := cn) (oc := oc) (g := g) (PT := PT) (OS := OS) (OC := OC) wd_9 (by decide) (by decide) hT p0 p1
  generalize wS T L [109, 97, 120, 40] (p, 0) = s3 at w4 h1 ⊢
  obtain ⟨p3, f3⟩ := s3
  have hp3 : 0 ≤ p3 ∧ p3 ≤ L ∧ (f3 = 0 ∨ f3 = 1) := h1.1
  by_cases q3 : f3 = 0
  · subst q3
    have w4 : f_X6_takeWord (Sx (EPS I p nm 1 z cn oc g PT OS OC) J 1 c) 2 1000009 = some (Sx (EPS I p3 nm 1 z cn oc g PT OS OC) J 1 c, xi (iW (bb ((0 : Int) = 0)))) := w4
    rw [bb_pos rfl] at w4
    obtain ⟨nm1, kd1, z1, g1, a1, a2, a3⟩ := e_min (J := J) (c := c) (I := I) (nm := nm) (kd := 1) (z := z) (cn := cn) (oc := oc) (g := g) (PT := PT) (OS := OS) (OC := OC) (gr := gr) hT hp3.1 hp3.2.1 hz
    have h2 := rSd0_K (T := T) (g := gr) (show okP L (p3, 0) from ⟨hp3.1, hp3.2.1, Or.inl rfl⟩) hz
    have h4g : (rSd0 T L (p3, 0) z gr).2.2 4 = 0 := by rw [rSd0_g (by omega)]; exact hg
    generalize rSd0 T L (p3, 0) z gr = r1 at a1 a3 h2 h4g ⊢
    obtain ⟨⟨p4, f4⟩, zr1, gr1⟩ := r1
    have hp4 : 0 ≤ p4 ∧ p4 ≤ L ∧ (f4 = 0 ∨ f4 = 1) := h2.1
    by_cases q4 : f4 = 0
    · subst q4
      obtain ⟨b1, b2, b3, b4⟩ := a3 rfl
      have b1 : z1 = zr1 := b1
      subst b1
      have a1 : f_X6_parseMinimum (Sx (EPS I p3 nm 1 z cn oc g PT OS OC) J 1 c) 2 = some (Sx (EPS I p4 nm1 kd1 z1 cn oc g1 PT OS OC) J 1 c, xi (iW (bb ((0 : Int) = 0)))) := a1
      rw [bb_pos rfl] at a1
      have w5 := e_word (J := J) (c := c) (nm := nm1) (kd := kd1) (z := z1) (cn := cn) (oc := oc) (g := g1) (PT := PT) (OS := OS) (OC := OC) wd_4 (by decide) (by decide) hT hp4.1 hp4.2.1
      have hw5 : wS T L [44] (p4, 0) = mS T L 44 (p4, 0) := rfl
      rw [hw5] at w5
      have hm5 := (mS_ok (T := T) (ch := 44) (show okP L (p4, 0) from ⟨hp4.1, hp4.2.1, Or.inl rfl⟩)).1
      generalize mS T L 44 (p4, 0) = s5 at w5 hm5 ⊢
      obtain ⟨p5, f5⟩ := s5
      have hp5 : 0 ≤ p5 ∧ p5 ≤ L ∧ (f5 = 0 ∨ f5 = 1) := hm5
      by_cases q5 : f5 = 0
      · subst q5
        have w5 : f_X6_takeWord (Sx (EPS I p4 nm1 kd1 z1 cn oc g1 PT OS OC) J 1 c) 2 1000004 = some (Sx (EPS I p5 nm1 kd1 z1 cn oc g1 PT OS OC) J 1 c, xi (iW (bb ((0 : Int) = 0)))) := w5
        rw [bb_pos rfl] at w5
        obtain ⟨nm2, kd2, z2, g2, d1, d2, d3⟩ := e_max (J := J) (c := c) (I := I) (nm := nm1) (kd := kd1) (z := z1) (cn := cn) (oc := oc) (g := g1) (PT := PT) (OS := OS) (OC := OC) (gr := gr1) hT hp5.1 hp5.2.1 a2
        have h6 := rSd2_K (T := T) (g := gr1) (show okP L (p5, 0) from ⟨hp5.1, hp5.2.1, Or.inl rfl⟩) a2
        have g0 := rSd2_g (T := T) (L := L) (z := z1) (s := (p5, 0)) (g := gr1) (k := 0) (by omega)
        have g1' := rSd2_g (T := T) (L := L) (z := z1) (s := (p5, 0)) (g := gr1) (k := 1) (by omega)
        have g4' := rSd2_g (T := T) (L := L) (z := z1) (s := (p5, 0)) (g := gr1) (k := 4) (by omega)
        show ER _ I J c cn oc PT OS OC (mS T L 41 (rSd2 T L (p5, 0) z1 gr1).1, (rSd2 T L (p5, 0) z1 gr1).2) (CM g (mS T L 41 (rSd2 T L (p5, 0) z1 gr1).1, (rSd2 T L (p5, 0) z1 gr1).2))
        generalize rSd2 T L (p5, 0) z1 gr1 = r2 at d1 d3 h6 g0 g1' g4' ⊢
        obtain ⟨⟨p6, f6⟩, zr2, gr2⟩ := r2
        have hp6 : 0 ≤ p6 ∧ p6 ≤ L ∧ (f6 = 0 ∨ f6 = 1) := h6.1
        by_cases q6 : f6 = 0
        · subst q6
          have d1 : f_X6_parseMaximum (Sx (EPS I p5 nm1 kd1 z1 cn oc g1 PT OS OC) J 1 c) 2 = some (Sx (EPS I p6 nm2 kd2 z2 cn oc g2 PT OS OC) J 1 c, xi (iW (bb ((0 : Int) = 0)))) := d1
          rw [bb_pos rfl] at d1
          obtain ⟨e1, e2, e3, e4⟩ := d3 rfl
          have w6 := e_word (J := J) (c := c) (nm := nm2) (kd := kd2) (z := z2) (cn := cn) (oc := oc) (g := g2) (PT := PT) (OS := OS) (OC := OC) wd_7 (by decide) (by decide) hT hp6.1 hp6.2.1
          have hw6 : wS T L [41] (p6, 0) = mS T L 41 (p6, 0) := rfl
          rw [hw6] at w6
          refine ⟨nm2, kd2, z2, g2, ?_, d2, fun _ => ⟨e1, fun k k0 k1 => ?_, ?_, ?_⟩⟩
          · show _ = some (Sx (EPS I (mS T L 41 (p6, 0)).1 nm2 kd2 z2 cn oc g2 PT OS OC) J 1 c, xi (iW (bb ((mS T L 41 (p6, 0)).2 = 0))))
            rcases bb_01 ((mS T L 41 (p6, 0)).2 = 0) with hb | hb
            · rw [hb] at w6 ⊢
              simp (disch := first | assumption | omega) only [f_X6_parseMinOrMax, f_X6_parseMinOrMax_b71, f_X6_parseMinOrMax_b72, ↓rc2, ↓gI2_1, ↓gI2_2, ↓gI2_3, ↓gI2_4, ↓gI2_5, ↓gI2_6, ↓gI2_9, ↓pI2_1, ↓pI2_2, ↓pI2_3, ↓pI2_4, ↓pI2_6, ↓pI2_9, ↓pZ2_5, ↓gR2_0, ↓gR2_7, ↓gR2_8, ↓gR2_10, ↓gR2_11, ↓aI3, ↓ln3, ↓aI4, ↓sI4, ↓ln4, ↓aI5, ↓sI5, ↓ln5, ↓aI6, ↓sI6, ↓ln6, ↓aI7, ↓sI7, ↓ln7, ↓c_I, ↓c_J, ↓c_Q, ↓c_V, ↓c_It, ↓c_Jt, ↓c_Vt, ↓k_I, ↓k_J, ↓n_I, ↓n_V, li0, li1, li2, li3, li4, li5, li6, li7, li8, li9, li10, li11, li12, li13, li14, li15, li16, li17, li18, li19, li20, li21, li22, li23, li24, li25, li26, li27, li28, li29, li30, li31, li32, li33, li34, li35, li36, li37, li38, li39, li40, li41, li42, li44, li48, li57, li63, li64, li65, li97, li99, li100, li101, li102, li104, li105, li106, li109, li114, li120, li128, li130, li300, li514, li999, li1000, li8192, li9999, li65536, li1000000, li1000001, li1000002, li1000003, li1000004, li1000005, li1000006, li1000007, li1000008, li1000009, li1000010, li1000011, li1000012, li1000013, li1000014, li1000015, li1000016, li1000017, li1000018, li1000019, li2147483647, lj0, lj1, W_add, W_sub, W_mul, W_neg, V_add, V_sub, V_mul, V_neg, W_ite, W_le, W_lt, W_inj, V_le, V_lt, V_inj, W_V, V_W, lgc_ge, lgc_gt, lgc_le, lgc_lt, lgc_eq, ge_iff_le, gt_iff_lt, e0, ep4, en, w4, a1, w5, d1, w6, Int.reduceEq, ↓reduceIte, r_Z]
            · rw [hb] at w6 ⊢
              simp (disch := first | assumption | omega) only [f_X6_parseMinOrMax, f_X6_parseMinOrMax_b71, f_X6_parseMinOrMax_b72, ↓rc2, ↓gI2_1, ↓gI2_2, ↓gI2_3, ↓gI2_4, ↓gI2_5, ↓gI2_6, ↓gI2_9, ↓pI2_1, ↓pI2_2, ↓pI2_3, ↓pI2_4, ↓pI2_6, ↓pI2_9, ↓pZ2_5, ↓gR2_0, ↓gR2_7, ↓gR2_8, ↓gR2_10, ↓gR2_11, ↓aI3, ↓ln3, ↓aI4, ↓sI4, ↓ln4, ↓aI5, ↓sI5, ↓ln5, ↓aI6, ↓sI6, ↓ln6, ↓aI7, ↓sI7, ↓ln7, ↓c_I, ↓c_J, ↓c_Q, ↓c_V, ↓c_It, ↓c_Jt, ↓c_Vt, ↓k_I, ↓k_J, ↓n_I, ↓n_V, li0, li1, li2, li3, li4, li5, li6, li7, li8, li9, li10, li11, li12, li13, li14, li15, li16, li17, li18, li19, li20, li21, li22, li23, li24, li25, li26, li27, li28, li29, li30, li31, li32, li33, li34, li35, li36, li37, li38, li39, li40, li41, li42, li44, li48, li57, li63, li64, li65, li97, li99, li100, li101, li102, li104, li105, li106, li109, li114, li120, li128, li130, li300, li514, li999, li1000, li8192, li9999, li65536, li1000000, li1000001, li1000002, li1000003, li1000004, li1000005, li1000006, li1000007, li1000008, li1000009, li1000010, li1000011, li1000012, li1000013, li1000014, li1000015, li1000016, li1000017, li1000018, li1000019, li2147483647, lj0, lj1, W_add, W_sub, W_mul, W_neg, V_add, V_sub, V_mul, V_neg, W_ite, W_le, W_lt, W_inj, V_le, V_lt, V_inj, W_V, V_W, lgc_ge, lgc_gt, lgc_le, lgc_lt, lgc_eq, ge_iff_le, gt_iff_lt, e0, ep4, en, w4, a1, w5, d1, w6, Int.reduceEq, ↓reduceIte, r_Z]
          · show g2 k = gr2 k
            by_cases k2 : k = 2
            · rw [k2]; exact e2
            · by_cases k3 : k = 3
              · rw [k3]; exact e3
              · by_cases kk : k = 0
                · rw [kk, e4 0 (by omega), b2]
                  exact g0.symm
                · rw [show k = 1 by omega, e4 1 (by omega), b3]
                  exact g1'.symm
          · rw [e4 4 (by omega)]
            exact b4 4 (by omega)
          · exact g4'.trans h4g
        · have q6 : f6 = 1 := by omega
          subst q6
          have d1 : f_X6_parseMaximum (Sx (EPS I p5 nm1 kd1 z1 cn oc g1 PT OS OC) J 1 c) 2 = some (Sx (EPS I p6 nm2 kd2 z2 cn oc g2 PT OS OC) J 1 c, xi (iW (bb ((1 : Int) = 0)))) := d1
          rw [bb_neg (by decide)] at d1
          refine ⟨nm2, kd2, z2, g2, ?_, d2, fun hh => ?_⟩
          · show _ = some (Sx (EPS I (mS T L 41 (p6, 1)).1 nm2 kd2 z2 cn oc g2 PT OS OC) J 1 c, xi (iW (bb ((mS T L 41 (p6, 1)).2 = 0))))
            rw [mS_1, bb_neg (show ¬ ((1 : Int) = 0) by decide)]
            simp (disch := first | assumption | omega) only [f_X6_parseMinOrMax, f_X6_parseMinOrMax_b71, f_X6_parseMinOrMax_b72, ↓rc2, ↓gI2_1, ↓gI2_2, ↓gI2_3, ↓gI2_4, ↓gI2_5, ↓gI2_6, ↓gI2_9, ↓pI2_1, ↓pI2_2, ↓pI2_3, ↓pI2_4, ↓pI2_6, ↓pI2_9, ↓pZ2_5, ↓gR2_0, ↓gR2_7, ↓gR2_8, ↓gR2_10, ↓gR2_11, ↓aI3, ↓ln3, ↓aI4, ↓sI4, ↓ln4, ↓aI5, ↓sI5, ↓ln5, ↓aI6, ↓sI6, ↓ln6, ↓aI7, ↓sI7, ↓ln7, ↓c_I, ↓c_J, ↓c_Q, ↓c_V, ↓c_It, ↓c_Jt, ↓c_Vt, ↓k_I, ↓k_J, ↓n_I, ↓n_V, li0, li1, li2, li3, li4, li5, li6, li7, li8, li9, li10, li11, li12, li13, li14, li15, li16, li17, li18, li19, li20, li21, li22, li23, li24, li25, li26, li27, li28, li29, li30, li31, li32, li33, li34, li35, li36, li37, li38, li39, li40, li41, li42, li44, li48, li57, li63, li64, li65, li97, li99, li100, li101, li102, li104, li105, li106, li109, li114, li120, li128, li130, li300, li514, li999, li1000, li8192, li9999, li65536, li1000000, li1000001, li1000002, li1000003, li1000004, li1000005, li1000006, li1000007, li1000008, li1000009, li1000010, li1000011, li1000012, li1000013, li1000014, li1000015, li1000016, li1000017, li1000018, li1000019, li2147483647, lj0, lj1, W_add, W_sub, W_mul, W_neg, V_add, V_sub, V_mul, V_neg, W_ite, W_le, W_lt, W_inj, V_le, V_lt, V_inj, W_V, V_W, lgc_ge, lgc_gt, lgc_le, lgc_lt, lgc_eq, ge_iff_le, gt_iff_lt, e0, ep4, en, w4, a1, w5, d1, Int.reduceEq, ↓reduceIte, r_Z]
          · have hh : (mS T L 41 (p6, 1)).2 = 0 := hh
            rw [mS_1] at hh
            exact absurd hh (show ¬ ((1 : Int) = 0) by decide)
      · have q5 : f5 = 1 := by omega
        subst q5
        have w5 : f_X6_takeWord (Sx (EPS I p4 nm1 kd1 z1 cn oc g1 PT OS OC) J 1 c) 2 1000004 = some (Sx (EPS I p5 nm1 kd1 z1 cn oc g1 PT OS OC) J 1 c, xi (iW (bb ((1 : Int) = 0)))) := w5
        rw [bb_neg (by decide)] at w5
        have h6 := rSd2_K (T := T) (g := gr1) (show okP L (p5, 1) from ⟨hp5.1, hp5.2.1, Or.inr rfl⟩) a2
        have h7 : mS T L 41 (rSd2 T L (p5, 1) z1 gr1).1 = (p5, 1) := by rw [(h6.2.2.1 rfl).1, mS_1]
        refine ⟨nm1, kd1, z1, g1, ?_, a2, fun hh => ?_⟩
        · show _ = some (Sx (EPS I (mS T L 41 (rSd2 T L (p5, 1) z1 gr1).1).1 nm1 kd1 z1 cn oc g1 PT OS OC) J 1 c, xi (iW (bb ((mS T L 41 (rSd2 T L (p5, 1) z1 gr1).1).2 = 0))))
          rw [h7, bb_neg (show ¬ ((1 : Int) = 0) by decide)]
          simp (disch := first | assumption | omega) only [f_X6_parseMinOrMax, f_X6_parseMinOrMax_b71, f_X6_parseMinOrMax_b72, ↓rc2, ↓gI2_1, ↓gI2_2, ↓gI2_3, ↓gI2_4, ↓gI2_5, ↓gI2_6, ↓gI2_9, ↓pI2_1, ↓pI2_2, ↓pI2_3, ↓pI2_4, ↓pI2_6, ↓pI2_9, ↓pZ2_5, ↓gR2_0, ↓gR2_7, ↓gR2_8, ↓gR2_10, ↓gR2_11, ↓aI3, ↓ln3, ↓aI4, ↓sI4, ↓ln4, ↓aI5, ↓sI5, ↓ln5, ↓aI6, ↓sI6, ↓ln6, ↓aI7, ↓sI7, ↓ln7, ↓c_I, ↓c_J, ↓c_Q, ↓c_V, ↓c_It, ↓c_Jt, ↓c_Vt, ↓k_I, ↓k_J, ↓n_I, ↓n_V, li0, li1, li2, li3, li4, li5, li6, li7, li8, li9, li10, li11, li12, li13, li14, li15, li16, li17, li18, li19, li20, li21, li22, li23, li24, li25, li26, li27, li28, li29, li30, li31, li32, li33, li34, li35, li36, li37, li38, li39, li40, li41, li42, li44, li48, li57, li63, li64, li65, li97, li99, li100, li101, li102, li104, li105, li106, li109, li114, li120, li128, li130, li300, li514, li999, li1000, li8192, li9999, li65536, li1000000, li1000001, li1000002, li1000003, li1000004, li1000005, li1000006, li1000007, li1000008, li1000009, li1000010, li1000011, li1000012, li1000013, li1000014, li1000015, li1000016, li1000017, li1000018, li1000019, li2147483647, lj0, lj1, W_add, W_sub, W_mul, W_neg, V_add, V_sub, V_mul, V_neg, W_ite, W_le, W_lt, W_inj, V_le, V_lt, V_inj, W_V, V_W, lgc_ge, lgc_gt, lgc_le, lgc_lt, lgc_eq, ge_iff_le, gt_iff_lt, e0, ep4, en, w4, a1, w5, Int.reduceEq, ↓reduceIte, r_Z]
        · have hh : (mS T L 41 (rSd2 T L (p5, 1) z1 gr1).1).2 = 0 := hh
          rw [h7] at hh
          exact absurd hh (show ¬ ((1 : Int) = 0) by decide)
    · have q4 : f4 = 1 := by omega
      subst q4
      have a1 : f_X6_parseMinimum (Sx (EPS I p3 nm 1 z cn oc g PT OS OC) J 1 c) 2 = some (Sx (EPS I p4 nm1 kd1 z1 cn oc g1 PT OS OC) J 1 c, xi (iW (bb ((1 : Int) = 0)))) := a1
      rw [bb_neg (by decide)] at a1
      have h6 := rSd2_K (T := T) (g := gr1) (z := zr1) (show okP L (p4, 1) from ⟨hp4.1, hp4.2.1, Or.inr rfl⟩) h2.2.2.2
      have h7 : mS T L 41 (rSd2 T L (mS T L 44 (p4, 1)) zr1 gr1).1 = (p4, 1) := by rw [mS_1, (h6.2.2.1 rfl).1, mS_1]
      refine ⟨nm1, kd1, z1, g1, ?_, a2, fun hh => ?_⟩
      · show _ = some (Sx (EPS I (mS T L 41 (rSd2 T L (mS T L 44 (p4, 1)) zr1 gr1).1).1 nm1 kd1 z1 cn oc g1 PT OS OC) J 1 c, xi (iW (bb ((mS T L 41 (rSd2 T L (mS T L 44 (p4, 1)) zr1 gr1).1).2 = 0))))
        rw [h7, bb_neg (show ¬ ((1 : Int) = 0) by decide)]
        simp (disch := first | assumption | omega) only [f_X6_parseMinOrMax, f_X6_parseMinOrMax_b71, f_X6_parseMinOrMax_b72, ↓rc2, ↓gI2_1, ↓gI2_2, ↓gI2_3, ↓gI2_4, ↓gI2_5, ↓gI2_6, ↓gI2_9, ↓pI2_1, ↓pI2_2, ↓pI2_3, ↓pI2_4, ↓pI2_6, ↓pI2_9, ↓pZ2_5, ↓gR2_0, ↓gR2_7, ↓gR2_8, ↓gR2_10, ↓gR2_11, ↓aI3, ↓ln3, ↓aI4, ↓sI4, ↓ln4, ↓aI5, ↓sI5, ↓ln5, ↓aI6, ↓sI6, ↓ln6, ↓aI7, ↓sI7, ↓ln7, ↓c_I, ↓c_J, ↓c_Q, ↓c_V, ↓c_It, ↓c_Jt, ↓c_Vt, ↓k_I, ↓k_J, ↓n_I, ↓n_V, li0, li1, li2, li3, li4, li5, li6, li7, li8, li9, li10, li11, li12, li13, li14, li15, li16, li17, li18, li19, li20, li21, li22, li23, li24, li25, li26, li27, li28, li29, li30, li31, li32, li33, li34, li35, li36, li37, li38, li39, li40, li41, li42, li44, li48, li57, li63, li64, li65, li97, li99, li100, li101, li102, li104, li105, li106, li109, li114, li120, li128, li130, li300, li514, li999, li1000, li8192, li9999, li65536, li1000000, li1000001, li1000002, li1000003, li1000004, li1000005, li1000006, li1000007, li1000008, li1000009, li1000010, li1000011, li1000012, li1000013, li1000014, li1000015, li1000016, li1000017, li1000018, li1000019, li2147483647, lj0, lj1, W_add, W_sub, W_mul, W_neg, V_add, V_sub, V_mul, V_neg, W_ite, W_le, W_lt, W_inj, V_le, V_lt, V_inj, W_V, V_W, lgc_ge, lgc_gt, lgc_le, lgc_lt, lgc_eq, ge_iff_le, gt_iff_lt, e0, ep4, en, w4, a1, Int.reduceEq, ↓reduceIte, r_Z]
      · have hh : (mS T L 41 (rSd2 T L (mS T L 44 (p4, 1)) zr1 gr1).1).2 = 0 := hh
        rw [h7] at hh
        exact absurd hh (show ¬ ((1 : Int) = 0) by decide)
  · have q3 : f3 = 1 := by omega
    subst q3
    have w4 : f_X6_takeWord (Sx (EPS I p nm 1 z cn oc g PT OS OC) J 1 c) 2 1000009 = some (Sx (EPS I p3 nm 1 z cn oc g PT OS OC) J 1 c, xi (iW (bb ((1 : Int) = 0)))) := w4
    rw [bb_neg (by decide)] at w4
    have h5 := rSd0_K (T := T) (g := gr) (z := z) (show okP L (p3, 1) from ⟨hp3.1, hp3.2.1, Or.inr rfl⟩) hz
    have h5' := (h5.2.2.1 rfl).1
    have h6 := rSd2_K (T := T) (g := (rSd0 T L (p3, 1) z gr).2.2) (z := (rSd0 T L (p3, 1) z gr).2.1) (show okP L (p3, 1) from ⟨hp3.1, hp3.2.1, Or.inr rfl⟩) h5.2.2.2
    have h7 : mS T L 41 (rSd2 T L (mS T L 44 (rSd0 T L (p3, 1) z gr).1) (rSd0 T L (p3, 1) z gr).2.1 (rSd0 T L (p3, 1) z gr).2.2).1 = (p3, 1) := by rw [h5', mS_1, (h6.2.2.1 rfl).1, mS_1]
    refine ⟨nm, 1, z, g, ?_, hz, fun hh => ?_⟩
    · show _ = some (Sx (EPS I (mS T L 41 (rSd2 T L (mS T L 44 (rSd0 T L (p3, 1) z gr).1) (rSd0 T L (p3, 1) z gr).2.1 (rSd0 T L (p3, 1) z gr).2.2).1).1 nm 1 z cn oc g PT OS OC) J 1 c, xi (iW (bb ((mS T L 41 (rSd2 T L (mS T L 44 (rSd0 T L (p3, 1) z gr).1) (rSd0 T L (p3, 1) z gr).2.1 (rSd0 T L (p3, 1) z gr).2.2).1).2 = 0))))
      rw [h7, bb_neg (show ¬ ((1 : Int) = 0) by decide)]
      simp (disch := first | assumption | omega) only [f_X6_parseMinOrMax, f_X6_parseMinOrMax_b71, f_X6_parseMinOrMax_b72, ↓rc2, ↓gI2_1, ↓gI2_2, ↓gI2_3, ↓gI2_4, ↓gI2_5, ↓gI2_6, ↓gI2_9, ↓pI2_1, ↓pI2_2, ↓pI2_3, ↓pI2_4, ↓pI2_6, ↓pI2_9, ↓pZ2_5, ↓gR2_0, ↓gR2_7, ↓gR2_8, ↓gR2_10, ↓gR2_11, ↓aI3, ↓ln3, ↓aI4, ↓sI4, ↓ln4, ↓aI5, ↓sI5, ↓ln5, ↓aI6, ↓sI6, ↓ln6, ↓aI7, ↓sI7, ↓ln7, ↓c_I, ↓c_J, ↓c_Q, ↓c_V, ↓c_It, ↓c_Jt, ↓c_Vt, ↓k_I, ↓k_J, ↓n_I, ↓n_V, li0, li1, li2, li3, li4, li5, li6, li7, li8, li9, li10, li11, li12, li13, li14, li15, li16, li17, li18, li19, li20, li21, li22, li23, li24, li25, li26, li27, li28, li29, li30, li31, li32, li33, li34, li35, li36, li37, li38, li39, li40, li41, li42, li44, li48, li57, li63, li64, li65, li97, li99, li100, li101, li102, li104, li105, li106, li109, li114, li120, li128, li130, li300, li514, li999, li1000, li8192, li9999, li65536, li1000000, li1000001, li1000002, li1000003, li1000004, li1000005, li1000006, li1000007, li1000008, li1000009, li1000010, li1000011, li1000012, li1000013, li1000014, li1000015, li1000016, li1000017, li1000018, li1000019, li2147483647, lj0, lj1, W_add, W_sub, W_mul, W_neg, V_add, V_sub, V_mul, V_neg, W_ite, W_le, W_lt, W_inj, V_le, V_lt, V_inj, W_V, V_W, lgc_ge, lgc_gt, lgc_le, lgc_lt, lgc_eq, ge_iff_le, gt_iff_lt, e0, ep4, en, w4, Int.reduceEq, ↓reduceIte, r_Z]
    · have hh : (mS T L 41 (rSd2 T L (mS T L 44 (rSd0 T L (p3, 1) z gr).1) (rSd0 T L (p3, 1) z gr).2.1 (rSd0 T L (p3, 1) z gr).2.2).1).2 = 0 := hh
      rw [h7] at hh
      exact absurd hh (show ¬ ((1 : Int) = 0) by decide)
end EngV

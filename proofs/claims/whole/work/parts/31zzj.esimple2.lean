/-! ===== one track, as the engine reads it (more) ===== -/
section EngU
variable {J : CF} {c : Bool} {I : CF} {L p nm kd z cn oc : Int} {T g PT OS OC gr : Int → Int}
/-- an answer of the engine's reading against what is to be read; C: what of the track is known then -/
def ER (f : Option XR) (I J : CF) (c : Bool) (cn oc : Int) (PT OS OC : Int → Int) (r : R3) (C : (Int → Int) → Prop) : Prop := ∃ nm' kd' z' g', f = some (Sx (EPS I r.1.1 nm' kd' z' cn oc g' PT OS OC) J 1 c, xi (iW (bb (r.1.2 = 0)))) ∧ (z' = 0 ∨ z' = 1) ∧ (r.1.2 = 0 → z' = r.2.1 ∧ C g')
theorem e_fac (hT : TXe I L T) (p0 : 0 ≤ p) (p1 : p ≤ L) (hz : z = 0 ∨ z = 1) {v : Int} (v0 : 0 ≤ v) (v1 : v ≤ 999) : f_X6_parseFactor (Sx (EPS I p v kd z cn oc g PT OS OC) J 1 c) 2 = some (Sx (EPS I (wS T L [102, 114] (p, 0)).1 v kd (if v = 0 then 1 else z) cn oc (ug (ug g 2 5) 3 v) PT OS OC) J 1 c, xi (iW (bb ((wS T L [102, 114] (p, 0)).2 = 0)))) := by
  have e1 := fun z g => e_word (J := J) (c := c) (nm := v) (kd := kd) (z := z) (cn := cn) (oc := oc) (g := g) (PT := PT) (OS := OS) (OC := OC) wd_8 (by decide) (by decide) hT p0 p1
  have hb := bb_01 ((wS T L [102, 114] (p, 0)).2 = 0)
  generalize bb ((wS T L [102, 114] (p, 0)).2 = 0) = B at e1 hb ⊢
  by_cases q : v = 0
  · subst q
    rw [if_pos rfl]
    simp (disch := first | assumption | omega) only [f_X6_parseFactor, f_X6_parseFactor_b17, ↓rc2, ↓gI2_1, ↓gI2_2, ↓gI2_3, ↓gI2_4, ↓gI2_5, ↓gI2_6, ↓gI2_9, ↓pI2_1, ↓pI2_2, ↓pI2_3, ↓pI2_4, ↓pI2_6, ↓pI2_9, ↓pZ2_5, ↓gR2_0, ↓gR2_7, ↓gR2_8, ↓gR2_10, ↓gR2_11, ↓aI3, ↓ln3, ↓aI4, ↓sI4, ↓ln4, ↓aI5, ↓sI5, ↓ln5, ↓aI6, ↓sI6, ↓ln6, ↓aI7, ↓sI7, ↓ln7, ↓c_I, ↓c_J, ↓c_Q, ↓c_V, ↓c_It, ↓c_Jt, ↓c_Vt, ↓k_I, ↓k_J, ↓n_I, ↓n_V, li0, li1, li2, li3, li4, li5, li6, li7, li8, li9, li10, li11, li12, li13, li14, li15, li16, li17, li18, li19, li20, li21, li22, li23, li24, li25, li26, li27, li28, li29, li30, li31, li32, li33, li34, li35, li36, li37, li38, li39, li40, li41, li42, li44, li48, li57, li63, li64, li65, li97, li99, li100, li101, li102, li104, li105, li106, li109, li114, li120, li128, li130, li300, li514, li999, li1000, li8192, li9999, li65536, li1000000, li1000001, li1000002, li1000003, li1000004, li1000005, li1000006, li1000007, li1000008, li1000009, li1000010, li1000011, li1000012, li1000013, li1000014, li1000015, li1000016, li1000017, li1000018, li1000019, li2147483647, lj0, lj1, W_add, W_sub, W_mul, W_neg, V_add, V_sub, V_mul, V_neg, W_ite, W_le, W_lt, W_inj, V_le, V_lt, V_inj, W_V, V_W, lgc_ge, lgc_gt, lgc_le, lgc_lt, lgc_eq, ge_iff_le, gt_iff_lt, ep3, ep5, W_or1, ew5, e_dMax, e1, ↓reduceIte, r_Z]
  · rw [if_neg q]
    simp (disch := first | assumption | omega) only [f_X6_parseFactor, f_X6_parseFactor_b17, ↓rc2, ↓gI2_1, ↓gI2_2, ↓gI2_3, ↓gI2_4, ↓gI2_5, ↓gI2_6, ↓gI2_9, ↓pI2_1, ↓pI2_2, ↓pI2_3, ↓pI2_4, ↓pI2_6, ↓pI2_9, ↓pZ2_5, ↓gR2_0, ↓gR2_7, ↓gR2_8, ↓gR2_10, ↓gR2_11, ↓aI3, ↓ln3, ↓aI4, ↓sI4, ↓ln4, ↓aI5, ↓sI5, ↓ln5, ↓aI6, ↓sI6, ↓ln6, ↓aI7, ↓sI7, ↓ln7, ↓c_I, ↓c_J, ↓c_Q, ↓c_V, ↓c_It, ↓c_Jt, ↓c_Vt, ↓k_I, ↓k_J, ↓n_I, ↓n_V, li0, li1, li2, li3, li4, li5, li6, li7, li8, li9, li10, li11, li12, li13, li14, li15, li16, li17, li18, li19, li20, li21, li22, li23, li24, li25, li26, li27, li28, li29, li30, li31, li32, li33, li34, li35, li36, li37, li38, li39, li40, li41, li42, li44, li48, li57, li63, li64, li65, li97, li99, li100, li101, li102, li104, li105, li106, li109, li114, li120, li128, li130, li300, li514, li999, li1000, li8192, li9999, li65536, li1000000, li1000001, li1000002, li1000003, li1000004, li1000005, li1000006, li1000007, li1000008, li1000009, li1000010, li1000011, li1000012, li1000013, li1000014, li1000015, li1000016, li1000017, li1000018, li1000019, li2147483647, lj0, lj1, W_add, W_sub, W_mul, W_neg, V_add, V_sub, V_mul, V_neg, W_ite, W_le, W_lt, W_inj, V_le, V_lt, V_inj, W_V, V_W, lgc_ge, lgc_gt, lgc_le, lgc_lt, lgc_eq, ge_iff_le, gt_iff_lt, ep3, ep5, q, W_or0, ew5, e_dMax, e1, ↓reduceIte, r_Z]
theorem nS_2 (h : dg T L (p, 0)) (p0 : 0 ≤ p) (p1 : p ≤ L) : (nS T L (p, 0)).1.2 = 0 := by
  unfold nS
  rw [cif_pos h]
  exact (nL_ok (T := T) (L := L) 3 (s := (p, 0)) (v := 0) ⟨p0, p1, Or.inl rfl⟩).2.2
theorem e_min (hT : TXe I L T) (p0 : 0 ≤ p) (p1 : p ≤ L) (hz : z = 0 ∨ z = 1) : ER (f_X6_parseMinimum (Sx (EPS I p nm kd z cn oc g PT OS OC) J 1 c) 2) I J c cn oc PT OS OC (rSd0 T L (p, 0) z gr) (fun g' => g' 0 = (rSd0 T L (p, 0) z gr).2.2 0 ∧ g' 1 = (rSd0 T L (p, 0) z gr).2.2 1 ∧ ∀ k, 2 ≤ k → g' k = g k) := by
  have e1 := e_dig (J := J) (c := c) (nm := nm) (kd := kd) (z := z) (cn := cn) (oc := oc) (g := g) (PT := PT) (OS := OS) (OC := OC) hT p0 p1
  have hug : ∀ u v k : Int, 2 ≤ k → ug (ug g 0 u) 1 v k = g k := fun u v k hk => by
    unfold ug
    rw [if_neg (by omega), if_neg (by omega)]
  unfold rSd0
  by_cases q : dg T L (p, 0)
  · rw [cif_pos q]
    rw [bb_pos q] at e1
    have e2 := e_num (J := J) (c := c) (nm := nm) (kd := kd) (z := z) (cn := cn) (oc := oc) (g := g) (PT := PT) (OS := OS) (OC := OC) hT p0 p1
    have h2 := nS_2 q p0 p1
    rw [cif_pos q, bb_pos h2] at e2
    refine ⟨(nS T L (p, 0)).2, kd, z, ug (ug g 0 0) 1 (nS T L (p, 0)).2, ?_, hz, fun _ => ⟨rfl, rfl, rfl, hug _ _⟩⟩
    show _ = some (Sx (EPS I (nS T L (p, 0)).1.1 (nS T L (p, 0)).2 kd z cn oc (ug (ug g 0 0) 1 (nS T L (p, 0)).2) PT OS OC) J 1 c, xi (iW (bb ((nS T L (p, 0)).1.2 = 0))))
    rw [bb_pos h2]
    simp (disch := first | assumption | omega) only [f_X6_parseMinimum, ↓rc2, ↓gI2_1, ↓gI2_2, ↓gI2_3, ↓gI2_4, ↓gI2_5, ↓gI2_6, ↓gI2_9, ↓pI2_1, ↓pI2_2, ↓pI2_3, ↓pI2_4, ↓pI2_6, ↓pI2_9, ↓pZ2_5, ↓gR2_0, ↓gR2_7, ↓gR2_8, ↓gR2_10, ↓gR2_11, ↓aI3, ↓ln3, ↓aI4, ↓sI4, ↓ln4, ↓aI5, ↓sI5, ↓ln5, ↓aI6, ↓sI6, ↓ln6, ↓aI7, ↓sI7, ↓ln7, ↓c_I, ↓c_J, ↓c_Q, ↓c_V, ↓c_It, ↓c_Jt, ↓c_Vt, ↓k_I, ↓k_J, ↓n_I, ↓n_V, li0, li1, li2, li3, li4, li5, li6, li7, li8, li9, li10, li11, li12, li13, li14, li15, li16, li17, li18, li19, li20, li21, li22, li23, li24, li25, li26, li27, li28, li29, li30, li31, li32, li33, li34, li35, li36, li37, li38, li39, li40, li41, li42, li44, li48, li57, li63, li64, li65, li97, li99, li100, li101, li102, li104, li105, li106, li109, li114, li120, li128, li130, li300, li514, li999, li1000, li8192, li9999, li65536, li1000000, li1000001, li1000002, li1000003, li1000004, li1000005, li1000006, li1000007, li1000008, li1000009, li1000010, li1000011, li1000012, li1000013, li1000014, li1000015, li1000016, li1000017, li1000018, li1000019, li2147483647, lj0, lj1, W_add, W_sub, W_mul, W_neg, V_add, V_sub, V_mul, V_neg, W_ite, W_le, W_lt, W_inj, V_le, V_lt, V_inj, W_V, V_W, lgc_ge, lgc_gt, lgc_le, lgc_lt, lgc_eq, ge_iff_le, gt_iff_lt, e1, e2, ep3, e_dMin, Int.reduceEq, ↓reduceIte, r_Z]
  · rw [cif_neg q]
    rw [bb_neg q] at e1
    have e3 := e_next (J := J) (c := c) (nm := nm) (kd := kd) (z := z) (cn := cn) (oc := oc) (g := g) (PT := PT) (OS := OS) (OC := OC) hT p0 p1 (ch := 97) (by omega) (by omega)
    by_cases q1 : sn T L (p, 0) 97
    · rw [cif_pos q1]
      rw [bb_pos q1] at e3
      have w1 := e_word (J := J) (c := c) (nm := nm) (kd := kd) (z := z) (cn := cn) (oc := oc) (g := ug (ug g 0 1) 1 0) (PT := PT) (OS := OS) (OC := OC) wd_5 (by decide) (by decide) hT p0 p1
      refine ⟨nm, kd, z, ug (ug g 0 1) 1 0, ?_, hz, fun _ => ⟨rfl, rfl, rfl, hug _ _⟩⟩
      have hb := bb_01 ((wS T L [97, 117, 116, 111] (p, 0)).2 = 0)
      show _ = some (Sx (EPS I (wS T L [97, 117, 116, 111] (p, 0)).1 nm kd z cn oc (ug (ug g 0 1) 1 0) PT OS OC) J 1 c, xi (iW (bb ((wS T L [97, 117, 116, 111] (p, 0)).2 = 0))))
      generalize bb ((wS T L [97, 117, 116, 111] (p, 0)).2 = 0) = B at w1 hb ⊢
      simp (disch := first | assumption | omega) only [f_X6_parseMinimum, ↓rc2, ↓gI2_1, ↓gI2_2, ↓gI2_3, ↓gI2_4, ↓gI2_5, ↓gI2_6, ↓gI2_9, ↓pI2_1, ↓pI2_2, ↓pI2_3, ↓pI2_4, ↓pI2_6, ↓pI2_9, ↓pZ2_5, ↓gR2_0, ↓gR2_7, ↓gR2_8, ↓gR2_10, ↓gR2_11, ↓aI3, ↓ln3, ↓aI4, ↓sI4, ↓ln4, ↓aI5, ↓sI5, ↓ln5, ↓aI6, ↓sI6, ↓ln6, ↓aI7, ↓sI7, ↓ln7, ↓c_I, ↓c_J, ↓c_Q, ↓c_V, ↓c_It, ↓c_Jt, ↓c_Vt, ↓k_I, ↓k_J, ↓n_I, ↓n_V, li0, li1, li2, li3, li4, li5, li6, li7, li8, li9, li10, li11, li12, li13, li14, li15, li16, li17, li18, li19, li20, li21, li22, li23, li24, li25, li26, li27, li28, li29, li30, li31, li32, li33, li34, li35, li36, li37, li38, li39, li40, li41, li42, li44, li48, li57, li63, li64, li65, li97, li99, li100, li101, li102, li104, li105, li106, li109, li114, li120, li128, li130, li300, li514, li999, li1000, li8192, li9999, li65536, li1000000, li1000001, li1000002, li1000003, li1000004, li1000005, li1000006, li1000007, li1000008, li1000009, li1000010, li1000011, li1000012, li1000013, li1000014, li1000015, li1000016, li1000017, li1000018, li1000019, li2147483647, lj0, lj1, W_add, W_sub, W_mul, W_neg, V_add, V_sub, V_mul, V_neg, W_ite, W_le, W_lt, W_inj, V_le, V_lt, V_inj, W_V, V_W, lgc_ge, lgc_gt, lgc_le, lgc_lt, lgc_eq, ge_iff_le, gt_iff_lt, e1, e3, e_dMin, w1, Int.reduceEq, ↓reduceIte, r_Z]
    · rw [cif_neg q1]
      rw [bb_neg q1] at e3
      obtain ⟨kd', m1, m2⟩ := e_sml (J := J) (c := c) (nm := nm) (kd := kd) (z := z) (cn := cn) (oc := oc) (g := g) (PT := PT) (OS := OS) (OC := OC) hT p0 p1
      refine ⟨nm, kd', z, ug (ug g 0 kd') 1 0, ?_, ?_, ?_⟩
      · have hr : (cif (sn T L (mS T L 109 (p, 0)) 97) (wS T L [97, 120] (mS T L 109 (p, 0)), z, ug (ug gr 1 0) 0 2) (wS T L [105, 110] (mS T L 109 (p, 0)), z, ug (ug gr 1 0) 0 1) : R3).1 = cif (sn T L (mS T L 109 (p, 0)) 97) (wS T L [97, 120] (mS T L 109 (p, 0))) (wS T L [105, 110] (mS T L 109 (p, 0))) := by
          by_cases q2 : sn T L (mS T L 109 (p, 0)) 97
          · rw [cif_pos q2, cif_pos q2]
          · rw [cif_neg q2, cif_neg q2]
        rw [hr]
        generalize cif (sn T L (mS T L 109 (p, 0)) 97) (wS T L [97, 120] (mS T L 109 (p, 0))) (wS T L [105, 110] (mS T L 109 (p, 0))) = s at m1 m2 ⊢
        have hb := bb_01 (s.2 = 0)
        generalize bb (s.2 = 0) = B at m1 hb ⊢
        simp (disch := first | assumption | omega) only [f_X6_parseMinimum, ↓rc2, ↓gI2_1, ↓gI2_2, ↓gI2_3, ↓gI2_4, ↓gI2_5, ↓gI2_6, ↓gI2_9, ↓pI2_1, ↓pI2_2, ↓pI2_3, ↓pI2_4, ↓pI2_6, ↓pI2_9, ↓pZ2_5, ↓gR2_0, ↓gR2_7, ↓gR2_8, ↓gR2_10, ↓gR2_11, ↓aI3, ↓ln3, ↓aI4, ↓sI4, ↓ln4, ↓aI5, ↓sI5, ↓ln5, ↓aI6, ↓sI6, ↓ln6, ↓aI7, ↓sI7, ↓ln7, ↓c_I, ↓c_J, ↓c_Q, ↓c_V, ↓c_It, ↓c_Jt, ↓c_Vt, ↓k_I, ↓k_J, ↓n_I, ↓n_V, li0, li1, li2, li3, li4, li5, li6, li7, li8, li9, li10, li11, li12, li13, li14, li15, li16, li17, li18, li19, li20, li21, li22, li23, li24, li25, li26, li27, li28, li29, li30, li31, li32, li33, li34, li35, li36, li37, li38, li39, li40, li41, li42, li44, li48, li57, li63, li64, li65, li97, li99, li100, li101, li102, li104, li105, li106, li109, li114, li120, li128, li130, li300, li514, li999, li1000, li8192, li9999, li65536, li1000000, li1000001, li1000002, li1000003, li1000004, li1000005, li1000006, li1000007, li1000008, li1000009, li1000010, li1000011, li1000012, li1000013, li1000014, li1000015, li1000016, li1000017, li1000018, li1000019, li2147483647, lj0, lj1, W_add, W_sub, W_mul, W_neg, V_add, V_sub, V_mul, V_neg, W_ite, W_le, W_lt, W_inj, V_le, V_lt, V_inj, W_V, V_W, lgc_ge, lgc_gt, lgc_le, lgc_lt, lgc_eq, ge_iff_le, gt_iff_lt, e1, e3, m1, ep4, e_dMin, ↓reduceIte, r_Z]
      · exact hz
      · by_cases q2 : sn T L (mS T L 109 (p, 0)) 97
        · rw [cif_pos q2, cif_pos q2] at m2
          rw [cif_pos q2]
          intro hk
          have h := m2 hk
          rw [h]
          exact ⟨rfl, rfl, rfl, hug _ _⟩
        · rw [cif_neg q2, cif_neg q2] at m2
          rw [cif_neg q2]
          intro hk
          have h := m2 hk
          rw [h]
          exact ⟨rfl, rfl, rfl, hug _ _⟩
theorem e_max (hT : TXe I L T) (p0 : 0 ≤ p) (p1 : p ≤ L) (hz : z = 0 ∨ z = 1) : ER (f_X6_parseMaximum (Sx (EPS I p nm kd z cn oc g PT OS OC) J 1 c) 2) I J c cn oc PT OS OC (rSd2 T L (p, 0) z gr) (fun g' => g' 2 = (rSd2 T L (p, 0) z gr).2.2 2 ∧ g' 3 = (rSd2 T L (p, 0) z gr).2.2 3 ∧ ∀ k, (k = 0 ∨ k = 1 ∨ k = 4) → g' k = g k) := by
  have e1 := e_dig (J := J) (c := c) (nm := nm) (kd := kd) (z := z) (cn := cn) (oc := oc) (g := g) (PT := PT) (OS := OS) (OC := OC) hT p0 p1
  have hug : ∀ u v k : Int, (k = 0 ∨ k = 1 ∨ k = 4) → ug (ug g 2 u) 3 v k = g k := fun u v k hk => by
    unfold ug
    rw [if_neg (by omega), if_neg (by omega)]
  unfold rSd2
  by_cases q : dg T L (p, 0)
  · rw [cif_pos q]
    rw [bb_pos q] at e1
    have e2 := e_num (J := J) (c := c) (nm := nm) (kd := kd) (z := z) (cn := cn) (oc := oc) (g := g) (PT := PT) (OS := OS) (OC := OC) hT p0 p1
    have h2 := nS_2 q p0 p1
    have hn := nS_ok (T := T) (L := L) (s := (p, 0)) ⟨p0, p1, Or.inl rfl⟩
    rw [cif_pos q, bb_pos h2] at e2
    generalize nS T L (p, 0) = N at e2 h2 hn ⊢
    obtain ⟨⟨n1, f1⟩, v⟩ := N
    have h2 : f1 = 0 := h2
    subst h2
    have hn : (0 ≤ n1 ∧ n1 ≤ L ∧ _) ∧ _ ∧ _ ∧ 0 ≤ v ∧ v ≤ 999 := hn
    have e2 : f_X6_takeNumber (Sx (EPS I p nm kd z cn oc g PT OS OC) J 1 c) 2 = some (Sx (EPS I n1 v kd z cn oc g PT OS OC) J 1 c, xi (iW 1)) := e2
    have e3 := e_next (J := J) (c := c) (nm := v) (kd := kd) (z := z) (cn := cn) (oc := oc) (g := ug (ug g 2 0) 3 v) (PT := PT) (OS := OS) (OC := OC) hT hn.1.1 hn.1.2.1 (ch := 102) (by omega) (by omega)
    by_cases q1 : sn T L (n1, 0) 102
    · rw [cif_pos q1]
      rw [bb_pos q1] at e3
      have e4 := e_fac (J := J) (c := c) (kd := kd) (z := z) (cn := cn) (oc := oc) (g := ug (ug g 2 0) 3 v) (PT := PT) (OS := OS) (OC := OC) hT hn.1.1 hn.1.2.1 hz hn.2.2.2.1 hn.2.2.2.2
      refine ⟨v, kd, if v = 0 then 1 else z, ug (ug (ug (ug g 2 0) 3 v) 2 5) 3 v, ?_, by split; exact Or.inr rfl; exact hz, fun hk => ⟨?_, rfl, rfl, fun k hk => ?_⟩⟩
      · have hb := bb_01 ((wS T L [102, 114] (n1, 0)).2 = 0)
        show _ = some (Sx (EPS I (wS T L [102, 114] (n1, 0)).1 v kd (if v = 0 then 1 else z) cn oc (ug (ug (ug (ug g 2 0) 3 v) 2 5) 3 v) PT OS OC) J 1 c, xi (iW (bb ((wS T L [102, 114] (n1, 0)).2 = 0))))
        generalize bb ((wS T L [102, 114] (n1, 0)).2 = 0) = B at e4 hb ⊢
        simp (disch := first | assumption | omega) only [f_X6_parseMaximum, f_X6_parseMaximum_b38, ↓rc2, ↓gI2_1, ↓gI2_2, ↓gI2_3, ↓gI2_4, ↓gI2_5, ↓gI2_6, ↓gI2_9, ↓pI2_1, ↓pI2_2, ↓pI2_3, ↓pI2_4, ↓pI2_6, ↓pI2_9, ↓pZ2_5, ↓gR2_0, ↓gR2_7, ↓gR2_8, ↓gR2_10, ↓gR2_11, ↓aI3, ↓ln3, ↓aI4, ↓sI4, ↓ln4, ↓aI5, ↓sI5, ↓ln5, ↓aI6, ↓sI6, ↓ln6, ↓aI7, ↓sI7, ↓ln7, ↓c_I, ↓c_J, ↓c_Q, ↓c_V, ↓c_It, ↓c_Jt, ↓c_Vt, ↓k_I, ↓k_J, ↓n_I, ↓n_V, li0, li1, li2, li3, li4, li5, li6, li7, li8, li9, li10, li11, li12, li13, li14, li15, li16, li17, li18, li19, li20, li21, li22, li23, li24, li25, li26, li27, li28, li29, li30, li31, li32, li33, li34, li35, li36, li37, li38, li39, li40, li41, li42, li44, li48, li57, li63, li64, li65, li97, li99, li100, li101, li102, li104, li105, li106, li109, li114, li120, li128, li130, li300, li514, li999, li1000, li8192, li9999, li65536, li1000000, li1000001, li1000002, li1000003, li1000004, li1000005, li1000006, li1000007, li1000008, li1000009, li1000010, li1000011, li1000012, li1000013, li1000014, li1000015, li1000016, li1000017, li1000018, li1000019, li2147483647, lj0, lj1, W_add, W_sub, W_mul, W_neg, V_add, V_sub, V_mul, V_neg, W_ite, W_le, W_lt, W_inj, V_le, V_lt, V_inj, W_V, V_W, lgc_ge, lgc_gt, lgc_le, lgc_lt, lgc_eq, ge_iff_le, gt_iff_lt, e1, e2, ep3, e_dMax, e3, e4, Int.reduceEq, ↓reduceIte, r_Z]
      · have hk : (wS T L [102, 114] (n1, 0)).2 = 0 := hk
        show (if v = 0 then 1 else z) = cif ((wS T L [102, 114] (n1, 0)).2 = 0 ∧ v = 0) 1 z
        by_cases qv : v = 0
        · rw [if_pos qv, cif_pos ⟨hk, qv⟩]
        · rw [if_neg qv, cif_neg (fun w => qv w.2)]
      · unfold ug
        rw [if_neg (by omega), if_neg (by omega), if_neg (by omega), if_neg (by omega)]
    · rw [cif_neg q1]
      rw [bb_neg q1] at e3
      refine ⟨v, kd, z, ug (ug g 2 0) 3 v, ?_, hz, fun _ => ⟨rfl, rfl, rfl, hug _ _⟩⟩
      show _ = some (Sx (EPS I n1 v kd z cn oc (ug (ug g 2 0) 3 v) PT OS OC) J 1 c, xi (iW (bb ((0 : Int) = 0))))
      rw [bb_pos rfl]
      simp (disch := first | assumption | omega) only [f_X6_parseMaximum, f_X6_parseMaximum_b38, ↓rc2, ↓gI2_1, ↓gI2_2, ↓gI2_3, ↓gI2_4, ↓gI2_5, ↓gI2_6, ↓gI2_9, ↓pI2_1, ↓pI2_2, ↓pI2_3, ↓pI2_4, ↓pI2_6, ↓pI2_9, ↓pZ2_5, ↓gR2_0, ↓gR2_7, ↓gR2_8, ↓gR2_10, ↓gR2_11, ↓aI3, ↓ln3, ↓aI4, ↓sI4, ↓ln4, ↓aI5, ↓sI5, ↓ln5, ↓aI6, ↓sI6, ↓ln6, ↓aI7, ↓sI7, ↓ln7, ↓c_I, ↓c_J, ↓c_Q, ↓c_V, ↓c_It, ↓c_Jt, ↓c_Vt, ↓k_I, ↓k_J, ↓n_I, ↓n_V, li0, li1, li2, li3, li4, li5, li6, li7, li8, li9, li10, li11, li12, li13, li14, li15, li16, li17, li18, li19, li20, li21, li22, li23, li24, li25, li26, li27, li28, li29, li30, li31, li32, li33, li34, li35, li36, li37, li38, li39, li40, li41, li42, li44, li48, li57, li63, li64, li65, li97, li99, li100, li101, li102, li104, li105, li106, li109, li114, li120, li128, li130, li300, li514, li999, li1000, li8192, li9999, li65536, li1000000, li1000001, li1000002, li1000003, li1000004, li1000005, li1000006, li1000007, li1000008, li1000009, li1000010, li1000011, li1000012, li1000013, li1000014, li1000015, li1000016, li1000017, li1000018, li1000019, li2147483647, lj0, lj1, W_add, W_sub, W_mul, W_neg, V_add, V_sub, V_mul, V_neg, W_ite, W_le, W_lt, W_inj, V_le, V_lt, V_inj, W_V, V_W, lgc_ge, lgc_gt, lgc_le, lgc_lt, lgc_eq, ge_iff_le, gt_iff_lt, e1, e2, ep3, e_dMax, e3, Int.reduceEq, ↓reduceIte, r_Z]
  · rw [cif_neg q]
    rw [bb_neg q] at e1
    have e3 := e_next (J := J) (c := c) (nm := nm) (kd := kd) (z := z) (cn := cn) (oc := oc) (g := g) (PT := PT) (OS := OS) (OC := OC) hT p0 p1 (ch := 97) (by omega) (by omega)
    by_cases q1 : sn T L (p, 0) 97
    · rw [cif_pos q1]
      rw [bb_pos q1] at e3
      have w1 := e_word (J := J) (c := c) (nm := nm) (kd := kd) (z := z) (cn := cn) (oc := oc) (g := ug (ug g 2 3) 3 0) (PT := PT) (OS := OS) (OC := OC) wd_5 (by decide) (by decide) hT p0 p1
      refine ⟨nm, kd, z, ug (ug g 2 3) 3 0, ?_, hz, fun _ => ⟨rfl, rfl, rfl, hug _ _⟩⟩
      have hb := bb_01 ((wS T L [97, 117, 116, 111] (p, 0)).2 = 0)
      show _ = some (Sx (EPS I (wS T L [97, 117, 116, 111] (p, 0)).1 nm kd z cn oc (ug (ug g 2 3) 3 0) PT OS OC) J 1 c, xi (iW (bb ((wS T L [97, 117, 116, 111] (p, 0)).2 = 0))))
      generalize bb ((wS T L [97, 117, 116, 111] (p, 0)).2 = 0) = B at w1 hb ⊢
      simp (disch := first | assumption | omega) only [f_X6_parseMaximum, ↓rc2, ↓gI2_1, ↓gI2_2, ↓gI2_3, ↓gI2_4, ↓gI2_5, ↓gI2_6, ↓gI2_9, ↓pI2_1, ↓pI2_2, ↓pI2_3, ↓pI2_4, ↓pI2_6, ↓pI2_9, ↓pZ2_5, ↓gR2_0, ↓gR2_7, ↓gR2_8, ↓gR2_10, ↓gR2_11, ↓aI3, ↓ln3, ↓aI4, ↓sI4, ↓ln4, ↓aI5, ↓sI5, ↓ln5, ↓aI6, ↓sI6, ↓ln6, ↓aI7, ↓sI7, ↓ln7, ↓c_I, ↓c_J, ↓c_Q, ↓c_V, ↓c_It, ↓c_Jt, ↓c_Vt, ↓k_I, ↓k_J, ↓n_I, ↓n_V, li0, li1, li2, li3, li4, li5, li6, li7, li8, li9, li10, li11, li12, li13, li14, li15, li16, li17, li18, li19, li20, li21, li22, li23, li24, li25, li26, li27, li28, li29, li30, li31, li32, li33, li34, li35, li36, li37, li38, li39, li40, li41, li42, li44, li48, li57, li63, li64, li65, li97, li99, li100, li101, li102, li104, li105, li106, li109, li114, li120, li128, li130, li300, li514, li999, li1000, li8192, li9999, li65536, li1000000, li1000001, li1000002, li1000003, li1000004, li1000005, li1000006, li1000007, li1000008, li1000009, li1000010, li1000011, li1000012, li1000013, li1000014, li1000015, li1000016, li1000017, li1000018, li1000019, li2147483647, lj0, lj1, W_add, W_sub, W_mul, W_neg, V_add, V_sub, V_mul, V_neg, W_ite, W_le, W_lt, W_inj, V_le, V_lt, V_inj, W_V, V_W, lgc_ge, lgc_gt, lgc_le, lgc_lt, lgc_eq, ge_iff_le, gt_iff_lt, e1, e3, e_dMax, w1, Int.reduceEq, ↓reduceIte, r_Z]
    · rw [cif_neg q1]
      rw [bb_neg q1] at e3
      obtain ⟨kd', m1, m2⟩ := e_sml (J := J) (c := c) (nm := nm) (kd := kd) (z := z) (cn := cn) (oc := oc) (g := g) (PT := PT) (OS := OS) (OC := OC) hT p0 p1
      refine ⟨nm, kd', z, ug (ug g 2 kd') 3 0, ?_, ?_, ?_⟩
      · have hr : (cif (sn T L (mS T L 109 (p, 0)) 97) (wS T L [97, 120] (mS T L 109 (p, 0)), z, ug (ug gr 3 0) 2 2) (wS T L [105, 110] (mS T L 109 (p, 0)), z, ug (ug gr 3 0) 2 1) : R3).1 = cif (sn T L (mS T L 109 (p, 0)) 97) (wS T L [97, 120] (mS T L 109 (p, 0))) (wS T L [105, 110] (mS T L 109 (p, 0))) := by
          by_cases q2 : sn T L (mS T L 109 (p, 0)) 97
          · rw [cif_pos q2, cif_pos q2]
          · rw [cif_neg q2, cif_neg q2]
        rw [hr]
        generalize cif (sn T L (mS T L 109 (p, 0)) 97) (wS T L [97, 120] (mS T L 109 (p, 0))) (wS T L [105, 110] (mS T L 109 (p, 0))) = s at m1 m2 ⊢
        have hb := bb_01 (s.2 = 0)
        generalize bb (s.2 = 0) = B at m1 hb ⊢
        simp (disch := first | assumption | omega) only [f_X6_parseMaximum, ↓rc2, ↓gI2_1, ↓gI2_2, ↓gI2_3, ↓gI2_4, ↓gI2_5, ↓gI2_6, ↓gI2_9, ↓pI2_1, ↓pI2_2, ↓pI2_3, ↓pI2_4, ↓pI2_6, ↓pI2_9, ↓pZ2_5, ↓gR2_0, ↓gR2_7, ↓gR2_8, ↓gR2_10, ↓gR2_11, ↓aI3, ↓ln3, ↓aI4, ↓sI4, ↓ln4, ↓aI5, ↓sI5, ↓ln5, ↓aI6, ↓sI6, ↓ln6, ↓aI7, ↓sI7, ↓ln7, ↓c_I, ↓c_J, ↓c_Q, ↓c_V, ↓c_It, ↓c_Jt, ↓c_Vt, ↓k_I, ↓k_J, ↓n_I, ↓n_V, li0, li1, li2, li3, li4, li5, li6, li7, li8, li9, li10, li11, li12, li13, li14, li15, li16, li17, li18, li19, li20, li21, li22, li23, li24, li25, li26, li27, li28, li29, li30, li31, li32, li33, li34, li35, li36, li37, li38, li39, li40, li41, li42, li44, li48, li57, li63, li64, li65, li97, li99, li100, li101, li102, li104, li105, li106, li109, li114, li120, li128, li130, li300, li514, li999, li1000, li8192, li9999, li65536, li1000000, li1000001, li1000002, li1000003, li1000004, li1000005, li1000006, li1000007, li1000008, li1000009, li1000010, li1000011, li1000012, li1000013, li1000014, li1000015, li1000016, li1000017, li1000018, li1000019, li2147483647, lj0, lj1, W_add, W_sub, W_mul, W_neg, V_add, V_sub, V_mul, V_neg, W_ite, W_le, W_lt, W_inj, V_le, V_lt, V_inj, W_V, V_W, lgc_ge, lgc_gt, lgc_le, lgc_lt, lgc_eq, ge_iff_le, gt_iff_lt, e1, e3, m1, ep4, e_dMax, ↓reduceIte, r_Z]
      · exact hz
      · by_cases q2 : sn T L (mS T L 109 (p, 0)) 97
        · rw [cif_pos q2, cif_pos q2] at m2
          rw [cif_pos q2]
          intro hk
          have h := m2 hk
          rw [h]
          exact ⟨rfl, rfl, rfl, hug _ _⟩
        · rw [cif_neg q2, cif_neg q2] at m2
          rw [cif_neg q2]
          intro hk
          have h := m2 hk
          rw [h]
          exact ⟨rfl, rfl, rfl, hug _ _⟩
end EngU

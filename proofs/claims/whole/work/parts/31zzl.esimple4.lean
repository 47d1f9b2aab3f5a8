/-! ===== one track, as the engine reads it (the end) ===== -/
section EngX
variable {J : CF} {c : Bool} {I : CF} {L p nm kd z cn oc : Int} {T g PT OS OC gr : Int → Int}
theorem mk4_k {g : Int → Int} {a0 a1 a2 a3 : Int} : mk4 g a0 a1 a2 a3 0 = a0 ∧ mk4 g a0 a1 a2 a3 1 = a1 ∧ mk4 g a0 a1 a2 a3 2 = a2 ∧ mk4 g a0 a1 a2 a3 3 = a3 ∧ mk4 g a0 a1 a2 a3 4 = 0 := ⟨rfl, rfl, rfl, rfl, rfl⟩
theorem CM_mk {a0 a1 a2 a3 : Int} {s : Int × Int} {zz : Int} : CM g (s, zz, mk4 gr a0 a1 a2 a3) (ug (ug (ug (ug g 0 a0) 1 a1) 2 a2) 3 a3) := by
  refine ⟨fun k k0 k1 => ?_, rfl, rfl⟩
  by_cases k2 : k = 0
  · rw [k2]; rfl
  · by_cases k3 : k = 1
    · rw [k3]; rfl
    · by_cases k4 : k = 2
      · rw [k4]; rfl
      · rw [show k = 3 by omega]; rfl
theorem e_b73 : f_X6_parseMinOrMax_b73 (Sx (EPS I p nm kd z cn oc g PT OS OC) J 1 c) 2 = some (Sx (EPS I p nm kd z cn oc (ug (ug (ug (ug g 0 kd) 1 0) 2 kd) 3 0) PT OS OC) J 1 c, xi (iW 1)) := by
  simp (disch := first | assumption | omega) only [f_X6_parseMinOrMax_b73, ↓rc2, ↓gI2_1, ↓gI2_2, ↓gI2_3, ↓gI2_4, ↓gI2_5, ↓gI2_6, ↓gI2_9, ↓pI2_1, ↓pI2_2, ↓pI2_3, ↓pI2_4, ↓pI2_6, ↓pI2_9, ↓pZ2_5, ↓gR2_0, ↓gR2_7, ↓gR2_8, ↓gR2_10, ↓gR2_11, ↓aI3, ↓ln3, ↓aI4, ↓sI4, ↓ln4, ↓aI5, ↓sI5, ↓ln5, ↓aI6, ↓sI6, ↓ln6, ↓aI7, ↓sI7, ↓ln7, ↓c_I, ↓c_J, ↓c_Q, ↓c_V, ↓c_It, ↓c_Jt, ↓c_Vt, ↓k_I, ↓k_J, ↓n_I, ↓n_V, li0, li1, li2, li3, li4, li5, li6, li7, li8, li9, li10, li11, li12, li13, li14, li15, li16, li17, li18, li19, li20, li21, li22, li23, li24, li25, li26, li27, li28, li29, li30, li31, li32, li33, li34, li35, li36, li37, li38, li39, li40, li41, li42, li44, li48, li57, li63, li64, li65, li97, li99, li100, li101, li102, li104, li105, li106, li109, li114, li120, li128, li130, li300, li514, li999, li1000, li8192, li9999, li65536, li1000000, li1000001, li1000002, li1000003, li1000004, li1000005, li1000006, li1000007, li1000008, li1000009, li1000010, li1000011, li1000012, li1000013, li1000014, li1000015, li1000016, li1000017, li1000018, li1000019, li2147483647, lj0, lj1, W_add, W_sub, W_mul, W_neg, V_add, V_sub, V_mul, V_neg, W_ite, ep4, e_dMin, e_dMax, r_Z]
theorem e_MM (hT : TXe I L T) (p0 : 0 ≤ p) (p1 : p ≤ L) (hz : z = 0 ∨ z = 1) : ER (f_X6_parseMinOrMax (Sx (EPS I p nm kd z cn oc g PT OS OC) J 1 c) 2) I J c cn oc PT OS OC (rMM T L (p, 0) z gr) (CM g (rMM T L (p, 0) z gr)) := by
  obtain ⟨kd', m1, m2⟩ := e_sml (J := J) (c := c) (nm := nm) (kd := kd) (z := z) (cn := cn) (oc := oc) (g := g) (PT := PT) (OS := OS) (OC := OC) hT p0 p1
  have hm := (mS_ok (T := T) (ch := 109) (show okP L (p, 0) from ⟨p0, p1, Or.inl rfl⟩)).1
  unfold rMM
  by_cases q : sn T L (mS T L 109 (p, 0)) 97
  · rw [cif_pos q] at m1 m2 ⊢
    rw [cif_pos q] at m2
    have hw := wS_ok (T := T) [97, 120] hm
    generalize wS T L [97, 120] (mS T L 109 (p, 0)) = s at m1 m2 hw ⊢
    obtain ⟨p2, f2⟩ := s
    have hf : f2 = 0 ∨ f2 = 1 := hw.1.2.2
    rcases hf with rfl | rfl
    · have hk := m2 rfl
      subst hk
      have m1 : f_X6_takeSmallOrLarge (Sx (EPS I p nm kd z cn oc g PT OS OC) J 1 c) 2 = some (Sx (EPS I p2 nm 2 z cn oc g PT OS OC) J 1 c, xi (iW (bb ((0 : Int) = 0)))) := m1
      rw [bb_pos rfl] at m1
      refine ⟨nm, 2, z, ug (ug (ug (ug g 0 2) 1 0) 2 2) 3 0, ?_, hz, fun _ => ⟨rfl, CM_mk⟩⟩
      show _ = some (Sx (EPS I p2 nm 2 z cn oc (ug (ug (ug (ug g 0 2) 1 0) 2 2) 3 0) PT OS OC) J 1 c, xi (iW (bb ((0 : Int) = 0))))
      rw [bb_pos rfl, ← e_b73]
      simp (disch := first | assumption | omega) only [f_X6_parseMinOrMax, ↓rc2, ↓gI2_1, ↓gI2_2, ↓gI2_3, ↓gI2_4, ↓gI2_5, ↓gI2_6, ↓gI2_9, ↓pI2_1, ↓pI2_2, ↓pI2_3, ↓pI2_4, ↓pI2_6, ↓pI2_9, ↓pZ2_5, ↓gR2_0, ↓gR2_7, ↓gR2_8, ↓gR2_10, ↓gR2_11, ↓aI3, ↓ln3, ↓aI4, ↓sI4, ↓ln4, ↓aI5, ↓sI5, ↓ln5, ↓aI6, ↓sI6, ↓ln6, ↓aI7, ↓sI7, ↓ln7, ↓c_I, ↓c_J, ↓c_Q, ↓c_V, ↓c_It, ↓c_Jt, ↓c_Vt, ↓k_I, ↓k_J, ↓n_I, ↓n_V, li0, li1, li2, li3, li4, li5, li6, li7, li8, li9, li10, li11, li12, li13, li14, li15, li16, li17, li18, li19, li20, li21, li22, li23, li24, li25, li26, li27, li28, li29, li30, li31, li32, li33, li34, li35, li36, li37, li38, li39, li40, li41, li42, li44, li48, li57, li63, li64, li65, li97, li99, li100, li101, li102, li104, li105, li106, li109, li114, li120, li128, li130, li300, li514, li999, li1000, li8192, li9999, li65536, li1000000, li1000001, li1000002, li1000003, li1000004, li1000005, li1000006, li1000007, li1000008, li1000009, li1000010, li1000011, li1000012, li1000013, li1000014, li1000015, li1000016, li1000017, li1000018, li1000019, li2147483647, lj0, lj1, W_add, W_sub, W_mul, W_neg, V_add, V_sub, V_mul, V_neg, W_ite, W_le, W_lt, W_inj, V_le, V_lt, V_inj, W_V, V_W, lgc_ge, lgc_gt, lgc_le, lgc_lt, lgc_eq, ge_iff_le, gt_iff_lt, m1, ep4, Int.reduceEq, ↓reduceIte]
    · have m1 : f_X6_takeSmallOrLarge (Sx (EPS I p nm kd z cn oc g PT OS OC) J 1 c) 2 = some (Sx (EPS I p2 nm kd' z cn oc g PT OS OC) J 1 c, xi (iW (bb ((1 : Int) = 0)))) := m1
      rw [bb_neg (by decide)] at m1
      refine ⟨nm, kd', z, g, ?_, hz, fun hh => absurd hh (show ¬ ((1 : Int) = 0) by decide)⟩
      show _ = some (Sx (EPS I p2 nm kd' z cn oc g PT OS OC) J 1 c, xi (iW (bb ((1 : Int) = 0))))
      rw [bb_neg (by decide)]
      simp (disch := first | assumption | omega) only [f_X6_parseMinOrMax, ↓rc2, ↓gI2_1, ↓gI2_2, ↓gI2_3, ↓gI2_4, ↓gI2_5, ↓gI2_6, ↓gI2_9, ↓pI2_1, ↓pI2_2, ↓pI2_3, ↓pI2_4, ↓pI2_6, ↓pI2_9, ↓pZ2_5, ↓gR2_0, ↓gR2_7, ↓gR2_8, ↓gR2_10, ↓gR2_11, ↓aI3, ↓ln3, ↓aI4, ↓sI4, ↓ln4, ↓aI5, ↓sI5, ↓ln5, ↓aI6, ↓sI6, ↓ln6, ↓aI7, ↓sI7, ↓ln7, ↓c_I, ↓c_J, ↓c_Q, ↓c_V, ↓c_It, ↓c_Jt, ↓c_Vt, ↓k_I, ↓k_J, ↓n_I, ↓n_V, li0, li1, li2, li3, li4, li5, li6, li7, li8, li9, li10, li11, li12, li13, li14, li15, li16, li17, li18, li19, li20, li21, li22, li23, li24, li25, li26, li27, li28, li29, li30, li31, li32, li33, li34, li35, li36, li37, li38, li39, li40, li41, li42, li44, li48, li57, li63, li64, li65, li97, li99, li100, li101, li102, li104, li105, li106, li109, li114, li120, li128, li130, li300, li514, li999, li1000, li8192, li9999, li65536, li1000000, li1000001, li1000002, li1000003, li1000004, li1000005, li1000006, li1000007, li1000008, li1000009, li1000010, li1000011, li1000012, li1000013, li1000014, li1000015, li1000016, li1000017, li1000018, li1000019, li2147483647, lj0, lj1, W_add, W_sub, W_mul, W_neg, V_add, V_sub, V_mul, V_neg, W_ite, W_le, W_lt, W_inj, V_le, V_lt, V_inj, W_V, V_W, lgc_ge, lgc_gt, lgc_le, lgc_lt, lgc_eq, ge_iff_le, gt_iff_lt, m1, ↓reduceIte, r_Z]
  · rw [cif_neg q] at m1 m2 ⊢
    rw [cif_neg q] at m2
    have hw := wS_ok (T := T) [105, 110] hm
    generalize wS T L [105, 110] (mS T L 109 (p, 0)) = s at m1 m2 hw ⊢
    obtain ⟨p2, f2⟩ := s
    have hp2 : 0 ≤ p2 ∧ p2 ≤ L ∧ (f2 = 0 ∨ f2 = 1) := hw.1
    rcases hp2.2.2 with rfl | rfl
    · have hk := m2 rfl
      subst hk
      have m1 : f_X6_takeSmallOrLarge (Sx (EPS I p nm kd z cn oc g PT OS OC) J 1 c) 2 = some (Sx (EPS I p2 nm 1 z cn oc g PT OS OC) J 1 c, xi (iW (bb ((0 : Int) = 0)))) := m1
      rw [bb_pos rfl] at m1
      by_cases q1 : sn T L (p2, 0) 109
      · rw [cif_pos q1]
        exact e_mx hT hp2.1 hp2.2.1 hz rfl m1 q1
      · rw [cif_neg q1]
        have en := e_next (J := J) (c := c) (nm := nm) (kd := 1) (z := z) (cn := cn) (oc := oc) (g := g) (PT := PT) (OS := OS) (OC := OC) hT hp2.1 hp2.2.1 (ch := 109) (by omega) (by omega)
        rw [bb_neg q1] at en
        refine ⟨nm, 1, z, ug (ug (ug (ug g 0 1) 1 0) 2 1) 3 0, ?_, hz, fun _ => ⟨rfl, CM_mk⟩⟩
        show _ = some (Sx (EPS I p2 nm 1 z cn oc (ug (ug (ug (ug g 0 1) 1 0) 2 1) 3 0) PT OS OC) J 1 c, xi (iW (bb ((0 : Int) = 0))))
        rw [bb_pos rfl, ← e_b73]
        simp (disch := first | assumption | omega) only [f_X6_parseMinOrMax, ↓rc2, ↓gI2_1, ↓gI2_2, ↓gI2_3, ↓gI2_4, ↓gI2_5, ↓gI2_6, ↓gI2_9, ↓pI2_1, ↓pI2_2, ↓pI2_3, ↓pI2_4, ↓pI2_6, ↓pI2_9, ↓pZ2_5, ↓gR2_0, ↓gR2_7, ↓gR2_8, ↓gR2_10, ↓gR2_11, ↓aI3, ↓ln3, ↓aI4, ↓sI4, ↓ln4, ↓aI5, ↓sI5, ↓ln5, ↓aI6, ↓sI6, ↓ln6, ↓aI7, ↓sI7, ↓ln7, ↓c_I, ↓c_J, ↓c_Q, ↓c_V, ↓c_It, ↓c_Jt, ↓c_Vt, ↓k_I, ↓k_J, ↓n_I, ↓n_V, li0, li1, li2, li3, li4, li5, li6, li7, li8, li9, li10, li11, li12, li13, li14, li15, li16, li17, li18, li19, li20, li21, li22, li23, li24, li25, li26, li27, li28, li29, li30, li31, li32, li33, li34, li35, li36, li37, li38, li39, li40, li41, li42, li44, li48, li57, li63, li64, li65, li97, li99, li100, li101, li102, li104, li105, li106, li109, li114, li120, li128, li130, li300, li514, li999, li1000, li8192, li9999, li65536, li1000000, li1000001, li1000002, li1000003, li1000004, li1000005, li1000006, li1000007, li1000008, li1000009, li1000010, li1000011, li1000012, li1000013, li1000014, li1000015, li1000016, li1000017, li1000018, li1000019, li2147483647, lj0, lj1, W_add, W_sub, W_mul, W_neg, V_add, V_sub, V_mul, V_neg, W_ite, W_le, W_lt, W_inj, V_le, V_lt, V_inj, W_V, V_W, lgc_ge, lgc_gt, lgc_le, lgc_lt, lgc_eq, ge_iff_le, gt_iff_lt, m1, ep4, en, Int.reduceEq, ↓reduceIte]
    · have m1 : f_X6_takeSmallOrLarge (Sx (EPS I p nm kd z cn oc g PT OS OC) J 1 c) 2 = some (Sx (EPS I p2 nm kd' z cn oc g PT OS OC) J 1 c, xi (iW (bb ((1 : Int) = 0)))) := m1
      rw [bb_neg (by decide)] at m1
      rw [cif_neg (sn_f rfl)]
      refine ⟨nm, kd', z, g, ?_, hz, fun hh => absurd hh (show ¬ ((1 : Int) = 0) by decide)⟩
      show _ = some (Sx (EPS I p2 nm kd' z cn oc g PT OS OC) J 1 c, xi (iW (bb ((1 : Int) = 0))))
      rw [bb_neg (by decide)]
      simp (disch := first | assumption | omega) only [f_X6_parseMinOrMax, ↓rc2, ↓gI2_1, ↓gI2_2, ↓gI2_3, ↓gI2_4, ↓gI2_5, ↓gI2_6, ↓gI2_9, ↓pI2_1, ↓pI2_2, ↓pI2_3, ↓pI2_4, ↓pI2_6, ↓pI2_9, ↓pZ2_5, ↓gR2_0, ↓gR2_7, ↓gR2_8, ↓gR2_10, ↓gR2_11, ↓aI3, ↓ln3, ↓aI4, ↓sI4, ↓ln4, ↓aI5, ↓sI5, ↓ln5, ↓aI6, ↓sI6, ↓ln6, ↓aI7, ↓sI7, ↓ln7, ↓c_I, ↓c_J, ↓c_Q, ↓c_V, ↓c_It, ↓c_Jt, ↓c_Vt, ↓k_I, ↓k_J, ↓n_I, ↓n_V, li0, li1, li2, li3, li4, li5, li6, li7, li8, li9, li10, li11, li12, li13, li14, li15, li16, li17, li18, li19, li20, li21, li22, li23, li24, li25, li26, li27, li28, li29, li30, li31, li32, li33, li34, li35, li36, li37, li38, li39, li40, li41, li42, li44, li48, li57, li63, li64, li65, li97, li99, li100, li101, li102, li104, li105, li106, li109, li114, li120, li128, li130, li300, li514, li999, li1000, li8192, li9999, li65536, li1000000, li1000001, li1000002, li1000003, li1000004, li1000005, li1000006, li1000007, li1000008, li1000009, li1000010, li1000011, li1000012, li1000013, li1000014, li1000015, li1000016, li1000017, li1000018, li1000019, li2147483647, lj0, lj1, W_add, W_sub, W_mul, W_neg, V_add, V_sub, V_mul, V_neg, W_ite, W_le, W_lt, W_inj, V_le, V_lt, V_inj, W_V, V_W, lgc_ge, lgc_gt, lgc_le, lgc_lt, lgc_eq, ge_iff_le, gt_iff_lt, m1, ↓reduceIte, r_Z]
theorem e_fill0L : ∀ (fuel : Nat) (k : Int) (g : Int → Int), 5 - k < fuel → 0 ≤ k → k ≤ 5 → (∀ j, 0 ≤ j → j < k → g j = 0) → ∃ g', f_J7_fill_53178_L5 fuel (Sx (EPS I p nm kd z cn oc g PT OS OC) J 1 c) 5 (iW 0) (iW k) (iW 5) = some (Sx (EPS I p nm kd z cn oc g' PT OS OC) J 1 c, xv) ∧ ∀ j, 0 ≤ j → j < 5 → g' j = 0 := by
  intro fuel
  induction fuel with
  | zero => intro k g a1; omega
  | succ fuel ih =>
    intro k g a1 a2 a3 hg
    show ∃ g', f_J7_fill_53178_b5 (f_J7_fill_53178_L5 fuel) (Sx (EPS I p nm kd z cn oc g PT OS OC) J 1 c) 5 (iW 0) (iW k) (iW 5) = _ ∧ _
    by_cases hk : k = 5
    · subst hk
      refine ⟨g, ?_, hg⟩
      simp (disch := first | assumption | omega) only [f_J7_fill_53178_b5, ↓rc2, ↓gI2_1, ↓gI2_2, ↓gI2_3, ↓gI2_4, ↓gI2_5, ↓gI2_6, ↓gI2_9, ↓pI2_1, ↓pI2_2, ↓pI2_3, ↓pI2_4, ↓pI2_6, ↓pI2_9, ↓pZ2_5, ↓gR2_0, ↓gR2_7, ↓gR2_8, ↓gR2_10, ↓gR2_11, ↓aI3, ↓ln3, ↓aI4, ↓sI4, ↓ln4, ↓aI5, ↓sI5, ↓ln5, ↓aI6, ↓sI6, ↓ln6, ↓aI7, ↓sI7, ↓ln7, ↓c_I, ↓c_J, ↓c_Q, ↓c_V, ↓c_It, ↓c_Jt, ↓c_Vt, ↓k_I, ↓k_J, ↓n_I, ↓n_V, li0, li1, li2, li3, li4, li5, li6, li7, li8, li9, li10, li11, li12, li13, li14, li15, li16, li17, li18, li19, li20, li21, li22, li23, li24, li25, li26, li27, li28, li29, li30, li31, li32, li33, li34, li35, li36, li37, li38, li39, li40, li41, li42, li44, li48, li57, li63, li64, li65, li97, li99, li100, li101, li102, li104, li105, li106, li109, li114, li120, li128, li130, li300, li514, li999, li1000, li8192, li9999, li65536, li1000000, li1000001, li1000002, li1000003, li1000004, li1000005, li1000006, li1000007, li1000008, li1000009, li1000010, li1000011, li1000012, li1000013, li1000014, li1000015, li1000016, li1000017, li1000018, li1000019, li2147483647, lj0, lj1, W_add, W_sub, W_mul, W_neg, V_add, V_sub, V_mul, V_neg, W_ite, W_le, W_lt, W_inj, V_le, V_lt, V_inj, W_V, V_W, lgc_ge, lgc_gt, lgc_le, lgc_lt, lgc_eq, ge_iff_le, gt_iff_lt, Int.le_refl, ↓reduceIte]
    · have n1 : ¬ ((5 : Int) ≤ k) := by omega
      obtain ⟨g', k1, k2⟩ := ih (k + 1) (ug g k 0) (by omega) (by omega) (by omega) (fun j j0 j1 => by
        unfold ug
        by_cases e : j = k
        · rw [if_pos e]
        · rw [if_neg e]
          exact hg j j0 (by omega))
      refine ⟨g', ?_, k2⟩
      rw [← k1]
      simp (disch := first | assumption | omega) only [f_J7_fill_53178_b5, ↓rc2, ↓gI2_1, ↓gI2_2, ↓gI2_3, ↓gI2_4, ↓gI2_5, ↓gI2_6, ↓gI2_9, ↓pI2_1, ↓pI2_2, ↓pI2_3, ↓pI2_4, ↓pI2_6, ↓pI2_9, ↓pZ2_5, ↓gR2_0, ↓gR2_7, ↓gR2_8, ↓gR2_10, ↓gR2_11, ↓aI3, ↓ln3, ↓aI4, ↓sI4, ↓ln4, ↓aI5, ↓sI5, ↓ln5, ↓aI6, ↓sI6, ↓ln6, ↓aI7, ↓sI7, ↓ln7, ↓c_I, ↓c_J, ↓c_Q, ↓c_V, ↓c_It, ↓c_Jt, ↓c_Vt, ↓k_I, ↓k_J, ↓n_I, ↓n_V, li0, li1, li2, li3, li4, li5, li6, li7, li8, li9, li10, li11, li12, li13, li14, li15, li16, li17, li18, li19, li20, li21, li22, li23, li24, li25, li26, li27, li28, li29, li30, li31, li32, li33, li34, li35, li36, li37, li38, li39, li40, li41, li42, li44, li48, li57, li63, li64, li65, li97, li99, li100, li101, li102, li104, li105, li106, li109, li114, li120, li128, li130, li300, li514, li999, li1000, li8192, li9999, li65536, li1000000, li1000001, li1000002, li1000003, li1000004, li1000005, li1000006, li1000007, li1000008, li1000009, li1000010, li1000011, li1000012, li1000013, li1000014, li1000015, li1000016, li1000017, li1000018, li1000019, li2147483647, lj0, lj1, W_add, W_sub, W_mul, W_neg, V_add, V_sub, V_mul, V_neg, W_ite, W_le, W_lt, W_inj, V_le, V_lt, V_inj, W_V, V_W, lgc_ge, lgc_gt, lgc_le, lgc_lt, lgc_eq, ge_iff_le, gt_iff_lt, n1, ewg, ↓reduceIte]
theorem e_fill0 : ∃ g', f_J7_fill_53178 (Sx (EPS I p nm kd z cn oc g PT OS OC) J 1 c) 5 (iW 0) = some (Sx (EPS I p nm kd z cn oc g' PT OS OC) J 1 c, xv) ∧ ∀ j, 0 ≤ j → j < 5 → g' j = 0 := by
  obtain ⟨g', k1, k2⟩ := e_fill0L (J := J) (c := c) (I := I) (p := p) (nm := nm) (kd := kd) (z := z) (cn := cn) (oc := oc) (PT := PT) (OS := OS) (OC := OC) FU 0 g (by unfold FU; omega) (by omega) (by omega) (fun j j0 j1 => by omega)
  refine ⟨g', ?_, k2⟩
  rw [← k1]
  simp (disch := first | assumption | omega) only [f_J7_fill_53178, ↓rc2, ↓gI2_1, ↓gI2_2, ↓gI2_3, ↓gI2_4, ↓gI2_5, ↓gI2_6, ↓gI2_9, ↓pI2_1, ↓pI2_2, ↓pI2_3, ↓pI2_4, ↓pI2_6, ↓pI2_9, ↓pZ2_5, ↓gR2_0, ↓gR2_7, ↓gR2_8, ↓gR2_10, ↓gR2_11, ↓aI3, ↓ln3, ↓aI4, ↓sI4, ↓ln4, ↓aI5, ↓sI5, ↓ln5, ↓aI6, ↓sI6, ↓ln6, ↓aI7, ↓sI7, ↓ln7, ↓c_I, ↓c_J, ↓c_Q, ↓c_V, ↓c_It, ↓c_Jt, ↓c_Vt, ↓k_I, ↓k_J, ↓n_I, ↓n_V, li0, li1, li2, li3, li4, li5, li6, li7, li8, li9, li10, li11, li12, li13, li14, li15, li16, li17, li18, li19, li20, li21, li22, li23, li24, li25, li26, li27, li28, li29, li30, li31, li32, li33, li34, li35, li36, li37, li38, li39, li40, li41, li42, li44, li48, li57, li63, li64, li65, li97, li99, li100, li101, li102, li104, li105, li106, li109, li114, li120, li128, li130, li300, li514, li999, li1000, li8192, li9999, li65536, li1000000, li1000001, li1000002, li1000003, li1000004, li1000005, li1000006, li1000007, li1000008, li1000009, li1000010, li1000011, li1000012, li1000013, li1000014, li1000015, li1000016, li1000017, li1000018, li1000019, li2147483647, lj0, lj1, W_add, W_sub, W_mul, W_neg, V_add, V_sub, V_mul, V_neg, W_ite]
theorem e_fit (hT : TXe I L T) (p0 : 0 ≤ p) (p1 : p ≤ L) (hz : z = 0 ∨ z = 1) : ER (f_X6_parseFitting (Sx (EPS I p nm kd z cn oc g PT OS OC) J 1 c) 2) I J c cn oc PT OS OC (mS T L 41 (nS T L (wS T L [102, 105, 116, 40] (p, 0))).1, z, mk4 gr 1 0 4 (nS T L (wS T L [102, 105, 116, 40] (p, 0))).2) (CM g (mS T L 41 (nS T L (wS T L [102, 105, 116, 40] (p, 0))).1, z, mk4 gr 1 0 4 (nS T L (wS T L [102, 105, 116, 40] (p, 0))).2)) := by
  have w1 := e_word (J := J) (c := c) (nm := nm) (kd := kd) (z := z) (cn := cn) (oc := oc) (g := g) (PT := PT) (OS := OS) (OC := OC) wd_6 (by decide) (by decide) hT p0 p1
  have hw := (wS_ok (T := T) [102, 105, 116, 40] (show okP L (p, 0) from ⟨p0, p1, Or.inl rfl⟩)).1
  generalize wS T L [102, 105, 116, 40] (p, 0) = s at w1 hw ⊢
  obtain ⟨p2, f2⟩ := s
  have hp2 : 0 ≤ p2 ∧ p2 ≤ L ∧ (f2 = 0 ∨ f2 = 1) := hw
  rcases hp2.2.2 with rfl | rfl
  · have w1 : f_X6_takeWord (Sx (EPS I p nm kd z cn oc g PT OS OC) J 1 c) 2 1000006 = some (Sx (EPS I p2 nm kd z cn oc g PT OS OC) J 1 c, xi (iW (bb ((0 : Int) = 0)))) := w1
    rw [bb_pos rfl] at w1
    have e2 := e_num (J := J) (c := c) (nm := nm) (kd := kd) (z := z) (cn := cn) (oc := oc) (g := g) (PT := PT) (OS := OS) (OC := OC) hT hp2.1 hp2.2.1
    have hn := (nS_ok (T := T) (L := L) (s := (p2, 0)) ⟨hp2.1, hp2.2.1, Or.inl rfl⟩).1
    by_cases q : dg T L (p2, 0)
    · rw [cif_pos q] at e2
      have h2 := nS_2 q hp2.1 hp2.2.1
      rw [bb_pos h2] at e2
      generalize nS T L (p2, 0) = N at e2 h2 hn ⊢
      obtain ⟨⟨n1, f1⟩, v⟩ := N
      have h2 : f1 = 0 := h2
      subst h2
      have hn : 0 ≤ n1 ∧ n1 ≤ L ∧ _ := hn
      have e2 : f_X6_takeNumber (Sx (EPS I p2 nm kd z cn oc g PT OS OC) J 1 c) 2 = some (Sx (EPS I n1 v kd z cn oc g PT OS OC) J 1 c, xi (iW 1)) := e2
      have w3 := e_word (J := J) (c := c) (nm := v) (kd := kd) (z := z) (cn := cn) (oc := oc) (g := g) (PT := PT) (OS := OS) (OC := OC) wd_7 (by decide) (by decide) hT hn.1 hn.2.1
      have hw3 : wS T L [41] (n1, 0) = mS T L 41 (n1, 0) := rfl
      rw [hw3] at w3
      refine ⟨v, kd, z, ug (ug (ug (ug g 0 1) 1 0) 2 4) 3 v, ?_, hz, fun _ => ⟨rfl, CM_mk⟩⟩
      show _ = some (Sx (EPS I (mS T L 41 (n1, 0)).1 v kd z cn oc (ug (ug (ug (ug g 0 1) 1 0) 2 4) 3 v) PT OS OC) J 1 c, xi (iW (bb ((mS T L 41 (n1, 0)).2 = 0))))
      rcases bb_01 ((mS T L 41 (n1, 0)).2 = 0) with hb | hb
      · rw [hb] at w3 ⊢
        simp (disch := first | assumption | omega) only [f_X6_parseFitting, f_X6_parseFitting_b29, f_X6_parseFitting_b30, ↓rc2, ↓gI2_1, ↓gI2_2, ↓gI2_3, ↓gI2_4, ↓gI2_5, ↓gI2_6, ↓gI2_9, ↓pI2_1, ↓pI2_2, ↓pI2_3, ↓pI2_4, ↓pI2_6, ↓pI2_9, ↓pZ2_5, ↓gR2_0, ↓gR2_7, ↓gR2_8, ↓gR2_10, ↓gR2_11, ↓aI3, ↓ln3, ↓aI4, ↓sI4, ↓ln4, ↓aI5, ↓sI5, ↓ln5, ↓aI6, ↓sI6, ↓ln6, ↓aI7, ↓sI7, ↓ln7, ↓c_I, ↓c_J, ↓c_Q, ↓c_V, ↓c_It, ↓c_Jt, ↓c_Vt, ↓k_I, ↓k_J, ↓n_I, ↓n_V, li0, li1, li2, li3, li4, li5, li6, li7, li8, li9, li10, li11, li12, li13, li14, li15, li16, li17, li18, li19, li20, li21, li22, li23, li24, li25, li26, li27, li28, li29, li30, li31, li32, li33, li34, li35, li36, li37, li38, li39, li40, li41, li42, li44, li48, li57, li63, li64, li65, li97, li99, li100, li101, li102, li104, li105, li106, li109, li114, li120, li128, li130, li300, li514, li999, li1000, li8192, li9999, li65536, li1000000, li1000001, li1000002, li1000003, li1000004, li1000005, li1000006, li1000007, li1000008, li1000009, li1000010, li1000011, li1000012, li1000013, li1000014, li1000015, li1000016, li1000017, li1000018, li1000019, li2147483647, lj0, lj1, W_add, W_sub, W_mul, W_neg, V_add, V_sub, V_mul, V_neg, W_ite, W_le, W_lt, W_inj, V_le, V_lt, V_inj, W_V, V_W, lgc_ge, lgc_gt, lgc_le, lgc_lt, lgc_eq, ge_iff_le, gt_iff_lt, w1, e2, w3, ep3, e_dMin, e_dMax, Int.reduceEq, ↓reduceIte, r_Z]
      · rw [hb] at w3 ⊢
        simp (disch := first | assumption | omega) only [f_X6_parseFitting, f_X6_parseFitting_b29, f_X6_parseFitting_b30, ↓rc2, ↓gI2_1, ↓gI2_2, ↓gI2_3, ↓gI2_4, ↓gI2_5, ↓gI2_6, ↓gI2_9, ↓pI2_1, ↓pI2_2, ↓pI2_3, ↓pI2_4, ↓pI2_6, ↓pI2_9, ↓pZ2_5, ↓gR2_0, ↓gR2_7, ↓gR2_8, ↓gR2_10, ↓gR2_11, ↓aI3, ↓ln3, ↓aI4, ↓sI4, ↓ln4, ↓aI5, ↓sI5, ↓ln5, ↓aI6, ↓sI6, ↓ln6, ↓aI7, ↓sI7, ↓ln7, ↓c_I, ↓c_J, ↓c_Q, ↓c_V, ↓c_It, ↓c_Jt, ↓c_Vt, ↓k_I, ↓k_J, ↓n_I, ↓n_V, li0, li1, li2, li3, li4, li5, li6, li7, li8, li9, li10, li11, li12, li13, li14, li15, li16, li17, li18, li19, li20, li21, li22, li23, li24, li25, li26, li27, li28, li29, li30, li31, li32, li33, li34, li35, li36, li37, li38, li39, li40, li41, li42, li44, li48, li57, li63, li64, li65, li97, li99, li100, li101, li102, li104, li105, li106, li109, li114, li120, li128, li130, li300, li514, li999, li1000, li8192, li9999, li65536, li1000000, li1000001, li1000002, li1000003, li1000004, li1000005, li1000006, li1000007, li1000008, li1000009, li1000010, li1000011, li1000012, li1000013, li1000014, li1000015, li1000016, li1000017, li1000018, li1000019, li2147483647, lj0, lj1, W_add, W_sub, W_mul, W_neg, V_add, V_sub, V_mul, V_neg, W_ite, W_le, W_lt, W_inj, V_le, V_lt, V_inj, W_V, V_W, lgc_ge, lgc_gt, lgc_le, lgc_lt, lgc_eq, ge_iff_le, gt_iff_lt, w1, e2, w3, ep3, e_dMin, e_dMax, Int.reduceEq, ↓reduceIte, r_Z]
    · rw [cif_neg q] at e2
      have h2 : nS T L (p2, 0) = ((p2, 1), 0) := by
        unfold nS
        rw [cif_neg q]
      rw [h2] at e2 ⊢
      have e2 : f_X6_takeNumber (Sx (EPS I p2 nm kd z cn oc g PT OS OC) J 1 c) 2 = some (Sx (EPS I p2 nm kd z cn oc g PT OS OC) J 1 c, xi (iW (bb ((1 : Int) = 0)))) := e2
      rw [bb_neg (by decide)] at e2
      refine ⟨nm, kd, z, ug (ug (ug (ug g 0 1) 1 0) 2 4) 3 nm, ?_, hz, fun hh => ?_⟩
      · show _ = some (Sx (EPS I (mS T L 41 (p2, 1)).1 nm kd z cn oc (ug (ug (ug (ug g 0 1) 1 0) 2 4) 3 nm) PT OS OC) J 1 c, xi (iW (bb ((mS T L 41 (p2, 1)).2 = 0))))
        rw [mS_1, bb_neg (show ¬ ((1 : Int) = 0) by decide)]
        simp (disch := first | assumption | omega) only [f_X6_parseFitting, f_X6_parseFitting_b29, f_X6_parseFitting_b30, ↓rc2, ↓gI2_1, ↓gI2_2, ↓gI2_3, ↓gI2_4, ↓gI2_5, ↓gI2_6, ↓gI2_9, ↓pI2_1, ↓pI2_2, ↓pI2_3, ↓pI2_4, ↓pI2_6, ↓pI2_9, ↓pZ2_5, ↓gR2_0, ↓gR2_7, ↓gR2_8, ↓gR2_10, ↓gR2_11, ↓aI3, ↓ln3, ↓aI4, ↓sI4, ↓ln4, ↓aI5, ↓sI5, ↓ln5, ↓aI6, ↓sI6, ↓ln6, ↓aI7, ↓sI7, ↓ln7, ↓c_I, ↓c_J, ↓c_Q, ↓c_V, ↓c_It, ↓c_Jt, ↓c_Vt, ↓k_I, ↓k_J, ↓n_I, ↓n_V, li0, li1, li2, li3, li4, li5, li6, li7, li8, li9, li10, li11, li12, li13, li14, li15, li16, li17, li18, li19, li20, li21, li22, li23, li24, li25, li26, li27, li28, li29, li30, li31, li32, li33, li34, li35, li36, li37, li38, li39, li40, li41, li42, li44, li48, li57, li63, li64, li65, li97, li99, li100, li101, li102, li104, li105, li106, li109, li114, li120, li128, li130, li300, li514, li999, li1000, li8192, li9999, li65536, li1000000, li1000001, li1000002, li1000003, li1000004, li1000005, li1000006, li1000007, li1000008, li1000009, li1000010, li1000011, li1000012, li1000013, li1000014, li1000015, li1000016, li1000017, li1000018, li1000019, li2147483647, lj0, lj1, W_add, W_sub, W_mul, W_neg, V_add, V_sub, V_mul, V_neg, W_ite, W_le, W_lt, W_inj, V_le, V_lt, V_inj, W_V, V_W, lgc_ge, lgc_gt, lgc_le, lgc_lt, lgc_eq, ge_iff_le, gt_iff_lt, w1, e2, ep3, e_dMin, e_dMax, Int.reduceEq, ↓reduceIte, r_Z]
      · have hh : (mS T L 41 (p2, 1)).2 = 0 := hh
        rw [mS_1] at hh
        exact absurd hh (show ¬ ((1 : Int) = 0) by decide)
  · have w1 : f_X6_takeWord (Sx (EPS I p nm kd z cn oc g PT OS OC) J 1 c) 2 1000006 = some (Sx (EPS I p2 nm kd z cn oc g PT OS OC) J 1 c, xi (iW (bb ((1 : Int) = 0)))) := w1
    rw [bb_neg (by decide)] at w1
    rw [nS_f rfl]
    refine ⟨nm, kd, z, ug (ug (ug (ug g 0 1) 1 0) 2 4) 3 nm, ?_, hz, fun hh => ?_⟩
    · show _ = some (Sx (EPS I (mS T L 41 (p2, 1)).1 nm kd z cn oc (ug (ug (ug (ug g 0 1) 1 0) 2 4) 3 nm) PT OS OC) J 1 c, xi (iW (bb ((mS T L 41 (p2, 1)).2 = 0))))
      rw [mS_1, bb_neg (show ¬ ((1 : Int) = 0) by decide)]
      simp (disch := first | assumption | omega) only [f_X6_parseFitting, f_X6_parseFitting_b29, f_X6_parseFitting_b30, ↓rc2, ↓gI2_1, ↓gI2_2, ↓gI2_3, ↓gI2_4, ↓gI2_5, ↓gI2_6, ↓gI2_9, ↓pI2_1, ↓pI2_2, ↓pI2_3, ↓pI2_4, ↓pI2_6, ↓pI2_9, ↓pZ2_5, ↓gR2_0, ↓gR2_7, ↓gR2_8, ↓gR2_10, ↓gR2_11, ↓aI3, ↓ln3, ↓aI4, ↓sI4, ↓ln4, ↓aI5, ↓sI5, ↓ln5, ↓aI6, ↓sI6, ↓ln6, ↓aI7, ↓sI7, ↓ln7, ↓c_I, ↓c_J, ↓c_Q, ↓c_V, ↓c_It, ↓c_Jt, ↓c_Vt, ↓k_I, ↓k_J, ↓n_I, ↓n_V, li0, li1, li2, li3, li4, li5, li6, li7, li8, li9, li10, li11, li12, li13, li14, li15, li16, li17, li18, li19, li20, li21, li22, li23, li24, li25, li26, li27, li28, li29, li30, li31, li32, li33, li34, li35, li36, li37, li38, li39, li40, li41, li42, li44, li48, li57, li63, li64, li65, li97, li99, li100, li101, li102, li104, li105, li106, li109, li114, li120, li128, li130, li300, li514, li999, li1000, li8192, li9999, li65536, li1000000, li1000001, li1000002, li1000003, li1000004, li1000005, li1000006, li1000007, li1000008, li1000009, li1000010, li1000011, li1000012, li1000013, li1000014, li1000015, li1000016, li1000017, li1000018, li1000019, li2147483647, lj0, lj1, W_add, W_sub, W_mul, W_neg, V_add, V_sub, V_mul, V_neg, W_ite, W_le, W_lt, W_inj, V_le, V_lt, V_inj, W_V, V_W, lgc_ge, lgc_gt, lgc_le, lgc_lt, lgc_eq, ge_iff_le, gt_iff_lt, w1, ep3, e_dMin, e_dMax, Int.reduceEq, ↓reduceIte, r_Z]
    · have hh : (mS T L 41 (p2, 1)).2 = 0 := hh
      rw [mS_1] at hh
      exact absurd hh (show ¬ ((1 : Int) = 0) by decide)
theorem CM_full {g' : Int → Int} {r : R3} (hg : g 4 = 0) (h : CM g r g') : ∀ k, 0 ≤ k → k < 5 → g' k = r.2.2 k := fun k k0 k1 => by
  by_cases k4 : k = 4
  · rw [k4, h.2.1, hg, h.2.2]
  · exact h.1 k k0 (by omega)
theorem e_parseNum (hT : TXe I L T) (p0 : 0 ≤ p) (p1 : p ≤ L) (hz : z = 0 ∨ z = 1) (q : dg T L (p, 0)) : ER (f_X6_parseNumber (Sx (EPS I p nm kd z cn oc g PT OS OC) J 1 c) 2) I J c cn oc PT OS OC (rSim T L (p, 0) z gr) (CM g (rSim T L (p, 0) z gr)) := by
  unfold rSim
  rw [cif_pos q]
  have e2 := e_num (J := J) (c := c) (nm := nm) (kd := kd) (z := z) (cn := cn) (oc := oc) (g := g) (PT := PT) (OS := OS) (OC := OC) hT p0 p1
  have hn := nS_ok (T := T) (L := L) (s := (p, 0)) ⟨p0, p1, Or.inl rfl⟩
  rw [cif_pos q] at e2
  have h2 := nS_2 q p0 p1
  rw [bb_pos h2] at e2
  generalize nS T L (p, 0) = N at e2 h2 hn ⊢
  obtain ⟨⟨n1, f1⟩, v⟩ := N
  have h2 : f1 = 0 := h2
  subst h2
  have hn : (0 ≤ n1 ∧ n1 ≤ L ∧ _) ∧ _ ∧ _ ∧ 0 ≤ v ∧ v ≤ 999 := hn
  have e2 : f_X6_takeNumber (Sx (EPS I p nm kd z cn oc g PT OS OC) J 1 c) 2 = some (Sx (EPS I n1 v kd z cn oc g PT OS OC) J 1 c, xi (iW 1)) := e2
  have e3 := e_next (J := J) (c := c) (nm := v) (kd := kd) (z := z) (cn := cn) (oc := oc) (g := g) (PT := PT) (OS := OS) (OC := OC) hT hn.1.1 hn.1.2.1 (ch := 102) (by omega) (by omega)
  by_cases q1 : sn T L (n1, 0) 102
  · rw [cif_pos q1]
    rw [bb_pos q1] at e3
    have e4 := e_fac (J := J) (c := c) (kd := kd) (z := z) (cn := cn) (oc := oc) (g := ug (ug g 0 1) 1 0) (PT := PT) (OS := OS) (OC := OC) hT hn.1.1 hn.1.2.1 hz hn.2.2.2.1 hn.2.2.2.2
    refine ⟨v, kd, if v = 0 then 1 else z, ug (ug (ug (ug g 0 1) 1 0) 2 5) 3 v, ?_, by split; exact Or.inr rfl; exact hz, fun hk => ⟨?_, ?_⟩⟩
    · have hb := bb_01 ((wS T L [102, 114] (n1, 0)).2 = 0)
      show _ = some (Sx (EPS I (wS T L [102, 114] (n1, 0)).1 v kd (if v = 0 then 1 else z) cn oc (ug (ug (ug (ug g 0 1) 1 0) 2 5) 3 v) PT OS OC) J 1 c, xi (iW (bb ((wS T L [102, 114] (n1, 0)).2 = 0))))
      generalize bb ((wS T L [102, 114] (n1, 0)).2 = 0) = B at e4 hb ⊢
      simp (disch := first | assumption | omega) only [f_X6_parseNumber, ↓rc2, ↓gI2_1, ↓gI2_2, ↓gI2_3, ↓gI2_4, ↓gI2_5, ↓gI2_6, ↓gI2_9, ↓pI2_1, ↓pI2_2, ↓pI2_3, ↓pI2_4, ↓pI2_6, ↓pI2_9, ↓pZ2_5, ↓gR2_0, ↓gR2_7, ↓gR2_8, ↓gR2_10, ↓gR2_11, ↓aI3, ↓ln3, ↓aI4, ↓sI4, ↓ln4, ↓aI5, ↓sI5, ↓ln5, ↓aI6, ↓sI6, ↓ln6, ↓aI7, ↓sI7, ↓ln7, ↓c_I, ↓c_J, ↓c_Q, ↓c_V, ↓c_It, ↓c_Jt, ↓c_Vt, ↓k_I, ↓k_J, ↓n_I, ↓n_V, li0, li1, li2, li3, li4, li5, li6, li7, li8, li9, li10, li11, li12, li13, li14, li15, li16, li17, li18, li19, li20, li21, li22, li23, li24, li25, li26, li27, li28, li29, li30, li31, li32, li33, li34, li35, li36, li37, li38, li39, li40, li41, li42, li44, li48, li57, li63, li64, li65, li97, li99, li100, li101, li102, li104, li105, li106, li109, li114, li120, li128, li130, li300, li514, li999, li1000, li8192, li9999, li65536, li1000000, li1000001, li1000002, li1000003, li1000004, li1000005, li1000006, li1000007, li1000008, li1000009, li1000010, li1000011, li1000012, li1000013, li1000014, li1000015, li1000016, li1000017, li1000018, li1000019, li2147483647, lj0, lj1, W_add, W_sub, W_mul, W_neg, V_add, V_sub, V_mul, V_neg, W_ite, W_le, W_lt, W_inj, V_le, V_lt, V_inj, W_V, V_W, lgc_ge, lgc_gt, lgc_le, lgc_lt, lgc_eq, ge_iff_le, gt_iff_lt, e2, e3, e_dMin, e4, Int.reduceEq, ↓reduceIte, r_Z]
    · have hk : (wS T L [102, 114] (n1, 0)).2 = 0 := hk
      show (if v = 0 then 1 else z) = cif ((wS T L [102, 114] (n1, 0)).2 = 0 ∧ v = 0) 1 z
      by_cases qv : v = 0
      · rw [if_pos qv, cif_pos ⟨hk, qv⟩]
      · rw [if_neg qv, cif_neg (fun w => qv w.2)]
    · refine ⟨fun k k0 k1 => ?_, rfl, rfl⟩
      by_cases k2 : k = 0
      · rw [k2]; rfl
      · by_cases k3 : k = 1
        · rw [k3]; rfl
        · by_cases k4 : k = 2
          · rw [k4]; rfl
          · rw [show k = 3 by omega]; rfl
  · rw [cif_neg q1]
    rw [bb_neg q1] at e3
    refine ⟨v, kd, z, ug (ug (ug (ug g 0 0) 1 v) 2 0) 3 v, ?_, hz, fun _ => ⟨rfl, CM_mk⟩⟩
    show _ = some (Sx (EPS I n1 v kd z cn oc (ug (ug (ug (ug g 0 0) 1 v) 2 0) 3 v) PT OS OC) J 1 c, xi (iW (bb ((0 : Int) = 0))))
    rw [bb_pos rfl]
    simp (disch := first | assumption | omega) only [f_X6_parseNumber, ↓rc2, ↓gI2_1, ↓gI2_2, ↓gI2_3, ↓gI2_4, ↓gI2_5, ↓gI2_6, ↓gI2_9, ↓pI2_1, ↓pI2_2, ↓pI2_3, ↓pI2_4, ↓pI2_6, ↓pI2_9, ↓pZ2_5, ↓gR2_0, ↓gR2_7, ↓gR2_8, ↓gR2_10, ↓gR2_11, ↓aI3, ↓ln3, ↓aI4, ↓sI4, ↓ln4, ↓aI5, ↓sI5, ↓ln5, ↓aI6, ↓sI6, ↓ln6, ↓aI7, ↓sI7, ↓ln7, ↓c_I, ↓c_J, ↓c_Q, ↓c_V, ↓c_It, ↓c_Jt, ↓c_Vt, ↓k_I, ↓k_J, ↓n_I, ↓n_V, li0, li1, li2, li3, li4, li5, li6, li7, li8, li9, li10, li11, li12, li13, li14, li15, li16, li17, li18, li19, li20, li21, li22, li23, li24, li25, li26, li27, li28, li29, li30, li31, li32, li33, li34, li35, li36, li37, li38, li39, li40, li41, li42, li44, li48, li57, li63, li64, li65, li97, li99, li100, li101, li102, li104, li105, li106, li109, li114, li120, li128, li130, li300, li514, li999, li1000, li8192, li9999, li65536, li1000000, li1000001, li1000002, li1000003, li1000004, li1000005, li1000006, li1000007, li1000008, li1000009, li1000010, li1000011, li1000012, li1000013, li1000014, li1000015, li1000016, li1000017, li1000018, li1000019, li2147483647, lj0, lj1, W_add, W_sub, W_mul, W_neg, V_add, V_sub, V_mul, V_neg, W_ite, W_le, W_lt, W_inj, V_le, V_lt, V_inj, W_V, V_W, lgc_ge, lgc_gt, lgc_le, lgc_lt, lgc_eq, ge_iff_le, gt_iff_lt, e2, ep3, e_dMin, e_dMax, e3, Int.reduceEq, ↓reduceIte, r_Z]
/-- the engine reads a track as the reference does -/
theorem e_simple (hT : TXe I L T) (p0 : 0 ≤ p) (p1 : p ≤ L) (hz : z = 0 ∨ z = 1) : ER (f_X6_parseSimple (Sx (EPS I p nm kd z cn oc g PT OS OC) J 1 c) 2) I J c cn oc PT OS OC (rTrk T L (p, 0) z gr) (fun g' => ∀ k, 0 ≤ k → k < 5 → g' k = (rTrk T L (p, 0) z gr).2.2 k) := by
  obtain ⟨ga, f1, f2⟩ := e_fill0 (J := J) (c := c) (I := I) (p := p) (nm := nm) (kd := kd) (z := z) (cn := cn) (oc := oc) (g := g) (PT := PT) (OS := OS) (OC := OC)
  have hga : ga 4 = 0 := f2 4 (by omega) (by omega)
  have hK := rSim_K (T := T) (g := gr) (show okP L (p, 0) from ⟨p0, p1, Or.inl rfl⟩) hz
  have e1 := e_dig (J := J) (c := c) (nm := nm) (kd := kd) (z := z) (cn := cn) (oc := oc) (g := ga) (PT := PT) (OS := OS) (OC := OC) hT p0 p1
  have key : ∃ nm' kd' z' g', f_X6_parseSimple (Sx (EPS I p nm kd z cn oc g PT OS OC) J 1 c) 2 = f_X6_parseSimple_b76 (Sx (EPS I (rSim T L (p, 0) z gr).1.1 nm' kd' z' cn oc g' PT OS OC) J 1 c) 2 (iW (bb ((rSim T L (p, 0) z gr).1.2 = 0))) ∧ (z' = 0 ∨ z' = 1) ∧ ((rSim T L (p, 0) z gr).1.2 = 0 → z' = (rSim T L (p, 0) z gr).2.1 ∧ ∀ k, 0 ≤ k → k < 5 → g' k = (rSim T L (p, 0) z gr).2.2 k) := by
    by_cases q : dg T L (p, 0)
    · rw [bb_pos q] at e1
      obtain ⟨nm', kd', z', g', a1, a2, a3⟩ := e_parseNum (J := J) (c := c) (I := I) (nm := nm) (kd := kd) (z := z) (cn := cn) (oc := oc) (g := ga) (PT := PT) (OS := OS) (OC := OC) (gr := gr) hT p0 p1 hz q
      refine ⟨nm', kd', z', g', ?_, a2, fun hk => ⟨(a3 hk).1, CM_full hga (a3 hk).2⟩⟩
      simp (disch := first | assumption | omega) only [f_X6_parseSimple, ↓rc2, ↓gI2_1, ↓gI2_2, ↓gI2_3, ↓gI2_4, ↓gI2_5, ↓gI2_6, ↓gI2_9, ↓pI2_1, ↓pI2_2, ↓pI2_3, ↓pI2_4, ↓pI2_6, ↓pI2_9, ↓pZ2_5, ↓gR2_0, ↓gR2_7, ↓gR2_8, ↓gR2_10, ↓gR2_11, ↓aI3, ↓ln3, ↓aI4, ↓sI4, ↓ln4, ↓aI5, ↓sI5, ↓ln5, ↓aI6, ↓sI6, ↓ln6, ↓aI7, ↓sI7, ↓ln7, ↓c_I, ↓c_J, ↓c_Q, ↓c_V, ↓c_It, ↓c_Jt, ↓c_Vt, ↓k_I, ↓k_J, ↓n_I, ↓n_V, li0, li1, li2, li3, li4, li5, li6, li7, li8, li9, li10, li11, li12, li13, li14, li15, li16, li17, li18, li19, li20, li21, li22, li23, li24, li25, li26, li27, li28, li29, li30, li31, li32, li33, li34, li35, li36, li37, li38, li39, li40, li41, li42, li44, li48, li57, li63, li64, li65, li97, li99, li100, li101, li102, li104, li105, li106, li109, li114, li120, li128, li130, li300, li514, li999, li1000, li8192, li9999, li65536, li1000000, li1000001, li1000002, li1000003, li1000004, li1000005, li1000006, li1000007, li1000008, li1000009, li1000010, li1000011, li1000012, li1000013, li1000014, li1000015, li1000016, li1000017, li1000018, li1000019, li2147483647, lj0, lj1, W_add, W_sub, W_mul, W_neg, V_add, V_sub, V_mul, V_neg, W_ite, W_le, W_lt, W_inj, V_le, V_lt, V_inj, W_V, V_W, lgc_ge, lgc_gt, lgc_le, lgc_lt, lgc_eq, ge_iff_le, gt_iff_lt, f1, e1, a1, Int.reduceEq, ↓reduceIte]
    · rw [bb_neg q] at e1
      have e3 := e_next (J := J) (c := c) (nm := nm) (kd := kd) (z := z) (cn := cn) (oc := oc) (g := ga) (PT := PT) (OS := OS) (OC := OC) hT p0 p1 (ch := 97) (by omega) (by omega)
      have e4 := e_next (J := J) (c := c) (nm := nm) (kd := kd) (z := z) (cn := cn) (oc := oc) (g := ga) (PT := PT) (OS := OS) (OC := OC) hT p0 p1 (ch := 102) (by omega) (by omega)
      unfold rSim
      rw [cif_neg q]
      by_cases q1 : sn T L (p, 0) 97
      · rw [bb_pos q1] at e3
        rw [cif_pos q1]
        have w1 := e_word (J := J) (c := c) (nm := nm) (kd := kd) (z := z) (cn := cn) (oc := oc) (g := ug (ug (ug (ug ga 0 1) 1 0) 2 3) 3 0) (PT := PT) (OS := OS) (OC := OC) wd_5 (by decide) (by decide) hT p0 p1
        refine ⟨nm, kd, z, ug (ug (ug (ug ga 0 1) 1 0) 2 3) 3 0, ?_, hz, fun _ => ⟨rfl, CM_full hga (CM_mk (s := wS T L [97, 117, 116, 111] (p, 0)) (zz := z))⟩⟩
        show _ = f_X6_parseSimple_b76 (Sx (EPS I (wS T L [97, 117, 116, 111] (p, 0)).1 nm kd z cn oc (ug (ug (ug (ug ga 0 1) 1 0) 2 3) 3 0) PT OS OC) J 1 c) 2 (iW (bb ((wS T L [97, 117, 116, 111] (p, 0)).2 = 0)))
        simp (disch := first | assumption | omega) only [f_X6_parseSimple, ↓rc2, ↓gI2_1, ↓gI2_2, ↓gI2_3, ↓gI2_4, ↓gI2_5, ↓gI2_6, ↓gI2_9, ↓pI2_1, ↓pI2_2, ↓pI2_3, ↓pI2_4, ↓pI2_6, ↓pI2_9, ↓pZ2_5, ↓gR2_0, ↓gR2_7, ↓gR2_8, ↓gR2_10, ↓gR2_11, ↓aI3, ↓ln3, ↓aI4, ↓sI4, ↓ln4, ↓aI5, ↓sI5, ↓ln5, ↓aI6, ↓sI6, ↓ln6, ↓aI7, ↓sI7, ↓ln7, ↓c_I, ↓c_J, ↓c_Q, ↓c_V, ↓c_It, ↓c_Jt, ↓c_Vt, ↓k_I, ↓k_J, ↓n_I, ↓n_V, li0, li1, li2, li3, li4, li5, li6, li7, li8, li9, li10, li11, li12, li13, li14, li15, li16, li17, li18, li19, li20, li21, li22, li23, li24, li25, li26, li27, li28, li29, li30, li31, li32, li33, li34, li35, li36, li37, li38, li39, li40, li41, li42, li44, li48, li57, li63, li64, li65, li97, li99, li100, li101, li102, li104, li105, li106, li109, li114, li120, li128, li130, li300, li514, li999, li1000, li8192, li9999, li65536, li1000000, li1000001, li1000002, li1000003, li1000004, li1000005, li1000006, li1000007, li1000008, li1000009, li1000010, li1000011, li1000012, li1000013, li1000014, li1000015, li1000016, li1000017, li1000018, li1000019, li2147483647, lj0, lj1, W_add, W_sub, W_mul, W_neg, V_add, V_sub, V_mul, V_neg, W_ite, W_le, W_lt, W_inj, V_le, V_lt, V_inj, W_V, V_W, lgc_ge, lgc_gt, lgc_le, lgc_lt, lgc_eq, ge_iff_le, gt_iff_lt, f1, e1, e3, e_dMin, e_dMax, w1, Int.reduceEq, ↓reduceIte]
      · rw [bb_neg q1] at e3
        rw [cif_neg q1]
        by_cases q2 : sn T L (p, 0) 102
        · rw [bb_pos q2] at e4
          rw [cif_pos q2]
          obtain ⟨nm', kd', z', g', a1, a2, a3⟩ := e_fit (J := J) (c := c) (I := I) (nm := nm) (kd := kd) (z := z) (cn := cn) (oc := oc) (g := ga) (PT := PT) (OS := OS) (OC := OC) (gr := gr) hT p0 p1 hz
          refine ⟨nm', kd', z', g', ?_, a2, fun hk => ⟨(a3 hk).1, CM_full hga (a3 hk).2⟩⟩
          simp (disch := first | assumption | omega) only [f_X6_parseSimple, ↓rc2, ↓gI2_1, ↓gI2_2, ↓gI2_3, ↓gI2_4, ↓gI2_5, ↓gI2_6, ↓gI2_9, ↓pI2_1, ↓pI2_2, ↓pI2_3, ↓pI2_4, ↓pI2_6, ↓pI2_9, ↓pZ2_5, ↓gR2_0, ↓gR2_7, ↓gR2_8, ↓gR2_10, ↓gR2_11, ↓aI3, ↓ln3, ↓aI4, ↓sI4, ↓ln4, ↓aI5, ↓sI5, ↓ln5, ↓aI6, ↓sI6, ↓ln6, ↓aI7, ↓sI7, ↓ln7, ↓c_I, ↓c_J, ↓c_Q, ↓c_V, ↓c_It, ↓c_Jt, ↓c_Vt, ↓k_I, ↓k_J, ↓n_I, ↓n_V, li0, li1, li2, li3, li4, li5, li6, li7, li8, li9, li10, li11, li12, li13, li14, li15, li16, li17, li18, li19, li20, li21, li22, li23, li24, li25, li26, li27, li28, li29, li30, li31, li32, li33, li34, li35, li36, li37, li38, li39, li40, li41, li42, li44, li48, li57, li63, li64, li65, li97, li99, li100, li101, li102, li104, li105, li106, li109, li114, li120, li128, li130, li300, li514, li999, li1000, li8192, li9999, li65536, li1000000, li1000001, li1000002, li1000003, li1000004, li1000005, li1000006, li1000007, li1000008, li1000009, li1000010, li1000011, li1000012, li1000013, li1000014, li1000015, li1000016, li1000017, li1000018, li1000019, li2147483647, lj0, lj1, W_add, W_sub, W_mul, W_neg, V_add, V_sub, V_mul, V_neg, W_ite, W_le, W_lt, W_inj, V_le, V_lt, V_inj, W_V, V_W, lgc_ge, lgc_gt, lgc_le, lgc_lt, lgc_eq, ge_iff_le, gt_iff_lt, f1, e1, e3, e4, a1, Int.reduceEq, ↓reduceIte]
        · rw [bb_neg q2] at e4
          rw [cif_neg q2]
          obtain ⟨nm', kd', z', g', a1, a2, a3⟩ := e_MM (J := J) (c := c) (I := I) (nm := nm) (kd := kd) (z := z) (cn := cn) (oc := oc) (g := ga) (PT := PT) (OS := OS) (OC := OC) (gr := gr) hT p0 p1 hz
          refine ⟨nm', kd', z', g', ?_, a2, fun hk => ⟨(a3 hk).1, CM_full hga (a3 hk).2⟩⟩
          simp (disch := first | assumption | omega) only [f_X6_parseSimple, ↓rc2, ↓gI2_1, ↓gI2_2, ↓gI2_3, ↓gI2_4, ↓gI2_5, ↓gI2_6, ↓gI2_9, ↓pI2_1, ↓pI2_2, ↓pI2_3, ↓pI2_4, ↓pI2_6, ↓pI2_9, ↓pZ2_5, ↓gR2_0, ↓gR2_7, ↓gR2_8, ↓gR2_10, ↓gR2_11, ↓aI3, ↓ln3, ↓aI4, ↓sI4, ↓ln4, ↓aI5, ↓sI5, ↓ln5, ↓aI6, ↓sI6, ↓ln6, ↓aI7, ↓sI7, ↓ln7, ↓c_I, ↓c_J, ↓c_Q, ↓c_V, ↓c_It, ↓c_Jt, ↓c_Vt, ↓k_I, ↓k_J, ↓n_I, ↓n_V, li0, li1, li2, li3, li4, li5, li6, li7, li8, li9, li10, li11, li12, li13, li14, li15, li16, li17, li18, li19, li20, li21, li22, li23, li24, li25, li26, li27, li28, li29, li30, li31, li32, li33, li34, li35, li36, li37, li38, li39, li40, li41, li42, li44, li48, li57, li63, li64, li65, li97, li99, li100, li101, li102, li104, li105, li106, li109, li114, li120, li128, li130, li300, li514, li999, li1000, li8192, li9999, li65536, li1000000, li1000001, li1000002, li1000003, li1000004, li1000005, li1000006, li1000007, li1000008, li1000009, li1000010, li1000011, li1000012, li1000013, li1000014, li1000015, li1000016, li1000017, li1000018, li1000019, li2147483647, lj0, lj1, W_add, W_sub, W_mul, W_neg, V_add, V_sub, V_mul, V_neg, W_ite, W_le, W_lt, W_inj, V_le, V_lt, V_inj, W_V, V_W, lgc_ge, lgc_gt, lgc_le, lgc_lt, lgc_eq, ge_iff_le, gt_iff_lt, f1, e1, e3, e4, a1, ↓reduceIte]
  obtain ⟨nm', kd', z', g', a1, a2, a3⟩ := key
  unfold rTrk
  generalize rSim T L (p, 0) z gr = r at a1 a3 hK ⊢
  obtain ⟨⟨p2, f2⟩, zr, gq⟩ := r
  have hp2 : 0 ≤ p2 ∧ p2 ≤ L ∧ (f2 = 0 ∨ f2 = 1) := hK.1
  rw [a1]
  rcases hp2.2.2 with rfl | rfl
  · obtain ⟨b1, b2⟩ := a3 rfl
    have e5 := e_next (J := J) (c := c) (nm := nm') (kd := kd') (z := z') (cn := cn) (oc := oc) (g := g') (PT := PT) (OS := OS) (OC := OC) hT hp2.1 hp2.2.1 (ch := 63) (by omega) (by omega)
    show ER (f_X6_parseSimple_b76 (Sx (EPS I p2 nm' kd' z' cn oc g' PT OS OC) J 1 c) 2 (iW (bb ((0 : Int) = 0)))) I J c cn oc PT OS OC (cif (sn T L (p2, 0) 63) ((p2 + 1, 0), zr, ug gq 4 1) ((p2, 0), zr, gq)) (fun g' => ∀ k, 0 ≤ k → k < 5 → g' k = (cif (sn T L (p2, 0) 63) ((p2 + 1, 0), zr, ug gq 4 1) ((p2, 0), zr, gq) : R3).2.2 k)
    rw [bb_pos rfl]
    by_cases q : sn T L (p2, 0) 63
    · rw [cif_pos q]
      rw [bb_pos q] at e5
      refine ⟨nm', kd', z', ug g' 4 1, ?_, a2, fun _ => ⟨b1, fun k k0 k1 => ?_⟩⟩
      · show _ = some (Sx (EPS I (p2 + 1) nm' kd' z' cn oc (ug g' 4 1) PT OS OC) J 1 c, xi (iW (bb ((0 : Int) = 0))))
        rw [bb_pos rfl]
        simp (disch := first | assumption | omega) only [f_X6_parseSimple_b76, f_X6_parseSimple_b106, ↓rc2, ↓gI2_1, ↓gI2_2, ↓gI2_3, ↓gI2_4, ↓gI2_5, ↓gI2_6, ↓gI2_9, ↓pI2_1, ↓pI2_2, ↓pI2_3, ↓pI2_4, ↓pI2_6, ↓pI2_9, ↓pZ2_5, ↓gR2_0, ↓gR2_7, ↓gR2_8, ↓gR2_10, ↓gR2_11, ↓aI3, ↓ln3, ↓aI4, ↓sI4, ↓ln4, ↓aI5, ↓sI5, ↓ln5, ↓aI6, ↓sI6, ↓ln6, ↓aI7, ↓sI7, ↓ln7, ↓c_I, ↓c_J, ↓c_Q, ↓c_V, ↓c_It, ↓c_Jt, ↓c_Vt, ↓k_I, ↓k_J, ↓n_I, ↓n_V, li0, li1, li2, li3, li4, li5, li6, li7, li8, li9, li10, li11, li12, li13, li14, li15, li16, li17, li18, li19, li20, li21, li22, li23, li24, li25, li26, li27, li28, li29, li30, li31, li32, li33, li34, li35, li36, li37, li38, li39, li40, li41, li42, li44, li48, li57, li63, li64, li65, li97, li99, li100, li101, li102, li104, li105, li106, li109, li114, li120, li128, li130, li300, li514, li999, li1000, li8192, li9999, li65536, li1000000, li1000001, li1000002, li1000003, li1000004, li1000005, li1000006, li1000007, li1000008, li1000009, li1000010, li1000011, li1000012, li1000013, li1000014, li1000015, li1000016, li1000017, li1000018, li1000019, li2147483647, lj0, lj1, W_add, W_sub, W_mul, W_neg, V_add, V_sub, V_mul, V_neg, W_ite, W_le, W_lt, W_inj, V_le, V_lt, V_inj, W_V, V_W, lgc_ge, lgc_gt, lgc_le, lgc_lt, lgc_eq, ge_iff_le, gt_iff_lt, e5, ep2, ew2, ewg, Int.reduceEq, ↓reduceIte, r_Z]
      · show ug g' 4 1 k = ug gq 4 1 k
        unfold ug
        by_cases e : k = 4
        · rw [if_pos e, if_pos e]
        · rw [if_neg e, if_neg e]
          exact b2 k k0 k1
    · rw [cif_neg q]
      rw [bb_neg q] at e5
      refine ⟨nm', kd', z', g', ?_, a2, fun _ => ⟨b1, b2⟩⟩
      show _ = some (Sx (EPS I p2 nm' kd' z' cn oc g' PT OS OC) J 1 c, xi (iW (bb ((0 : Int) = 0))))
      rw [bb_pos rfl]
      simp (disch := first | assumption | omega) only [f_X6_parseSimple_b76, f_X6_parseSimple_b106, ↓rc2, ↓gI2_1, ↓gI2_2, ↓gI2_3, ↓gI2_4, ↓gI2_5, ↓gI2_6, ↓gI2_9, ↓pI2_1, ↓pI2_2, ↓pI2_3, ↓pI2_4, ↓pI2_6, ↓pI2_9, ↓pZ2_5, ↓gR2_0, ↓gR2_7, ↓gR2_8, ↓gR2_10, ↓gR2_11, ↓aI3, ↓ln3, ↓aI4, ↓sI4, ↓ln4, ↓aI5, ↓sI5, ↓ln5, ↓aI6, ↓sI6, ↓ln6, ↓aI7, ↓sI7, ↓ln7, ↓c_I, ↓c_J, ↓c_Q, ↓c_V, ↓c_It, ↓c_Jt, ↓c_Vt, ↓k_I, ↓k_J, ↓n_I, ↓n_V, li0, li1, li2, li3, li4, li5, li6, li7, li8, li9, li10, li11, li12, li13, li14, li15, li16, li17, li18, li19, li20, li21, li22, li23, li24, li25, li26, li27, li28, li29, li30, li31, li32, li33, li34, li35, li36, li37, li38, li39, li40, li41, li42, li44, li48, li57, li63, li64, li65, li97, li99, li100, li101, li102, li104, li105, li106, li109, li114, li120, li128, li130, li300, li514, li999, li1000, li8192, li9999, li65536, li1000000, li1000001, li1000002, li1000003, li1000004, li1000005, li1000006, li1000007, li1000008, li1000009, li1000010, li1000011, li1000012, li1000013, li1000014, li1000015, li1000016, li1000017, li1000018, li1000019, li2147483647, lj0, lj1, W_add, W_sub, W_mul, W_neg, V_add, V_sub, V_mul, V_neg, W_ite, W_le, W_lt, W_inj, V_le, V_lt, V_inj, W_V, V_W, lgc_ge, lgc_gt, lgc_le, lgc_lt, lgc_eq, ge_iff_le, gt_iff_lt, e5, Int.reduceEq, ↓reduceIte, r_Z]
  · have hns : ¬ sn T L ((p2, 1) : Int × Int) 63 := sn_f rfl
    rw [cif_neg hns]
    refine ⟨nm', kd', z', g', ?_, a2, fun hh => absurd hh (show ¬ ((1 : Int) = 0) by decide)⟩
    show f_X6_parseSimple_b76 (Sx (EPS I p2 nm' kd' z' cn oc g' PT OS OC) J 1 c) 2 (iW (bb ((1 : Int) = 0))) = some (Sx (EPS I p2 nm' kd' z' cn oc g' PT OS OC) J 1 c, xi (iW (bb ((1 : Int) = 0))))
    rw [bb_neg (by decide)]
    simp (disch := first | assumption | omega) only [f_X6_parseSimple_b76, f_X6_parseSimple_b106, ↓rc2, ↓gI2_1, ↓gI2_2, ↓gI2_3, ↓gI2_4, ↓gI2_5, ↓gI2_6, ↓gI2_9, ↓pI2_1, ↓pI2_2, ↓pI2_3, ↓pI2_4, ↓pI2_6, ↓pI2_9, ↓pZ2_5, ↓gR2_0, ↓gR2_7, ↓gR2_8, ↓gR2_10, ↓gR2_11, ↓aI3, ↓ln3, ↓aI4, ↓sI4, ↓ln4, ↓aI5, ↓sI5, ↓ln5, ↓aI6, ↓sI6, ↓ln6, ↓aI7, ↓sI7, ↓ln7, ↓c_I, ↓c_J, ↓c_Q, ↓c_V, ↓c_It, ↓c_Jt, ↓c_Vt, ↓k_I, ↓k_J, ↓n_I, ↓n_V, li0, li1, li2, li3, li4, li5, li6, li7, li8, li9, li10, li11, li12, li13, li14, li15, li16, li17, li18, li19, li20, li21, li22, li23, li24, li25, li26, li27, li28, li29, li30, li31, li32, li33, li34, li35, li36, li37, li38, li39, li40, li41, li42, li44, li48, li57, li63, li64, li65, li97, li99, li100, li101, li102, li104, li105, li106, li109, li114, li120, li128, li130, li300, li514, li999, li1000, li8192, li9999, li65536, li1000000, li1000001, li1000002, li1000003, li1000004, li1000005, li1000006, li1000007, li1000008, li1000009, li1000010, li1000011, li1000012, li1000013, li1000014, li1000015, li1000016, li1000017, li1000018, li1000019, li2147483647, lj0, lj1, W_add, W_sub, W_mul, W_neg, V_add, V_sub, V_mul, V_neg, W_ite, W_le, W_lt, W_inj, V_le, V_lt, V_inj, W_V, V_W, lgc_ge, lgc_gt, lgc_le, lgc_lt, lgc_eq, ge_iff_le, gt_iff_lt, ↓reduceIte, r_Z]
end EngX

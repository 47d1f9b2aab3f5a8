/-! ===== rows of tracks: stored, repeated, both sides ===== -/
/-- the engine's count and rows against the reference's -/
def okR (z : Int) (g : Int → Int) : Prop := (0 ≤ g 0 ∧ g 0 ≤ 2) ∧ (0 ≤ g 1 ∧ g 1 ≤ 999) ∧ (0 ≤ g 2 ∧ g 2 ≤ 5) ∧ (0 ≤ g 3 ∧ g 3 ≤ 999) ∧ (g 2 = 5 → 1 ≤ g 3 ∨ z = 1) ∧ (0 ≤ g 4 ∧ g 4 ≤ 1)
def CR (z cn n : Int) (PT : Int → Int) (R : CF) : Prop := ((cn = n ∧ n ≤ 12) ∨ (cn = 13 ∧ 13 ≤ n)) ∧ 0 ≤ n ∧ n ≤ 1000 ∧ (∀ r k, 0 ≤ r → r < n → r < 12 → 0 ≤ k → k < 5 → PT (5 * r + k) = R r k) ∧ ∀ r, 0 ≤ r → r < n → r < 12 → okR z (R r)
theorem okR.eq {z : Int} {g g' : Int → Int} (h : okR z g) (e : ∀ k, 0 ≤ k → k < 5 → g' k = g k) : okR z g' := by
  unfold okR
  rw [e 0 (by omega) (by omega), e 1 (by omega) (by omega), e 2 (by omega) (by omega), e 3 (by omega) (by omega), e 4 (by omega) (by omega)]
  exact h
theorem okR.z {z z' : Int} {g : Int → Int} (h : okR z g) (hz : z = 1 → z' = 1) : okR z' g := by
  obtain ⟨h1, h2, h3, h4, h5, h6⟩ := h
  exact ⟨h1, h2, h3, h4, fun q => (h5 q).imp id hz, h6⟩
theorem rFac_z {T : Int → Int} {L v z : Int} {s : Int × Int} {g : Int → Int} : (z = 1 → (rFac T L v s z g).2.1 = 1) ∧ ((rFac T L v s z g).1.2 = 0 → 0 ≤ v → 1 ≤ v ∨ (rFac T L v s z g).2.1 = 1) := by
  unfold rFac
  show (z = 1 → cif ((wS T L [102, 114] s).2 = 0 ∧ v = 0) 1 z = 1) ∧ ((wS T L [102, 114] s).2 = 0 → 0 ≤ v → 1 ≤ v ∨ cif ((wS T L [102, 114] s).2 = 0 ∧ v = 0) 1 z = 1)
  by_cases q : (wS T L [102, 114] s).2 = 0 ∧ v = 0
  · rw [cif_pos q]
    exact ⟨fun _ => rfl, fun _ _ => Or.inr rfl⟩
  · rw [cif_neg q]
    exact ⟨id, fun a b => Or.inl (by omega)⟩
theorem rSd0_v {T : Int → Int} {L z : Int} {s : Int × Int} {g : Int → Int} (hs : okP L s) : (0 ≤ (rSd0 T L s z g).2.2 0 ∧ (rSd0 T L s z g).2.2 0 ≤ 2) ∧ (0 ≤ (rSd0 T L s z g).2.2 1 ∧ (rSd0 T L s z g).2.2 1 ≤ 999) ∧ (rSd0 T L s z g).2.1 = z := by
  have hn := nS_ok (T := T) hs
  unfold rSd0
  by_cases q : dg T L s
  · rw [cif_pos q]
    exact ⟨⟨Int.le_refl _, show (0 : Int) ≤ 2 by decide⟩, hn.2.2.2, rfl⟩
  · rw [cif_neg q]
    by_cases q1 : sn T L s 97
    · rw [cif_pos q1]
      exact ⟨⟨show (0 : Int) ≤ 1 by decide, show (1 : Int) ≤ 2 by decide⟩, ⟨Int.le_refl _, show (0 : Int) ≤ 999 by decide⟩, rfl⟩
    · rw [cif_neg q1]
      by_cases q2 : sn T L (mS T L 109 s) 97
      · rw [cif_pos q2]
        exact ⟨⟨show (0 : Int) ≤ 2 by decide, show (2 : Int) ≤ 2 by decide⟩, ⟨Int.le_refl _, show (0 : Int) ≤ 999 by decide⟩, rfl⟩
      · rw [cif_neg q2]
        exact ⟨⟨show (0 : Int) ≤ 1 by decide, show (1 : Int) ≤ 2 by decide⟩, ⟨Int.le_refl _, show (0 : Int) ≤ 999 by decide⟩, rfl⟩
theorem rSd2_v {T : Int → Int} {L z : Int} {s : Int × Int} {g : Int → Int} (hs : okP L s) : (0 ≤ (rSd2 T L s z g).2.2 2 ∧ (rSd2 T L s z g).2.2 2 ≤ 5) ∧ (0 ≤ (rSd2 T L s z g).2.2 3 ∧ (rSd2 T L s z g).2.2 3 ≤ 999) ∧ ((rSd2 T L s z g).1.2 = 0 → (rSd2 T L s z g).2.2 2 = 5 → 1 ≤ (rSd2 T L s z g).2.2 3 ∨ (rSd2 T L s z g).2.1 = 1) ∧ (z = 1 → (rSd2 T L s z g).2.1 = 1) := by
  have hn := nS_ok (T := T) hs
  unfold rSd2
  by_cases q : dg T L s
  · rw [cif_pos q]
    by_cases q1 : sn T L (nS T L s).1 102
    · rw [cif_pos q1]
      have hf := rFac_z (T := T) (L := L) (v := (nS T L s).2) (z := z) (s := (nS T L s).1) (g := ug (ug (ug g 3 0) 2 0) 3 (nS T L s).2)
      exact ⟨⟨show (0 : Int) ≤ 5 by decide, show (5 : Int) ≤ 5 by decide⟩, hn.2.2.2, fun h _ => hf.2 h hn.2.2.2.1, hf.1⟩
    · rw [cif_neg q1]
      exact ⟨⟨Int.le_refl _, show (0 : Int) ≤ 5 by decide⟩, hn.2.2.2, fun _ h => absurd (show (0 : Int) = 5 from h) (by decide), id⟩
  · rw [cif_neg q]
    by_cases q1 : sn T L s 97
    · rw [cif_pos q1]
      exact ⟨⟨show (0 : Int) ≤ 3 by decide, show (3 : Int) ≤ 5 by decide⟩, ⟨Int.le_refl _, show (0 : Int) ≤ 999 by decide⟩, fun _ h => absurd (show (3 : Int) = 5 from h) (by decide), id⟩
    · rw [cif_neg q1]
      by_cases q2 : sn T L (mS T L 109 s) 97
      · rw [cif_pos q2]
        exact ⟨⟨show (0 : Int) ≤ 2 by decide, show (2 : Int) ≤ 5 by decide⟩, ⟨Int.le_refl _, show (0 : Int) ≤ 999 by decide⟩, fun _ h => absurd (show (2 : Int) = 5 from h) (by decide), id⟩
      · rw [cif_neg q2]
        exact ⟨⟨show (0 : Int) ≤ 1 by decide, show (1 : Int) ≤ 5 by decide⟩, ⟨Int.le_refl _, show (0 : Int) ≤ 999 by decide⟩, fun _ h => absurd (show (1 : Int) = 5 from h) (by decide), id⟩
def V3 (z : Int) (r : R3) : Prop := (r.1.2 = 0 → okR r.2.1 r.2.2) ∧ (z = 1 → r.2.1 = 1)
theorem okR_mk {z a0 a1 a2 a3 : Int} {g : Int → Int} (h0 : 0 ≤ a0 ∧ a0 ≤ 2) (h1 : 0 ≤ a1 ∧ a1 ≤ 999) (h2 : 0 ≤ a2 ∧ a2 ≤ 5) (h3 : 0 ≤ a3 ∧ a3 ≤ 999) (h5 : a2 = 5 → 1 ≤ a3 ∨ z = 1) : okR z (mk4 g a0 a1 a2 a3) := ⟨h0, h1, h2, h3, h5, ⟨Int.le_refl _, show (0 : Int) ≤ 1 by decide⟩⟩
theorem rMx_v {T : Int → Int} {L z : Int} {s : Int × Int} {g : Int → Int} (hs : okP L s) (hz : z = 0 ∨ z = 1) (hg : g 4 = 0) : V3 z (rMx T L s z g) := by
  have h1 := (wS_ok (T := T) [109, 97, 120, 40] hs).1
  have v0 := rSd0_v (T := T) (z := z) (g := g) h1
  have k0 := rSd0_K (T := T) (g := g) h1 hz
  have g4 := rSd0_g (T := T) (L := L) (z := z) (s := wS T L [109, 97, 120, 40] s) (g := g) (k := 4) (by omega)
  unfold rMx
  generalize rSd0 T L (wS T L [109, 97, 120, 40] s) z g = r1 at v0 k0 g4 ⊢
  have h4 := (mS_ok (T := T) (ch := 44) k0.1).1
  have v2 := rSd2_v (T := T) (z := r1.2.1) (g := r1.2.2) h4
  have q0 := rSd2_g (T := T) (L := L) (z := r1.2.1) (s := mS T L 44 r1.1) (g := r1.2.2) (k := 0) (by omega)
  have q1 := rSd2_g (T := T) (L := L) (z := r1.2.1) (s := mS T L 44 r1.1) (g := r1.2.2) (k := 1) (by omega)
  have q4 := rSd2_g (T := T) (L := L) (z := r1.2.1) (s := mS T L 44 r1.1) (g := r1.2.2) (k := 4) (by omega)
  have k2 := (rSd2_K (T := T) (g := r1.2.2) h4 k0.2.2.2).1
  generalize rSd2 T L (mS T L 44 r1.1) r1.2.1 r1.2.2 = r2 at v2 q0 q1 q4 k2 ⊢
  refine ⟨fun h => ?_, fun h => v2.2.2.2 (by rw [v0.2.2]; exact h)⟩
  have h : (mS T L 41 r2.1).2 = 0 := h
  have hr2 : r2.1.2 = 0 := by
    rcases k2.2.2 with e | e
    · exact e
    · rw [mS_f e] at h
      exact h
  show okR r2.2.1 r2.2.2
  unfold okR
  rw [q0, q1, q4, g4, hg]
  exact ⟨v0.1, v0.2.1, v2.1, v2.2.1, v2.2.2.1 hr2, ⟨Int.le_refl _, by decide⟩⟩
theorem rSim_v {T : Int → Int} {L z : Int} {s : Int × Int} {g : Int → Int} (hs : okP L s) (hz : z = 0 ∨ z = 1) : V3 z (rSim T L s z g) := by
  have hn := nS_ok (T := T) hs
  unfold rSim
  by_cases q : dg T L s
  · rw [cif_pos q]
    by_cases q1 : sn T L (nS T L s).1 102
    · rw [cif_pos q1]
      have hf := rFac_z (T := T) (L := L) (v := (nS T L s).2) (z := z) (s := (nS T L s).1) (g := mk4 (mk4 g 0 (nS T L s).2 0 (nS T L s).2) 1 0 5 (nS T L s).2)
      exact ⟨fun h => ⟨⟨show (0 : Int) ≤ 1 by decide, show (1 : Int) ≤ 2 by decide⟩, ⟨Int.le_refl _, show (0 : Int) ≤ 999 by decide⟩, ⟨show (0 : Int) ≤ 5 by decide, show (5 : Int) ≤ 5 by decide⟩, hn.2.2.2, fun _ => hf.2 h hn.2.2.2.1, ⟨Int.le_refl _, show (0 : Int) ≤ 1 by decide⟩⟩, hf.1⟩
    · rw [cif_neg q1]
      exact ⟨fun _ => okR_mk (by omega) hn.2.2.2 (by omega) hn.2.2.2 (by omega), id⟩
  · rw [cif_neg q]
    by_cases q1 : sn T L s 97
    · rw [cif_pos q1]
      exact ⟨fun _ => okR_mk (by omega) (by omega) (by omega) (by omega) (by omega), id⟩
    · rw [cif_neg q1]
      by_cases q2 : sn T L s 102
      · rw [cif_pos q2]
        have hw := (wS_ok (T := T) [102, 105, 116, 40] hs).1
        have hn2 := nS_ok (T := T) hw
        exact ⟨fun _ => okR_mk (by omega) (by omega) (by omega) hn2.2.2.2 (by omega), id⟩
      · rw [cif_neg q2]
        have hm := (mS_ok (T := T) (ch := 109) hs).1
        unfold rMM
        by_cases q3 : sn T L (mS T L 109 s) 97
        · rw [cif_pos q3]
          exact ⟨fun _ => okR_mk (by omega) (by omega) (by omega) (by omega) (by omega), id⟩
        · rw [cif_neg q3]
          have hi := (wS_ok (T := T) [105, 110] hm).1
          by_cases q4 : sn T L (wS T L [105, 110] (mS T L 109 s)) 109
          · rw [cif_pos q4]
            exact rMx_v hi hz rfl
          · rw [cif_neg q4]
            exact ⟨fun _ => okR_mk (by omega) (by omega) (by omega) (by omega) (by omega), id⟩
theorem rTrk_v {T : Int → Int} {L z : Int} {s : Int × Int} {g : Int → Int} (hs : okP L s) (hz : z = 0 ∨ z = 1) : V3 z (rTrk T L s z g) := by
  have h := rSim_v (T := T) (g := g) hs hz
  unfold rTrk
  by_cases q : sn T L (rSim T L s z g).1 63
  · rw [cif_pos q]
    refine ⟨fun _ => ?_, h.2⟩
    obtain ⟨h1, h2, h3, h4, h5, h6⟩ := h.1 q.1
    exact ⟨h1, h2, h3, h4, h5, ⟨show (0 : Int) ≤ 1 by decide, show (1 : Int) ≤ 1 by decide⟩⟩
  · rw [cif_neg q]; exact h
theorem epcp5 {I : CF} {p nm kd z cn oc d : Int} {g PT OS OC : Int → Int} : cpf (EPS I p nm kd z cn oc g PT OS OC) 5 0 4 d 5 = EPS I p nm kd z cn oc g (fun j => if d ≤ j ∧ j < d + 5 then g (j - d) else PT j) OS OC := by
  funext a j
  unfold cpf
  by_cases q : a = 4
  · subst q
    by_cases e : d ≤ j ∧ j < d + 5
    · rw [if_pos ⟨rfl, e⟩, epg, epP, if_pos e, show (0 : Int) + (j - d) = j - d by omega]
    · rw [if_neg (fun z => e z.2), epP, epP, if_neg e]
  · rw [if_neg (fun z => q z.1)]
    unfold EPS
    by_cases q2 : a = 2
    · rw [if_pos q2, if_pos q2]
    · rw [if_neg q2, if_neg q2]
      by_cases q5 : a = 5
      · rw [if_pos q5, if_pos q5]
      · rw [if_neg q5, if_neg q5, if_neg q, if_neg q]
theorem epcp4 {I : CF} {p nm kd z cn oc s d : Int} {g PT OS OC : Int → Int} : cpf (EPS I p nm kd z cn oc g PT OS OC) 4 s 4 d 5 = EPS I p nm kd z cn oc g (fun j => if d ≤ j ∧ j < d + 5 then PT (s + (j - d)) else PT j) OS OC := by
  funext a j
  unfold cpf
  by_cases q : a = 4
  · subst q
    by_cases e : d ≤ j ∧ j < d + 5
    · rw [if_pos ⟨rfl, e⟩, epP, epP, if_pos e]
    · rw [if_neg (fun z => e z.2), epP, epP, if_neg e]
  · rw [if_neg (fun z => q z.1)]
    unfold EPS
    by_cases q2 : a = 2
    · rw [if_pos q2, if_pos q2]
    · rw [if_neg q2, if_neg q2]
      by_cases q5 : a = 5
      · rw [if_pos q5, if_pos q5]
      · rw [if_neg q5, if_neg q5, if_neg q, if_neg q]
section RowsE
variable {J : CF} {c : Bool} {I : CF} {p nm kd z cn oc : Int} {g PT OS OC : Int → Int}
theorem e_addTrack (c0 : 0 ≤ cn) (c1 : cn ≤ 13) : f_X6_addTrack (Sx (EPS I p nm kd z cn oc g PT OS OC) J 1 c) 2 = some (Sx (EPS I p nm kd z (if cn < 13 then cn + 1 else cn) oc g (fun j => if cn < 13 ∧ cn * 5 ≤ j ∧ j < cn * 5 + 5 then g (j - cn * 5) else PT j) OS OC) J 1 c, xv) := by
  have n0 : ¬ (cn < 0) := by omega
  by_cases q : cn < 13
  · have n1 : ¬ ((13 : Int) ≤ cn) := by omega
    have hcp := fun f => c_p (I := EPS I p nm kd z cn oc g PT OS OC) (J := J) (b := 1) (c := c) (s := 5) (d := 4) (sp := 0) (dp := cn * 5) (n := 5) (f := f) sh5 sh4 (by decide) (by decide) (by omega) (by omega) (by omega) (by omega) (by omega)
    have hcp : ∀ f, x_cp (Sx (EPS I p nm kd z cn oc g PT OS OC) J 1 c) 5 (iW 0) 4 (iW (cn * 5)) (iW 5) f = f (Sx (cpf (EPS I p nm kd z cn oc g PT OS OC) 5 0 4 (cn * 5) 5) J 1 c) := hcp
    rw [if_pos q, show (fun j => if cn < 13 ∧ cn * 5 ≤ j ∧ j < cn * 5 + 5 then g (j - cn * 5) else PT j) = (fun j => if cn * 5 ≤ j ∧ j < cn * 5 + 5 then g (j - cn * 5) else PT j) by
      funext j
      by_cases e : cn * 5 ≤ j ∧ j < cn * 5 + 5
      · rw [if_pos ⟨q, e⟩, if_pos e]
      · rw [if_neg (fun z => e z.2), if_neg e]]
    simp (disch := first | assumption | omega) only [f_X6_addTrack, f_X6_addTrack_b45, ↓rc2, ↓gI2_1, ↓gI2_2, ↓gI2_3, ↓gI2_4, ↓gI2_5, ↓gI2_6, ↓gI2_9, ↓pI2_1, ↓pI2_2, ↓pI2_3, ↓pI2_4, ↓pI2_6, ↓pI2_9, ↓pZ2_5, ↓gR2_0, ↓gR2_7, ↓gR2_8, ↓gR2_10, ↓gR2_11, ↓aI3, ↓ln3, ↓aI4, ↓sI4, ↓ln4, ↓aI5, ↓sI5, ↓ln5, ↓aI6, ↓sI6, ↓ln6, ↓aI7, ↓sI7, ↓ln7, ↓c_I, ↓c_J, ↓c_Q, ↓c_V, ↓c_It, ↓c_Jt, ↓c_Vt, ↓k_I, ↓k_J, ↓n_I, ↓n_V, li0, li1, li2, li3, li4, li5, li6, li7, li8, li9, li10, li11, li12, li13, li14, li15, li16, li17, li18, li19, li20, li21, li22, li23, li24, li25, li26, li27, li28, li29, li30, li31, li32, li33, li34, li35, li36, li37, li38, li39, li40, li41, li42, li44, li48, li57, li63, li64, li65, li97, li99, li100, li101, li102, li104, li105, li106, li109, li114, li120, li128, li130, li300, li514, li999, li1000, li8192, li9999, li65536, li1000000, li1000001, li1000002, li1000003, li1000004, li1000005, li1000006, li1000007, li1000008, li1000009, li1000010, li1000011, li1000012, li1000013, li1000014, li1000015, li1000016, li1000017, li1000018, li1000019, li2147483647, lj0, lj1, W_add, W_sub, W_mul, W_neg, V_add, V_sub, V_mul, V_neg, W_ite, W_le, W_lt, W_inj, V_le, V_lt, V_inj, W_V, V_W, lgc_ge, lgc_gt, lgc_le, lgc_lt, lgc_eq, ge_iff_le, gt_iff_lt, ep6, n0, n1, hcp, epcp5, ew6, ↓reduceIte]
  · have n1 : (13 : Int) ≤ cn := by omega
    rw [if_neg q, show (fun j => if cn < 13 ∧ cn * 5 ≤ j ∧ j < cn * 5 + 5 then g (j - cn * 5) else PT j) = PT by
      funext j
      rw [if_neg (fun z => q z.1)]]
    simp (disch := first | assumption | omega) only [f_X6_addTrack, f_X6_addTrack_b45, ↓rc2, ↓gI2_1, ↓gI2_2, ↓gI2_3, ↓gI2_4, ↓gI2_5, ↓gI2_6, ↓gI2_9, ↓pI2_1, ↓pI2_2, ↓pI2_3, ↓pI2_4, ↓pI2_6, ↓pI2_9, ↓pZ2_5, ↓gR2_0, ↓gR2_7, ↓gR2_8, ↓gR2_10, ↓gR2_11, ↓aI3, ↓ln3, ↓aI4, ↓sI4, ↓ln4, ↓aI5, ↓sI5, ↓ln5, ↓aI6, ↓sI6, ↓ln6, ↓aI7, ↓sI7, ↓ln7, ↓c_I, ↓c_J, ↓c_Q, ↓c_V, ↓c_It, ↓c_Jt, ↓c_Vt, ↓k_I, ↓k_J, ↓n_I, ↓n_V, li0, li1, li2, li3, li4, li5, li6, li7, li8, li9, li10, li11, li12, li13, li14, li15, li16, li17, li18, li19, li20, li21, li22, li23, li24, li25, li26, li27, li28, li29, li30, li31, li32, li33, li34, li35, li36, li37, li38, li39, li40, li41, li42, li44, li48, li57, li63, li64, li65, li97, li99, li100, li101, li102, li104, li105, li106, li109, li114, li120, li128, li130, li300, li514, li999, li1000, li8192, li9999, li65536, li1000000, li1000001, li1000002, li1000003, li1000004, li1000005, li1000006, li1000007, li1000008, li1000009, li1000010, li1000011, li1000012, li1000013, li1000014, li1000015, li1000016, li1000017, li1000018, li1000019, li2147483647, lj0, lj1, W_add, W_sub, W_mul, W_neg, V_add, V_sub, V_mul, V_neg, W_ite, W_le, W_lt, W_inj, V_le, V_lt, V_inj, W_V, V_W, lgc_ge, lgc_gt, lgc_le, lgc_lt, lgc_eq, ge_iff_le, gt_iff_lt, ep6, n0, n1, ↓reduceIte]
theorem CR.add {n zq zr : Int} {R R' : CF} {gr : Int → Int} (h : CR zq cn n PT R) (hv : okR zr gr) (hzz : zq = 1 → zr = 1) (hg : ∀ k, 0 ≤ k → k < 5 → g k = gr k) (hR : ∀ r k, 0 ≤ r → r < 12 → 0 ≤ k → k < 5 → R' r k = if r = n then gr k else R r k) : CR zr (if cn < 13 then cn + 1 else cn) (min 1000 (n + 1)) (fun j => if cn < 13 ∧ cn * 5 ≤ j ∧ j < cn * 5 + 5 then g (j - cn * 5) else PT j) R' := by
  obtain ⟨h1, h2, h3, h4, h5⟩ := h
  refine ⟨by split <;> omega, by omega, by omega, fun r k r0 r1 r2 k0 k1 => ?_, fun r r0 r1 r2 => ?_⟩
  rotate_left
  · by_cases e : r = n
    · exact hv.eq (fun k k0 k1 => by rw [hR r k r0 r2 k0 k1, if_pos e])
    · exact ((h5 r r0 (by omega) r2).z hzz).eq (fun k k0 k1 => by rw [hR r k r0 r2 k0 k1, if_neg e])
  rw [hR r k r0 r2 k0 k1]
  show (if cn < 13 ∧ cn * 5 ≤ 5 * r + k ∧ 5 * r + k < cn * 5 + 5 then g (5 * r + k - cn * 5) else PT (5 * r + k)) = _
  by_cases e : r = n
  · have hcn : cn = n := by omega
    rw [if_pos e, if_pos (by omega), show 5 * r + k - cn * 5 = k by omega]
    exact hg k k0 k1
  · rw [if_neg e, if_neg (by omega)]
    exact h4 r k r0 (by omega) r2 k0 k1
/-- rows copied behind: row r is row s + (r - s) % len -/
theorem e_cpL {s len tot : Int} {PT0 : Int → Int} (s0 : 0 ≤ s) (l0 : 0 < len) (t1 : tot ≤ 13) : ∀ (fuel : Nat) (x : Int) (PT : Int → Int), tot - x < fuel → s + len ≤ x → x ≤ tot → (∀ r k, 0 ≤ r → r < x → 0 ≤ k → k < 5 → PT (5 * r + k) = PT0 (5 * (if r < s then r else s + (r - s) % len) + k)) → ∃ PT', f_X6_copyTracks_L41 fuel (Sx (EPS I p nm kd z cn oc g PT OS OC) J 1 c) 2 (iW len) (iW tot) (iW x) = some (Sx (EPS I p nm kd z tot oc g PT' OS OC) J 1 c, xv) ∧ ∀ r k, 0 ≤ r → r < tot → 0 ≤ k → k < 5 → PT' (5 * r + k) = PT0 (5 * (if r < s then r else s + (r - s) % len) + k) := by
  intro fuel
  induction fuel with
  | zero => intro x PT a1; omega
  | succ fuel ih =>
    intro x PT a1 a2 a3 hP
    show ∃ PT', f_X6_copyTracks_b41 (f_X6_copyTracks_L41 fuel) (Sx (EPS I p nm kd z cn oc g PT OS OC) J 1 c) 2 (iW len) (iW tot) (iW x) = _ ∧ _
    by_cases hk : x = tot
    · subst hk
      refine ⟨PT, ?_, hP⟩
      simp (disch := first | assumption | omega) only [f_X6_copyTracks_b41, f_X6_copyTracks_b70, ↓rc2, ↓gI2_1, ↓gI2_2, ↓gI2_3, ↓gI2_4, ↓gI2_5, ↓gI2_6, ↓gI2_9, ↓pI2_1, ↓pI2_2, ↓pI2_3, ↓pI2_4, ↓pI2_6, ↓pI2_9, ↓pZ2_5, ↓gR2_0, ↓gR2_7, ↓gR2_8, ↓gR2_10, ↓gR2_11, ↓aI3, ↓ln3, ↓aI4, ↓sI4, ↓ln4, ↓aI5, ↓sI5, ↓ln5, ↓aI6, ↓sI6, ↓ln6, ↓aI7, ↓sI7, ↓ln7, ↓c_I, ↓c_J, ↓c_Q, ↓c_V, ↓c_It, ↓c_Jt, ↓c_Vt, ↓k_I, ↓k_J, ↓n_I, ↓n_V, li0, li1, li2, li3, li4, li5, li6, li7, li8, li9, li10, li11, li12, li13, li14, li15, li16, li17, li18, li19, li20, li21, li22, li23, li24, li25, li26, li27, li28, li29, li30, li31, li32, li33, li34, li35, li36, li37, li38, li39, li40, li41, li42, li44, li48, li57, li63, li64, li65, li97, li99, li100, li101, li102, li104, li105, li106, li109, li114, li120, li128, li130, li300, li514, li999, li1000, li8192, li9999, li65536, li1000000, li1000001, li1000002, li1000003, li1000004, li1000005, li1000006, li1000007, li1000008, li1000009, li1000010, li1000011, li1000012, li1000013, li1000014, li1000015, li1000016, li1000017, li1000018, li1000019, li2147483647, lj0, lj1, W_add, W_sub, W_mul, W_neg, V_add, V_sub, V_mul, V_neg, W_ite, W_le, W_lt, W_inj, V_le, V_lt, V_inj, W_V, V_W, lgc_ge, lgc_gt, lgc_le, lgc_lt, lgc_eq, ge_iff_le, gt_iff_lt, Int.le_refl, ew6, ↓reduceIte]
    · have n1 : ¬ (tot ≤ x) := by omega
      have g1 : ¬ (x - len < 0) := by omega
      have g2 : ¬ ((13 : Int) ≤ x - len) := by omega
      have g3 : ¬ (x < 0) := by omega
      have g4 : ¬ ((13 : Int) ≤ x) := by omega
      have hcp := fun f => c_p (I := EPS I p nm kd z cn oc g PT OS OC) (J := J) (b := 1) (c := c) (s := 4) (d := 4) (sp := (x - len) * 5) (dp := x * 5) (n := 5) (f := f) sh4 sh4 (by decide) (by decide) (by omega) (by omega) (by omega) (by omega) (by omega)
      have hcp : ∀ f, x_cp (Sx (EPS I p nm kd z cn oc g PT OS OC) J 1 c) 4 (iW ((x - len) * 5)) 4 (iW (x * 5)) (iW 5) f = f (Sx (cpf (EPS I p nm kd z cn oc g PT OS OC) 4 ((x - len) * 5) 4 (x * 5) 5) J 1 c) := hcp
      obtain ⟨PT', k1, k2⟩ := ih (x + 1) (fun j => if x * 5 ≤ j ∧ j < x * 5 + 5 then PT ((x - len) * 5 + (j - x * 5)) else PT j) (by omega) (by omega) (by omega) (fun r k r0 r1 k0 k1 => by
        show (if x * 5 ≤ 5 * r + k ∧ 5 * r + k < x * 5 + 5 then PT ((x - len) * 5 + (5 * r + k - x * 5)) else PT (5 * r + k)) = _
        by_cases e : r = x
        · rw [if_pos (by omega), show (x - len) * 5 + (5 * r + k - x * 5) = 5 * (x - len) + k by omega, hP (x - len) k (by omega) (by omega) k0 k1, if_neg (show ¬ (x - len < s) by omega), if_neg (show ¬ (r < s) by omega)]
          rw [show (r - s) % len = (x - len - s) % len by
            rw [e, show x - s = x - len - s + len by omega, Int.add_emod_right]]
        · rw [if_neg (by omega)]
          exact hP r k r0 (by omega) k0 k1)
      refine ⟨PT', ?_, k2⟩
      rw [← k1]
      simp (disch := first | assumption | omega) only [f_X6_copyTracks_b41, f_X6_copyTrack, f_X6_copyTrack_b38, ↓rc2, ↓gI2_1, ↓gI2_2, ↓gI2_3, ↓gI2_4, ↓gI2_5, ↓gI2_6, ↓gI2_9, ↓pI2_1, ↓pI2_2, ↓pI2_3, ↓pI2_4, ↓pI2_6, ↓pI2_9, ↓pZ2_5, ↓gR2_0, ↓gR2_7, ↓gR2_8, ↓gR2_10, ↓gR2_11, ↓aI3, ↓ln3, ↓aI4, ↓sI4, ↓ln4, ↓aI5, ↓sI5, ↓ln5, ↓aI6, ↓sI6, ↓ln6, ↓aI7, ↓sI7, ↓ln7, ↓c_I, ↓c_J, ↓c_Q, ↓c_V, ↓c_It, ↓c_Jt, ↓c_Vt, ↓k_I, ↓k_J, ↓n_I, ↓n_V, li0, li1, li2, li3, li4, li5, li6, li7, li8, li9, li10, li11, li12, li13, li14, li15, li16, li17, li18, li19, li20, li21, li22, li23, li24, li25, li26, li27, li28, li29, li30, li31, li32, li33, li34, li35, li36, li37, li38, li39, li40, li41, li42, li44, li48, li57, li63, li64, li65, li97, li99, li100, li101, li102, li104, li105, li106, li109, li114, li120, li128, li130, li300, li514, li999, li1000, li8192, li9999, li65536, li1000000, li1000001, li1000002, li1000003, li1000004, li1000005, li1000006, li1000007, li1000008, li1000009, li1000010, li1000011, li1000012, li1000013, li1000014, li1000015, li1000016, li1000017, li1000018, li1000019, li2147483647, lj0, lj1, W_add, W_sub, W_mul, W_neg, V_add, V_sub, V_mul, V_neg, W_ite, W_le, W_lt, W_inj, V_le, V_lt, V_inj, W_V, V_W, lgc_ge, lgc_gt, lgc_le, lgc_lt, lgc_eq, ge_iff_le, gt_iff_lt, n1, g1, g2, g3, g4, hcp, epcp4, ↓reduceIte]
end RowsE
section RowsR
variable {J : CF} {b : Nat} {c : Bool} {I : CF} {p f z : Int} {g : Int → Int}
theorem r_cp54 {R0 : CF} {k6 : HP → Nat → Int32 → Int32 → Int32 → Int32 → Int32 → Option XR} {k23 : HP → Nat → Int32 → Int32 → Int32 → Int32 → Int32 → Int32 → Option XR} {x1 x2 x3 x4 x5 x6 : Int} (a0 : 0 ≤ x4) (a1 : x4 < 12) (b0 : 0 ≤ x6) (b1 : x6 < 12) : ∀ (fuel : Nat) (k : Int) (R : CF), 5 - k < fuel → 0 ≤ k → k ≤ 5 → (∀ j, 0 ≤ j → j < 5 → R x6 j = R0 x6 j) → (∀ j, 0 ≤ j → j < k → R x4 j = R0 x6 j) → (∀ r, r ≠ x4 → R r = R0 r) → ∃ R', f_X8_repeat_L54 k6 k23 fuel (Sx (RPS I p f z g R) J b c) 102 (iW x1) (iW x2) (iW x3) (iW x4) (iW x5) (iW x6) (iW k) = k23 (Sx (RPS I p f z g R') J b c) 102 (iW x1) (iW x2) (iW x3) (iW (x4 + 1)) (iW x5) (iW (x6 + 1)) ∧ (∀ j, 0 ≤ j → j < 5 → R' x4 j = R0 x6 j) ∧ (∀ r, r ≠ x4 → R' r = R0 r) := by
  intro fuel
  induction fuel with
  | zero => intro k R c1; omega
  | succ fuel ih =>
    intro k R c1 c2 c3 h6 h4 hr
    show ∃ R', f_X8_repeat_b54 k6 k23 (f_X8_repeat_L54 k6 k23 fuel) (Sx (RPS I p f z g R) J b c) 102 (iW x1) (iW x2) (iW x3) (iW x4) (iW x5) (iW x6) (iW k) = _ ∧ _
    by_cases hk : k = 5
    · refine ⟨R, ?_, fun j j0 j1 => h4 j j0 (by omega), hr⟩
      have n0 : (5 : Int) ≤ k := by omega
      simp (disch := first | assumption | omega) only [f_X8_repeat_b54, f_X8_repeat_b86, ↓rc102, ↓gI102_0, ↓gI102_6, ↓gI102_8, ↓gI102_9, ↓gI102_13, ↓gI102_15, ↓gI102_16, ↓gI102_17, ↓gI102_18, ↓gI102_19, ↓gI102_27, ↓gI102_28, ↓gI102_29, ↓gJ102_39, ↓gJ102_40, ↓gJ102_41, ↓gJ102_42, ↓pI102_0, ↓pI102_6, ↓pI102_9, ↓pI102_13, ↓pI102_15, ↓pI102_16, ↓pI102_17, ↓pI102_27, ↓pI102_28, ↓pI102_29, ↓pZ102_8, ↓pZ102_18, ↓pZ102_19, ↓pJ102_39, ↓pJ102_40, ↓pJ102_41, ↓pJ102_42, ↓gR102_1, ↓gR102_2, ↓gR102_3, ↓gR102_4, ↓gR102_5, ↓gR102_7, ↓gR102_10, ↓gR102_11, ↓gR102_12, ↓gR102_14, ↓gR102_20, ↓gR102_21, ↓gR102_22, ↓gR102_23, ↓gR102_24, ↓gR102_25, ↓gR102_26, ↓gR102_30, ↓gR102_31, ↓gR102_32, ↓gR102_33, ↓gR102_34, ↓gR102_35, ↓gR102_36, ↓gR102_37, ↓gR102_38, ↓aI103, ↓sI103, ↓ln103, ↓aI137, ↓sI137, ↓ln137, ↓aI188, ↓sZ188, ↓ln188, ↓aI189, ↓ln189, ↓aI203, ↓sI203, ↓ln203, ↓aI217, ↓sZ217, ↓ln217, ↓aI218, ↓sI218, ↓ln218, ↓aI219, ↓sI219, ↓ln219, ↓aI220, ↓sZ220, ↓ln220, ↓aI221, ↓sZ221, ↓ln221, ↓aI229, ↓sI229, ↓ln229, ↓aI230, ↓sI230, ↓ln230, ↓aI231, ↓sI231, ↓ln231, ↓aI232, ↓sI232, ↓ln232, ↓aI233, ↓sI233, ↓ln233, ↓aI234, ↓sZ234, ↓ln234, ↓aI235, ↓sZ235, ↓ln235, ↓aR104, ↓aR131, ↓aR134, ↓aR138, ↓aR175, ↓aR179, ↓aR190, ↓aR204, ↓aR222, ↓aR105, ↓aR139, ↓aI106, ↓sI106, ↓lI106, ↓aI132, ↓sI132, ↓lI132, ↓aI135, ↓sI135, ↓lI135, ↓aI140, ↓sI140, ↓lI140, ↓aI176, ↓sI176, ↓lI176, ↓aI180, ↓sI180, ↓lI180, ↓aI191, ↓sI191, ↓lI191, ↓aI205, ↓sI205, ↓lI205, ↓aI223, ↓sI223, ↓lI223, ↓c_I, ↓c_J, ↓c_Q, ↓c_V, ↓c_It, ↓c_Jt, ↓c_Vt, ↓k_I, ↓k_J, ↓n_I, ↓n_V, li0, li1, li2, li3, li4, li5, li6, li7, li8, li9, li10, li11, li12, li13, li14, li15, li16, li17, li18, li19, li20, li21, li22, li23, li24, li25, li26, li27, li28, li29, li30, li31, li32, li33, li34, li35, li36, li37, li38, li39, li40, li41, li42, li44, li48, li57, li63, li64, li65, li97, li99, li100, li101, li102, li104, li105, li106, li109, li114, li120, li128, li130, li300, li514, li999, li1000, li8192, li9999, li65536, li1000000, li1000001, li1000002, li1000003, li1000004, li1000005, li1000006, li1000007, li1000008, li1000009, li1000010, li1000011, li1000012, li1000013, li1000014, li1000015, li1000016, li1000017, li1000018, li1000019, li2147483647, lj0, lj1, W_add, W_sub, W_mul, W_neg, V_add, V_sub, V_mul, V_neg, W_ite, W_le, W_lt, W_inj, V_le, V_lt, V_inj, W_V, V_W, lgc_ge, lgc_gt, lgc_le, lgc_lt, lgc_eq, ge_iff_le, gt_iff_lt, n0, ↓reduceIte]
    · have n1 : ¬ ((5 : Int) ≤ k) := by omega
      obtain ⟨R', k1, k2⟩ := ih (k + 1) (uI R x4 k (R x6 k)) (by omega) (by omega) (by omega) (fun j j0 j1 => by
        by_cases e : x6 = x4
        · rw [e, u_at]
          by_cases ej : j = k
          · rw [if_pos ej, ej]
            rw [e] at h6
            exact h6 k c2 (by omega)
          · rw [if_neg ej]
            rw [e] at h6
            exact h6 j j0 j1
        · rw [u_obj e]
          exact h6 j j0 j1) (fun j j0 j1 => by
        rw [u_at]
        by_cases ej : j = k
        · rw [if_pos ej, ej]
          exact h6 k c2 (by omega)
        · rw [if_neg ej]
          exact h4 j j0 (by omega)) (fun r hrr => by rw [u_obj hrr]; exact hr r hrr)
      refine ⟨R', ?_, k2⟩
      rw [← k1]
      simp (disch := first | assumption | omega) only [f_X8_repeat_b54, ↓rc102, ↓gI102_0, ↓gI102_6, ↓gI102_8, ↓gI102_9, ↓gI102_13, ↓gI102_15, ↓gI102_16, ↓gI102_17, ↓gI102_18, ↓gI102_19, ↓gI102_27, ↓gI102_28, ↓gI102_29, ↓gJ102_39, ↓gJ102_40, ↓gJ102_41, ↓gJ102_42, ↓pI102_0, ↓pI102_6, ↓pI102_9, ↓pI102_13, ↓pI102_15, ↓pI102_16, ↓pI102_17, ↓pI102_27, ↓pI102_28, ↓pI102_29, ↓pZ102_8, ↓pZ102_18, ↓pZ102_19, ↓pJ102_39, ↓pJ102_40, ↓pJ102_41, ↓pJ102_42, ↓gR102_1, ↓gR102_2, ↓gR102_3, ↓gR102_4, ↓gR102_5, ↓gR102_7, ↓gR102_10, ↓gR102_11, ↓gR102_12, ↓gR102_14, ↓gR102_20, ↓gR102_21, ↓gR102_22, ↓gR102_23, ↓gR102_24, ↓gR102_25, ↓gR102_26, ↓gR102_30, ↓gR102_31, ↓gR102_32, ↓gR102_33, ↓gR102_34, ↓gR102_35, ↓gR102_36, ↓gR102_37, ↓gR102_38, ↓aI103, ↓sI103, ↓ln103, ↓aI137, ↓sI137, ↓ln137, ↓aI188, ↓sZ188, ↓ln188, ↓aI189, ↓ln189, ↓aI203, ↓sI203, ↓ln203, ↓aI217, ↓sZ217, ↓ln217, ↓aI218, ↓sI218, ↓ln218, ↓aI219, ↓sI219, ↓ln219, ↓aI220, ↓sZ220, ↓ln220, ↓aI221, ↓sZ221, ↓ln221, ↓aI229, ↓sI229, ↓ln229, ↓aI230, ↓sI230, ↓ln230, ↓aI231, ↓sI231, ↓ln231, ↓aI232, ↓sI232, ↓ln232, ↓aI233, ↓sI233, ↓ln233, ↓aI234, ↓sZ234, ↓ln234, ↓aI235, ↓sZ235, ↓ln235, ↓aR104, ↓aR131, ↓aR134, ↓aR138, ↓aR175, ↓aR179, ↓aR190, ↓aR204, ↓aR222, ↓aR105, ↓aR139, ↓aI106, ↓sI106, ↓lI106, ↓aI132, ↓sI132, ↓lI132, ↓aI135, ↓sI135, ↓lI135, ↓aI140, ↓sI140, ↓lI140, ↓aI176, ↓sI176, ↓lI176, ↓aI180, ↓sI180, ↓lI180, ↓aI191, ↓sI191, ↓lI191, ↓aI205, ↓sI205, ↓lI205, ↓aI223, ↓sI223, ↓lI223, ↓c_I, ↓c_J, ↓c_Q, ↓c_V, ↓c_It, ↓c_Jt, ↓c_Vt, ↓k_I, ↓k_J, ↓n_I, ↓n_V, li0, li1, li2, li3, li4, li5, li6, li7, li8, li9, li10, li11, li12, li13, li14, li15, li16, li17, li18, li19, li20, li21, li22, li23, li24, li25, li26, li27, li28, li29, li30, li31, li32, li33, li34, li35, li36, li37, li38, li39, li40, li41, li42, li44, li48, li57, li63, li64, li65, li97, li99, li100, li101, li102, li104, li105, li106, li109, li114, li120, li128, li130, li300, li514, li999, li1000, li8192, li9999, li65536, li1000000, li1000001, li1000002, li1000003, li1000004, li1000005, li1000006, li1000007, li1000008, li1000009, li1000010, li1000011, li1000012, li1000013, li1000014, li1000015, li1000016, li1000017, li1000018, li1000019, li2147483647, lj0, lj1, W_add, W_sub, W_mul, W_neg, V_add, V_sub, V_mul, V_neg, W_ite, W_le, W_lt, W_inj, V_le, V_lt, V_inj, W_V, V_W, lgc_ge, lgc_gt, lgc_le, lgc_lt, lgc_eq, ge_iff_le, gt_iff_lt, n1, rd191, wr191, ↓reduceIte]
/-- what the rows are once x are there -/
def RI (s n x : Int) (R0 R : CF) : Prop := ∀ r k, 0 ≤ r → r < 12 → 0 ≤ k → k < 5 → (r < s → R r k = R0 r k) ∧ (s ≤ r → r < n ∨ r < x → R r k = R0 (s + (r - s) % (n - s)) k)
theorem r_rp23 {R0 : CF} {s n cc x5 : Int} {k6 : HP → Nat → Int32 → Int32 → Int32 → Int32 → Int32 → Option XR} (s0 : 0 ≤ s) (sn : s ≤ n) (n1 : n ≤ 1000) (h5 : 0 ≤ x5) : ∀ (fuel : Nat) (x4 x6 : Int) (R : CF), n - x6 < fuel → s ≤ x6 → x6 ≤ n → x4 = min 1000 (s + x5 * (n - s) + (x6 - s)) → RI s n x4 R0 R → ∃ R', f_X8_repeat_L23 k6 fuel (Sx (RPS I p f z g R) J b c) 102 (iW s) (iW n) (iW cc) (iW x4) (iW x5) (iW x6) = k6 (Sx (RPS I p f z g R') J b c) 102 (iW s) (iW n) (iW cc) (iW (min 1000 (s + x5 * (n - s) + (n - s)))) (iW (x5 + 1)) ∧ RI s n (min 1000 (s + x5 * (n - s) + (n - s))) R0 R' := by
  have hm0 : 0 ≤ x5 * (n - s) := Int.mul_nonneg h5 (by omega)
  intro fuel
  induction fuel with
  | zero => intro x4 x6 R a1; omega
  | succ fuel ih =>
    intro x4 x6 R a1 a2 a3 hx hR
    show ∃ R', f_X8_repeat_b23 k6 (f_X8_repeat_L23 k6 fuel) (Sx (RPS I p f z g R) J b c) 102 (iW s) (iW n) (iW cc) (iW x4) (iW x5) (iW x6) = _ ∧ _
    by_cases hk : x6 = n
    · have hx' : x4 = min 1000 (s + x5 * (n - s) + (n - s)) := by omega
      refine ⟨R, ?_, by rw [← hx']; exact hR⟩
      rw [← hx']
      have q0 : n ≤ x6 := by omega
      simp (disch := first | assumption | omega) only [f_X8_repeat_b23, f_X8_repeat_b95, ↓rc102, ↓gI102_0, ↓gI102_6, ↓gI102_8, ↓gI102_9, ↓gI102_13, ↓gI102_15, ↓gI102_16, ↓gI102_17, ↓gI102_18, ↓gI102_19, ↓gI102_27, ↓gI102_28, ↓gI102_29, ↓gJ102_39, ↓gJ102_40, ↓gJ102_41, ↓gJ102_42, ↓pI102_0, ↓pI102_6, ↓pI102_9, ↓pI102_13, ↓pI102_15, ↓pI102_16, ↓pI102_17, ↓pI102_27, ↓pI102_28, ↓pI102_29, ↓pZ102_8, ↓pZ102_18, ↓pZ102_19, ↓pJ102_39, ↓pJ102_40, ↓pJ102_41, ↓pJ102_42, ↓gR102_1, ↓gR102_2, ↓gR102_3, ↓gR102_4, ↓gR102_5, ↓gR102_7, ↓gR102_10, ↓gR102_11, ↓gR102_12, ↓gR102_14, ↓gR102_20, ↓gR102_21, ↓gR102_22, ↓gR102_23, ↓gR102_24, ↓gR102_25, ↓gR102_26, ↓gR102_30, ↓gR102_31, ↓gR102_32, ↓gR102_33, ↓gR102_34, ↓gR102_35, ↓gR102_36, ↓gR102_37, ↓gR102_38, ↓aI103, ↓sI103, ↓ln103, ↓aI137, ↓sI137, ↓ln137, ↓aI188, ↓sZ188, ↓ln188, ↓aI189, ↓ln189, ↓aI203, ↓sI203, ↓ln203, ↓aI217, ↓sZ217, ↓ln217, ↓aI218, ↓sI218, ↓ln218, ↓aI219, ↓sI219, ↓ln219, ↓aI220, ↓sZ220, ↓ln220, ↓aI221, ↓sZ221, ↓ln221, ↓aI229, ↓sI229, ↓ln229, ↓aI230, ↓sI230, ↓ln230, ↓aI231, ↓sI231, ↓ln231, ↓aI232, ↓sI232, ↓ln232, ↓aI233, ↓sI233, ↓ln233, ↓aI234, ↓sZ234, ↓ln234, ↓aI235, ↓sZ235, ↓ln235, ↓aR104, ↓aR131, ↓aR134, ↓aR138, ↓aR175, ↓aR179, ↓aR190, ↓aR204, ↓aR222, ↓aR105, ↓aR139, ↓aI106, ↓sI106, ↓lI106, ↓aI132, ↓sI132, ↓lI132, ↓aI135, ↓sI135, ↓lI135, ↓aI140, ↓sI140, ↓lI140, ↓aI176, ↓sI176, ↓lI176, ↓aI180, ↓sI180, ↓lI180, ↓aI191, ↓sI191, ↓lI191, ↓aI205, ↓sI205, ↓lI205, ↓aI223, ↓sI223, ↓lI223, ↓c_I, ↓c_J, ↓c_Q, ↓c_V, ↓c_It, ↓c_Jt, ↓c_Vt, ↓k_I, ↓k_J, ↓n_I, ↓n_V, li0, li1, li2, li3, li4, li5, li6, li7, li8, li9, li10, li11, li12, li13, li14, li15, li16, li17, li18, li19, li20, li21, li22, li23, li24, li25, li26, li27, li28, li29, li30, li31, li32, li33, li34, li35, li36, li37, li38, li39, li40, li41, li42, li44, li48, li57, li63, li64, li65, li97, li99, li100, li101, li102, li104, li105, li106, li109, li114, li120, li128, li130, li300, li514, li999, li1000, li8192, li9999, li65536, li1000000, li1000001, li1000002, li1000003, li1000004, li1000005, li1000006, li1000007, li1000008, li1000009, li1000010, li1000011, li1000012, li1000013, li1000014, li1000015, li1000016, li1000017, li1000018, li1000019, li2147483647, lj0, lj1, W_add, W_sub, W_mul, W_neg, V_add, V_sub, V_mul, V_neg, W_ite, W_le, W_lt, W_inj, V_le, V_lt, V_inj, W_V, V_W, lgc_ge, lgc_gt, lgc_le, lgc_lt, lgc_eq, ge_iff_le, gt_iff_lt, q0, ↓reduceIte]
    · have q0 : ¬ (n ≤ x6) := by omega
      by_cases q1 : 1000 ≤ x4
      · have hx' : x4 = min 1000 (s + x5 * (n - s) + (n - s)) := by omega
        refine ⟨R, ?_, by rw [← hx']; exact hR⟩
        rw [← hx']
        simp (disch := first | assumption | omega) only [f_X8_repeat_b23, f_X8_repeat_b95, ↓rc102, ↓gI102_0, ↓gI102_6, ↓gI102_8, ↓gI102_9, ↓gI102_13, ↓gI102_15, ↓gI102_16, ↓gI102_17, ↓gI102_18, ↓gI102_19, ↓gI102_27, ↓gI102_28, ↓gI102_29, ↓gJ102_39, ↓gJ102_40, ↓gJ102_41, ↓gJ102_42, ↓pI102_0, ↓pI102_6, ↓pI102_9, ↓pI102_13, ↓pI102_15, ↓pI102_16, ↓pI102_17, ↓pI102_27, ↓pI102_28, ↓pI102_29, ↓pZ102_8, ↓pZ102_18, ↓pZ102_19, ↓pJ102_39, ↓pJ102_40, ↓pJ102_41, ↓pJ102_42, ↓gR102_1, ↓gR102_2, ↓gR102_3, ↓gR102_4, ↓gR102_5, ↓gR102_7, ↓gR102_10, ↓gR102_11, ↓gR102_12, ↓gR102_14, ↓gR102_20, ↓gR102_21, ↓gR102_22, ↓gR102_23, ↓gR102_24, ↓gR102_25, ↓gR102_26, ↓gR102_30, ↓gR102_31, ↓gR102_32, ↓gR102_33, ↓gR102_34, ↓gR102_35, ↓gR102_36, ↓gR102_37, ↓gR102_38, ↓aI103, ↓sI103, ↓ln103, ↓aI137, ↓sI137, ↓ln137, ↓aI188, ↓sZ188, ↓ln188, ↓aI189, ↓ln189, ↓aI203, ↓sI203, ↓ln203, ↓aI217, ↓sZ217, ↓ln217, ↓aI218, ↓sI218, ↓ln218, ↓aI219, ↓sI219, ↓ln219, ↓aI220, ↓sZ220, ↓ln220, ↓aI221, ↓sZ221, ↓ln221, ↓aI229, ↓sI229, ↓ln229, ↓aI230, ↓sI230, ↓ln230, ↓aI231, ↓sI231, ↓ln231, ↓aI232, ↓sI232, ↓ln232, ↓aI233, ↓sI233, ↓ln233, ↓aI234, ↓sZ234, ↓ln234, ↓aI235, ↓sZ235, ↓ln235, ↓aR104, ↓aR131, ↓aR134, ↓aR138, ↓aR175, ↓aR179, ↓aR190, ↓aR204, ↓aR222, ↓aR105, ↓aR139, ↓aI106, ↓sI106, ↓lI106, ↓aI132, ↓sI132, ↓lI132, ↓aI135, ↓sI135, ↓lI135, ↓aI140, ↓sI140, ↓lI140, ↓aI176, ↓sI176, ↓lI176, ↓aI180, ↓sI180, ↓lI180, ↓aI191, ↓sI191, ↓lI191, ↓aI205, ↓sI205, ↓lI205, ↓aI223, ↓sI223, ↓lI223, ↓c_I, ↓c_J, ↓c_Q, ↓c_V, ↓c_It, ↓c_Jt, ↓c_Vt, ↓k_I, ↓k_J, ↓n_I, ↓n_V, li0, li1, li2, li3, li4, li5, li6, li7, li8, li9, li10, li11, li12, li13, li14, li15, li16, li17, li18, li19, li20, li21, li22, li23, li24, li25, li26, li27, li28, li29, li30, li31, li32, li33, li34, li35, li36, li37, li38, li39, li40, li41, li42, li44, li48, li57, li63, li64, li65, li97, li99, li100, li101, li102, li104, li105, li106, li109, li114, li120, li128, li130, li300, li514, li999, li1000, li8192, li9999, li65536, li1000000, li1000001, li1000002, li1000003, li1000004, li1000005, li1000006, li1000007, li1000008, li1000009, li1000010, li1000011, li1000012, li1000013, li1000014, li1000015, li1000016, li1000017, li1000018, li1000019, li2147483647, lj0, lj1, W_add, W_sub, W_mul, W_neg, V_add, V_sub, V_mul, V_neg, W_ite, W_le, W_lt, W_inj, V_le, V_lt, V_inj, W_V, V_W, lgc_ge, lgc_gt, lgc_le, lgc_lt, lgc_eq, ge_iff_le, gt_iff_lt, q0, q1, ↓reduceIte]
      · have hxe : x4 = s + x5 * (n - s) + (x6 - s) := by omega
        by_cases q2 : 12 ≤ x4
        · obtain ⟨R', k1, k2⟩ := ih (x4 + 1) (x6 + 1) R (by omega) (by omega) (by omega) (by omega) (fun r k r0 r1 k0 k1 => ⟨(hR r k r0 r1 k0 k1).1, fun e1 e2 => (hR r k r0 r1 k0 k1).2 e1 (by omega)⟩)
          refine ⟨R', ?_, k2⟩
          rw [← k1]
          simp (disch := first | assumption | omega) only [f_X8_repeat_b23, f_X8_repeat_b86, ↓rc102, ↓gI102_0, ↓gI102_6, ↓gI102_8, ↓gI102_9, ↓gI102_13, ↓gI102_15, ↓gI102_16, ↓gI102_17, ↓gI102_18, ↓gI102_19, ↓gI102_27, ↓gI102_28, ↓gI102_29, ↓gJ102_39, ↓gJ102_40, ↓gJ102_41, ↓gJ102_42, ↓pI102_0, ↓pI102_6, ↓pI102_9, ↓pI102_13, ↓pI102_15, ↓pI102_16, ↓pI102_17, ↓pI102_27, ↓pI102_28, ↓pI102_29, ↓pZ102_8, ↓pZ102_18, ↓pZ102_19, ↓pJ102_39, ↓pJ102_40, ↓pJ102_41, ↓pJ102_42, ↓gR102_1, ↓gR102_2, ↓gR102_3, ↓gR102_4, ↓gR102_5, ↓gR102_7, ↓gR102_10, ↓gR102_11, ↓gR102_12, ↓gR102_14, ↓gR102_20, ↓gR102_21, ↓gR102_22, ↓gR102_23, ↓gR102_24, ↓gR102_25, ↓gR102_26, ↓gR102_30, ↓gR102_31, ↓gR102_32, ↓gR102_33, ↓gR102_34, ↓gR102_35, ↓gR102_36, ↓gR102_37, ↓gR102_38, ↓aI103, ↓sI103, ↓ln103, ↓aI137, ↓sI137, ↓ln137, ↓aI188, ↓sZ188, ↓ln188, ↓aI189, ↓ln189, ↓aI203, ↓sI203, ↓ln203, ↓aI217, ↓sZ217, ↓ln217, ↓aI218, ↓sI218, ↓ln218, ↓aI219, ↓sI219, ↓ln219, ↓aI220, ↓sZ220, ↓ln220, ↓aI221, ↓sZ221, ↓ln221, ↓aI229, ↓sI229, ↓ln229, ↓aI230, ↓sI230, ↓ln230, ↓aI231, ↓sI231, ↓ln231, ↓aI232, ↓sI232, ↓ln232, ↓aI233, ↓sI233, ↓ln233, ↓aI234, ↓sZ234, ↓ln234, ↓aI235, ↓sZ235, ↓ln235, ↓aR104, ↓aR131, ↓aR134, ↓aR138, ↓aR175, ↓aR179, ↓aR190, ↓aR204, ↓aR222, ↓aR105, ↓aR139, ↓aI106, ↓sI106, ↓lI106, ↓aI132, ↓sI132, ↓lI132, ↓aI135, ↓sI135, ↓lI135, ↓aI140, ↓sI140, ↓lI140, ↓aI176, ↓sI176, ↓lI176, ↓aI180, ↓sI180, ↓lI180, ↓aI191, ↓sI191, ↓lI191, ↓aI205, ↓sI205, ↓lI205, ↓aI223, ↓sI223, ↓lI223, ↓c_I, ↓c_J, ↓c_Q, ↓c_V, ↓c_It, ↓c_Jt, ↓c_Vt, ↓k_I, ↓k_J, ↓n_I, ↓n_V, li0, li1, li2, li3, li4, li5, li6, li7, li8, li9, li10, li11, li12, li13, li14, li15, li16, li17, li18, li19, li20, li21, li22, li23, li24, li25, li26, li27, li28, li29, li30, li31, li32, li33, li34, li35, li36, li37, li38, li39, li40, li41, li42, li44, li48, li57, li63, li64, li65, li97, li99, li100, li101, li102, li104, li105, li106, li109, li114, li120, li128, li130, li300, li514, li999, li1000, li8192, li9999, li65536, li1000000, li1000001, li1000002, li1000003, li1000004, li1000005, li1000006, li1000007, li1000008, li1000009, li1000010, li1000011, li1000012, li1000013, li1000014, li1000015, li1000016, li1000017, li1000018, li1000019, li2147483647, lj0, lj1, W_add, W_sub, W_mul, W_neg, V_add, V_sub, V_mul, V_neg, W_ite, W_le, W_lt, W_inj, V_le, V_lt, V_inj, W_V, V_W, lgc_ge, lgc_gt, lgc_le, lgc_lt, lgc_eq, ge_iff_le, gt_iff_lt, q0, q1, q2, ↓reduceIte]
        · have q3 : ¬ ((12 : Int) ≤ x6) := by omega
          have h6 : ∀ j, 0 ≤ j → j < 5 → R x6 j = R0 x6 j := fun j j0 j1 => by
            rw [(hR x6 j (by omega) (by omega) j0 j1).2 a2 (Or.inl (by omega)), Int.emod_eq_of_lt (by omega) (by omega), show s + (x6 - s) = x6 by omega]
          obtain ⟨R1, w1, w2, w3⟩ := r_cp54 (J := J) (b := b) (c := c) (I := I) (p := p) (f := f) (z := z) (g := g) (R0 := R) (k6 := k6) (k23 := f_X8_repeat_L23 k6 fuel) (x1 := s) (x2 := n) (x3 := cc) (x4 := x4) (x5 := x5) (x6 := x6) (by omega) (by omega) (by omega) (by omega) FU 0 R (by unfold FU; omega) (by omega) (by omega) (fun _ _ _ => rfl) (fun j j0 j1 => by omega) (fun _ _ => rfl)
          have hmod : (x4 - s) % (n - s) = x6 - s := by
            rw [hxe, show s + x5 * (n - s) + (x6 - s) - s = (x6 - s) + x5 * (n - s) by omega, Int.add_mul_emod_self_right, Int.emod_eq_of_lt (by omega) (by omega)]
          obtain ⟨R', k1, k2⟩ := ih (x4 + 1) (x6 + 1) R1 (by omega) (by omega) (by omega) (by omega) (fun r k r0 r1 k0 k1 => by
            by_cases e : r = x4
            · rw [e, w2 k k0 k1, h6 k k0 k1]
              refine ⟨fun hlt => by omega, fun _ _ => ?_⟩
              rw [hmod, show s + (x6 - s) = x6 by omega]
            · rw [w3 r e]
              exact ⟨(hR r k r0 r1 k0 k1).1, fun e1 e2 => (hR r k r0 r1 k0 k1).2 e1 (by omega)⟩)
          refine ⟨R', ?_, k2⟩
          rw [← k1, ← w1]
          simp (disch := first | assumption | omega) only [f_X8_repeat_b23, f_X8_repeat_b86, ↓rc102, ↓gI102_0, ↓gI102_6, ↓gI102_8, ↓gI102_9, ↓gI102_13, ↓gI102_15, ↓gI102_16, ↓gI102_17, ↓gI102_18, ↓gI102_19, ↓gI102_27, ↓gI102_28, ↓gI102_29, ↓gJ102_39, ↓gJ102_40, ↓gJ102_41, ↓gJ102_42, ↓pI102_0, ↓pI102_6, ↓pI102_9, ↓pI102_13, ↓pI102_15, ↓pI102_16, ↓pI102_17, ↓pI102_27, ↓pI102_28, ↓pI102_29, ↓pZ102_8, ↓pZ102_18, ↓pZ102_19, ↓pJ102_39, ↓pJ102_40, ↓pJ102_41, ↓pJ102_42, ↓gR102_1, ↓gR102_2, ↓gR102_3, ↓gR102_4, ↓gR102_5, ↓gR102_7, ↓gR102_10, ↓gR102_11, ↓gR102_12, ↓gR102_14, ↓gR102_20, ↓gR102_21, ↓gR102_22, ↓gR102_23, ↓gR102_24, ↓gR102_25, ↓gR102_26, ↓gR102_30, ↓gR102_31, ↓gR102_32, ↓gR102_33, ↓gR102_34, ↓gR102_35, ↓gR102_36, ↓gR102_37, ↓gR102_38, ↓aI103, ↓sI103, ↓ln103, ↓aI137, ↓sI137, ↓ln137, ↓aI188, ↓sZ188, ↓ln188, ↓aI189, ↓ln189, ↓aI203, ↓sI203, ↓ln203, ↓aI217, ↓sZ217, ↓ln217, ↓aI218, ↓sI218, ↓ln218, ↓aI219, ↓sI219, ↓ln219, ↓aI220, ↓sZ220, ↓ln220, ↓aI221, ↓sZ221, ↓ln221, ↓aI229, ↓sI229, ↓ln229, ↓aI230, ↓sI230, ↓ln230, ↓aI231, ↓sI231, ↓ln231, ↓aI232, ↓sI232, ↓ln232, ↓aI233, ↓sI233, ↓ln233, ↓aI234, ↓sZ234, ↓ln234, ↓aI235, ↓sZ235, ↓ln235, ↓aR104, ↓aR131, ↓aR134, ↓aR138, ↓aR175, ↓aR179, ↓aR190, ↓aR204, ↓aR222, ↓aR105, ↓aR139, ↓aI106, ↓sI106, ↓lI106, ↓aI132, ↓sI132, ↓lI132, ↓aI135, ↓sI135, ↓lI135, ↓aI140, ↓sI140, ↓lI140, ↓aI176, ↓sI176, ↓lI176, ↓aI180, ↓sI180, ↓lI180, ↓aI191, ↓sI191, ↓lI191, ↓aI205, ↓sI205, ↓lI205, ↓aI223, ↓sI223, ↓lI223, ↓c_I, ↓c_J, ↓c_Q, ↓c_V, ↓c_It, ↓c_Jt, ↓c_Vt, ↓k_I, ↓k_J, ↓n_I, ↓n_V, li0, li1, li2, li3, li4, li5, li6, li7, li8, li9, li10, li11, li12, li13, li14, li15, li16, li17, li18, li19, li20, li21, li22, li23, li24, li25, li26, li27, li28, li29, li30, li31, li32, li33, li34, li35, li36, li37, li38, li39, li40, li41, li42, li44, li48, li57, li63, li64, li65, li97, li99, li100, li101, li102, li104, li105, li106, li109, li114, li120, li128, li130, li300, li514, li999, li1000, li8192, li9999, li65536, li1000000, li1000001, li1000002, li1000003, li1000004, li1000005, li1000006, li1000007, li1000008, li1000009, li1000010, li1000011, li1000012, li1000013, li1000014, li1000015, li1000016, li1000017, li1000018, li1000019, li2147483647, lj0, lj1, W_add, W_sub, W_mul, W_neg, V_add, V_sub, V_mul, V_neg, W_ite, W_le, W_lt, W_inj, V_le, V_lt, V_inj, W_V, V_W, lgc_ge, lgc_gt, lgc_le, lgc_lt, lgc_eq, ge_iff_le, gt_iff_lt, q0, q1, q2, q3, ↓reduceIte]
theorem r_rp6 {R0 : CF} {s n cc : Int} (s0 : 0 ≤ s) (sn : s ≤ n) (n1 : n ≤ 1000) (c1 : cc ≤ 999) : ∀ (fuel : Nat) (x5 : Int) (R : CF), cc - x5 < fuel → 0 ≤ x5 → x5 ≤ cc → RI s n (min 1000 (s + x5 * (n - s))) R0 R → ∃ R', f_X8_repeat_L6 fuel (Sx (RPS I p f z g R) J b c) 102 (iW s) (iW n) (iW cc) (iW (min 1000 (s + x5 * (n - s)))) (iW x5) = some (Sx (RPS I p f z g R') J b c, xi (iW (min 1000 (s + cc * (n - s))))) ∧ RI s n (min 1000 (s + cc * (n - s))) R0 R' := by
  intro fuel
  induction fuel with
  | zero => intro x5 R a1; omega
  | succ fuel ih =>
    intro x5 R a1 a2 a3 hR
    show ∃ R', f_X8_repeat_b6 (f_X8_repeat_L6 fuel) (Sx (RPS I p f z g R) J b c) 102 (iW s) (iW n) (iW cc) (iW (min 1000 (s + x5 * (n - s)))) (iW x5) = _ ∧ _
    by_cases hk : x5 = cc
    · subst hk
      refine ⟨R, ?_, hR⟩
      simp (disch := first | assumption | omega) only [f_X8_repeat_b6, f_X8_repeat_b101, ↓rc102, ↓gI102_0, ↓gI102_6, ↓gI102_8, ↓gI102_9, ↓gI102_13, ↓gI102_15, ↓gI102_16, ↓gI102_17, ↓gI102_18, ↓gI102_19, ↓gI102_27, ↓gI102_28, ↓gI102_29, ↓gJ102_39, ↓gJ102_40, ↓gJ102_41, ↓gJ102_42, ↓pI102_0, ↓pI102_6, ↓pI102_9, ↓pI102_13, ↓pI102_15, ↓pI102_16, ↓pI102_17, ↓pI102_27, ↓pI102_28, ↓pI102_29, ↓pZ102_8, ↓pZ102_18, ↓pZ102_19, ↓pJ102_39, ↓pJ102_40, ↓pJ102_41, ↓pJ102_42, ↓gR102_1, ↓gR102_2, ↓gR102_3, ↓gR102_4, ↓gR102_5, ↓gR102_7, ↓gR102_10, ↓gR102_11, ↓gR102_12, ↓gR102_14, ↓gR102_20, ↓gR102_21, ↓gR102_22, ↓gR102_23, ↓gR102_24, ↓gR102_25, ↓gR102_26, ↓gR102_30, ↓gR102_31, ↓gR102_32, ↓gR102_33, ↓gR102_34, ↓gR102_35, ↓gR102_36, ↓gR102_37, ↓gR102_38, ↓aI103, ↓sI103, ↓ln103, ↓aI137, ↓sI137, ↓ln137, ↓aI188, ↓sZ188, ↓ln188, ↓aI189, ↓ln189, ↓aI203, ↓sI203, ↓ln203, ↓aI217, ↓sZ217, ↓ln217, ↓aI218, ↓sI218, ↓ln218, ↓aI219, ↓sI219, ↓ln219, ↓aI220, ↓sZ220, ↓ln220, ↓aI221, ↓sZ221, ↓ln221, ↓aI229, ↓sI229, ↓ln229, ↓aI230, ↓sI230, ↓ln230, ↓aI231, ↓sI231, ↓ln231, ↓aI232, ↓sI232, ↓ln232, ↓aI233, ↓sI233, ↓ln233, ↓aI234, ↓sZ234, ↓ln234, ↓aI235, ↓sZ235, ↓ln235, ↓aR104, ↓aR131, ↓aR134, ↓aR138, ↓aR175, ↓aR179, ↓aR190, ↓aR204, ↓aR222, ↓aR105, ↓aR139, ↓aI106, ↓sI106, ↓lI106, ↓aI132, ↓sI132, ↓lI132, ↓aI135, ↓sI135, ↓lI135, ↓aI140, ↓sI140, ↓lI140, ↓aI176, ↓sI176, ↓lI176, ↓aI180, ↓sI180, ↓lI180, ↓aI191, ↓sI191, ↓lI191, ↓aI205, ↓sI205, ↓lI205, ↓aI223, ↓sI223, ↓lI223, ↓c_I, ↓c_J, ↓c_Q, ↓c_V, ↓c_It, ↓c_Jt, ↓c_Vt, ↓k_I, ↓k_J, ↓n_I, ↓n_V, li0, li1, li2, li3, li4, li5, li6, li7, li8, li9, li10, li11, li12, li13, li14, li15, li16, li17, li18, li19, li20, li21, li22, li23, li24, li25, li26, li27, li28, li29, li30, li31, li32, li33, li34, li35, li36, li37, li38, li39, li40, li41, li42, li44, li48, li57, li63, li64, li65, li97, li99, li100, li101, li102, li104, li105, li106, li109, li114, li120, li128, li130, li300, li514, li999, li1000, li8192, li9999, li65536, li1000000, li1000001, li1000002, li1000003, li1000004, li1000005, li1000006, li1000007, li1000008, li1000009, li1000010, li1000011, li1000012, li1000013, li1000014, li1000015, li1000016, li1000017, li1000018, li1000019, li2147483647, lj0, lj1, W_add, W_sub, W_mul, W_neg, V_add, V_sub, V_mul, V_neg, W_ite, W_le, W_lt, W_inj, V_le, V_lt, V_inj, W_V, V_W, lgc_ge, lgc_gt, lgc_le, lgc_lt, lgc_eq, ge_iff_le, gt_iff_lt, Int.le_refl, ↓reduceIte]
    · have q0 : ¬ (cc ≤ x5) := by omega
      have hm1 : (x5 + 1) * (n - s) = x5 * (n - s) + (n - s) := by rw [Int.add_mul, Int.one_mul]
      have hm0 : 0 ≤ x5 * (n - s) := Int.mul_nonneg a2 (by omega)
      have hmc : (x5 + 1) * (n - s) ≤ cc * (n - s) := Int.mul_le_mul_of_nonneg_right (by omega) (by omega)
      by_cases q1 : 1000 ≤ min 1000 (s + x5 * (n - s))
      · have he : min 1000 (s + cc * (n - s)) = min 1000 (s + x5 * (n - s)) := by omega
        refine ⟨R, ?_, by rw [he]; exact hR⟩
        rw [he]
        have hhi : min 1000 (s + x5 * (n - s)) ≤ 1000 := by omega
        generalize min 1000 (s + x5 * (n - s)) = M at q1 hhi ⊢
        simp (disch := first | assumption | omega) only [f_X8_repeat_b6, f_X8_repeat_b101, ↓rc102, ↓gI102_0, ↓gI102_6, ↓gI102_8, ↓gI102_9, ↓gI102_13, ↓gI102_15, ↓gI102_16, ↓gI102_17, ↓gI102_18, ↓gI102_19, ↓gI102_27, ↓gI102_28, ↓gI102_29, ↓gJ102_39, ↓gJ102_40, ↓gJ102_41, ↓gJ102_42, ↓pI102_0, ↓pI102_6, ↓pI102_9, ↓pI102_13, ↓pI102_15, ↓pI102_16, ↓pI102_17, ↓pI102_27, ↓pI102_28, ↓pI102_29, ↓pZ102_8, ↓pZ102_18, ↓pZ102_19, ↓pJ102_39, ↓pJ102_40, ↓pJ102_41, ↓pJ102_42, ↓gR102_1, ↓gR102_2, ↓gR102_3, ↓gR102_4, ↓gR102_5, ↓gR102_7, ↓gR102_10, ↓gR102_11, ↓gR102_12, ↓gR102_14, ↓gR102_20, ↓gR102_21, ↓gR102_22, ↓gR102_23, ↓gR102_24, ↓gR102_25, ↓gR102_26, ↓gR102_30, ↓gR102_31, ↓gR102_32, ↓gR102_33, ↓gR102_34, ↓gR102_35, ↓gR102_36, ↓gR102_37, ↓gR102_38, ↓aI103, ↓sI103, ↓ln103, ↓aI137, ↓sI137, ↓ln137, ↓aI188, ↓sZ188, ↓ln188, ↓aI189, ↓ln189, ↓aI203, ↓sI203, ↓ln203, ↓aI217, ↓sZ217, ↓ln217, ↓aI218, ↓sI218, ↓ln218, ↓aI219, ↓sI219, ↓ln219, ↓aI220, ↓sZ220, ↓ln220, ↓aI221, ↓sZ221, ↓ln221, ↓aI229, ↓sI229, ↓ln229, ↓aI230, ↓sI230, ↓ln230, ↓aI231, ↓sI231, ↓ln231, ↓aI232, ↓sI232, ↓ln232, ↓aI233, ↓sI233, ↓ln233, ↓aI234, ↓sZ234, ↓ln234, ↓aI235, ↓sZ235, ↓ln235, ↓aR104, ↓aR131, ↓aR134, ↓aR138, ↓aR175, ↓aR179, ↓aR190, ↓aR204, ↓aR222, ↓aR105, ↓aR139, ↓aI106, ↓sI106, ↓lI106, ↓aI132, ↓sI132, ↓lI132, ↓aI135, ↓sI135, ↓lI135, ↓aI140, ↓sI140, ↓lI140, ↓aI176, ↓sI176, ↓lI176, ↓aI180, ↓sI180, ↓lI180, ↓aI191, ↓sI191, ↓lI191, ↓aI205, ↓sI205, ↓lI205, ↓aI223, ↓sI223, ↓lI223, ↓c_I, ↓c_J, ↓c_Q, ↓c_V, ↓c_It, ↓c_Jt, ↓c_Vt, ↓k_I, ↓k_J, ↓n_I, ↓n_V, li0, li1, li2, li3, li4, li5, li6, li7, li8, li9, li10, li11, li12, li13, li14, li15, li16, li17, li18, li19, li20, li21, li22, li23, li24, li25, li26, li27, li28, li29, li30, li31, li32, li33, li34, li35, li36, li37, li38, li39, li40, li41, li42, li44, li48, li57, li63, li64, li65, li97, li99, li100, li101, li102, li104, li105, li106, li109, li114, li120, li128, li130, li300, li514, li999, li1000, li8192, li9999, li65536, li1000000, li1000001, li1000002, li1000003, li1000004, li1000005, li1000006, li1000007, li1000008, li1000009, li1000010, li1000011, li1000012, li1000013, li1000014, li1000015, li1000016, li1000017, li1000018, li1000019, li2147483647, lj0, lj1, W_add, W_sub, W_mul, W_neg, V_add, V_sub, V_mul, V_neg, W_ite, W_le, W_lt, W_inj, V_le, V_lt, V_inj, W_V, V_W, lgc_ge, lgc_gt, lgc_le, lgc_lt, lgc_eq, ge_iff_le, gt_iff_lt, q0, q1, ↓reduceIte]
      · obtain ⟨R1, w1, w2⟩ := r_rp23 (J := J) (b := b) (c := c) (I := I) (p := p) (f := f) (z := z) (g := g) (R0 := R0) (cc := cc) (k6 := f_X8_repeat_L6 fuel) s0 sn n1 a2 FU (min 1000 (s + x5 * (n - s))) s R (by unfold FU; omega) (by omega) (by omega) (by omega) hR
        rw [show min 1000 (s + x5 * (n - s) + (n - s)) = min 1000 (s + (x5 + 1) * (n - s)) by omega] at w1 w2
        obtain ⟨R', k1, k2⟩ := ih (x5 + 1) R1 (by omega) (by omega) (by omega) w2
        refine ⟨R', ?_, k2⟩
        rw [← k1, ← w1]
        have hlo : 0 ≤ min 1000 (s + x5 * (n - s)) := by omega
        have hhi : min 1000 (s + x5 * (n - s)) ≤ 1000 := by omega
        generalize min 1000 (s + x5 * (n - s)) = M at q1 hlo hhi ⊢
        simp (disch := first | assumption | omega) only [f_X8_repeat_b6, ↓rc102, ↓gI102_0, ↓gI102_6, ↓gI102_8, ↓gI102_9, ↓gI102_13, ↓gI102_15, ↓gI102_16, ↓gI102_17, ↓gI102_18, ↓gI102_19, ↓gI102_27, ↓gI102_28, ↓gI102_29, ↓gJ102_39, ↓gJ102_40, ↓gJ102_41, ↓gJ102_42, ↓pI102_0, ↓pI102_6, ↓pI102_9, ↓pI102_13, ↓pI102_15, ↓pI102_16, ↓pI102_17, ↓pI102_27, ↓pI102_28, ↓pI102_29, ↓pZ102_8, ↓pZ102_18, ↓pZ102_19, ↓pJ102_39, ↓pJ102_40, ↓pJ102_41, ↓pJ102_42, ↓gR102_1, ↓gR102_2, ↓gR102_3, ↓gR102_4, ↓gR102_5, ↓gR102_7, ↓gR102_10, ↓gR102_11, ↓gR102_12, ↓gR102_14, ↓gR102_20, ↓gR102_21, ↓gR102_22, ↓gR102_23, ↓gR102_24, ↓gR102_25, ↓gR102_26, ↓gR102_30, ↓gR102_31, ↓gR102_32, ↓gR102_33, ↓gR102_34, ↓gR102_35, ↓gR102_36, ↓gR102_37, ↓gR102_38, ↓aI103, ↓sI103, ↓ln103, ↓aI137, ↓sI137, ↓ln137, ↓aI188, ↓sZ188, ↓ln188, ↓aI189, ↓ln189, ↓aI203, ↓sI203, ↓ln203, ↓aI217, ↓sZ217, ↓ln217, ↓aI218, ↓sI218, ↓ln218, ↓aI219, ↓sI219, ↓ln219, ↓aI220, ↓sZ220, ↓ln220, ↓aI221, ↓sZ221, ↓ln221, ↓aI229, ↓sI229, ↓ln229, ↓aI230, ↓sI230, ↓ln230, ↓aI231, ↓sI231, ↓ln231, ↓aI232, ↓sI232, ↓ln232, ↓aI233, ↓sI233, ↓ln233, ↓aI234, ↓sZ234, ↓ln234, ↓aI235, ↓sZ235, ↓ln235, ↓aR104, ↓aR131, ↓aR134, ↓aR138, ↓aR175, ↓aR179, ↓aR190, ↓aR204, ↓aR222, ↓aR105, ↓aR139, ↓aI106, ↓sI106, ↓lI106, ↓aI132, ↓sI132, ↓lI132, ↓aI135, ↓sI135, ↓lI135, ↓aI140, ↓sI140, ↓lI140, ↓aI176, ↓sI176, ↓lI176, ↓aI180, ↓sI180, ↓lI180, ↓aI191, ↓sI191, ↓lI191, ↓aI205, ↓sI205, ↓lI205, ↓aI223, ↓sI223, ↓lI223, ↓c_I, ↓c_J, ↓c_Q, ↓c_V, ↓c_It, ↓c_Jt, ↓c_Vt, ↓k_I, ↓k_J, ↓n_I, ↓n_V, li0, li1, li2, li3, li4, li5, li6, li7, li8, li9, li10, li11, li12, li13, li14, li15, li16, li17, li18, li19, li20, li21, li22, li23, li24, li25, li26, li27, li28, li29, li30, li31, li32, li33, li34, li35, li36, li37, li38, li39, li40, li41, li42, li44, li48, li57, li63, li64, li65, li97, li99, li100, li101, li102, li104, li105, li106, li109, li114, li120, li128, li130, li300, li514, li999, li1000, li8192, li9999, li65536, li1000000, li1000001, li1000002, li1000003, li1000004, li1000005, li1000006, li1000007, li1000008, li1000009, li1000010, li1000011, li1000012, li1000013, li1000014, li1000015, li1000016, li1000017, li1000018, li1000019, li2147483647, lj0, lj1, W_add, W_sub, W_mul, W_neg, V_add, V_sub, V_mul, V_neg, W_ite, W_le, W_lt, W_inj, V_le, V_lt, V_inj, W_V, V_W, lgc_ge, lgc_gt, lgc_le, lgc_lt, lgc_eq, ge_iff_le, gt_iff_lt, q0, q1, ↓reduceIte]
theorem r_repeat {R : CF} {s n cc : Int} (s0 : 0 ≤ s) (sn : s ≤ n) (n1 : n ≤ 1000) (c0 : 0 ≤ cc) (c1 : cc ≤ 999) : ∃ R', f_X8_repeat (Sx (RPS I p f z g R) J b c) 102 (iW s) (iW n) (iW cc) = some (Sx (RPS I p f z g R') J b c, xi (iW (min 1000 (s + cc * (n - s))))) ∧ RI s n (min 1000 (s + cc * (n - s))) R R' := by
  obtain ⟨R', k1, k2⟩ := r_rp6 (J := J) (b := b) (c := c) (I := I) (p := p) (f := f) (z := z) (g := g) (R0 := R) s0 sn n1 c1 FU 0 R (by unfold FU; omega) (by omega) c0 (fun r k r0 r1 k0 k1 => ⟨fun _ => rfl, fun e1 e2 => by
    rw [Int.emod_eq_of_lt (by omega) (by omega), show s + (r - s) = r by omega]⟩)
  refine ⟨R', ?_, k2⟩
  rw [show min 1000 (s + 0 * (n - s)) = s by omega] at k1
  rw [← k1]
  simp (disch := first | assumption | omega) only [f_X8_repeat, li0, li1, li2, li3, li4, li5, li6, li7, li8, li9, li10, li11, li12, li13, li14, li15, li16, li17, li18, li19, li20, li21, li22, li23, li24, li25, li26, li27, li28, li29, li30, li31, li32, li33, li34, li35, li36, li37, li38, li39, li40, li41, li42, li44, li48, li57, li63, li64, li65, li97, li99, li100, li101, li102, li104, li105, li106, li109, li114, li120, li128, li130, li300, li514, li999, li1000, li8192, li9999, li65536, li1000000, li1000001, li1000002, li1000003, li1000004, li1000005, li1000006, li1000007, li1000008, li1000009, li1000010, li1000011, li1000012, li1000013, li1000014, li1000015, li1000016, li1000017, li1000018, li1000019, li2147483647, lj0, lj1, W_add, W_sub, W_mul, W_neg, V_add, V_sub, V_mul, V_neg, W_ite]
end RowsR

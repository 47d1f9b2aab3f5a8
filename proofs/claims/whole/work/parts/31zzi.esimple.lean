/-! ===== one track, as the engine reads it ===== -/
theorem wd_1 : WDs 1000001 [32] := by unfold WDs x_wdA; decide +kernel
theorem wd_2 : WDs 1000002 [114, 101, 112, 101, 97, 116] := by unfold WDs x_wdA; decide +kernel
theorem wd_3 : WDs 1000003 [40] := by unfold WDs x_wdA; decide +kernel
theorem wd_4 : WDs 1000004 [44] := by unfold WDs x_wdA; decide +kernel
theorem wd_5 : WDs 1000005 [97, 117, 116, 111] := by unfold WDs x_wdA; decide +kernel
theorem wd_6 : WDs 1000006 [102, 105, 116, 40] := by unfold WDs x_wdA; decide +kernel
theorem wd_7 : WDs 1000007 [41] := by unfold WDs x_wdA; decide +kernel
theorem wd_8 : WDs 1000008 [102, 114] := by unfold WDs x_wdA; decide +kernel
theorem wd_9 : WDs 1000009 [109, 97, 120, 40] := by unfold WDs x_wdA; decide +kernel
theorem wd_10 : WDs 1000010 [109] := by unfold WDs x_wdA; decide +kernel
theorem wd_11 : WDs 1000011 [105, 110] := by unfold WDs x_wdA; decide +kernel
theorem wd_12 : WDs 1000012 [97, 120] := by unfold WDs x_wdA; decide +kernel
theorem mS_1 {T : Int → Int} {L ch p : Int} : mS T L ch (p, 1) = (p, 1) := by
  unfold mS
  rw [cif_neg (fun w => absurd w.1 (show ¬ ((1 : Int) = 0) by decide))]
theorem wS_1 {T : Int → Int} {L p : Int} : ∀ w : List Int, wS T L w (p, 1) = (p, 1) := by
  intro w
  induction w with
  | nil => rfl
  | cons ch w ih =>
    show wS T L w (mS T L ch (p, 1)) = _
    rw [mS_1, ih]
theorem wS_f {T : Int → Int} {L : Int} {w : List Int} {s : Int × Int} (h : s.2 = 1) : wS T L w s = s := by
  obtain ⟨a, e⟩ := s
  have h : e = 1 := h
  rw [h, wS_1]
theorem mS_f {T : Int → Int} {L ch : Int} {s : Int × Int} (h : s.2 = 1) : mS T L ch s = s := by
  obtain ⟨a, e⟩ := s
  have h : e = 1 := h
  rw [h, mS_1]
theorem nS_f {T : Int → Int} {L : Int} {s : Int × Int} (h : s.2 = 1) : nS T L s = (s, 0) := by
  unfold nS
  rw [cif_neg (fun w => by have := w.1; omega)]
  obtain ⟨a, e⟩ := s
  have h : e = 1 := h
  rw [h]
theorem sn_f {T : Int → Int} {L ch : Int} {s : Int × Int} (h : s.2 = 1) : ¬ sn T L s ch := fun w => by have := w.1; omega
section EngT
variable {J : CF} {c : Bool} {I : CF} {L p nm kd z cn oc : Int} {T g PT OS OC : Int → Int}
theorem e_next (hT : TXe I L T) (p0 : 0 ≤ p) (p1 : p ≤ L) {ch : Int} (c0 : 0 ≤ ch) (c1 : ch < 65536) : f_X6_isNext (Sx (EPS I p nm kd z cn oc g PT OS OC) J 1 c) 2 (iW ch) = some (Sx (EPS I p nm kd z cn oc g PT OS OC) J 1 c, xi (iW (bb (sn T L (p, 0) ch)))) := by
  obtain ⟨t1, t2, t3, t4⟩ := hT
  have n0 : ¬ (p < 0) := by omega
  by_cases q1 : L ≤ p
  · rw [bb_neg (fun w : sn T L (p, 0) ch => by have h : p < L := w.2.1; omega)]
    simp (disch := first | assumption | omega) only [f_X6_isNext, f_X6_isNext_b47, f_X6_isNext_b48, ↓rc2, ↓gI2_1, ↓gI2_2, ↓gI2_3, ↓gI2_4, ↓gI2_5, ↓gI2_6, ↓gI2_9, ↓pI2_1, ↓pI2_2, ↓pI2_3, ↓pI2_4, ↓pI2_6, ↓pI2_9, ↓pZ2_5, ↓gR2_0, ↓gR2_7, ↓gR2_8, ↓gR2_10, ↓gR2_11, ↓aI3, ↓ln3, ↓aI4, ↓sI4, ↓ln4, ↓aI5, ↓sI5, ↓ln5, ↓aI6, ↓sI6, ↓ln6, ↓aI7, ↓sI7, ↓ln7, ↓c_I, ↓c_J, ↓c_Q, ↓c_V, ↓c_It, ↓c_Jt, ↓c_Vt, ↓k_I, ↓k_J, ↓n_I, ↓n_V, li0, li1, li2, li3, li4, li5, li6, li7, li8, li9, li10, li11, li12, li13, li14, li15, li16, li17, li18, li19, li20, li21, li22, li23, li24, li25, li26, li27, li28, li29, li30, li31, li32, li33, li34, li35, li36, li37, li38, li39, li40, li41, li42, li44, li48, li57, li63, li64, li65, li97, li99, li100, li101, li102, li104, li105, li106, li109, li114, li120, li128, li130, li300, li514, li999, li1000, li8192, li9999, li65536, li1000000, li1000001, li1000002, li1000003, li1000004, li1000005, li1000006, li1000007, li1000008, li1000009, li1000010, li1000011, li1000012, li1000013, li1000014, li1000015, li1000016, li1000017, li1000018, li1000019, li2147483647, lj0, lj1, W_add, W_sub, W_mul, W_neg, V_add, V_sub, V_mul, V_neg, W_ite, W_le, W_lt, W_inj, V_le, V_lt, V_inj, W_V, V_W, lgc_ge, lgc_gt, lgc_le, lgc_lt, lgc_eq, ge_iff_le, gt_iff_lt, ep1, ep2, t1, n0, q1, ↓reduceIte, r_Z]
  · have e1 := t3 p p0 (by omega)
    have e2 := t4 p p0 (by omega)
    have n2 : ¬ ((120 : Int) ≤ p) := by omega
    by_cases q2 : T p = ch
    · rw [bb_pos (show sn T L (p, 0) ch from ⟨rfl, show p < L by omega, q2⟩)]
      simp (disch := first | assumption | omega) only [f_X6_isNext, f_X6_isNext_b47, f_X6_isNext_b48, ↓rc2, ↓gI2_1, ↓gI2_2, ↓gI2_3, ↓gI2_4, ↓gI2_5, ↓gI2_6, ↓gI2_9, ↓pI2_1, ↓pI2_2, ↓pI2_3, ↓pI2_4, ↓pI2_6, ↓pI2_9, ↓pZ2_5, ↓gR2_0, ↓gR2_7, ↓gR2_8, ↓gR2_10, ↓gR2_11, ↓aI3, ↓ln3, ↓aI4, ↓sI4, ↓ln4, ↓aI5, ↓sI5, ↓ln5, ↓aI6, ↓sI6, ↓ln6, ↓aI7, ↓sI7, ↓ln7, ↓rc0, ↓gI0_1, ↓gI0_7, ↓gI0_8, ↓gI0_15, ↓pI0_1, ↓pI0_7, ↓pI0_8, ↓pZ0_15, ↓gR0_0, ↓gR0_2, ↓gR0_3, ↓gR0_4, ↓gR0_5, ↓gR0_6, ↓gR0_9, ↓gR0_10, ↓gR0_11, ↓gR0_12, ↓gR0_13, ↓gR0_14, ↓aI1, ↓ln1, ↓aI14, ↓sZ14, ↓ln14, ↓aR13, ↓aR15, ↓c_I, ↓c_J, ↓c_Q, ↓c_V, ↓c_It, ↓c_Jt, ↓c_Vt, ↓k_I, ↓k_J, ↓n_I, ↓n_V, li0, li1, li2, li3, li4, li5, li6, li7, li8, li9, li10, li11, li12, li13, li14, li15, li16, li17, li18, li19, li20, li21, li22, li23, li24, li25, li26, li27, li28, li29, li30, li31, li32, li33, li34, li35, li36, li37, li38, li39, li40, li41, li42, li44, li48, li57, li63, li64, li65, li97, li99, li100, li101, li102, li104, li105, li106, li109, li114, li120, li128, li130, li300, li514, li999, li1000, li8192, li9999, li65536, li1000000, li1000001, li1000002, li1000003, li1000004, li1000005, li1000006, li1000007, li1000008, li1000009, li1000010, li1000011, li1000012, li1000013, li1000014, li1000015, li1000016, li1000017, li1000018, li1000019, li2147483647, lj0, lj1, W_add, W_sub, W_mul, W_neg, V_add, V_sub, V_mul, V_neg, W_ite, W_le, W_lt, W_inj, V_le, V_lt, V_inj, W_V, V_W, lgc_ge, lgc_gt, lgc_le, lgc_lt, lgc_eq, ge_iff_le, gt_iff_lt, ep1, ep2, epx1, t1, n0, q1, n2, e1, q2, ↓reduceIte, r_Z]
    · rw [bb_neg (fun w : sn T L (p, 0) ch => q2 w.2.2)]
      simp (disch := first | assumption | omega) only [f_X6_isNext, f_X6_isNext_b47, f_X6_isNext_b48, ↓rc2, ↓gI2_1, ↓gI2_2, ↓gI2_3, ↓gI2_4, ↓gI2_5, ↓gI2_6, ↓gI2_9, ↓pI2_1, ↓pI2_2, ↓pI2_3, ↓pI2_4, ↓pI2_6, ↓pI2_9, ↓pZ2_5, ↓gR2_0, ↓gR2_7, ↓gR2_8, ↓gR2_10, ↓gR2_11, ↓aI3, ↓ln3, ↓aI4, ↓sI4, ↓ln4, ↓aI5, ↓sI5, ↓ln5, ↓aI6, ↓sI6, ↓ln6, ↓aI7, ↓sI7, ↓ln7, ↓rc0, ↓gI0_1, ↓gI0_7, ↓gI0_8, ↓gI0_15, ↓pI0_1, ↓pI0_7, ↓pI0_8, ↓pZ0_15, ↓gR0_0, ↓gR0_2, ↓gR0_3, ↓gR0_4, ↓gR0_5, ↓gR0_6, ↓gR0_9, ↓gR0_10, ↓gR0_11, ↓gR0_12, ↓gR0_13, ↓gR0_14, ↓aI1, ↓ln1, ↓aI14, ↓sZ14, ↓ln14, ↓aR13, ↓aR15, ↓c_I, ↓c_J, ↓c_Q, ↓c_V, ↓c_It, ↓c_Jt, ↓c_Vt, ↓k_I, ↓k_J, ↓n_I, ↓n_V, li0, li1, li2, li3, li4, li5, li6, li7, li8, li9, li10, li11, li12, li13, li14, li15, li16, li17, li18, li19, li20, li21, li22, li23, li24, li25, li26, li27, li28, li29, li30, li31, li32, li33, li34, li35, li36, li37, li38, li39, li40, li41, li42, li44, li48, li57, li63, li64, li65, li97, li99, li100, li101, li102, li104, li105, li106, li109, li114, li120, li128, li130, li300, li514, li999, li1000, li8192, li9999, li65536, li1000000, li1000001, li1000002, li1000003, li1000004, li1000005, li1000006, li1000007, li1000008, li1000009, li1000010, li1000011, li1000012, li1000013, li1000014, li1000015, li1000016, li1000017, li1000018, li1000019, li2147483647, lj0, lj1, W_add, W_sub, W_mul, W_neg, V_add, V_sub, V_mul, V_neg, W_ite, W_le, W_lt, W_inj, V_le, V_lt, V_inj, W_V, V_W, lgc_ge, lgc_gt, lgc_le, lgc_lt, lgc_eq, ge_iff_le, gt_iff_lt, ep1, ep2, epx1, t1, n0, q1, n2, e1, q2, ↓reduceIte, r_Z]
theorem e_wordL {o : Nat} {w : List Int} (hw : WDs o w) (hl : w.length < 100) (hb : ∀ x ∈ w, 0 ≤ x ∧ x < 65536) (hT : TXe I L T) : ∀ (fuel k : Nat) (p : Int), w.length - k < fuel → k ≤ w.length → 0 ≤ p → p ≤ L → f_X6_takeWord_L2 fuel (Sx (EPS I p nm kd z cn oc g PT OS OC) J 1 c) 2 o (iW k) = some (Sx (EPS I (wS T L (w.drop k) (p, 0)).1 nm kd z cn oc g PT OS OC) J 1 c, xi (iW (bb ((wS T L (w.drop k) (p, 0)).2 = 0)))) := by
  intro fuel
  induction fuel with
  | zero => intro k p a1; omega
  | succ fuel ih =>
    intro k p a1 a2 p0 p1
    show f_X6_takeWord_b2 (f_X6_takeWord_L2 fuel) (Sx (EPS I p nm kd z cn oc g PT OS OC) J 1 c) 2 o (iW k) = _
    have e1 := fun h => wd_len (h := h) hw
    by_cases hk : k = w.length
    · rw [List.drop_of_length_le (by omega)]
      have n0 : (w.length : Int) ≤ k := by omega
      show _ = some (Sx (EPS I p nm kd z cn oc g PT OS OC) J 1 c, xi (iW (bb ((0 : Int) = 0))))
      rw [bb_pos rfl]
      simp (disch := first | assumption | omega) only [f_X6_takeWord_b2, ↓rc2, ↓gI2_1, ↓gI2_2, ↓gI2_3, ↓gI2_4, ↓gI2_5, ↓gI2_6, ↓gI2_9, ↓pI2_1, ↓pI2_2, ↓pI2_3, ↓pI2_4, ↓pI2_6, ↓pI2_9, ↓pZ2_5, ↓gR2_0, ↓gR2_7, ↓gR2_8, ↓gR2_10, ↓gR2_11, ↓aI3, ↓ln3, ↓aI4, ↓sI4, ↓ln4, ↓aI5, ↓sI5, ↓ln5, ↓aI6, ↓sI6, ↓ln6, ↓aI7, ↓sI7, ↓ln7, ↓c_I, ↓c_J, ↓c_Q, ↓c_V, ↓c_It, ↓c_Jt, ↓c_Vt, ↓k_I, ↓k_J, ↓n_I, ↓n_V, li0, li1, li2, li3, li4, li5, li6, li7, li8, li9, li10, li11, li12, li13, li14, li15, li16, li17, li18, li19, li20, li21, li22, li23, li24, li25, li26, li27, li28, li29, li30, li31, li32, li33, li34, li35, li36, li37, li38, li39, li40, li41, li42, li44, li48, li57, li63, li64, li65, li97, li99, li100, li101, li102, li104, li105, li106, li109, li114, li120, li128, li130, li300, li514, li999, li1000, li8192, li9999, li65536, li1000000, li1000001, li1000002, li1000003, li1000004, li1000005, li1000006, li1000007, li1000008, li1000009, li1000010, li1000011, li1000012, li1000013, li1000014, li1000015, li1000016, li1000017, li1000018, li1000019, li2147483647, lj0, lj1, W_add, W_sub, W_mul, W_neg, V_add, V_sub, V_mul, V_neg, W_ite, W_le, W_lt, W_inj, V_le, V_lt, V_inj, W_V, V_W, lgc_ge, lgc_gt, lgc_le, lgc_lt, lgc_eq, ge_iff_le, gt_iff_lt, e1, n0, ↓reduceIte, r_Z]
    · have n1 : ¬ ((w.length : Int) ≤ k) := by omega
      have hk' : k < w.length := by omega
      have e2 := fun h => wd_at (h := h) hw hl hk'
      have hg : w.getD k 0 = w[k] := by rw [List.getD_eq_getElem?_getD, List.getElem?_eq_getElem hk', Option.getD_some]
      have hbb := hb w[k] (List.getElem_mem hk')
      have e3 := e_next (J := J) (c := c) (nm := nm) (kd := kd) (z := z) (cn := cn) (oc := oc) (g := g) (PT := PT) (OS := OS) (OC := OC) hT p0 p1 (ch := w.getD k 0) (by rw [hg]; exact hbb.1) (by rw [hg]; exact hbb.2)
      rw [List.drop_eq_getElem_cons hk']
      show _ = some (Sx (EPS I (wS T L (w.drop (k + 1)) (mS T L w[k] (p, 0))).1 nm kd z cn oc g PT OS OC) J 1 c, xi (iW (bb ((wS T L (w.drop (k + 1)) (mS T L w[k] (p, 0))).2 = 0))))
      rw [← hg]
      unfold mS
      by_cases q : sn T L (p, 0) (w.getD k 0)
      · rw [bb_pos q] at e3
        rw [cif_pos q]
        have q1 : p < L := q.2.1
        have hnext := ih (k + 1) (p + 1) (by omega) (by omega) (by omega) (by omega)
        rw [show ((k + 1 : Nat) : Int) = (k : Int) + 1 by omega] at hnext
        show _ = some (Sx (EPS I (wS T L (w.drop (k + 1)) (p + 1, 0)).1 nm kd z cn oc g PT OS OC) J 1 c, xi (iW (bb ((wS T L (w.drop (k + 1)) (p + 1, 0)).2 = 0))))
        rw [← hnext]
        simp (disch := first | assumption | omega) only [f_X6_takeWord_b2, ↓rc2, ↓gI2_1, ↓gI2_2, ↓gI2_3, ↓gI2_4, ↓gI2_5, ↓gI2_6, ↓gI2_9, ↓pI2_1, ↓pI2_2, ↓pI2_3, ↓pI2_4, ↓pI2_6, ↓pI2_9, ↓pZ2_5, ↓gR2_0, ↓gR2_7, ↓gR2_8, ↓gR2_10, ↓gR2_11, ↓aI3, ↓ln3, ↓aI4, ↓sI4, ↓ln4, ↓aI5, ↓sI5, ↓ln5, ↓aI6, ↓sI6, ↓ln6, ↓aI7, ↓sI7, ↓ln7, ↓c_I, ↓c_J, ↓c_Q, ↓c_V, ↓c_It, ↓c_Jt, ↓c_Vt, ↓k_I, ↓k_J, ↓n_I, ↓n_V, li0, li1, li2, li3, li4, li5, li6, li7, li8, li9, li10, li11, li12, li13, li14, li15, li16, li17, li18, li19, li20, li21, li22, li23, li24, li25, li26, li27, li28, li29, li30, li31, li32, li33, li34, li35, li36, li37, li38, li39, li40, li41, li42, li44, li48, li57, li63, li64, li65, li97, li99, li100, li101, li102, li104, li105, li106, li109, li114, li120, li128, li130, li300, li514, li999, li1000, li8192, li9999, li65536, li1000000, li1000001, li1000002, li1000003, li1000004, li1000005, li1000006, li1000007, li1000008, li1000009, li1000010, li1000011, li1000012, li1000013, li1000014, li1000015, li1000016, li1000017, li1000018, li1000019, li2147483647, lj0, lj1, W_add, W_sub, W_mul, W_neg, V_add, V_sub, V_mul, V_neg, W_ite, W_le, W_lt, W_inj, V_le, V_lt, V_inj, W_V, V_W, lgc_ge, lgc_gt, lgc_le, lgc_lt, lgc_eq, ge_iff_le, gt_iff_lt, e1, n1, e2, e3, ep2, ew2, Int.reduceEq, ↓reduceIte]
      · rw [bb_neg q] at e3
        rw [cif_neg q]
        show _ = some (Sx (EPS I (wS T L (w.drop (k + 1)) (p, 1)).1 nm kd z cn oc g PT OS OC) J 1 c, xi (iW (bb ((wS T L (w.drop (k + 1)) (p, 1)).2 = 0))))
        rw [wS_1, bb_neg (show ¬ ((1 : Int) = 0) by decide)]
        simp (disch := first | assumption | omega) only [f_X6_takeWord_b2, ↓rc2, ↓gI2_1, ↓gI2_2, ↓gI2_3, ↓gI2_4, ↓gI2_5, ↓gI2_6, ↓gI2_9, ↓pI2_1, ↓pI2_2, ↓pI2_3, ↓pI2_4, ↓pI2_6, ↓pI2_9, ↓pZ2_5, ↓gR2_0, ↓gR2_7, ↓gR2_8, ↓gR2_10, ↓gR2_11, ↓aI3, ↓ln3, ↓aI4, ↓sI4, ↓ln4, ↓aI5, ↓sI5, ↓ln5, ↓aI6, ↓sI6, ↓ln6, ↓aI7, ↓sI7, ↓ln7, ↓c_I, ↓c_J, ↓c_Q, ↓c_V, ↓c_It, ↓c_Jt, ↓c_Vt, ↓k_I, ↓k_J, ↓n_I, ↓n_V, li0, li1, li2, li3, li4, li5, li6, li7, li8, li9, li10, li11, li12, li13, li14, li15, li16, li17, li18, li19, li20, li21, li22, li23, li24, li25, li26, li27, li28, li29, li30, li31, li32, li33, li34, li35, li36, li37, li38, li39, li40, li41, li42, li44, li48, li57, li63, li64, li65, li97, li99, li100, li101, li102, li104, li105, li106, li109, li114, li120, li128, li130, li300, li514, li999, li1000, li8192, li9999, li65536, li1000000, li1000001, li1000002, li1000003, li1000004, li1000005, li1000006, li1000007, li1000008, li1000009, li1000010, li1000011, li1000012, li1000013, li1000014, li1000015, li1000016, li1000017, li1000018, li1000019, li2147483647, lj0, lj1, W_add, W_sub, W_mul, W_neg, V_add, V_sub, V_mul, V_neg, W_ite, W_le, W_lt, W_inj, V_le, V_lt, V_inj, W_V, V_W, lgc_ge, lgc_gt, lgc_le, lgc_lt, lgc_eq, ge_iff_le, gt_iff_lt, e1, n1, e2, e3, ↓reduceIte, r_Z]
theorem e_word {o : Nat} {w : List Int} (hw : WDs o w) (hl : w.length < 100) (hb : ∀ x ∈ w, 0 ≤ x ∧ x < 65536) (hT : TXe I L T) (p0 : 0 ≤ p) (p1 : p ≤ L) : f_X6_takeWord (Sx (EPS I p nm kd z cn oc g PT OS OC) J 1 c) 2 o = some (Sx (EPS I (wS T L w (p, 0)).1 nm kd z cn oc g PT OS OC) J 1 c, xi (iW (bb ((wS T L w (p, 0)).2 = 0)))) := by
  have h := e_wordL (J := J) (c := c) (nm := nm) (kd := kd) (z := z) (cn := cn) (oc := oc) (g := g) (PT := PT) (OS := OS) (OC := OC) hw hl hb hT FU 0 p (by unfold FU; omega) (by omega) p0 p1
  have h : f_X6_takeWord_L2 FU (Sx (EPS I p nm kd z cn oc g PT OS OC) J 1 c) 2 o (iW 0) = some (Sx (EPS I (wS T L w (p, 0)).1 nm kd z cn oc g PT OS OC) J 1 c, xi (iW (bb ((wS T L w (p, 0)).2 = 0)))) := h
  rw [← h]
  simp (disch := first | assumption | omega) only [f_X6_takeWord, li0, li1, li2, li3, li4, li5, li6, li7, li8, li9, li10, li11, li12, li13, li14, li15, li16, li17, li18, li19, li20, li21, li22, li23, li24, li25, li26, li27, li28, li29, li30, li31, li32, li33, li34, li35, li36, li37, li38, li39, li40, li41, li42, li44, li48, li57, li63, li64, li65, li97, li99, li100, li101, li102, li104, li105, li106, li109, li114, li120, li128, li130, li300, li514, li999, li1000, li8192, li9999, li65536, li1000000, li1000001, li1000002, li1000003, li1000004, li1000005, li1000006, li1000007, li1000008, li1000009, li1000010, li1000011, li1000012, li1000013, li1000014, li1000015, li1000016, li1000017, li1000018, li1000019, li2147483647, lj0, lj1, W_add, W_sub, W_mul, W_neg, V_add, V_sub, V_mul, V_neg, W_ite]
theorem e_dig (hT : TXe I L T) (p0 : 0 ≤ p) (p1 : p ≤ L) : f_X6_isDigitNext (Sx (EPS I p nm kd z cn oc g PT OS OC) J 1 c) 2 = some (Sx (EPS I p nm kd z cn oc g PT OS OC) J 1 c, xi (iW (bb (dg T L (p, 0))))) := by
  obtain ⟨t1, t2, t3, t4⟩ := hT
  have n0 : ¬ (p < 0) := by omega
  by_cases q1 : L ≤ p
  · rw [bb_neg (fun w : dg T L (p, 0) => by have h : p < L := w.2.1; omega)]
    simp (disch := first | assumption | omega) only [f_X6_isDigitNext, f_X6_isDigitNext_b62, f_X6_isDigitNext_b63, ↓rc2, ↓gI2_1, ↓gI2_2, ↓gI2_3, ↓gI2_4, ↓gI2_5, ↓gI2_6, ↓gI2_9, ↓pI2_1, ↓pI2_2, ↓pI2_3, ↓pI2_4, ↓pI2_6, ↓pI2_9, ↓pZ2_5, ↓gR2_0, ↓gR2_7, ↓gR2_8, ↓gR2_10, ↓gR2_11, ↓aI3, ↓ln3, ↓aI4, ↓sI4, ↓ln4, ↓aI5, ↓sI5, ↓ln5, ↓aI6, ↓sI6, ↓ln6, ↓aI7, ↓sI7, ↓ln7, ↓c_I, ↓c_J, ↓c_Q, ↓c_V, ↓c_It, ↓c_Jt, ↓c_Vt, ↓k_I, ↓k_J, ↓n_I, ↓n_V, li0, li1, li2, li3, li4, li5, li6, li7, li8, li9, li10, li11, li12, li13, li14, li15, li16, li17, li18, li19, li20, li21, li22, li23, li24, li25, li26, li27, li28, li29, li30, li31, li32, li33, li34, li35, li36, li37, li38, li39, li40, li41, li42, li44, li48, li57, li63, li64, li65, li97, li99, li100, li101, li102, li104, li105, li106, li109, li114, li120, li128, li130, li300, li514, li999, li1000, li8192, li9999, li65536, li1000000, li1000001, li1000002, li1000003, li1000004, li1000005, li1000006, li1000007, li1000008, li1000009, li1000010, li1000011, li1000012, li1000013, li1000014, li1000015, li1000016, li1000017, li1000018, li1000019, li2147483647, lj0, lj1, W_add, W_sub, W_mul, W_neg, V_add, V_sub, V_mul, V_neg, W_ite, W_le, W_lt, W_inj, V_le, V_lt, V_inj, W_V, V_W, lgc_ge, lgc_gt, lgc_le, lgc_lt, lgc_eq, ge_iff_le, gt_iff_lt, ep1, ep2, t1, n0, q1, ↓reduceIte, r_Z]
  · have e1 := t3 p p0 (by omega)
    have e2 := t4 p p0 (by omega)
    have n2 : ¬ ((120 : Int) ≤ p) := by omega
    by_cases q2 : T p < 48
    · rw [bb_neg (fun w : dg T L (p, 0) => by have h : 48 ≤ T p := w.2.2.1; omega)]
      simp (disch := first | assumption | omega) only [f_X6_isDigitNext, f_X6_isDigitNext_b62, f_X6_isDigitNext_b63, ↓rc2, ↓gI2_1, ↓gI2_2, ↓gI2_3, ↓gI2_4, ↓gI2_5, ↓gI2_6, ↓gI2_9, ↓pI2_1, ↓pI2_2, ↓pI2_3, ↓pI2_4, ↓pI2_6, ↓pI2_9, ↓pZ2_5, ↓gR2_0, ↓gR2_7, ↓gR2_8, ↓gR2_10, ↓gR2_11, ↓aI3, ↓ln3, ↓aI4, ↓sI4, ↓ln4, ↓aI5, ↓sI5, ↓ln5, ↓aI6, ↓sI6, ↓ln6, ↓aI7, ↓sI7, ↓ln7, ↓rc0, ↓gI0_1, ↓gI0_7, ↓gI0_8, ↓gI0_15, ↓pI0_1, ↓pI0_7, ↓pI0_8, ↓pZ0_15, ↓gR0_0, ↓gR0_2, ↓gR0_3, ↓gR0_4, ↓gR0_5, ↓gR0_6, ↓gR0_9, ↓gR0_10, ↓gR0_11, ↓gR0_12, ↓gR0_13, ↓gR0_14, ↓aI1, ↓ln1, ↓aI14, ↓sZ14, ↓ln14, ↓aR13, ↓aR15, ↓c_I, ↓c_J, ↓c_Q, ↓c_V, ↓c_It, ↓c_Jt, ↓c_Vt, ↓k_I, ↓k_J, ↓n_I, ↓n_V, li0, li1, li2, li3, li4, li5, li6, li7, li8, li9, li10, li11, li12, li13, li14, li15, li16, li17, li18, li19, li20, li21, li22, li23, li24, li25, li26, li27, li28, li29, li30, li31, li32, li33, li34, li35, li36, li37, li38, li39, li40, li41, li42, li44, li48, li57, li63, li64, li65, li97, li99, li100, li101, li102, li104, li105, li106, li109, li114, li120, li128, li130, li300, li514, li999, li1000, li8192, li9999, li65536, li1000000, li1000001, li1000002, li1000003, li1000004, li1000005, li1000006, li1000007, li1000008, li1000009, li1000010, li1000011, li1000012, li1000013, li1000014, li1000015, li1000016, li1000017, li1000018, li1000019, li2147483647, lj0, lj1, W_add, W_sub, W_mul, W_neg, V_add, V_sub, V_mul, V_neg, W_ite, W_le, W_lt, W_inj, V_le, V_lt, V_inj, W_V, V_W, lgc_ge, lgc_gt, lgc_le, lgc_lt, lgc_eq, ge_iff_le, gt_iff_lt, ep1, ep2, epx1, t1, n0, q1, n2, e1, q2, ↓reduceIte, r_Z]
    · by_cases q3 : 57 < T p
      · rw [bb_neg (fun w : dg T L (p, 0) => by have h : T p ≤ 57 := w.2.2.2; omega)]
        simp (disch := first | assumption | omega) only [f_X6_isDigitNext, f_X6_isDigitNext_b62, f_X6_isDigitNext_b63, ↓rc2, ↓gI2_1, ↓gI2_2, ↓gI2_3, ↓gI2_4, ↓gI2_5, ↓gI2_6, ↓gI2_9, ↓pI2_1, ↓pI2_2, ↓pI2_3, ↓pI2_4, ↓pI2_6, ↓pI2_9, ↓pZ2_5, ↓gR2_0, ↓gR2_7, ↓gR2_8, ↓gR2_10, ↓gR2_11, ↓aI3, ↓ln3, ↓aI4, ↓sI4, ↓ln4, ↓aI5, ↓sI5, ↓ln5, ↓aI6, ↓sI6, ↓ln6, ↓aI7, ↓sI7, ↓ln7, ↓rc0, ↓gI0_1, ↓gI0_7, ↓gI0_8, ↓gI0_15, ↓pI0_1, ↓pI0_7, ↓pI0_8, ↓pZ0_15, ↓gR0_0, ↓gR0_2, ↓gR0_3, ↓gR0_4, ↓gR0_5, ↓gR0_6, ↓gR0_9, ↓gR0_10, ↓gR0_11, ↓gR0_12, ↓gR0_13, ↓gR0_14, ↓aI1, ↓ln1, ↓aI14, ↓sZ14, ↓ln14, ↓aR13, ↓aR15, ↓c_I, ↓c_J, ↓c_Q, ↓c_V, ↓c_It, ↓c_Jt, ↓c_Vt, ↓k_I, ↓k_J, ↓n_I, ↓n_V, li0, li1, li2, li3, li4, li5, li6, li7, li8, li9, li10, li11, li12, li13, li14, li15, li16, li17, li18, li19, li20, li21, li22, li23, li24, li25, li26, li27, li28, li29, li30, li31, li32, li33, li34, li35, li36, li37, li38, li39, li40, li41, li42, li44, li48, li57, li63, li64, li65, li97, li99, li100, li101, li102, li104, li105, li106, li109, li114, li120, li128, li130, li300, li514, li999, li1000, li8192, li9999, li65536, li1000000, li1000001, li1000002, li1000003, li1000004, li1000005, li1000006, li1000007, li1000008, li1000009, li1000010, li1000011, li1000012, li1000013, li1000014, li1000015, li1000016, li1000017, li1000018, li1000019, li2147483647, lj0, lj1, W_add, W_sub, W_mul, W_neg, V_add, V_sub, V_mul, V_neg, W_ite, W_le, W_lt, W_inj, V_le, V_lt, V_inj, W_V, V_W, lgc_ge, lgc_gt, lgc_le, lgc_lt, lgc_eq, ge_iff_le, gt_iff_lt, ep1, ep2, epx1, t1, n0, q1, n2, e1, q2, q3, ↓reduceIte, r_Z]
      · rw [bb_pos (show dg T L (p, 0) from ⟨rfl, show p < L by omega, show 48 ≤ T p by omega, show T p ≤ 57 by omega⟩)]
        simp (disch := first | assumption | omega) only [f_X6_isDigitNext, f_X6_isDigitNext_b62, f_X6_isDigitNext_b63, ↓rc2, ↓gI2_1, ↓gI2_2, ↓gI2_3, ↓gI2_4, ↓gI2_5, ↓gI2_6, ↓gI2_9, ↓pI2_1, ↓pI2_2, ↓pI2_3, ↓pI2_4, ↓pI2_6, ↓pI2_9, ↓pZ2_5, ↓gR2_0, ↓gR2_7, ↓gR2_8, ↓gR2_10, ↓gR2_11, ↓aI3, ↓ln3, ↓aI4, ↓sI4, ↓ln4, ↓aI5, ↓sI5, ↓ln5, ↓aI6, ↓sI6, ↓ln6, ↓aI7, ↓sI7, ↓ln7, ↓rc0, ↓gI0_1, ↓gI0_7, ↓gI0_8, ↓gI0_15, ↓pI0_1, ↓pI0_7, ↓pI0_8, ↓pZ0_15, ↓gR0_0, ↓gR0_2, ↓gR0_3, ↓gR0_4, ↓gR0_5, ↓gR0_6, ↓gR0_9, ↓gR0_10, ↓gR0_11, ↓gR0_12, ↓gR0_13, ↓gR0_14, ↓aI1, ↓ln1, ↓aI14, ↓sZ14, ↓ln14, ↓aR13, ↓aR15, ↓c_I, ↓c_J, ↓c_Q, ↓c_V, ↓c_It, ↓c_Jt, ↓c_Vt, ↓k_I, ↓k_J, ↓n_I, ↓n_V, li0, li1, li2, li3, li4, li5, li6, li7, li8, li9, li10, li11, li12, li13, li14, li15, li16, li17, li18, li19, li20, li21, li22, li23, li24, li25, li26, li27, li28, li29, li30, li31, li32, li33, li34, li35, li36, li37, li38, li39, li40, li41, li42, li44, li48, li57, li63, li64, li65, li97, li99, li100, li101, li102, li104, li105, li106, li109, li114, li120, li128, li130, li300, li514, li999, li1000, li8192, li9999, li65536, li1000000, li1000001, li1000002, li1000003, li1000004, li1000005, li1000006, li1000007, li1000008, li1000009, li1000010, li1000011, li1000012, li1000013, li1000014, li1000015, li1000016, li1000017, li1000018, li1000019, li2147483647, lj0, lj1, W_add, W_sub, W_mul, W_neg, V_add, V_sub, V_mul, V_neg, W_ite, W_le, W_lt, W_inj, V_le, V_lt, V_inj, W_V, V_W, lgc_ge, lgc_gt, lgc_le, lgc_lt, lgc_eq, ge_iff_le, gt_iff_lt, ep1, ep2, epx1, t1, n0, q1, n2, e1, q2, q3, ↓reduceIte, r_Z]
theorem e_numL (hT : TXe I L T) : ∀ (fuel k : Nat) (p v : Int), 3 - k < fuel → k ≤ 3 → 0 ≤ p → p ≤ L → f_X6_takeNumber_L16 fuel (Sx (EPS I p v kd z cn oc g PT OS OC) J 1 c) 2 (iW k) = some (Sx (EPS I (nL T L (3 - k) (p, 0) v).1.1 (nL T L (3 - k) (p, 0) v).2 kd z cn oc g PT OS OC) J 1 c, xi (iW 1)) := by
  have hT' := hT
  obtain ⟨t1, t2, t3, t4⟩ := hT'
  intro fuel
  induction fuel with
  | zero => intro k p v a1; omega
  | succ fuel ih =>
    intro k p v a1 a2 p0 p1
    show f_X6_takeNumber_b16 (f_X6_takeNumber_L16 fuel) (Sx (EPS I p v kd z cn oc g PT OS OC) J 1 c) 2 (iW k) = _
    by_cases hk : k = 3
    · subst hk
      have n0 : (3 : Int) ≤ ((3 : Nat) : Int) := by omega
      show _ = some (Sx (EPS I p v kd z cn oc g PT OS OC) J 1 c, xi (iW 1))
      simp (disch := first | assumption | omega) only [f_X6_takeNumber_b16, f_X6_takeNumber_b68, ↓rc2, ↓gI2_1, ↓gI2_2, ↓gI2_3, ↓gI2_4, ↓gI2_5, ↓gI2_6, ↓gI2_9, ↓pI2_1, ↓pI2_2, ↓pI2_3, ↓pI2_4, ↓pI2_6, ↓pI2_9, ↓pZ2_5, ↓gR2_0, ↓gR2_7, ↓gR2_8, ↓gR2_10, ↓gR2_11, ↓aI3, ↓ln3, ↓aI4, ↓sI4, ↓ln4, ↓aI5, ↓sI5, ↓ln5, ↓aI6, ↓sI6, ↓ln6, ↓aI7, ↓sI7, ↓ln7, ↓c_I, ↓c_J, ↓c_Q, ↓c_V, ↓c_It, ↓c_Jt, ↓c_Vt, ↓k_I, ↓k_J, ↓n_I, ↓n_V, li0, li1, li2, li3, li4, li5, li6, li7, li8, li9, li10, li11, li12, li13, li14, li15, li16, li17, li18, li19, li20, li21, li22, li23, li24, li25, li26, li27, li28, li29, li30, li31, li32, li33, li34, li35, li36, li37, li38, li39, li40, li41, li42, li44, li48, li57, li63, li64, li65, li97, li99, li100, li101, li102, li104, li105, li106, li109, li114, li120, li128, li130, li300, li514, li999, li1000, li8192, li9999, li65536, li1000000, li1000001, li1000002, li1000003, li1000004, li1000005, li1000006, li1000007, li1000008, li1000009, li1000010, li1000011, li1000012, li1000013, li1000014, li1000015, li1000016, li1000017, li1000018, li1000019, li2147483647, lj0, lj1, W_add, W_sub, W_mul, W_neg, V_add, V_sub, V_mul, V_neg, W_ite, W_le, W_lt, W_inj, V_le, V_lt, V_inj, W_V, V_W, lgc_ge, lgc_gt, lgc_le, lgc_lt, lgc_eq, ge_iff_le, gt_iff_lt, n0, ↓reduceIte, r_Z]
    · have n1 : ¬ ((3 : Int) ≤ (k : Int)) := by omega
      have e1 := e_dig (J := J) (c := c) (nm := v) (kd := kd) (z := z) (cn := cn) (oc := oc) (g := g) (PT := PT) (OS := OS) (OC := OC) hT p0 p1
      rw [show 3 - k = (3 - (k + 1)) + 1 by omega]
      unfold nL
      by_cases q : dg T L (p, 0)
      · rw [bb_pos q] at e1
        rw [cif_pos q]
        have q1 : p < L := q.2.1
        have g1 := t3 p p0 q1
        have hnext := ih (k + 1) (p + 1) (10 * v + T p - 48) (by omega) (by omega) (by omega) (by omega)
        rw [show ((k + 1 : Nat) : Int) = (k : Int) + 1 by omega] at hnext
        show _ = some (Sx (EPS I (nL T L (3 - (k + 1)) (p + 1, 0) (10 * v + T p - 48)).1.1 (nL T L (3 - (k + 1)) (p + 1, 0) (10 * v + T p - 48)).2 kd z cn oc g PT OS OC) J 1 c, xi (iW 1))
        rw [← hnext]
        have hcc : 10 * v + (T p - 48) = 10 * v + T p - 48 := by omega
        simp (disch := first | assumption | omega) only [f_X6_takeNumber_b16, ↓rc2, ↓gI2_1, ↓gI2_2, ↓gI2_3, ↓gI2_4, ↓gI2_5, ↓gI2_6, ↓gI2_9, ↓pI2_1, ↓pI2_2, ↓pI2_3, ↓pI2_4, ↓pI2_6, ↓pI2_9, ↓pZ2_5, ↓gR2_0, ↓gR2_7, ↓gR2_8, ↓gR2_10, ↓gR2_11, ↓aI3, ↓ln3, ↓aI4, ↓sI4, ↓ln4, ↓aI5, ↓sI5, ↓ln5, ↓aI6, ↓sI6, ↓ln6, ↓aI7, ↓sI7, ↓ln7, ↓rc0, ↓gI0_1, ↓gI0_7, ↓gI0_8, ↓gI0_15, ↓pI0_1, ↓pI0_7, ↓pI0_8, ↓pZ0_15, ↓gR0_0, ↓gR0_2, ↓gR0_3, ↓gR0_4, ↓gR0_5, ↓gR0_6, ↓gR0_9, ↓gR0_10, ↓gR0_11, ↓gR0_12, ↓gR0_13, ↓gR0_14, ↓aI1, ↓ln1, ↓aI14, ↓sZ14, ↓ln14, ↓aR13, ↓aR15, ↓c_I, ↓c_J, ↓c_Q, ↓c_V, ↓c_It, ↓c_Jt, ↓c_Vt, ↓k_I, ↓k_J, ↓n_I, ↓n_V, li0, li1, li2, li3, li4, li5, li6, li7, li8, li9, li10, li11, li12, li13, li14, li15, li16, li17, li18, li19, li20, li21, li22, li23, li24, li25, li26, li27, li28, li29, li30, li31, li32, li33, li34, li35, li36, li37, li38, li39, li40, li41, li42, li44, li48, li57, li63, li64, li65, li97, li99, li100, li101, li102, li104, li105, li106, li109, li114, li120, li128, li130, li300, li514, li999, li1000, li8192, li9999, li65536, li1000000, li1000001, li1000002, li1000003, li1000004, li1000005, li1000006, li1000007, li1000008, li1000009, li1000010, li1000011, li1000012, li1000013, li1000014, li1000015, li1000016, li1000017, li1000018, li1000019, li2147483647, lj0, lj1, W_add, W_sub, W_mul, W_neg, V_add, V_sub, V_mul, V_neg, W_ite, W_le, W_lt, W_inj, V_le, V_lt, V_inj, W_V, V_W, lgc_ge, lgc_gt, lgc_le, lgc_lt, lgc_eq, ge_iff_le, gt_iff_lt, n1, e1, ep2, ep3, epx1, g1, ew2, ew3, hcc, Int.reduceEq, ↓reduceIte]
      · rw [bb_neg q] at e1
        rw [cif_neg q]
        simp (disch := first | assumption | omega) only [f_X6_takeNumber_b16, f_X6_takeNumber_b68, ↓rc2, ↓gI2_1, ↓gI2_2, ↓gI2_3, ↓gI2_4, ↓gI2_5, ↓gI2_6, ↓gI2_9, ↓pI2_1, ↓pI2_2, ↓pI2_3, ↓pI2_4, ↓pI2_6, ↓pI2_9, ↓pZ2_5, ↓gR2_0, ↓gR2_7, ↓gR2_8, ↓gR2_10, ↓gR2_11, ↓aI3, ↓ln3, ↓aI4, ↓sI4, ↓ln4, ↓aI5, ↓sI5, ↓ln5, ↓aI6, ↓sI6, ↓ln6, ↓aI7, ↓sI7, ↓ln7, ↓c_I, ↓c_J, ↓c_Q, ↓c_V, ↓c_It, ↓c_Jt, ↓c_Vt, ↓k_I, ↓k_J, ↓n_I, ↓n_V, li0, li1, li2, li3, li4, li5, li6, li7, li8, li9, li10, li11, li12, li13, li14, li15, li16, li17, li18, li19, li20, li21, li22, li23, li24, li25, li26, li27, li28, li29, li30, li31, li32, li33, li34, li35, li36, li37, li38, li39, li40, li41, li42, li44, li48, li57, li63, li64, li65, li97, li99, li100, li101, li102, li104, li105, li106, li109, li114, li120, li128, li130, li300, li514, li999, li1000, li8192, li9999, li65536, li1000000, li1000001, li1000002, li1000003, li1000004, li1000005, li1000006, li1000007, li1000008, li1000009, li1000010, li1000011, li1000012, li1000013, li1000014, li1000015, li1000016, li1000017, li1000018, li1000019, li2147483647, lj0, lj1, W_add, W_sub, W_mul, W_neg, V_add, V_sub, V_mul, V_neg, W_ite, W_le, W_lt, W_inj, V_le, V_lt, V_inj, W_V, V_W, lgc_ge, lgc_gt, lgc_le, lgc_lt, lgc_eq, ge_iff_le, gt_iff_lt, n1, e1, ↓reduceIte, r_Z]
theorem e_num (hT : TXe I L T) (p0 : 0 ≤ p) (p1 : p ≤ L) : f_X6_takeNumber (Sx (EPS I p nm kd z cn oc g PT OS OC) J 1 c) 2 = some (Sx (EPS I (nS T L (p, 0)).1.1 (cif (dg T L (p, 0)) (nS T L (p, 0)).2 nm) kd z cn oc g PT OS OC) J 1 c, xi (iW (bb ((nS T L (p, 0)).1.2 = 0)))) := by
  have e1 := e_dig (J := J) (c := c) (nm := nm) (kd := kd) (z := z) (cn := cn) (oc := oc) (g := g) (PT := PT) (OS := OS) (OC := OC) hT p0 p1
  unfold nS
  by_cases q : dg T L (p, 0)
  · rw [bb_pos q] at e1
    rw [cif_pos q, cif_pos q]
    have hk := nL_ok (T := T) (L := L) 3 (s := (p, 0)) (v := 0) ⟨p0, p1, Or.inl rfl⟩
    have h2 : (nL T L 3 (p, 0) 0).1.2 = 0 := hk.2.2
    rw [bb_pos h2]
    have h := e_numL (J := J) (c := c) (kd := kd) (z := z) (cn := cn) (oc := oc) (g := g) (PT := PT) (OS := OS) (OC := OC) hT FU 0 p 0 (by unfold FU; omega) (by omega) p0 p1
    have h : f_X6_takeNumber_L16 FU (Sx (EPS I p 0 kd z cn oc g PT OS OC) J 1 c) 2 (iW 0) = some (Sx (EPS I (nL T L 3 (p, 0) 0).1.1 (nL T L 3 (p, 0) 0).2 kd z cn oc g PT OS OC) J 1 c, xi (iW 1)) := h
    rw [← h]
    simp (disch := first | assumption | omega) only [f_X6_takeNumber, ↓rc2, ↓gI2_1, ↓gI2_2, ↓gI2_3, ↓gI2_4, ↓gI2_5, ↓gI2_6, ↓gI2_9, ↓pI2_1, ↓pI2_2, ↓pI2_3, ↓pI2_4, ↓pI2_6, ↓pI2_9, ↓pZ2_5, ↓gR2_0, ↓gR2_7, ↓gR2_8, ↓gR2_10, ↓gR2_11, ↓aI3, ↓ln3, ↓aI4, ↓sI4, ↓ln4, ↓aI5, ↓sI5, ↓ln5, ↓aI6, ↓sI6, ↓ln6, ↓aI7, ↓sI7, ↓ln7, ↓c_I, ↓c_J, ↓c_Q, ↓c_V, ↓c_It, ↓c_Jt, ↓c_Vt, ↓k_I, ↓k_J, ↓n_I, ↓n_V, li0, li1, li2, li3, li4, li5, li6, li7, li8, li9, li10, li11, li12, li13, li14, li15, li16, li17, li18, li19, li20, li21, li22, li23, li24, li25, li26, li27, li28, li29, li30, li31, li32, li33, li34, li35, li36, li37, li38, li39, li40, li41, li42, li44, li48, li57, li63, li64, li65, li97, li99, li100, li101, li102, li104, li105, li106, li109, li114, li120, li128, li130, li300, li514, li999, li1000, li8192, li9999, li65536, li1000000, li1000001, li1000002, li1000003, li1000004, li1000005, li1000006, li1000007, li1000008, li1000009, li1000010, li1000011, li1000012, li1000013, li1000014, li1000015, li1000016, li1000017, li1000018, li1000019, li2147483647, lj0, lj1, W_add, W_sub, W_mul, W_neg, V_add, V_sub, V_mul, V_neg, W_ite, W_le, W_lt, W_inj, V_le, V_lt, V_inj, W_V, V_W, lgc_ge, lgc_gt, lgc_le, lgc_lt, lgc_eq, ge_iff_le, gt_iff_lt, e1, ew3, Int.reduceEq, ↓reduceIte]
  · rw [bb_neg q] at e1
    rw [cif_neg q, cif_neg q, bb_neg (show ¬ ((1 : Int) = 0) by decide)]
    simp (disch := first | assumption | omega) only [f_X6_takeNumber, ↓rc2, ↓gI2_1, ↓gI2_2, ↓gI2_3, ↓gI2_4, ↓gI2_5, ↓gI2_6, ↓gI2_9, ↓pI2_1, ↓pI2_2, ↓pI2_3, ↓pI2_4, ↓pI2_6, ↓pI2_9, ↓pZ2_5, ↓gR2_0, ↓gR2_7, ↓gR2_8, ↓gR2_10, ↓gR2_11, ↓aI3, ↓ln3, ↓aI4, ↓sI4, ↓ln4, ↓aI5, ↓sI5, ↓ln5, ↓aI6, ↓sI6, ↓ln6, ↓aI7, ↓sI7, ↓ln7, ↓c_I, ↓c_J, ↓c_Q, ↓c_V, ↓c_It, ↓c_Jt, ↓c_Vt, ↓k_I, ↓k_J, ↓n_I, ↓n_V, li0, li1, li2, li3, li4, li5, li6, li7, li8, li9, li10, li11, li12, li13, li14, li15, li16, li17, li18, li19, li20, li21, li22, li23, li24, li25, li26, li27, li28, li29, li30, li31, li32, li33, li34, li35, li36, li37, li38, li39, li40, li41, li42, li44, li48, li57, li63, li64, li65, li97, li99, li100, li101, li102, li104, li105, li106, li109, li114, li120, li128, li130, li300, li514, li999, li1000, li8192, li9999, li65536, li1000000, li1000001, li1000002, li1000003, li1000004, li1000005, li1000006, li1000007, li1000008, li1000009, li1000010, li1000011, li1000012, li1000013, li1000014, li1000015, li1000016, li1000017, li1000018, li1000019, li2147483647, lj0, lj1, W_add, W_sub, W_mul, W_neg, V_add, V_sub, V_mul, V_neg, W_ite, W_le, W_lt, W_inj, V_le, V_lt, V_inj, W_V, V_W, lgc_ge, lgc_gt, lgc_le, lgc_lt, lgc_eq, ge_iff_le, gt_iff_lt, e1, ↓reduceIte, r_Z]
theorem e_dMax {u v : Int} : f_X6_defineMaximum (Sx (EPS I p nm kd z cn oc g PT OS OC) J 1 c) 2 (iW u) (iW v) = some (Sx (EPS I p nm kd z cn oc (ug (ug g 2 u) 3 v) PT OS OC) J 1 c, xv) := by
  simp (disch := first | assumption | omega) only [f_X6_defineMaximum, ↓rc2, ↓gI2_1, ↓gI2_2, ↓gI2_3, ↓gI2_4, ↓gI2_5, ↓gI2_6, ↓gI2_9, ↓pI2_1, ↓pI2_2, ↓pI2_3, ↓pI2_4, ↓pI2_6, ↓pI2_9, ↓pZ2_5, ↓gR2_0, ↓gR2_7, ↓gR2_8, ↓gR2_10, ↓gR2_11, ↓aI3, ↓ln3, ↓aI4, ↓sI4, ↓ln4, ↓aI5, ↓sI5, ↓ln5, ↓aI6, ↓sI6, ↓ln6, ↓aI7, ↓sI7, ↓ln7, ↓c_I, ↓c_J, ↓c_Q, ↓c_V, ↓c_It, ↓c_Jt, ↓c_Vt, ↓k_I, ↓k_J, ↓n_I, ↓n_V, li0, li1, li2, li3, li4, li5, li6, li7, li8, li9, li10, li11, li12, li13, li14, li15, li16, li17, li18, li19, li20, li21, li22, li23, li24, li25, li26, li27, li28, li29, li30, li31, li32, li33, li34, li35, li36, li37, li38, li39, li40, li41, li42, li44, li48, li57, li63, li64, li65, li97, li99, li100, li101, li102, li104, li105, li106, li109, li114, li120, li128, li130, li300, li514, li999, li1000, li8192, li9999, li65536, li1000000, li1000001, li1000002, li1000003, li1000004, li1000005, li1000006, li1000007, li1000008, li1000009, li1000010, li1000011, li1000012, li1000013, li1000014, li1000015, li1000016, li1000017, li1000018, li1000019, li2147483647, lj0, lj1, W_add, W_sub, W_mul, W_neg, V_add, V_sub, V_mul, V_neg, W_ite, ewg]
theorem e_dMin {u v : Int} : f_X6_defineMinimum (Sx (EPS I p nm kd z cn oc g PT OS OC) J 1 c) 2 (iW u) (iW v) = some (Sx (EPS I p nm kd z cn oc (ug (ug g 0 u) 1 v) PT OS OC) J 1 c, xv) := by
  simp (disch := first | assumption | omega) only [f_X6_defineMinimum, ↓rc2, ↓gI2_1, ↓gI2_2, ↓gI2_3, ↓gI2_4, ↓gI2_5, ↓gI2_6, ↓gI2_9, ↓pI2_1, ↓pI2_2, ↓pI2_3, ↓pI2_4, ↓pI2_6, ↓pI2_9, ↓pZ2_5, ↓gR2_0, ↓gR2_7, ↓gR2_8, ↓gR2_10, ↓gR2_11, ↓aI3, ↓ln3, ↓aI4, ↓sI4, ↓ln4, ↓aI5, ↓sI5, ↓ln5, ↓aI6, ↓sI6, ↓ln6, ↓aI7, ↓sI7, ↓ln7, ↓c_I, ↓c_J, ↓c_Q, ↓c_V, ↓c_It, ↓c_Jt, ↓c_Vt, ↓k_I, ↓k_J, ↓n_I, ↓n_V, li0, li1, li2, li3, li4, li5, li6, li7, li8, li9, li10, li11, li12, li13, li14, li15, li16, li17, li18, li19, li20, li21, li22, li23, li24, li25, li26, li27, li28, li29, li30, li31, li32, li33, li34, li35, li36, li37, li38, li39, li40, li41, li42, li44, li48, li57, li63, li64, li65, li97, li99, li100, li101, li102, li104, li105, li106, li109, li114, li120, li128, li130, li300, li514, li999, li1000, li8192, li9999, li65536, li1000000, li1000001, li1000002, li1000003, li1000004, li1000005, li1000006, li1000007, li1000008, li1000009, li1000010, li1000011, li1000012, li1000013, li1000014, li1000015, li1000016, li1000017, li1000018, li1000019, li2147483647, lj0, lj1, W_add, W_sub, W_mul, W_neg, V_add, V_sub, V_mul, V_neg, W_ite, ewg]
/-- small or large: the kind is 1 or 2 -/
theorem e_sml (hT : TXe I L T) (p0 : 0 ≤ p) (p1 : p ≤ L) : ∃ kd', f_X6_takeSmallOrLarge (Sx (EPS I p nm kd z cn oc g PT OS OC) J 1 c) 2 = some (Sx (EPS I (cif (sn T L (mS T L 109 (p, 0)) 97) (wS T L [97, 120] (mS T L 109 (p, 0))) (wS T L [105, 110] (mS T L 109 (p, 0)))).1 nm kd' z cn oc g PT OS OC) J 1 c, xi (iW (bb ((cif (sn T L (mS T L 109 (p, 0)) 97) (wS T L [97, 120] (mS T L 109 (p, 0))) (wS T L [105, 110] (mS T L 109 (p, 0)))).2 = 0)))) ∧ ((cif (sn T L (mS T L 109 (p, 0)) 97) (wS T L [97, 120] (mS T L 109 (p, 0))) (wS T L [105, 110] (mS T L 109 (p, 0)))).2 = 0 → kd' = cif (sn T L (mS T L 109 (p, 0)) 97) 2 1) := by
  have e1 := e_word (J := J) (c := c) (nm := nm) (kd := kd) (z := z) (cn := cn) (oc := oc) (g := g) (PT := PT) (OS := OS) (OC := OC) wd_10 (by decide) (by decide) hT p0 p1
  have hw : wS T L [109] (p, 0) = mS T L 109 (p, 0) := rfl
  rw [hw] at e1
  have hm := mS_ok (T := T) (ch := 109) (show okP L (p, 0) from ⟨p0, p1, Or.inl rfl⟩)
  generalize mS T L 109 (p, 0) = s1 at e1 hm ⊢
  obtain ⟨p2, f2⟩ := s1
  have hp2 : 0 ≤ p2 ∧ p2 ≤ L ∧ (f2 = 0 ∨ f2 = 1) := hm.1
  have e1 : f_X6_takeWord (Sx (EPS I p nm kd z cn oc g PT OS OC) J 1 c) 2 1000010 = some (Sx (EPS I p2 nm kd z cn oc g PT OS OC) J 1 c, xi (iW (bb (f2 = 0)))) := e1
  by_cases q : f2 = 0
  · subst q
    rw [bb_pos rfl] at e1
    have e2 := e_next (J := J) (c := c) (nm := nm) (kd := kd) (z := z) (cn := cn) (oc := oc) (g := g) (PT := PT) (OS := OS) (OC := OC) hT hp2.1 hp2.2.1 (ch := 105) (by omega) (by omega)
    by_cases q1 : sn T L (p2, 0) 105
    · have q2 : ¬ sn T L (p2, 0) 97 := fun w => by have a := w.2.2; have d := q1.2.2; omega
      rw [bb_pos q1] at e2
      rw [cif_neg q2, cif_neg q2]
      have e3 := e_word (J := J) (c := c) (nm := nm) (kd := 1) (z := z) (cn := cn) (oc := oc) (g := g) (PT := PT) (OS := OS) (OC := OC) wd_11 (by decide) (by decide) hT hp2.1 hp2.2.1
      refine ⟨1, ?_, fun _ => rfl⟩
      rcases bb_01 ((wS T L [105, 110] (p2, 0)).2 = 0) with hb | hb
      · rw [hb] at e3 ⊢
        simp (disch := first | assumption | omega) only [f_X6_takeSmallOrLarge, f_X6_takeSmallOrLarge_b28, f_X6_takeSmallOrLarge_b43, ↓rc2, ↓gI2_1, ↓gI2_2, ↓gI2_3, ↓gI2_4, ↓gI2_5, ↓gI2_6, ↓gI2_9, ↓pI2_1, ↓pI2_2, ↓pI2_3, ↓pI2_4, ↓pI2_6, ↓pI2_9, ↓pZ2_5, ↓gR2_0, ↓gR2_7, ↓gR2_8, ↓gR2_10, ↓gR2_11, ↓aI3, ↓ln3, ↓aI4, ↓sI4, ↓ln4, ↓aI5, ↓sI5, ↓ln5, ↓aI6, ↓sI6, ↓ln6, ↓aI7, ↓sI7, ↓ln7, ↓c_I, ↓c_J, ↓c_Q, ↓c_V, ↓c_It, ↓c_Jt, ↓c_Vt, ↓k_I, ↓k_J, ↓n_I, ↓n_V, li0, li1, li2, li3, li4, li5, li6, li7, li8, li9, li10, li11, li12, li13, li14, li15, li16, li17, li18, li19, li20, li21, li22, li23, li24, li25, li26, li27, li28, li29, li30, li31, li32, li33, li34, li35, li36, li37, li38, li39, li40, li41, li42, li44, li48, li57, li63, li64, li65, li97, li99, li100, li101, li102, li104, li105, li106, li109, li114, li120, li128, li130, li300, li514, li999, li1000, li8192, li9999, li65536, li1000000, li1000001, li1000002, li1000003, li1000004, li1000005, li1000006, li1000007, li1000008, li1000009, li1000010, li1000011, li1000012, li1000013, li1000014, li1000015, li1000016, li1000017, li1000018, li1000019, li2147483647, lj0, lj1, W_add, W_sub, W_mul, W_neg, V_add, V_sub, V_mul, V_neg, W_ite, W_le, W_lt, W_inj, V_le, V_lt, V_inj, W_V, V_W, lgc_ge, lgc_gt, lgc_le, lgc_lt, lgc_eq, ge_iff_le, gt_iff_lt, e1, e2, ew4, e3, Int.reduceEq, ↓reduceIte, r_Z]
      · rw [hb] at e3 ⊢
        simp (disch := first | assumption | omega) only [f_X6_takeSmallOrLarge, f_X6_takeSmallOrLarge_b28, f_X6_takeSmallOrLarge_b43, ↓rc2, ↓gI2_1, ↓gI2_2, ↓gI2_3, ↓gI2_4, ↓gI2_5, ↓gI2_6, ↓gI2_9, ↓pI2_1, ↓pI2_2, ↓pI2_3, ↓pI2_4, ↓pI2_6, ↓pI2_9, ↓pZ2_5, ↓gR2_0, ↓gR2_7, ↓gR2_8, ↓gR2_10, ↓gR2_11, ↓aI3, ↓ln3, ↓aI4, ↓sI4, ↓ln4, ↓aI5, ↓sI5, ↓ln5, ↓aI6, ↓sI6, ↓ln6, ↓aI7, ↓sI7, ↓ln7, ↓c_I, ↓c_J, ↓c_Q, ↓c_V, ↓c_It, ↓c_Jt, ↓c_Vt, ↓k_I, ↓k_J, ↓n_I, ↓n_V, li0, li1, li2, li3, li4, li5, li6, li7, li8, li9, li10, li11, li12, li13, li14, li15, li16, li17, li18, li19, li20, li21, li22, li23, li24, li25, li26, li27, li28, li29, li30, li31, li32, li33, li34, li35, li36, li37, li38, li39, li40, li41, li42, li44, li48, li57, li63, li64, li65, li97, li99, li100, li101, li102, li104, li105, li106, li109, li114, li120, li128, li130, li300, li514, li999, li1000, li8192, li9999, li65536, li1000000, li1000001, li1000002, li1000003, li1000004, li1000005, li1000006, li1000007, li1000008, li1000009, li1000010, li1000011, li1000012, li1000013, li1000014, li1000015, li1000016, li1000017, li1000018, li1000019, li2147483647, lj0, lj1, W_add, W_sub, W_mul, W_neg, V_add, V_sub, V_mul, V_neg, W_ite, W_le, W_lt, W_inj, V_le, V_lt, V_inj, W_V, V_W, lgc_ge, lgc_gt, lgc_le, lgc_lt, lgc_eq, ge_iff_le, gt_iff_lt, e1, e2, ew4, e3, Int.reduceEq, ↓reduceIte, r_Z]
    · rw [bb_neg q1] at e2
      have e3 := e_word (J := J) (c := c) (nm := nm) (kd := 2) (z := z) (cn := cn) (oc := oc) (g := g) (PT := PT) (OS := OS) (OC := OC) wd_12 (by decide) (by decide) hT hp2.1 hp2.2.1
      have hsame : cif (sn T L (p2, 0) 97) (wS T L [97, 120] (p2, 0)) (wS T L [105, 110] (p2, 0)) = wS T L [97, 120] (p2, 0) := by
        by_cases q2 : sn T L (p2, 0) 97
        · rw [cif_pos q2]
        · rw [cif_neg q2]
          show wS T L [110] (mS T L 105 (p2, 0)) = wS T L [120] (mS T L 97 (p2, 0))
          unfold mS
          rw [cif_neg q1, cif_neg q2, wS_1, wS_1]
      rw [hsame]
      refine ⟨2, ?_, fun hz => ?_⟩
      · rcases bb_01 ((wS T L [97, 120] (p2, 0)).2 = 0) with hb | hb
        · rw [hb] at e3 ⊢
          simp (disch := first | assumption | omega) only [f_X6_takeSmallOrLarge, f_X6_takeSmallOrLarge_b28, f_X6_takeSmallOrLarge_b43, ↓rc2, ↓gI2_1, ↓gI2_2, ↓gI2_3, ↓gI2_4, ↓gI2_5, ↓gI2_6, ↓gI2_9, ↓pI2_1, ↓pI2_2, ↓pI2_3, ↓pI2_4, ↓pI2_6, ↓pI2_9, ↓pZ2_5, ↓gR2_0, ↓gR2_7, ↓gR2_8, ↓gR2_10, ↓gR2_11, ↓aI3, ↓ln3, ↓aI4, ↓sI4, ↓ln4, ↓aI5, ↓sI5, ↓ln5, ↓aI6, ↓sI6, ↓ln6, ↓aI7, ↓sI7, ↓ln7, ↓c_I, ↓c_J, ↓c_Q, ↓c_V, ↓c_It, ↓c_Jt, ↓c_Vt, ↓k_I, ↓k_J, ↓n_I, ↓n_V, li0, li1, li2, li3, li4, li5, li6, li7, li8, li9, li10, li11, li12, li13, li14, li15, li16, li17, li18, li19, li20, li21, li22, li23, li24, li25, li26, li27, li28, li29, li30, li31, li32, li33, li34, li35, li36, li37, li38, li39, li40, li41, li42, li44, li48, li57, li63, li64, li65, li97, li99, li100, li101, li102, li104, li105, li106, li109, li114, li120, li128, li130, li300, li514, li999, li1000, li8192, li9999, li65536, li1000000, li1000001, li1000002, li1000003, li1000004, li1000005, li1000006, li1000007, li1000008, li1000009, li1000010, li1000011, li1000012, li1000013, li1000014, li1000015, li1000016, li1000017, li1000018, li1000019, li2147483647, lj0, lj1, W_add, W_sub, W_mul, W_neg, V_add, V_sub, V_mul, V_neg, W_ite, W_le, W_lt, W_inj, V_le, V_lt, V_inj, W_V, V_W, lgc_ge, lgc_gt, lgc_le, lgc_lt, lgc_eq, ge_iff_le, gt_iff_lt, e1, e2, ew4, e3, Int.reduceEq, ↓reduceIte, r_Z]
        · rw [hb] at e3 ⊢
          simp (disch := first | assumption | omega) only [f_X6_takeSmallOrLarge, f_X6_takeSmallOrLarge_b28, f_X6_takeSmallOrLarge_b43, ↓rc2, ↓gI2_1, ↓gI2_2, ↓gI2_3, ↓gI2_4, ↓gI2_5, ↓gI2_6, ↓gI2_9, ↓pI2_1, ↓pI2_2, ↓pI2_3, ↓pI2_4, ↓pI2_6, ↓pI2_9, ↓pZ2_5, ↓gR2_0, ↓gR2_7, ↓gR2_8, ↓gR2_10, ↓gR2_11, ↓aI3, ↓ln3, ↓aI4, ↓sI4, ↓ln4, ↓aI5, ↓sI5, ↓ln5, ↓aI6, ↓sI6, ↓ln6, ↓aI7, ↓sI7, ↓ln7, ↓c_I, ↓c_J, ↓c_Q, ↓c_V, ↓c_It, ↓c_Jt, ↓c_Vt, ↓k_I, ↓k_J, ↓n_I, ↓n_V, li0, li1, li2, li3, li4, li5, li6, li7, li8, li9, li10, li11, li12, li13, li14, li15, li16, li17, li18, li19, li20, li21, li22, li23, li24, li25, li26, li27, li28, li29, li30, li31, li32, li33, li34, li35, li36, li37, li38, li39, li40, li41, li42, li44, li48, li57, li63, li64, li65, li97, li99, li100, li101, li102, li104, li105, li106, li109, li114, li120, li128, li130, li300, li514, li999, li1000, li8192, li9999, li65536, li1000000, li1000001, li1000002, li1000003, li1000004, li1000005, li1000006, li1000007, li1000008, li1000009, li1000010, li1000011, li1000012, li1000013, li1000014, li1000015, li1000016, li1000017, li1000018, li1000019, li2147483647, lj0, lj1, W_add, W_sub, W_mul, W_neg, V_add, V_sub, V_mul, V_neg, W_ite, W_le, W_lt, W_inj, V_le, V_lt, V_inj, W_V, V_W, lgc_ge, lgc_gt, lgc_le, lgc_lt, lgc_eq, ge_iff_le, gt_iff_lt, e1, e2, ew4, e3, Int.reduceEq, ↓reduceIte, r_Z]
      · by_cases q2 : sn T L (p2, 0) 97
        · rw [cif_pos q2]
        · exfalso
          have h : wS T L [97, 120] (p2, 0) = (p2, 1) := by
            show wS T L [120] (mS T L 97 (p2, 0)) = _
            unfold mS
            rw [cif_neg q2, wS_1]
          rw [h] at hz
          exact absurd hz (show ¬ ((1 : Int) = 0) by decide)
  · have q1 : f2 = 1 := by omega
    subst q1
    rw [bb_neg q] at e1
    refine ⟨kd, ?_, fun hz => ?_⟩
    · rw [cif_neg (sn_f rfl), wS_1, bb_neg (show ¬ ((1 : Int) = 0) by decide)]
      simp (disch := first | assumption | omega) only [f_X6_takeSmallOrLarge, ↓rc2, ↓gI2_1, ↓gI2_2, ↓gI2_3, ↓gI2_4, ↓gI2_5, ↓gI2_6, ↓gI2_9, ↓pI2_1, ↓pI2_2, ↓pI2_3, ↓pI2_4, ↓pI2_6, ↓pI2_9, ↓pZ2_5, ↓gR2_0, ↓gR2_7, ↓gR2_8, ↓gR2_10, ↓gR2_11, ↓aI3, ↓ln3, ↓aI4, ↓sI4, ↓ln4, ↓aI5, ↓sI5, ↓ln5, ↓aI6, ↓sI6, ↓ln6, ↓aI7, ↓sI7, ↓ln7, ↓c_I, ↓c_J, ↓c_Q, ↓c_V, ↓c_It, ↓c_Jt, ↓c_Vt, ↓k_I, ↓k_J, ↓n_I, ↓n_V, li0, li1, li2, li3, li4, li5, li6, li7, li8, li9, li10, li11, li12, li13, li14, li15, li16, li17, li18, li19, li20, li21, li22, li23, li24, li25, li26, li27, li28, li29, li30, li31, li32, li33, li34, li35, li36, li37, li38, li39, li40, li41, li42, li44, li48, li57, li63, li64, li65, li97, li99, li100, li101, li102, li104, li105, li106, li109, li114, li120, li128, li130, li300, li514, li999, li1000, li8192, li9999, li65536, li1000000, li1000001, li1000002, li1000003, li1000004, li1000005, li1000006, li1000007, li1000008, li1000009, li1000010, li1000011, li1000012, li1000013, li1000014, li1000015, li1000016, li1000017, li1000018, li1000019, li2147483647, lj0, lj1, W_add, W_sub, W_mul, W_neg, V_add, V_sub, V_mul, V_neg, W_ite, W_le, W_lt, W_inj, V_le, V_lt, V_inj, W_V, V_W, lgc_ge, lgc_gt, lgc_le, lgc_lt, lgc_eq, ge_iff_le, gt_iff_lt, e1, ↓reduceIte, r_Z]
    · rw [cif_neg (sn_f rfl), wS_1] at hz
      exact absurd hz (show ¬ ((1 : Int) = 0) by decide)
end EngT

/-! ===== the engine's Fractions: all of it; stretching ===== -/
section ShareE
variable {b : Nat} {c : Bool} {A : CF} {o : Nat} {ax : Int}
theorem e_shareOut_L {J : CF} {I0 : CF} (hS5 : ∀ k, 0 ≤ k → k < 65 → I0 (o + 5) k = grw A ax k) : ∀ (fuel : Nat) (k : Int) (I : CF), nt A ax - k + 1 < fuel → 1 ≤ k → k ≤ nt A ax + 1 → FX I A o ax → (∀ j, 1 ≤ j → j < k → I 45 j = bb (flx A ax j)) → (∀ a, a ≠ 45 → I a = I0 a) →
    ∃ I' J', f_X3_shareOut_L20 fuel (Sx I J b c) 44 o (iW k) = some (Sx I' J' b c, xv) ∧ (∀ j, 0 ≤ j → j < 65 → I' (o + 5) j = shd A ax j) ∧ (∀ a : Int, a ≠ 45 → a ≠ o + 5 → I' a = I0 a) ∧ ∀ a, a ≠ 44 → a ≠ 46 → J' a = J a := by
  intro fuel
  induction fuel with
  | zero => intro k I a1 a2 a3; omega
  | succ fuel ih =>
    intro k I a1 a2 a3 h hact hIo
    show ∃ I' J', f_X3_shareOut_b20 (f_X3_shareOut_L20 fuel) (Sx I J b c) 44 o (iW k) = _ ∧ _
    have hX := h.1.1
    obtain ⟨ho, hx, h1, hA, hP, hM, hR⟩ := hX
    have hob := isL_bd ho
    have hnt := hP.2 ax (by omega) (by omega)
    have h10 := h.1.2.1
    have h14 := h.1.2.2.2.1
    have hzb := (hA.2.2.2.1 ax (by omega) (by omega)).2.1
    have hzb : -1 ≤ asz A ax ∧ asz A ax ≤ 9999 := hzb
    by_cases hk : k = nt A ax + 1
    · have n0 : nt A ax < k := by omega
      have hac : ∀ j, 1 ≤ j → j ≤ nt A ax → I 45 j = bb (flx A ax j) := fun j j0 j1 => hact j j0 (by omega)
      have hS5' : ∀ k, 0 ≤ k → k < 65 → I (o + 5) k = grw A ax k := by rw [hIo _ (by omega)]; exact hS5
      by_cases hz : asz A ax = -1
      · have x1 := e_unit (J := J) (b := b) (c := c) h hac
        obtain ⟨I', y1, y2, y3⟩ := e_byUnit (J := jun J (unt A ax)) (b := b) (c := c) jun_4 jun_5 h hac hS5'
        refine ⟨I', jun J (unt A ax), ?_, fun j j0 j1 => ?_, fun a ha ha' => by rw [y3 a ha', hIo a ha], fun a ha _ => jun_o ha⟩
        · simp (disch := first | assumption | omega) only [f_X3_shareOut_b20, f_X3_shareOut_b92, ↓rcL, ↓gIL_0, ↓gIL_10, ↓gIL_11, ↓gIL_12, ↓gIL_13, ↓gIL_14, ↓gIL_15, ↓pIL_0, ↓pIL_10, ↓pIL_11, ↓pIL_12, ↓pIL_13, ↓pIL_14, ↓pIL_15, ↓gRL_1, ↓gRL_2, ↓gRL_3, ↓gRL_4, ↓gRL_5, ↓gRL_6, ↓gRL_7, ↓gRL_8, ↓gRL_9, ↓aIL1, ↓sZL1, ↓lnL1, ↓aIL2, ↓sIL2, ↓lnL2, ↓aIL3, ↓sIL3, ↓lnL3, ↓aIL4, ↓sIL4, ↓lnL4, ↓aIL5, ↓sIL5, ↓lnL5, ↓aIL6, ↓sIL6, ↓lnL6, ↓aIL7, ↓sIL7, ↓lnL7, ↓rc44, ↓gJ44_2, ↓gJ44_3, ↓gJ44_4, ↓gJ44_5, ↓pJ44_2, ↓pJ44_3, ↓pJ44_4, ↓pJ44_5, ↓gR44_0, ↓gR44_1, ↓aI45, ↓sZ45, ↓ln45, ↓aJ46, ↓sJ46, ↓c_I, ↓c_J, ↓c_Q, ↓c_V, ↓c_It, ↓c_Jt, ↓c_Vt, ↓k_I, ↓k_J, ↓n_I, ↓n_V, li0, li1, li2, li3, li4, li5, li6, li7, li8, li9, li10, li11, li12, li13, li14, li15, li16, li17, li18, li19, li20, li21, li22, li23, li24, li25, li26, li27, li28, li29, li30, li31, li32, li33, li34, li35, li36, li37, li38, li39, li40, li41, li42, li44, li48, li57, li63, li64, li65, li97, li99, li100, li101, li102, li104, li105, li106, li109, li114, li120, li128, li130, li300, li514, li999, li1000, li8192, li9999, li65536, li1000000, li1000001, li1000002, li1000003, li1000004, li1000005, li1000006, li1000007, li1000008, li1000009, li1000010, li1000011, li1000012, li1000013, li1000014, li1000015, li1000016, li1000017, li1000018, li1000019, li2147483647, lj0, lj1, W_add, W_sub, W_mul, W_neg, V_add, V_sub, V_mul, V_neg, W_ite, W_le, W_lt, W_inj, V_le, V_lt, V_inj, W_V, V_W, lgc_ge, lgc_gt, lgc_le, lgc_lt, lgc_eq, ge_iff_le, gt_iff_lt, h10, h14, n0, hz, x1, y1, ↓reduceIte]
        · rw [y2 j j0 j1]
          unfold shd
          rw [if_pos hz]
      · have hcnt := rs_le (f := fun k => bb (flx A ax k)) (a := 1) (b := nt A ax) (M := 1) (n := 63) (fun k _ _ => by rcases bb_01 (flx A ax k) with h | h <;> omega) (by omega) (by omega)
        obtain ⟨I1, J1, act', x1, x2, x3, x4, x5, x6, x7, x8⟩ := e_active_L (b := b) (c := c) (o := o) FU 0 (flx A ax) I J (by unfold FU; omega) (by omega) (by omega) h (fun k hk => hk.1.1) hac
        have x1 : f_X3_findActiveTracks (Sx I J b c) 44 o = _ := x1
        have hacf : acf A ax = act' := fo_eq x2
        subst hacf
        have hok : actOK A ax (acf A ax) := ⟨fun k hk => (x3 k hk).1.1, fun k hk => (x3 k hk).2, x2.good⟩
        have fb := (fxs_bd hA hP (ax := ax) (by omega) (by omega) (acf A ax)).1
        have lb := lfo_bd hA hP (ax := ax) (by omega) (by omega) (acf A ax)
        have hF1 : FX I1 A o ax := h.fr fun a ha ha' => x7 a (by omega)
        by_cases hf1 : 0 < fxs A ax (acf A ax)
        · obtain ⟨I2, J2, y1, y2, y3, y4, y5, y6⟩ := e_share_L (b := b) (c := c) (o := o) hok (by omega) (I0 := I1) (J0 := J1) (by rw [x7 _ (by omega)]; exact hS5') FU 1 I1 J1 (by unfold FU; omega) (by omega) (by omega) hF1 x4 x5 x6 (fun j j0 j1 => by
            rw [x7 _ (by omega), hS5' j j0 j1]
            by_cases e : j < 1
            · rw [if_pos e]
              exact (cif_neg (fun z => by have := hok.1 j z; omega)).symm
            · rw [if_neg e]) (fun j j0 j1 => by omega) (fun _ _ => rfl) (fun _ _ => rfl)
          rw [rs_0 (by omega), Int.sub_zero] at y1
          have hle := rst_le hA hP (ax := ax) (by omega) (by omega) hok (by omega)
          have hS01 : ∀ k, 1 ≤ k → k ≤ nt A ax → 0 ≤ cif (acf A ax k) ((lfo A ax (acf A ax) * tpt A ax k 3).tdiv (fxs A ax (acf A ax))) 0 ∧ cif (acf A ax k) ((lfo A ax (acf A ax) * tpt A ax k 3).tdiv (fxs A ax (acf A ax))) 0 ≤ 9999 := fun k k0 k1 => by
            by_cases q : acf A ax k
            · rw [cif_pos q]
              exact (act_share hA hP (ax := ax) (by omega) (by omega) hok q).2.2.2.1
            · rw [cif_neg q]
              omega
          have hsb := rs_nonneg (f := fun k => cif (acf A ax k) ((lfo A ax (acf A ax) * tpt A ax k 3).tdiv (fxs A ax (acf A ax))) 0) (a := 1) (b := nt A ax) (fun k k0 k1 => (hS01 k k0 k1).1)
          have hsb2 := rs_le (f := fun k => cif (acf A ax k) ((lfo A ax (acf A ax) * tpt A ax k 3).tdiv (fxs A ax (acf A ax))) 0) (a := 1) (b := nt A ax) (M := 9999) (n := 63) (fun k k0 k1 => (hS01 k k0 k1).2) (by omega) (by omega)
          obtain ⟨I3, J3, f3, z1, z2, z3, z4, z5⟩ := e_rest_L (b := b) (c := c) (A := A) (o := o) (ax := ax) (m := rem3 A ax) (I0 := I2) (J0 := J2) FU 0 (lfo A ax (acf A ax) - rs (fun k => cif (acf A ax k) ((lfo A ax (acf A ax) * tpt A ax k 3).tdiv (fxs A ax (acf A ax))) 0) 1 (nt A ax)) (acf A ax) (fun j => cif (acf A ax j) ((lfo A ax (acf A ax) * tpt A ax j 3).tdiv (fxs A ax (acf A ax))) (grw A ax j)) I2 J2 (by unfold FU; omega) (by omega) (by omega) (by omega) (by omega) (Or.inl (by omega)) y2.1 hok.1 (fun k hk => by
            have := act_share hA hP (ax := ax) (by omega) (by omega) hok hk
            unfold rem3
            omega) y4 y3 (fun _ _ => rfl) (fun _ _ => rfl)
          have hd : shl A ax = f3 := drf_eq z2
          refine ⟨I3, J3, ?_, fun j j0 j1 => ?_, fun a ha ha' => by rw [z4 a ha', y5 a ha', x7 a ha, hIo a ha], fun a ha ha' => by rw [z5 a ha', y6 a ha', x8 a ha]⟩
          · have hsl : f_X3_shareLeftover (Sx I1 J1 b c) 44 o = some (Sx I3 J3 b c, xv) := by
              rw [← z1, ← y1]
              simp (disch := first | assumption | omega) only [f_X3_shareLeftover, ↓rcL, ↓gIL_0, ↓gIL_10, ↓gIL_11, ↓gIL_12, ↓gIL_13, ↓gIL_14, ↓gIL_15, ↓pIL_0, ↓pIL_10, ↓pIL_11, ↓pIL_12, ↓pIL_13, ↓pIL_14, ↓pIL_15, ↓gRL_1, ↓gRL_2, ↓gRL_3, ↓gRL_4, ↓gRL_5, ↓gRL_6, ↓gRL_7, ↓gRL_8, ↓gRL_9, ↓aIL1, ↓sZL1, ↓lnL1, ↓aIL2, ↓sIL2, ↓lnL2, ↓aIL3, ↓sIL3, ↓lnL3, ↓aIL4, ↓sIL4, ↓lnL4, ↓aIL5, ↓sIL5, ↓lnL5, ↓aIL6, ↓sIL6, ↓lnL6, ↓aIL7, ↓sIL7, ↓lnL7, ↓rc44, ↓gJ44_2, ↓gJ44_3, ↓gJ44_4, ↓gJ44_5, ↓pJ44_2, ↓pJ44_3, ↓pJ44_4, ↓pJ44_5, ↓gR44_0, ↓gR44_1, ↓aI45, ↓sZ45, ↓ln45, ↓aJ46, ↓sJ46, ↓c_I, ↓c_J, ↓c_Q, ↓c_V, ↓c_It, ↓c_Jt, ↓c_Vt, ↓k_I, ↓k_J, ↓n_I, ↓n_V, li0, li1, li2, li3, li4, li5, li6, li7, li8, li9, li10, li11, li12, li13, li14, li15, li16, li17, li18, li19, li20, li21, li22, li23, li24, li25, li26, li27, li28, li29, li30, li31, li32, li33, li34, li35, li36, li37, li38, li39, li40, li41, li42, li44, li48, li57, li63, li64, li65, li97, li99, li100, li101, li102, li104, li105, li106, li109, li114, li120, li128, li130, li300, li514, li999, li1000, li8192, li9999, li65536, li1000000, li1000001, li1000002, li1000003, li1000004, li1000005, li1000006, li1000007, li1000008, li1000009, li1000010, li1000011, li1000012, li1000013, li1000014, li1000015, li1000016, li1000017, li1000018, li1000019, li2147483647, lj0, lj1, W_add, W_sub, W_mul, W_neg, V_add, V_sub, V_mul, V_neg, W_ite, W_le, W_lt, W_inj, V_le, V_lt, V_inj, W_V, V_W, lgc_ge, lgc_gt, lgc_le, lgc_lt, lgc_eq, ge_iff_le, gt_iff_lt, x5, x6, hf1, ↓reduceIte]
            simp (disch := first | assumption | omega) only [f_X3_shareOut_b20, f_X3_shareOut_b92, ↓rcL, ↓gIL_0, ↓gIL_10, ↓gIL_11, ↓gIL_12, ↓gIL_13, ↓gIL_14, ↓gIL_15, ↓pIL_0, ↓pIL_10, ↓pIL_11, ↓pIL_12, ↓pIL_13, ↓pIL_14, ↓pIL_15, ↓gRL_1, ↓gRL_2, ↓gRL_3, ↓gRL_4, ↓gRL_5, ↓gRL_6, ↓gRL_7, ↓gRL_8, ↓gRL_9, ↓aIL1, ↓sZL1, ↓lnL1, ↓aIL2, ↓sIL2, ↓lnL2, ↓aIL3, ↓sIL3, ↓lnL3, ↓aIL4, ↓sIL4, ↓lnL4, ↓aIL5, ↓sIL5, ↓lnL5, ↓aIL6, ↓sIL6, ↓lnL6, ↓aIL7, ↓sIL7, ↓lnL7, ↓rc44, ↓gJ44_2, ↓gJ44_3, ↓gJ44_4, ↓gJ44_5, ↓pJ44_2, ↓pJ44_3, ↓pJ44_4, ↓pJ44_5, ↓gR44_0, ↓gR44_1, ↓aI45, ↓sZ45, ↓ln45, ↓aJ46, ↓sJ46, ↓c_I, ↓c_J, ↓c_Q, ↓c_V, ↓c_It, ↓c_Jt, ↓c_Vt, ↓k_I, ↓k_J, ↓n_I, ↓n_V, li0, li1, li2, li3, li4, li5, li6, li7, li8, li9, li10, li11, li12, li13, li14, li15, li16, li17, li18, li19, li20, li21, li22, li23, li24, li25, li26, li27, li28, li29, li30, li31, li32, li33, li34, li35, li36, li37, li38, li39, li40, li41, li42, li44, li48, li57, li63, li64, li65, li97, li99, li100, li101, li102, li104, li105, li106, li109, li114, li120, li128, li130, li300, li514, li999, li1000, li8192, li9999, li65536, li1000000, li1000001, li1000002, li1000003, li1000004, li1000005, li1000006, li1000007, li1000008, li1000009, li1000010, li1000011, li1000012, li1000013, li1000014, li1000015, li1000016, li1000017, li1000018, li1000019, li2147483647, lj0, lj1, W_add, W_sub, W_mul, W_neg, V_add, V_sub, V_mul, V_neg, W_ite, W_le, W_lt, W_inj, V_le, V_lt, V_inj, W_V, V_W, lgc_ge, lgc_gt, lgc_le, lgc_lt, lgc_eq, ge_iff_le, gt_iff_lt, h10, h14, n0, hz, x1, hsl, ↓reduceIte]
          · rw [z3 j j0 j1, ← hd]
            unfold shd
            rw [if_neg hz]
        · have hno : ∀ k, ¬ acf A ax k := fun k hk => by
            have := (act_share hA hP (ax := ax) (by omega) (by omega) hok hk).1
            omega
          have hd : shl A ax = fun k => cif (acf A ax k) (shq A ax k) (grw A ax k) := by
            refine drf_eq ?_
            cases (rst A ax).toNat with
            | zero => rfl
            | succ p => exact Or.inl ⟨hno, rfl⟩
          refine ⟨I1, J1, ?_, fun j j0 j1 => ?_, fun a ha ha' => by rw [x7 a ha, hIo a ha], fun a ha ha' => x8 a ha⟩
          · have hsl : f_X3_shareLeftover (Sx I1 J1 b c) 44 o = some (Sx I1 J1 b c, xv) := by
              simp (disch := first | assumption | omega) only [f_X3_shareLeftover, ↓rcL, ↓gIL_0, ↓gIL_10, ↓gIL_11, ↓gIL_12, ↓gIL_13, ↓gIL_14, ↓gIL_15, ↓pIL_0, ↓pIL_10, ↓pIL_11, ↓pIL_12, ↓pIL_13, ↓pIL_14, ↓pIL_15, ↓gRL_1, ↓gRL_2, ↓gRL_3, ↓gRL_4, ↓gRL_5, ↓gRL_6, ↓gRL_7, ↓gRL_8, ↓gRL_9, ↓aIL1, ↓sZL1, ↓lnL1, ↓aIL2, ↓sIL2, ↓lnL2, ↓aIL3, ↓sIL3, ↓lnL3, ↓aIL4, ↓sIL4, ↓lnL4, ↓aIL5, ↓sIL5, ↓lnL5, ↓aIL6, ↓sIL6, ↓lnL6, ↓aIL7, ↓sIL7, ↓lnL7, ↓rc44, ↓gJ44_2, ↓gJ44_3, ↓gJ44_4, ↓gJ44_5, ↓pJ44_2, ↓pJ44_3, ↓pJ44_4, ↓pJ44_5, ↓gR44_0, ↓gR44_1, ↓aI45, ↓sZ45, ↓ln45, ↓aJ46, ↓sJ46, ↓c_I, ↓c_J, ↓c_Q, ↓c_V, ↓c_It, ↓c_Jt, ↓c_Vt, ↓k_I, ↓k_J, ↓n_I, ↓n_V, li0, li1, li2, li3, li4, li5, li6, li7, li8, li9, li10, li11, li12, li13, li14, li15, li16, li17, li18, li19, li20, li21, li22, li23, li24, li25, li26, li27, li28, li29, li30, li31, li32, li33, li34, li35, li36, li37, li38, li39, li40, li41, li42, li44, li48, li57, li63, li64, li65, li97, li99, li100, li101, li102, li104, li105, li106, li109, li114, li120, li128, li130, li300, li514, li999, li1000, li8192, li9999, li65536, li1000000, li1000001, li1000002, li1000003, li1000004, li1000005, li1000006, li1000007, li1000008, li1000009, li1000010, li1000011, li1000012, li1000013, li1000014, li1000015, li1000016, li1000017, li1000018, li1000019, li2147483647, lj0, lj1, W_add, W_sub, W_mul, W_neg, V_add, V_sub, V_mul, V_neg, W_ite, W_le, W_lt, W_inj, V_le, V_lt, V_inj, W_V, V_W, lgc_ge, lgc_gt, lgc_le, lgc_lt, lgc_eq, ge_iff_le, gt_iff_lt, x6, hf1, ↓reduceIte]
            simp (disch := first | assumption | omega) only [f_X3_shareOut_b20, f_X3_shareOut_b92, ↓rcL, ↓gIL_0, ↓gIL_10, ↓gIL_11, ↓gIL_12, ↓gIL_13, ↓gIL_14, ↓gIL_15, ↓pIL_0, ↓pIL_10, ↓pIL_11, ↓pIL_12, ↓pIL_13, ↓pIL_14, ↓pIL_15, ↓gRL_1, ↓gRL_2, ↓gRL_3, ↓gRL_4, ↓gRL_5, ↓gRL_6, ↓gRL_7, ↓gRL_8, ↓gRL_9, ↓aIL1, ↓sZL1, ↓lnL1, ↓aIL2, ↓sIL2, ↓lnL2, ↓aIL3, ↓sIL3, ↓lnL3, ↓aIL4, ↓sIL4, ↓lnL4, ↓aIL5, ↓sIL5, ↓lnL5, ↓aIL6, ↓sIL6, ↓lnL6, ↓aIL7, ↓sIL7, ↓lnL7, ↓rc44, ↓gJ44_2, ↓gJ44_3, ↓gJ44_4, ↓gJ44_5, ↓pJ44_2, ↓pJ44_3, ↓pJ44_4, ↓pJ44_5, ↓gR44_0, ↓gR44_1, ↓aI45, ↓sZ45, ↓ln45, ↓aJ46, ↓sJ46, ↓c_I, ↓c_J, ↓c_Q, ↓c_V, ↓c_It, ↓c_Jt, ↓c_Vt, ↓k_I, ↓k_J, ↓n_I, ↓n_V, li0, li1, li2, li3, li4, li5, li6, li7, li8, li9, li10, li11, li12, li13, li14, li15, li16, li17, li18, li19, li20, li21, li22, li23, li24, li25, li26, li27, li28, li29, li30, li31, li32, li33, li34, li35, li36, li37, li38, li39, li40, li41, li42, li44, li48, li57, li63, li64, li65, li97, li99, li100, li101, li102, li104, li105, li106, li109, li114, li120, li128, li130, li300, li514, li999, li1000, li8192, li9999, li65536, li1000000, li1000001, li1000002, li1000003, li1000004, li1000005, li1000006, li1000007, li1000008, li1000009, li1000010, li1000011, li1000012, li1000013, li1000014, li1000015, li1000016, li1000017, li1000018, li1000019, li2147483647, lj0, lj1, W_add, W_sub, W_mul, W_neg, V_add, V_sub, V_mul, V_neg, W_ite, W_le, W_lt, W_inj, V_le, V_lt, V_inj, W_V, V_W, lgc_ge, lgc_gt, lgc_le, lgc_lt, lgc_eq, ge_iff_le, gt_iff_lt, h10, h14, n0, hz, x1, hsl, ↓reduceIte]
          · rw [x7 _ (by omega), hS5' j j0 j1]
            unfold shd
            rw [if_neg hz, hd]
            exact (cif_neg (hno j)).symm
    · have n1 : ¬ (nt A ax < k) := by omega
      have e1 := e_isOpen (J := J) (b := b) (c := c) h.1 (k := k) a2 (by omega)
      have e2 := e_isFlexible (J := J) (b := b) (c := c) h.1.1 (k := k) a2 (by omega)
      have go : ∀ v : Int, v = bb (flx A ax k) → ∃ I' J', f_X3_shareOut_L20 fuel (Sx (uI I 45 k v) J b c) 44 o (iW (k + 1)) = some (Sx I' J' b c, xv) ∧ (∀ j, 0 ≤ j → j < 65 → I' (o + 5) j = shd A ax j) ∧ (∀ a : Int, a ≠ 45 → a ≠ o + 5 → I' a = I0 a) ∧ ∀ a, a ≠ 44 → a ≠ 46 → J' a = J a := by
        intro v hv
        refine ih (k + 1) (uI I 45 k v) (by omega) (by omega) (by omega) (h.fr fun a ha ha' => u_obj (by omega)) (fun j j0 j1 => ?_) (fun a ha => by rw [u_obj ha]; exact hIo a ha)
        rw [u_at]
        by_cases e : j = k
        · rw [if_pos e, e, hv]
        · rw [if_neg e]
          exact hact j j0 (by omega)
      have hz0 : (0 : Int) = 0 ∨ (0 : Int) = 1 := Or.inl rfl
      have hz1 : (1 : Int) = 0 ∨ (1 : Int) = 1 := Or.inr rfl
      by_cases q1 : opn A ax k
      · rw [bb_pos q1] at e1
        by_cases q2 : tpt A ax k 2 = 5
        · rw [bb_pos q2] at e2
          obtain ⟨I', J', k1, k2⟩ := go 1 (bb_pos (show flx A ax k from ⟨q1, q2⟩)).symm
          refine ⟨I', J', ?_, k2⟩
          rw [← k1]
          simp (disch := first | assumption | omega) only [f_X3_shareOut_b20, f_X3_shareOut_b53, f_X3_shareOut_b54, ↓rcL, ↓gIL_0, ↓gIL_10, ↓gIL_11, ↓gIL_12, ↓gIL_13, ↓gIL_14, ↓gIL_15, ↓pIL_0, ↓pIL_10, ↓pIL_11, ↓pIL_12, ↓pIL_13, ↓pIL_14, ↓pIL_15, ↓gRL_1, ↓gRL_2, ↓gRL_3, ↓gRL_4, ↓gRL_5, ↓gRL_6, ↓gRL_7, ↓gRL_8, ↓gRL_9, ↓aIL1, ↓sZL1, ↓lnL1, ↓aIL2, ↓sIL2, ↓lnL2, ↓aIL3, ↓sIL3, ↓lnL3, ↓aIL4, ↓sIL4, ↓lnL4, ↓aIL5, ↓sIL5, ↓lnL5, ↓aIL6, ↓sIL6, ↓lnL6, ↓aIL7, ↓sIL7, ↓lnL7, ↓rc44, ↓gJ44_2, ↓gJ44_3, ↓gJ44_4, ↓gJ44_5, ↓pJ44_2, ↓pJ44_3, ↓pJ44_4, ↓pJ44_5, ↓gR44_0, ↓gR44_1, ↓aI45, ↓sZ45, ↓ln45, ↓aJ46, ↓sJ46, ↓c_I, ↓c_J, ↓c_Q, ↓c_V, ↓c_It, ↓c_Jt, ↓c_Vt, ↓k_I, ↓k_J, ↓n_I, ↓n_V, li0, li1, li2, li3, li4, li5, li6, li7, li8, li9, li10, li11, li12, li13, li14, li15, li16, li17, li18, li19, li20, li21, li22, li23, li24, li25, li26, li27, li28, li29, li30, li31, li32, li33, li34, li35, li36, li37, li38, li39, li40, li41, li42, li44, li48, li57, li63, li64, li65, li97, li99, li100, li101, li102, li104, li105, li106, li109, li114, li120, li128, li130, li300, li514, li999, li1000, li8192, li9999, li65536, li1000000, li1000001, li1000002, li1000003, li1000004, li1000005, li1000006, li1000007, li1000008, li1000009, li1000010, li1000011, li1000012, li1000013, li1000014, li1000015, li1000016, li1000017, li1000018, li1000019, li2147483647, lj0, lj1, W_add, W_sub, W_mul, W_neg, V_add, V_sub, V_mul, V_neg, W_ite, W_le, W_lt, W_inj, V_le, V_lt, V_inj, W_V, V_W, lgc_ge, lgc_gt, lgc_le, lgc_lt, lgc_eq, ge_iff_le, gt_iff_lt, h10, n1, e1, e2, Int.reduceEq, ↓reduceIte]
        · rw [bb_neg q2] at e2
          obtain ⟨I', J', k1, k2⟩ := go 0 (bb_neg (fun z : flx A ax k => q2 z.2)).symm
          refine ⟨I', J', ?_, k2⟩
          rw [← k1]
          simp (disch := first | assumption | omega) only [f_X3_shareOut_b20, f_X3_shareOut_b53, f_X3_shareOut_b54, ↓rcL, ↓gIL_0, ↓gIL_10, ↓gIL_11, ↓gIL_12, ↓gIL_13, ↓gIL_14, ↓gIL_15, ↓pIL_0, ↓pIL_10, ↓pIL_11, ↓pIL_12, ↓pIL_13, ↓pIL_14, ↓pIL_15, ↓gRL_1, ↓gRL_2, ↓gRL_3, ↓gRL_4, ↓gRL_5, ↓gRL_6, ↓gRL_7, ↓gRL_8, ↓gRL_9, ↓aIL1, ↓sZL1, ↓lnL1, ↓aIL2, ↓sIL2, ↓lnL2, ↓aIL3, ↓sIL3, ↓lnL3, ↓aIL4, ↓sIL4, ↓lnL4, ↓aIL5, ↓sIL5, ↓lnL5, ↓aIL6, ↓sIL6, ↓lnL6, ↓aIL7, ↓sIL7, ↓lnL7, ↓rc44, ↓gJ44_2, ↓gJ44_3, ↓gJ44_4, ↓gJ44_5, ↓pJ44_2, ↓pJ44_3, ↓pJ44_4, ↓pJ44_5, ↓gR44_0, ↓gR44_1, ↓aI45, ↓sZ45, ↓ln45, ↓aJ46, ↓sJ46, ↓c_I, ↓c_J, ↓c_Q, ↓c_V, ↓c_It, ↓c_Jt, ↓c_Vt, ↓k_I, ↓k_J, ↓n_I, ↓n_V, li0, li1, li2, li3, li4, li5, li6, li7, li8, li9, li10, li11, li12, li13, li14, li15, li16, li17, li18, li19, li20, li21, li22, li23, li24, li25, li26, li27, li28, li29, li30, li31, li32, li33, li34, li35, li36, li37, li38, li39, li40, li41, li42, li44, li48, li57, li63, li64, li65, li97, li99, li100, li101, li102, li104, li105, li106, li109, li114, li120, li128, li130, li300, li514, li999, li1000, li8192, li9999, li65536, li1000000, li1000001, li1000002, li1000003, li1000004, li1000005, li1000006, li1000007, li1000008, li1000009, li1000010, li1000011, li1000012, li1000013, li1000014, li1000015, li1000016, li1000017, li1000018, li1000019, li2147483647, lj0, lj1, W_add, W_sub, W_mul, W_neg, V_add, V_sub, V_mul, V_neg, W_ite, W_le, W_lt, W_inj, V_le, V_lt, V_inj, W_V, V_W, lgc_ge, lgc_gt, lgc_le, lgc_lt, lgc_eq, ge_iff_le, gt_iff_lt, h10, n1, e1, e2, Int.reduceEq, ↓reduceIte]
      · rw [bb_neg q1] at e1
        obtain ⟨I', J', k1, k2⟩ := go 0 (bb_neg (fun z : flx A ax k => q1 z.1)).symm
        refine ⟨I', J', ?_, k2⟩
        rw [← k1]
        simp (disch := first | assumption | omega) only [f_X3_shareOut_b20, f_X3_shareOut_b53, f_X3_shareOut_b54, ↓rcL, ↓gIL_0, ↓gIL_10, ↓gIL_11, ↓gIL_12, ↓gIL_13, ↓gIL_14, ↓gIL_15, ↓pIL_0, ↓pIL_10, ↓pIL_11, ↓pIL_12, ↓pIL_13, ↓pIL_14, ↓pIL_15, ↓gRL_1, ↓gRL_2, ↓gRL_3, ↓gRL_4, ↓gRL_5, ↓gRL_6, ↓gRL_7, ↓gRL_8, ↓gRL_9, ↓aIL1, ↓sZL1, ↓lnL1, ↓aIL2, ↓sIL2, ↓lnL2, ↓aIL3, ↓sIL3, ↓lnL3, ↓aIL4, ↓sIL4, ↓lnL4, ↓aIL5, ↓sIL5, ↓lnL5, ↓aIL6, ↓sIL6, ↓lnL6, ↓aIL7, ↓sIL7, ↓lnL7, ↓rc44, ↓gJ44_2, ↓gJ44_3, ↓gJ44_4, ↓gJ44_5, ↓pJ44_2, ↓pJ44_3, ↓pJ44_4, ↓pJ44_5, ↓gR44_0, ↓gR44_1, ↓aI45, ↓sZ45, ↓ln45, ↓aJ46, ↓sJ46, ↓c_I, ↓c_J, ↓c_Q, ↓c_V, ↓c_It, ↓c_Jt, ↓c_Vt, ↓k_I, ↓k_J, ↓n_I, ↓n_V, li0, li1, li2, li3, li4, li5, li6, li7, li8, li9, li10, li11, li12, li13, li14, li15, li16, li17, li18, li19, li20, li21, li22, li23, li24, li25, li26, li27, li28, li29, li30, li31, li32, li33, li34, li35, li36, li37, li38, li39, li40, li41, li42, li44, li48, li57, li63, li64, li65, li97, li99, li100, li101, li102, li104, li105, li106, li109, li114, li120, li128, li130, li300, li514, li999, li1000, li8192, li9999, li65536, li1000000, li1000001, li1000002, li1000003, li1000004, li1000005, li1000006, li1000007, li1000008, li1000009, li1000010, li1000011, li1000012, li1000013, li1000014, li1000015, li1000016, li1000017, li1000018, li1000019, li2147483647, lj0, lj1, W_add, W_sub, W_mul, W_neg, V_add, V_sub, V_mul, V_neg, W_ite, W_le, W_lt, W_inj, V_le, V_lt, V_inj, W_V, V_W, lgc_ge, lgc_gt, lgc_le, lgc_lt, lgc_eq, ge_iff_le, gt_iff_lt, h10, n1, e1, ↓reduceIte]
theorem e_shareOut {I J : CF} (h : FX I A o ax) : ∃ I' J', f_X3_shareOut (Sx I J b c) 44 o = some (Sx I' J' b c, xv) ∧ (∀ j, 0 ≤ j → j < 65 → I' (o + 5) j = shd A ax j) ∧ (∀ a : Int, a ≠ 45 → a ≠ o + 5 → I' a = I a) ∧ ∀ a, a ≠ 44 → a ≠ 46 → J' a = J a := by
  have hX := h.1.1
  obtain ⟨ho, hx, h1, hA, hP, hM, hR⟩ := hX
  have hob := isL_bd ho
  have hnt := hP.2 ax (by omega) (by omega)
  have c5 : ((o + 5 : Nat) : Int) = o + 5 := by omega
  have c4 : ((o + 4 : Nat) : Int) = o + 4 := by omega
  have hcp := fun (f : HP → Option XR) => c_p (I := I) (J := J) (b := b) (c := c) (s := o + 4) (d := o + 5) (n0 := 65) (n1 := 65) (sp := 0) (dp := 0) (n := 65) (f := f) (shL4 ho) (shL5 ho) (by decide) (by decide) (by omega) (by omega) (by omega) (by omega) (by omega)
  rw [c5, c4] at hcp
  have hF : FX (cpf I (o + 4) 0 (o + 5) 0 65) A o ax := h.fr fun a ha ha' => cp_obj ha'
  obtain ⟨I', J', k1, k2, k3, k4⟩ := e_shareOut_L (J := J) (b := b) (c := c) (A := A) (o := o) (ax := ax) (I0 := cpf I (o + 4) 0 (o + 5) 0 65) (fun k k0 k1 => by rw [cp_in k0 (by omega), show (0 : Int) + (k - 0) = k by omega]; exact h.2 k k0 k1) FU 1 _ (by unfold FU; omega) (by omega) (by omega) hF (fun j j0 j1 => by omega) (fun _ _ => rfl)
  refine ⟨I', J', ?_, k2, fun a ha ha' => by rw [k3 a ha ha', cp_obj ha'], k4⟩
  rw [← k1]
  simp (disch := first | assumption | omega) only [f_X3_shareOut, ↓rcL, ↓gIL_0, ↓gIL_10, ↓gIL_11, ↓gIL_12, ↓gIL_13, ↓gIL_14, ↓gIL_15, ↓pIL_0, ↓pIL_10, ↓pIL_11, ↓pIL_12, ↓pIL_13, ↓pIL_14, ↓pIL_15, ↓gRL_1, ↓gRL_2, ↓gRL_3, ↓gRL_4, ↓gRL_5, ↓gRL_6, ↓gRL_7, ↓gRL_8, ↓gRL_9, ↓aIL1, ↓sZL1, ↓lnL1, ↓aIL2, ↓sIL2, ↓lnL2, ↓aIL3, ↓sIL3, ↓lnL3, ↓aIL4, ↓sIL4, ↓lnL4, ↓aIL5, ↓sIL5, ↓lnL5, ↓aIL6, ↓sIL6, ↓lnL6, ↓aIL7, ↓sIL7, ↓lnL7, ↓rc44, ↓gJ44_2, ↓gJ44_3, ↓gJ44_4, ↓gJ44_5, ↓pJ44_2, ↓pJ44_3, ↓pJ44_4, ↓pJ44_5, ↓gR44_0, ↓gR44_1, ↓aI45, ↓sZ45, ↓ln45, ↓aJ46, ↓sJ46, ↓c_I, ↓c_J, ↓c_Q, ↓c_V, ↓c_It, ↓c_Jt, ↓c_Vt, ↓k_I, ↓k_J, ↓n_I, ↓n_V, li0, li1, li2, li3, li4, li5, li6, li7, li8, li9, li10, li11, li12, li13, li14, li15, li16, li17, li18, li19, li20, li21, li22, li23, li24, li25, li26, li27, li28, li29, li30, li31, li32, li33, li34, li35, li36, li37, li38, li39, li40, li41, li42, li44, li48, li57, li63, li64, li65, li97, li99, li100, li101, li102, li104, li105, li106, li109, li114, li120, li128, li130, li300, li514, li999, li1000, li8192, li9999, li65536, li1000000, li1000001, li1000002, li1000003, li1000004, li1000005, li1000006, li1000007, li1000008, li1000009, li1000010, li1000011, li1000012, li1000013, li1000014, li1000015, li1000016, li1000017, li1000018, li1000019, li2147483647, lj0, lj1, W_add, W_sub, W_mul, W_neg, V_add, V_sub, V_mul, V_neg, W_ite, W_le, W_lt, W_inj, V_le, V_lt, V_inj, W_V, V_W, lgc_ge, lgc_gt, lgc_le, lgc_lt, lgc_eq, ge_iff_le, gt_iff_lt, hcp]
theorem acf_ok (hA : okA A) (hP : plB A) (hx : ax = 0 ∨ ax = 1) (hex : ∃ y, FO (anx A ax) (agd A ax) (flx A ax) y ∧ ∀ k, y k → flx A ax k) : actOK A ax (acf A ax) := by
  obtain ⟨y, h1, h2⟩ := hex
  have : acf A ax = y := fo_eq h1
  rw [this]
  exact ⟨fun k hk => (h2 k hk).1.1, fun k hk => (h2 k hk).2, h1.good⟩
end ShareE
/-- the active tracks in the end: they exist -/
theorem FO_act {A : CF} {ax : Int} : ∀ (n : Nat) (act : Int → Prop), rs (fun k => bb (act k)) 1 (nt A ax) < n → (∀ k, act k → 1 ≤ k ∧ k ≤ nt A ax) → ∃ y, FO (anx A ax) (agd A ax) act y ∧ ∀ k, y k → act k := by
  intro n
  induction n with
  | zero =>
    intro act h
    have := rs_nonneg (f := fun k => bb (act k)) (a := 1) (b := nt A ax) (fun k _ _ => by rcases bb_01 (act k) with h | h <;> omega)
    omega
  | succ n ih =>
    intro act h hin
    by_cases hg : agd A ax act
    · exact ⟨act, FO.here hg, fun k hk => hk⟩
    · have hyes : ∃ j, act j ∧ big A ax act j := by
        apply Classical.byContradiction
        intro hn
        exact hg fun j j0 j1 => hn ⟨j, j0, j1⟩
      obtain ⟨j, j0, j1⟩ := hyes
      have hjin := hin j j0
      have hlt := rs_lt (f := fun k => bb (anx A ax act k)) (g := fun k => bb (act k)) (a := 1) (b := nt A ax) (k := j) (fun i _ _ => by
        show bb _ ≤ bb _
        by_cases q : anx A ax act i
        · rw [bb_pos q, bb_pos q.1]
          omega
        · rw [bb_neg q]
          rcases bb_01 (act i) with h | h <;> omega) hjin.1 hjin.2 (by
        show bb _ < bb _
        rw [bb_neg (fun z => z.2 j1), bb_pos j0]
        omega)
      obtain ⟨y, y1, y2⟩ := ih (anx A ax act) (by omega) (fun k hk => hin k hk.1)
      exact ⟨y, FO.next hg y1, fun k hk => (y2 k hk).1⟩
theorem acf_act {A : CF} (hA : okA A) (hP : plB A) {ax : Int} (hx : ax = 0 ∨ ax = 1) : actOK A ax (acf A ax) := acf_ok hA hP hx (by
  obtain ⟨y, h1, h2⟩ := FO_act (A := A) (ax := ax) ((rs (fun k => bb (flx A ax k)) 1 (nt A ax)).toNat + 1) (flx A ax) (by omega) (fun k hk => hk.1.1)
  exact ⟨y, h1, h2⟩)
theorem shd_bd {A : CF} (hA : okA A) (hP : plB A) {ax : Int} (x0 : 0 ≤ ax) (x1 : ax < 2) (k : Int) : (0 ≤ shd A ax k ∧ shd A ax k ≤ 11100000) ∧ (¬ opn A ax k → shd A ax k = 0) := by
  unfold shd
  split
  · have h := shu_bd hA hP x0 x1 k
    exact ⟨h.1, h.2.1⟩
  · have hok := acf_act hA hP (ax := ax) (by omega)
    have hd := drf_bd (m := rem3 A ax) (p := (rst A ax).toNat) (act := acf A ax) (f := fun k => cif (acf A ax k) (shq A ax k) (grw A ax k)) k
    have hd : cif (acf A ax k) (shq A ax k) (grw A ax k) ≤ shl A ax k ∧ shl A ax k ≤ cif (acf A ax k) (shq A ax k) (grw A ax k) + 1 ∧ (¬ acf A ax k → shl A ax k = cif (acf A ax k) (shq A ax k) (grw A ax k)) := hd
    have g := grw_bd hA hP x0 x1 k
    by_cases q : acf A ax k
    · rw [cif_pos q] at hd
      have hs := (act_share hA hP x0 x1 hok q).2.2.2.1
      have hs : 0 ≤ shq A ax k ∧ shq A ax k ≤ 9999 := hs
      obtain ⟨y, h1, h2⟩ := FO_act (A := A) (ax := ax) ((rs (fun k => bb (flx A ax k)) 1 (nt A ax)).toNat + 1) (flx A ax) (by omega) (fun k hk => hk.1.1)
      have hy : acf A ax = y := fo_eq h1
      have ho : opn A ax k := (h2 k (hy ▸ q)).1
      exact ⟨by omega, fun z => absurd ho z⟩
    · rw [cif_neg q] at hd
      have := hd.2.2 q
      refine ⟨by omega, fun z => ?_⟩
      rw [this]
      exact g.2 z
theorem str_bd {A : CF} (hA : okA A) (hP : plB A) {ax : Int} (x0 : 0 ≤ ax) (x1 : ax < 2) (k : Int) : (0 ≤ str A ax k ∧ str A ax k ≤ 11110000) ∧ (¬ opn A ax k → str A ax k = 0) := by
  have h := shd_bd hA hP x0 x1 k
  have h5 := (hA.2.2.2.1 ax x0 x1).2.1
  have h5 : -1 ≤ asz A ax ∧ asz A ax ≤ 9999 := h5
  have ht := tot_bd hA hP x0 x1 (M := 11100000) (by omega) (fun k => (shd_bd hA hP x0 x1 k).1)
  unfold str
  split
  · have hf := fil_bd (rg := false) (may := fun k => opn A ax k ∧ tpt A ax k 2 = 3) (w := fun _ => 1) (r := fun _ => 9999) (p := (asz A ax - tot A ax (shd A ax)).toNat) k
    show (0 ≤ shd A ax k + fil false (fun k => opn A ax k ∧ tpt A ax k 2 = 3) (fun _ => 1) (fun _ => 9999) (asz A ax - tot A ax (shd A ax)).toNat k ∧ shd A ax k + fil false (fun k => opn A ax k ∧ tpt A ax k 2 = 3) (fun _ => 1) (fun _ => 9999) (asz A ax - tot A ax (shd A ax)).toNat k ≤ 11110000) ∧ (_ → shd A ax k + fil false (fun k => opn A ax k ∧ tpt A ax k 2 = 3) (fun _ => 1) (fun _ => 9999) (asz A ax - tot A ax (shd A ax)).toNat k = 0)
    refine ⟨by omega, fun z => ?_⟩
    have := hf.2.2 (fun y => z y.1)
    have := h.2 z
    omega
  · exact ⟨by omega, h.2⟩
section StretchE
variable {J : CF} {b : Nat} {c : Bool} {A : CF} {o : Nat} {ax : Int}
theorem e_stretch_L {I0 : CF} (hS5 : ∀ k, 0 ≤ k → k < 65 → I0 (o + 5) k = shd A ax k) (hS6 : ∀ k, 0 ≤ k → k < 65 → I0 (o + 6) k = shd A ax k) (hz : asz A ax ≠ -1 ∧ stg A ax 2 = 0) : ∀ (fuel : Nat) (k : Int) (I : CF), nt A ax - k + 1 < fuel → 1 ≤ k → k ≤ nt A ax + 1 → LY I A o ax → ADM I (fun t => (opn A ax t ∧ tpt A ax t 2 = 3) ∧ t < k) (fun _ => 1) (fun _ => 9999) → (∀ j, 0 ≤ j → j < I 36 4 → I 40 j = 0) → I 36 4 ≤ k - 1 → (∀ a : Int, (a < 36 ∨ 40 < a) → I a = I0 a) →
    ∃ I', f_X0_stretchTracks_L48 fuel (Sx I J b c) o 36 (iW k) = some (Sx I' J b c, xv) ∧ (∀ k, 0 ≤ k → k < 65 → I' (o + 6) k = str A ax k) ∧ ∀ a : Int, (a < 36 ∨ 40 < a) → a ≠ o + 6 → I' a = I0 a := by
  intro fuel
  induction fuel with
  | zero => intro k I a1 a2 a3; omega
  | succ fuel ih =>
    intro k I a1 a2 a3 hY hD hz0 hn ho2
    show ∃ I', f_X0_stretchTracks_b48 (f_X0_stretchTracks_L48 fuel) (Sx I J b c) o 36 (iW k) = _ ∧ _
    have hY' := hY
    obtain ⟨⟨ho, hx, h1, hA, hP, hM, hR⟩, h10, h12, h14, h11, h13, hcl⟩ := hY'
    have hob := isL_bd ho
    have hnt := hP.2 ax (by omega) (by omega)
    have hbb := fun k => shd_bd hA hP (ax := ax) (by omega) (by omega) k
    have i5 : I (o + 5) = I0 (o + 5) := ho2 _ (by omega)
    have i6 : I (o + 6) = I0 (o + 6) := ho2 _ (by omega)
    by_cases hk : k = nt A ax + 1
    · have n0 : nt A ax < k := by omega
      have es := e_sum (J := J) (b := b) (c := c) hY (s := 4) (f := shd A ax) (by omega) (by omega) (fun j j0 j1 => by
        rw [show (o : Int) + 1 + 4 = o + 5 by omega, i5]
        exact hS5 j (by omega) (by omega))
      have hzb := (hA.2.2.2.1 ax (by omega) (by omega)).2.1
      have hzb : -1 ≤ asz A ax ∧ asz A ax ≤ 9999 := hzb
      have htb := tot_bd hA hP (ax := ax) (by omega) (by omega) (M := 11100000) (by omega) (fun k => (hbb k).1)
      have hD2 : ADM I (fun t => opn A ax t ∧ tpt A ax t 2 = 3) (fun _ => 1) (fun _ => 9999) := hD.congr fun t => ⟨fun h => ⟨h, by have := h.1.1; omega⟩, fun h => h.1⟩
      obtain ⟨I1, s1, g1, x1, x2, x3, x4⟩ := e_pourT (J := J) (b := b) (c := c) (g := fun _ => 0) hD2 (fun t ht => by omega) (fun t ht => by omega) (fun j j0 j1 => by rw [hz0 j j0 j1]; omega) (p := asz A ax - tot A ax (shd A ax)) (by omega) (by omega)
      have hgr := grf_eq x3
      have hA1 : ADM I1 (fun t => opn A ax t ∧ tpt A ax t 2 = 3) (fun _ => 1) (fun _ => 9999) := by
        unfold ADM
        rw [x2 36 (by decide), x2 37 (by decide), x2 38 (by decide), x2 39 (by decide)]
        exact hD2
      have hbd := x3.bd
      have c5 : ((o + 5 : Nat) : Int) = o + 5 := by omega
      have c6 : ((o + 6 : Nat) : Int) = o + 6 := by omega
      have j5 : I1 (o + 5) = I0 (o + 5) := by rw [x2 _ (by omega), i5]
      have j6 : I1 (o + 6) = I0 (o + 6) := by rw [x2 _ (by omega), i6]
      obtain ⟨I2, y1, y2, y3, y4⟩ := e_raiseT (J := J) (b := b) (c := c) (r1 := o + 5) (r2 := o + 6) (shL5 ho) (shL6 ho) (by omega) (by omega) hA1 (fun t ht => by have := ht.1.1; omega) (g := g1) (fun j j0 j1 => by
        rw [x2 36 (by decide)] at j1
        have h5 := x4 j j0 j1
        have h6 := hbd.1 (I 37 j)
        rw [x2 37 (by decide), h5]
        rw [h5] at h6
        omega) (fun t t0 t1 => by
        rw [c5, c6, j5, j6, hS5 t t0 t1, hS6 t t0 t1]
        have := hbb t
        omega)
      rw [c6] at y2 y3 y4
      refine ⟨I2, ?_, fun j j0 j1 => ?_, fun a ha ha' => by rw [y2 a ha', x2 a (by omega)]; exact ho2 a ha⟩
      · simp (disch := first | assumption | omega) only [f_X0_stretchTracks_b48, ↓rcL, ↓gIL_0, ↓gIL_10, ↓gIL_11, ↓gIL_12, ↓gIL_13, ↓gIL_14, ↓gIL_15, ↓pIL_0, ↓pIL_10, ↓pIL_11, ↓pIL_12, ↓pIL_13, ↓pIL_14, ↓pIL_15, ↓gRL_1, ↓gRL_2, ↓gRL_3, ↓gRL_4, ↓gRL_5, ↓gRL_6, ↓gRL_7, ↓gRL_8, ↓gRL_9, ↓aIL1, ↓sZL1, ↓lnL1, ↓aIL2, ↓sIL2, ↓lnL2, ↓aIL3, ↓sIL3, ↓lnL3, ↓aIL4, ↓sIL4, ↓lnL4, ↓aIL5, ↓sIL5, ↓lnL5, ↓aIL6, ↓sIL6, ↓lnL6, ↓aIL7, ↓sIL7, ↓lnL7, ↓rc36, ↓gI36_4, ↓pI36_4, ↓gR36_0, ↓gR36_1, ↓gR36_2, ↓gR36_3, ↓aI37, ↓sI37, ↓ln37, ↓aI38, ↓sI38, ↓ln38, ↓aI39, ↓sI39, ↓ln39, ↓aI40, ↓sI40, ↓ln40, ↓c_I, ↓c_J, ↓c_Q, ↓c_V, ↓c_It, ↓c_Jt, ↓c_Vt, ↓k_I, ↓k_J, ↓n_I, ↓n_V, li0, li1, li2, li3, li4, li5, li6, li7, li8, li9, li10, li11, li12, li13, li14, li15, li16, li17, li18, li19, li20, li21, li22, li23, li24, li25, li26, li27, li28, li29, li30, li31, li32, li33, li34, li35, li36, li37, li38, li39, li40, li41, li42, li44, li48, li57, li63, li64, li65, li97, li99, li100, li101, li102, li104, li105, li106, li109, li114, li120, li128, li130, li300, li514, li999, li1000, li8192, li9999, li65536, li1000000, li1000001, li1000002, li1000003, li1000004, li1000005, li1000006, li1000007, li1000008, li1000009, li1000010, li1000011, li1000012, li1000013, li1000014, li1000015, li1000016, li1000017, li1000018, li1000019, li2147483647, lj0, lj1, W_add, W_sub, W_mul, W_neg, V_add, V_sub, V_mul, V_neg, W_ite, W_le, W_lt, W_inj, V_le, V_lt, V_inj, W_V, V_W, lgc_ge, lgc_gt, lgc_le, lgc_lt, lgc_eq, ge_iff_le, gt_iff_lt, h10, h14, n0, es, x1, y1, ↓reduceIte]
      · have hg : str A ax j = shd A ax j + g1 j := by
          unfold str
          rw [if_pos hz]
          show shd A ax j + (grf (fun t => opn A ax t ∧ tpt A ax t 2 = 3) (fun _ => 1) (fun _ => 9999) (asz A ax - tot A ax (shd A ax)).toNat (fun _ => 0)).1 j = _
          rw [hgr]
        rw [hg]
        by_cases hm : opn A ax j ∧ tpt A ax j 2 = 3
        · rw [y4 j hm, c5, j5, j6, hS5 j j0 j1, hS6 j j0 j1]
          have := hbd.1 j
          omega
        · rw [y3 j hm, j6, hS6 j j0 j1, hbd.2.1 j hm]
          omega
    · have n1 : ¬ (nt A ax < k) := by omega
      have e1 := e_isOpen (J := J) (b := b) (c := c) hY (k := k) a2 (by omega)
      have e2 := e_part (J := J) (b := b) (c := c) hY.1 (k := k) (p := 2) a2 (by omega) (by omega) (by omega)
      have hpt := tpt_ok hA (ax := ax) (by omega) (by omega) a2
      by_cases hq : opn A ax k ∧ tpt A ax k 2 = 3
      · rw [bb_pos hq.1] at e1
        have q3 := hq.2
        obtain ⟨I1, z1, z2, z3, z4, z5, z6, z7⟩ := e_admit (I := I) (J := J) (b := b) (c := c) (t := k) (w := 1) (r := 9999) hD.1.1 (by omega) (by omega) (by omega) (by omega) (by omega)
        obtain ⟨y1, y2⟩ := ADM.more hD hz0 (by omega) hq (wk := 1) rfl (rk := if 0 < (9999 : Int) then 9999 else 0) (by split <;> omega) z2 z3 z4 z5 z6
        obtain ⟨I', k1, k2⟩ := ih (k + 1) I1 (by omega) (by omega) (by omega) (hY.fil z7) y1 y2 (by omega) (fun a ha => by rw [z7 a ha]; exact ho2 a ha)
        refine ⟨I', ?_, k2⟩
        rw [← k1]
        simp (disch := first | assumption | omega) only [f_X0_stretchTracks_b48, f_X0_stretchTracks_b83, ↓rcL, ↓gIL_0, ↓gIL_10, ↓gIL_11, ↓gIL_12, ↓gIL_13, ↓gIL_14, ↓gIL_15, ↓pIL_0, ↓pIL_10, ↓pIL_11, ↓pIL_12, ↓pIL_13, ↓pIL_14, ↓pIL_15, ↓gRL_1, ↓gRL_2, ↓gRL_3, ↓gRL_4, ↓gRL_5, ↓gRL_6, ↓gRL_7, ↓gRL_8, ↓gRL_9, ↓aIL1, ↓sZL1, ↓lnL1, ↓aIL2, ↓sIL2, ↓lnL2, ↓aIL3, ↓sIL3, ↓lnL3, ↓aIL4, ↓sIL4, ↓lnL4, ↓aIL5, ↓sIL5, ↓lnL5, ↓aIL6, ↓sIL6, ↓lnL6, ↓aIL7, ↓sIL7, ↓lnL7, ↓rc36, ↓gI36_4, ↓pI36_4, ↓gR36_0, ↓gR36_1, ↓gR36_2, ↓gR36_3, ↓aI37, ↓sI37, ↓ln37, ↓aI38, ↓sI38, ↓ln38, ↓aI39, ↓sI39, ↓ln39, ↓aI40, ↓sI40, ↓ln40, ↓c_I, ↓c_J, ↓c_Q, ↓c_V, ↓c_It, ↓c_Jt, ↓c_Vt, ↓k_I, ↓k_J, ↓n_I, ↓n_V, li0, li1, li2, li3, li4, li5, li6, li7, li8, li9, li10, li11, li12, li13, li14, li15, li16, li17, li18, li19, li20, li21, li22, li23, li24, li25, li26, li27, li28, li29, li30, li31, li32, li33, li34, li35, li36, li37, li38, li39, li40, li41, li42, li44, li48, li57, li63, li64, li65, li97, li99, li100, li101, li102, li104, li105, li106, li109, li114, li120, li128, li130, li300, li514, li999, li1000, li8192, li9999, li65536, li1000000, li1000001, li1000002, li1000003, li1000004, li1000005, li1000006, li1000007, li1000008, li1000009, li1000010, li1000011, li1000012, li1000013, li1000014, li1000015, li1000016, li1000017, li1000018, li1000019, li2147483647, lj0, lj1, W_add, W_sub, W_mul, W_neg, V_add, V_sub, V_mul, V_neg, W_ite, W_le, W_lt, W_inj, V_le, V_lt, V_inj, W_V, V_W, lgc_ge, lgc_gt, lgc_le, lgc_lt, lgc_eq, ge_iff_le, gt_iff_lt, h10, n1, e1, e2, q3, z1, Int.reduceEq, ↓reduceIte]
      · obtain ⟨I', k1, k2⟩ := ih (k + 1) I (by omega) (by omega) (by omega) hY (hD.skip hq) hz0 (by omega) ho2
        refine ⟨I', ?_, k2⟩
        rw [← k1]
        by_cases q1 : opn A ax k
        · have q3 : ¬ tpt A ax k 2 = 3 := fun z => hq ⟨q1, z⟩
          rw [bb_pos q1] at e1
          simp (disch := first | assumption | omega) only [f_X0_stretchTracks_b48, f_X0_stretchTracks_b83, ↓rcL, ↓gIL_0, ↓gIL_10, ↓gIL_11, ↓gIL_12, ↓gIL_13, ↓gIL_14, ↓gIL_15, ↓pIL_0, ↓pIL_10, ↓pIL_11, ↓pIL_12, ↓pIL_13, ↓pIL_14, ↓pIL_15, ↓gRL_1, ↓gRL_2, ↓gRL_3, ↓gRL_4, ↓gRL_5, ↓gRL_6, ↓gRL_7, ↓gRL_8, ↓gRL_9, ↓aIL1, ↓sZL1, ↓lnL1, ↓aIL2, ↓sIL2, ↓lnL2, ↓aIL3, ↓sIL3, ↓lnL3, ↓aIL4, ↓sIL4, ↓lnL4, ↓aIL5, ↓sIL5, ↓lnL5, ↓aIL6, ↓sIL6, ↓lnL6, ↓aIL7, ↓sIL7, ↓lnL7, ↓rc36, ↓gI36_4, ↓pI36_4, ↓gR36_0, ↓gR36_1, ↓gR36_2, ↓gR36_3, ↓aI37, ↓sI37, ↓ln37, ↓aI38, ↓sI38, ↓ln38, ↓aI39, ↓sI39, ↓ln39, ↓aI40, ↓sI40, ↓ln40, ↓c_I, ↓c_J, ↓c_Q, ↓c_V, ↓c_It, ↓c_Jt, ↓c_Vt, ↓k_I, ↓k_J, ↓n_I, ↓n_V, li0, li1, li2, li3, li4, li5, li6, li7, li8, li9, li10, li11, li12, li13, li14, li15, li16, li17, li18, li19, li20, li21, li22, li23, li24, li25, li26, li27, li28, li29, li30, li31, li32, li33, li34, li35, li36, li37, li38, li39, li40, li41, li42, li44, li48, li57, li63, li64, li65, li97, li99, li100, li101, li102, li104, li105, li106, li109, li114, li120, li128, li130, li300, li514, li999, li1000, li8192, li9999, li65536, li1000000, li1000001, li1000002, li1000003, li1000004, li1000005, li1000006, li1000007, li1000008, li1000009, li1000010, li1000011, li1000012, li1000013, li1000014, li1000015, li1000016, li1000017, li1000018, li1000019, li2147483647, lj0, lj1, W_add, W_sub, W_mul, W_neg, V_add, V_sub, V_mul, V_neg, W_ite, W_le, W_lt, W_inj, V_le, V_lt, V_inj, W_V, V_W, lgc_ge, lgc_gt, lgc_le, lgc_lt, lgc_eq, ge_iff_le, gt_iff_lt, h10, n1, e1, e2, q3, Int.reduceEq, ↓reduceIte]
        · rw [bb_neg q1] at e1
          simp (disch := first | assumption | omega) only [f_X0_stretchTracks_b48, f_X0_stretchTracks_b83, ↓rcL, ↓gIL_0, ↓gIL_10, ↓gIL_11, ↓gIL_12, ↓gIL_13, ↓gIL_14, ↓gIL_15, ↓pIL_0, ↓pIL_10, ↓pIL_11, ↓pIL_12, ↓pIL_13, ↓pIL_14, ↓pIL_15, ↓gRL_1, ↓gRL_2, ↓gRL_3, ↓gRL_4, ↓gRL_5, ↓gRL_6, ↓gRL_7, ↓gRL_8, ↓gRL_9, ↓aIL1, ↓sZL1, ↓lnL1, ↓aIL2, ↓sIL2, ↓lnL2, ↓aIL3, ↓sIL3, ↓lnL3, ↓aIL4, ↓sIL4, ↓lnL4, ↓aIL5, ↓sIL5, ↓lnL5, ↓aIL6, ↓sIL6, ↓lnL6, ↓aIL7, ↓sIL7, ↓lnL7, ↓rc36, ↓gI36_4, ↓pI36_4, ↓gR36_0, ↓gR36_1, ↓gR36_2, ↓gR36_3, ↓aI37, ↓sI37, ↓ln37, ↓aI38, ↓sI38, ↓ln38, ↓aI39, ↓sI39, ↓ln39, ↓aI40, ↓sI40, ↓ln40, ↓c_I, ↓c_J, ↓c_Q, ↓c_V, ↓c_It, ↓c_Jt, ↓c_Vt, ↓k_I, ↓k_J, ↓n_I, ↓n_V, li0, li1, li2, li3, li4, li5, li6, li7, li8, li9, li10, li11, li12, li13, li14, li15, li16, li17, li18, li19, li20, li21, li22, li23, li24, li25, li26, li27, li28, li29, li30, li31, li32, li33, li34, li35, li36, li37, li38, li39, li40, li41, li42, li44, li48, li57, li63, li64, li65, li97, li99, li100, li101, li102, li104, li105, li106, li109, li114, li120, li128, li130, li300, li514, li999, li1000, li8192, li9999, li65536, li1000000, li1000001, li1000002, li1000003, li1000004, li1000005, li1000006, li1000007, li1000008, li1000009, li1000010, li1000011, li1000012, li1000013, li1000014, li1000015, li1000016, li1000017, li1000018, li1000019, li2147483647, lj0, lj1, W_add, W_sub, W_mul, W_neg, V_add, V_sub, V_mul, V_neg, W_ite, W_le, W_lt, W_inj, V_le, V_lt, V_inj, W_V, V_W, lgc_ge, lgc_gt, lgc_le, lgc_lt, lgc_eq, ge_iff_le, gt_iff_lt, h10, n1, e1, ↓reduceIte]
theorem e_stretch {I : CF} (hY : LY I A o ax) (hS5 : ∀ k, 0 ≤ k → k < 65 → I (o + 5) k = shd A ax k) :
    ∃ I', f_X0_stretchTracks (Sx I J b c) o 36 = some (Sx I' J b c, xv) ∧ (∀ k, 0 ≤ k → k < 65 → I' (o + 6) k = str A ax k) ∧ ∀ a : Int, (a < 36 ∨ 40 < a) → a ≠ o + 6 → I' a = I a := by
  have hY' := hY
  obtain ⟨⟨ho, hx, h1, hA, hP, hM, hR⟩, h10, h12, h14, h11, h13, hcl⟩ := hY'
  have hob := isL_bd ho
  have hnt := hP.2 ax (by omega) (by omega)
  have hzb := (hA.2.2.2.1 ax (by omega) (by omega)).2
  have hzb1 : -1 ≤ asz A ax ∧ asz A ax ≤ 9999 := hzb.1
  have hcb := hzb.2.2
  have c5 : ((o + 5 : Nat) : Int) = o + 5 := by omega
  have c6 : ((o + 6 : Nat) : Int) = o + 6 := by omega
  have hcp := fun (f : HP → Option XR) => c_p (I := I) (J := J) (b := b) (c := c) (s := o + 5) (d := o + 6) (n0 := 65) (n1 := 65) (sp := 0) (dp := 0) (n := 65) (f := f) (shL5 ho) (shL6 ho) (by decide) (by decide) (by omega) (by omega) (by omega) (by omega) (by omega)
  rw [c5, c6] at hcp
  have w14 : cpf I (o + 5) 0 (o + 6) 0 65 o 14 = asz A ax := by rw [cp_obj (by omega)]; exact h14
  have w0 : cpf I (o + 5) 0 (o + 6) 0 65 o 0 = ax := by rw [cp_obj (by omega)]; exact h1
  have es := e_setting (J := J) (b := b) (c := c) (hM.fr (I' := cpf I (o + 5) 0 (o + 6) 0 65) (fun a a0 a1 => cp_obj (by omega))) (ax := ax) (s := 2) (by omega) (by omega) (by omega) (by omega)
  have hS6 : ∀ k, 0 ≤ k → k < 65 → cpf I (o + 5) 0 (o + 6) 0 65 (o + 6) k = shd A ax k := fun k k0 k1 => by
    rw [cp_in k0 (by omega), show (0 : Int) + (k - 0) = k by omega]
    exact hS5 k k0 k1
  by_cases hz : asz A ax = -1
  · refine ⟨cpf I (o + 5) 0 (o + 6) 0 65, ?_, fun k k0 k1 => ?_, fun a ha ha' => cp_obj ha'⟩
    · simp (disch := first | assumption | omega) only [f_X0_stretchTracks, f_X0_stretchTracks_b41, ↓rcL, ↓gIL_0, ↓gIL_10, ↓gIL_11, ↓gIL_12, ↓gIL_13, ↓gIL_14, ↓gIL_15, ↓pIL_0, ↓pIL_10, ↓pIL_11, ↓pIL_12, ↓pIL_13, ↓pIL_14, ↓pIL_15, ↓gRL_1, ↓gRL_2, ↓gRL_3, ↓gRL_4, ↓gRL_5, ↓gRL_6, ↓gRL_7, ↓gRL_8, ↓gRL_9, ↓aIL1, ↓sZL1, ↓lnL1, ↓aIL2, ↓sIL2, ↓lnL2, ↓aIL3, ↓sIL3, ↓lnL3, ↓aIL4, ↓sIL4, ↓lnL4, ↓aIL5, ↓sIL5, ↓lnL5, ↓aIL6, ↓sIL6, ↓lnL6, ↓aIL7, ↓sIL7, ↓lnL7, ↓c_I, ↓c_J, ↓c_Q, ↓c_V, ↓c_It, ↓c_Jt, ↓c_Vt, ↓k_I, ↓k_J, ↓n_I, ↓n_V, li0, li1, li2, li3, li4, li5, li6, li7, li8, li9, li10, li11, li12, li13, li14, li15, li16, li17, li18, li19, li20, li21, li22, li23, li24, li25, li26, li27, li28, li29, li30, li31, li32, li33, li34, li35, li36, li37, li38, li39, li40, li41, li42, li44, li48, li57, li63, li64, li65, li97, li99, li100, li101, li102, li104, li105, li106, li109, li114, li120, li128, li130, li300, li514, li999, li1000, li8192, li9999, li65536, li1000000, li1000001, li1000002, li1000003, li1000004, li1000005, li1000006, li1000007, li1000008, li1000009, li1000010, li1000011, li1000012, li1000013, li1000014, li1000015, li1000016, li1000017, li1000018, li1000019, li2147483647, lj0, lj1, W_add, W_sub, W_mul, W_neg, V_add, V_sub, V_mul, V_neg, W_ite, W_le, W_lt, W_inj, V_le, V_lt, V_inj, W_V, V_W, lgc_ge, lgc_gt, lgc_le, lgc_lt, lgc_eq, ge_iff_le, gt_iff_lt, hcp, w14, hz, ↓reduceIte]
    · rw [hS6 k k0 k1]
      unfold str
      rw [if_neg (fun z => z.1 hz)]
  · by_cases hcc : stg A ax 2 = 0
    · have e2 := e_startAnew (I := cpf I (o + 5) 0 (o + 6) 0 65) (J := J) (b := b) (c := c)
      have hw : ∀ a : Int, (a < 36 ∨ 40 < a) → a ≠ o + 6 → uI (cpf I (o + 5) 0 (o + 6) 0 65) 36 4 0 a = I a := fun a ha ha' => by rw [u_obj (by omega), cp_obj ha']
      have hY2 : LY (uI (cpf I (o + 5) 0 (o + 6) 0 65) 36 4 0) A o ax := hY.fr (fun k _ _ => by rw [hw o (by omega) (by omega)]) (hw _ (by omega) (by omega)) (fun a ha => hw a (by omega) (by omega))
      obtain ⟨I', k1, k2, k3⟩ := e_stretch_L (J := J) (b := b) (c := c) (A := A) (o := o) (ax := ax) (I0 := uI (cpf I (o + 5) 0 (o + 6) 0 65) 36 4 0) (by rw [hw _ (by omega) (by omega)]; exact hS5) (fun k k0 k1 => by rw [u_obj (by omega)]; exact hS6 k k0 k1) ⟨hz, hcc⟩ FU 1 _ (by unfold FU; omega) (by omega) (by omega) hY2 (ADM.none u_eq (fun t ht => by have := ht.1.1.1; omega)) (fun j j0 j1 => by rw [u_eq] at j1; omega) (by rw [u_eq]; omega) (fun _ _ => rfl)
      refine ⟨I', ?_, k2, fun a ha ha' => by rw [k3 a ha ha', hw a ha ha']⟩
      rw [← k1]
      simp (disch := first | assumption | omega) only [f_X0_stretchTracks, ↓rcL, ↓gIL_0, ↓gIL_10, ↓gIL_11, ↓gIL_12, ↓gIL_13, ↓gIL_14, ↓gIL_15, ↓pIL_0, ↓pIL_10, ↓pIL_11, ↓pIL_12, ↓pIL_13, ↓pIL_14, ↓pIL_15, ↓gRL_1, ↓gRL_2, ↓gRL_3, ↓gRL_4, ↓gRL_5, ↓gRL_6, ↓gRL_7, ↓gRL_8, ↓gRL_9, ↓aIL1, ↓sZL1, ↓lnL1, ↓aIL2, ↓sIL2, ↓lnL2, ↓aIL3, ↓sIL3, ↓lnL3, ↓aIL4, ↓sIL4, ↓lnL4, ↓aIL5, ↓sIL5, ↓lnL5, ↓aIL6, ↓sIL6, ↓lnL6, ↓aIL7, ↓sIL7, ↓lnL7, ↓rc36, ↓gI36_4, ↓pI36_4, ↓gR36_0, ↓gR36_1, ↓gR36_2, ↓gR36_3, ↓aI37, ↓sI37, ↓ln37, ↓aI38, ↓sI38, ↓ln38, ↓aI39, ↓sI39, ↓ln39, ↓aI40, ↓sI40, ↓ln40, ↓rc8, ↓gI8_4, ↓gI8_5, ↓gI8_6, ↓pI8_4, ↓pI8_5, ↓pZ8_6, ↓gR8_0, ↓gR8_1, ↓gR8_2, ↓gR8_3, ↓aI9, ↓sI9, ↓ln9, ↓aI10, ↓sI10, ↓ln10, ↓aI11, ↓sI11, ↓ln11, ↓aI12, ↓sI12, ↓ln12, ↓c_I, ↓c_J, ↓c_Q, ↓c_V, ↓c_It, ↓c_Jt, ↓c_Vt, ↓k_I, ↓k_J, ↓n_I, ↓n_V, li0, li1, li2, li3, li4, li5, li6, li7, li8, li9, li10, li11, li12, li13, li14, li15, li16, li17, li18, li19, li20, li21, li22, li23, li24, li25, li26, li27, li28, li29, li30, li31, li32, li33, li34, li35, li36, li37, li38, li39, li40, li41, li42, li44, li48, li57, li63, li64, li65, li97, li99, li100, li101, li102, li104, li105, li106, li109, li114, li120, li128, li130, li300, li514, li999, li1000, li8192, li9999, li65536, li1000000, li1000001, li1000002, li1000003, li1000004, li1000005, li1000006, li1000007, li1000008, li1000009, li1000010, li1000011, li1000012, li1000013, li1000014, li1000015, li1000016, li1000017, li1000018, li1000019, li2147483647, lj0, lj1, W_add, W_sub, W_mul, W_neg, V_add, V_sub, V_mul, V_neg, W_ite, W_le, W_lt, W_inj, V_le, V_lt, V_inj, W_V, V_W, lgc_ge, lgc_gt, lgc_le, lgc_lt, lgc_eq, ge_iff_le, gt_iff_lt, hcp, w14, w0, hz, es, hcc, e2, ↓reduceIte]
    · refine ⟨cpf I (o + 5) 0 (o + 6) 0 65, ?_, fun k k0 k1 => ?_, fun a ha ha' => cp_obj ha'⟩
      · simp (disch := first | assumption | omega) only [f_X0_stretchTracks, f_X0_stretchTracks_b41, ↓rcL, ↓gIL_0, ↓gIL_10, ↓gIL_11, ↓gIL_12, ↓gIL_13, ↓gIL_14, ↓gIL_15, ↓pIL_0, ↓pIL_10, ↓pIL_11, ↓pIL_12, ↓pIL_13, ↓pIL_14, ↓pIL_15, ↓gRL_1, ↓gRL_2, ↓gRL_3, ↓gRL_4, ↓gRL_5, ↓gRL_6, ↓gRL_7, ↓gRL_8, ↓gRL_9, ↓aIL1, ↓sZL1, ↓lnL1, ↓aIL2, ↓sIL2, ↓lnL2, ↓aIL3, ↓sIL3, ↓lnL3, ↓aIL4, ↓sIL4, ↓lnL4, ↓aIL5, ↓sIL5, ↓lnL5, ↓aIL6, ↓sIL6, ↓lnL6, ↓aIL7, ↓sIL7, ↓lnL7, ↓rc8, ↓gI8_4, ↓gI8_5, ↓gI8_6, ↓pI8_4, ↓pI8_5, ↓pZ8_6, ↓gR8_0, ↓gR8_1, ↓gR8_2, ↓gR8_3, ↓aI9, ↓sI9, ↓ln9, ↓aI10, ↓sI10, ↓ln10, ↓aI11, ↓sI11, ↓ln11, ↓aI12, ↓sI12, ↓ln12, ↓c_I, ↓c_J, ↓c_Q, ↓c_V, ↓c_It, ↓c_Jt, ↓c_Vt, ↓k_I, ↓k_J, ↓n_I, ↓n_V, li0, li1, li2, li3, li4, li5, li6, li7, li8, li9, li10, li11, li12, li13, li14, li15, li16, li17, li18, li19, li20, li21, li22, li23, li24, li25, li26, li27, li28, li29, li30, li31, li32, li33, li34, li35, li36, li37, li38, li39, li40, li41, li42, li44, li48, li57, li63, li64, li65, li97, li99, li100, li101, li102, li104, li105, li106, li109, li114, li120, li128, li130, li300, li514, li999, li1000, li8192, li9999, li65536, li1000000, li1000001, li1000002, li1000003, li1000004, li1000005, li1000006, li1000007, li1000008, li1000009, li1000010, li1000011, li1000012, li1000013, li1000014, li1000015, li1000016, li1000017, li1000018, li1000019, li2147483647, lj0, lj1, W_add, W_sub, W_mul, W_neg, V_add, V_sub, V_mul, V_neg, W_ite, W_le, W_lt, W_inj, V_le, V_lt, V_inj, W_V, V_W, lgc_ge, lgc_gt, lgc_le, lgc_lt, lgc_eq, ge_iff_le, gt_iff_lt, hcp, w14, w0, hz, es, hcc, ↓reduceIte]
      · rw [hS6 k k0 k1]
        unfold str
        rw [if_neg (fun z => hcc z.2)]
end StretchE

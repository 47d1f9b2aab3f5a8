/-! ===== the engine's Fractions: with a size ===== -/
theorem mul_bds {a b A B : Int} (a0 : -A ≤ a) (a1 : a ≤ A) (b0 : 0 ≤ b) (b1 : b ≤ B) (hA : 0 ≤ A) : -(A * B) ≤ a * b ∧ a * b ≤ A * B := by
  have h1 : a * b ≤ A * b := Int.mul_le_mul_of_nonneg_right a1 b0
  have h2 : A * b ≤ A * B := Int.mul_le_mul_of_nonneg_left b1 hA
  have h3 : (-A) * b ≤ a * b := Int.mul_le_mul_of_nonneg_right a0 b0
  rw [Int.neg_mul] at h3
  omega
theorem sN_add {f g : Int → Int} : ∀ n : Nat, sN (fun k => f k + g k) n = sN f n + sN g n := by
  intro n
  induction n with
  | zero => rfl
  | succ n ih =>
    show sN (fun k => f k + g k) n + (f n + g n) = (sN f n + f n) + (sN g n + g n)
    rw [ih]
    omega
theorem rs_add {f g : Int → Int} {a b : Int} : rs (fun k => f k + g k) a b = rs f a b + rs g a b := sN_add _
theorem rs_lt {f g : Int → Int} {a b k : Int} (h : ∀ j, a ≤ j → j ≤ b → f j ≤ g j) (k0 : a ≤ k) (k1 : k ≤ b) (hk : f k < g k) : rs f a b < rs g a b := by
  have h1 : rs g a b = rs (fun j => f j + (g j - f j)) a b := rs_congr fun j _ _ => by omega
  rw [h1, rs_add]
  have h2 := rs_ge (f := fun j => g j - f j) (a := a) (b := b) (k := k) (fun j j0 j1 => by have := h j j0 j1; omega) k0 k1
  have h3 : g k - f k ≤ rs (fun j => g j - f j) a b := h2
  omega
theorem fxs_bd {A : CF} (hA : okA A) (hP : plB A) {ax : Int} (x0 : 0 ≤ ax) (x1 : ax < 2) (act : Int → Prop) : (0 ≤ fxs A ax act ∧ fxs A ax act ≤ 62937) ∧ ∀ k, 1 ≤ k → k ≤ nt A ax → act k → tpt A ax k 3 ≤ fxs A ax act := by
  have hnt := hP.2 ax x0 x1
  have h01 : ∀ k, 1 ≤ k → k ≤ nt A ax → 0 ≤ cif (act k) (tpt A ax k 3) 0 ∧ cif (act k) (tpt A ax k 3) 0 ≤ 999 := fun k k0 k1 => by
    have := (tpt_ok hA x0 x1 k0).2.2.2.1
    by_cases q : act k
    · rw [cif_pos q]
      exact this
    · rw [cif_neg q]
      omega
  have h2 := rs_nonneg (f := fun k => cif (act k) (tpt A ax k 3) 0) (a := 1) (b := nt A ax) (fun k k0 k1 => (h01 k k0 k1).1)
  have h3 := rs_le (f := fun k => cif (act k) (tpt A ax k 3) 0) (a := 1) (b := nt A ax) (M := 999) (n := 63) (fun k k0 k1 => (h01 k k0 k1).2) (by omega) (by omega)
  refine ⟨⟨h2, by unfold fxs; omega⟩, fun k k0 k1 hk => ?_⟩
  have h4 := rs_ge (f := fun k => cif (act k) (tpt A ax k 3) 0) (a := 1) (b := nt A ax) (k := k) (fun k k0 k1 => (h01 k k0 k1).1) k0 k1
  have h5 : cif (act k) (tpt A ax k 3) 0 ≤ fxs A ax act := h4
  rw [cif_pos hk] at h5
  exact h5
theorem lfo_bd {A : CF} (hA : okA A) (hP : plB A) {ax : Int} (x0 : 0 ≤ ax) (x1 : ax < 2) (act : Int → Prop) : -700000 ≤ lfo A ax act ∧ lfo A ax act ≤ 9999 := by
  have hnt := hP.2 ax x0 x1
  have h01 : ∀ k, 0 ≤ cif (act k) 0 (grw A ax k) ∧ cif (act k) 0 (grw A ax k) ≤ 11000 := fun k => by
    have := (grw_bd hA hP x0 x1 k).1
    by_cases q : act k
    · rw [cif_pos q]
      omega
    · rw [cif_neg q]
      exact this
  have h2 := rs_nonneg (f := fun k => cif (act k) 0 (grw A ax k)) (a := 1) (b := nt A ax) (fun k k0 k1 => (h01 k).1)
  have h3 := rs_le (f := fun k => cif (act k) 0 (grw A ax k)) (a := 1) (b := nt A ax) (M := 11000) (n := 63) (fun k k0 k1 => (h01 k).2) (by omega) (by omega)
  have h4 := gut_bd hA hP x0 x1
  have h5 := (hA.2.2.2.1 ax x0 x1).2.1
  have h5 : -1 ≤ asz A ax ∧ asz A ax ≤ 9999 := h5
  unfold lfo
  omega
section FracE
variable {b : Nat} {c : Bool} {A : CF} {o : Nat} {ax : Int}
def FX (I A : CF) (o : Nat) (ax : Int) : Prop := LY I A o ax ∧ ∀ k, 0 ≤ k → k < 65 → I (o + 4) k = grw A ax k
theorem FX.fr {I I' : CF} (h : FX I A o ax) (hf : ∀ a : Int, a < 44 → a ≠ o + 5 → I' a = I a) : FX I' A o ax := by
  have hob := isL_bd h.1.1.1
  refine ⟨h.1.fr (fun k _ _ => by rw [hf o (by omega) (by omega)]) (hf _ (by omega) (by omega)) (fun a ha => hf a (by omega) (by omega)), ?_⟩
  rw [hf _ (by omega) (by omega)]
  exact h.2
theorem e_size3 {I J : CF} (h : FX I A o ax) {k : Int} (k0 : 1 ≤ k) (k1 : k ≤ nt A ax) : f_X0_trackSize (Sx I J b c) o (iW k) (iW 3) = some (Sx I J b c, xi (iW (grw A ax k))) := by
  have hX := h.1.1
  obtain ⟨ho, hx, h1, hA, hP, hM, hR⟩ := hX
  have hob := isL_bd ho
  have hnt := hP.2 ax (by omega) (by omega)
  rw [e_trackSize h.1 k0 k1 (by omega) (by omega), show (o : Int) + 1 + 3 = o + 4 by omega, h.2 k (by omega) (by omega)]
  by_cases q : col A ax k
  · rw [cif_pos q, (grw_bd hA hP (ax := ax) (by omega) (by omega) k).2 (fun z => z.2 q)]
  · rw [cif_neg q]
theorem e_lfo_L {I : CF} {act : Int → Prop} (h : FX I A o ax) (hact : ∀ k, 1 ≤ k → k ≤ nt A ax → I 45 k = bb (act k)) : ∀ (fuel : Nat) (k : Int) (J J0 : CF), nt A ax - k + 1 < fuel → 1 ≤ k → k ≤ nt A ax + 1 → J 44 2 = asz A ax - gut A ax - rs (fun k => cif (act k) 0 (grw A ax k)) 1 (k - 1) → J 44 3 = rs (fun k => cif (act k) (tpt A ax k 3) 0) 1 (k - 1) → (∀ a, a ≠ 44 → J a = J0 a) →
    ∃ J', f_X3_findLeftover_L21 fuel (Sx I J b c) 44 o (iW k) = some (Sx I J' b c, xv) ∧ J' 44 2 = lfo A ax act ∧ J' 44 3 = fxs A ax act ∧ ∀ a, a ≠ 44 → J' a = J0 a := by
  have hX := h.1.1
  obtain ⟨ho, hx, h1, hA, hP, hM, hR⟩ := hX
  have hob := isL_bd ho
  have hnt := hP.2 ax (by omega) (by omega)
  have h10 := h.1.2.1
  intro fuel
  induction fuel with
  | zero => intro k J J0 a1 a2 a3; omega
  | succ fuel ih =>
    intro k J J0 a1 a2 a3 hj2 hj3 hjo
    show ∃ J', f_X3_findLeftover_b21 (f_X3_findLeftover_L21 fuel) (Sx I J b c) 44 o (iW k) = _ ∧ _
    by_cases hk : k = nt A ax + 1
    · have n0 : nt A ax < k := by omega
      have e : k - 1 = nt A ax := by omega
      rw [e] at hj2 hj3
      refine ⟨J, ?_, hj2, hj3, hjo⟩
      simp (disch := first | assumption | omega) only [f_X3_findLeftover_b21, ↓rcL, ↓gIL_0, ↓gIL_10, ↓gIL_11, ↓gIL_12, ↓gIL_13, ↓gIL_14, ↓gIL_15, ↓pIL_0, ↓pIL_10, ↓pIL_11, ↓pIL_12, ↓pIL_13, ↓pIL_14, ↓pIL_15, ↓gRL_1, ↓gRL_2, ↓gRL_3, ↓gRL_4, ↓gRL_5, ↓gRL_6, ↓gRL_7, ↓gRL_8, ↓gRL_9, ↓aIL1, ↓sZL1, ↓lnL1, ↓aIL2, ↓sIL2, ↓lnL2, ↓aIL3, ↓sIL3, ↓lnL3, ↓aIL4, ↓sIL4, ↓lnL4, ↓aIL5, ↓sIL5, ↓lnL5, ↓aIL6, ↓sIL6, ↓lnL6, ↓aIL7, ↓sIL7, ↓lnL7, ↓rc44, ↓gJ44_2, ↓gJ44_3, ↓gJ44_4, ↓gJ44_5, ↓pJ44_2, ↓pJ44_3, ↓pJ44_4, ↓pJ44_5, ↓gR44_0, ↓gR44_1, ↓aI45, ↓sZ45, ↓ln45, ↓aJ46, ↓sJ46, ↓c_I, ↓c_J, ↓c_Q, ↓c_V, ↓c_It, ↓c_Jt, ↓c_Vt, ↓k_I, ↓k_J, ↓n_I, ↓n_V, li0, li1, li2, li3, li4, li5, li6, li7, li8, li9, li10, li11, li12, li13, li14, li15, li16, li17, li18, li19, li20, li21, li22, li23, li24, li25, li26, li27, li28, li29, li30, li31, li32, li33, li34, li35, li36, li37, li38, li39, li40, li41, li42, li44, li48, li57, li63, li64, li65, li97, li99, li100, li101, li102, li104, li105, li106, li109, li114, li120, li128, li130, li300, li514, li999, li1000, li8192, li9999, li65536, li1000000, li1000001, li1000002, li1000003, li1000004, li1000005, li1000006, li1000007, li1000008, li1000009, li1000010, li1000011, li1000012, li1000013, li1000014, li1000015, li1000016, li1000017, li1000018, li1000019, li2147483647, lj0, lj1, W_add, W_sub, W_mul, W_neg, V_add, V_sub, V_mul, V_neg, W_ite, W_le, W_lt, W_inj, V_le, V_lt, V_inj, W_V, V_W, lgc_ge, lgc_gt, lgc_le, lgc_lt, lgc_eq, ge_iff_le, gt_iff_lt, h10, n0, ↓reduceIte]
    · have n1 : ¬ (nt A ax < k) := by omega
      have hak := hact k a2 (by omega)
      have gb := (grw_bd hA hP (ax := ax) (by omega) (by omega) k).1
      have hpt := tpt_ok hA (ax := ax) (by omega) (by omega) a2
      have e1 := e_size3 (J := J) (b := b) (c := c) h (k := k) a2 (by omega)
      have e2 := e_part (J := J) (b := b) (c := c) h.1.1 (k := k) (p := 3) a2 (by omega) (by omega) (by omega)
      have r1 : rs (fun k => cif (act k) 0 (grw A ax k)) 1 (k + 1 - 1) = rs (fun k => cif (act k) 0 (grw A ax k)) 1 (k - 1) + cif (act k) 0 (grw A ax k) := by
        rw [show k + 1 - 1 = k by omega]
        exact rs_s (by omega)
      have r2 : rs (fun k => cif (act k) (tpt A ax k 3) 0) 1 (k + 1 - 1) = rs (fun k => cif (act k) (tpt A ax k 3) 0) 1 (k - 1) + cif (act k) (tpt A ax k 3) 0 := by
        rw [show k + 1 - 1 = k by omega]
        exact rs_s (by omega)
      by_cases q : act k
      · rw [bb_pos q] at hak
        rw [cif_pos q] at r1 r2
        obtain ⟨J', k1, k2⟩ := ih (k + 1) (uI J 44 3 (J 44 3 + tpt A ax k 3)) J0 (by omega) (by omega) (by omega) (by rw [u_ne (by decide), hj2, r1]; omega) (by rw [u_eq, r2, hj3]) (fun a ha => by rw [u_obj ha]; exact hjo a ha)
        refine ⟨J', ?_, k2⟩
        rw [← k1]
        simp (disch := first | assumption | omega) only [f_X3_findLeftover_b21, f_X3_findLeftover_b73, ↓rcL, ↓gIL_0, ↓gIL_10, ↓gIL_11, ↓gIL_12, ↓gIL_13, ↓gIL_14, ↓gIL_15, ↓pIL_0, ↓pIL_10, ↓pIL_11, ↓pIL_12, ↓pIL_13, ↓pIL_14, ↓pIL_15, ↓gRL_1, ↓gRL_2, ↓gRL_3, ↓gRL_4, ↓gRL_5, ↓gRL_6, ↓gRL_7, ↓gRL_8, ↓gRL_9, ↓aIL1, ↓sZL1, ↓lnL1, ↓aIL2, ↓sIL2, ↓lnL2, ↓aIL3, ↓sIL3, ↓lnL3, ↓aIL4, ↓sIL4, ↓lnL4, ↓aIL5, ↓sIL5, ↓lnL5, ↓aIL6, ↓sIL6, ↓lnL6, ↓aIL7, ↓sIL7, ↓lnL7, ↓rc44, ↓gJ44_2, ↓gJ44_3, ↓gJ44_4, ↓gJ44_5, ↓pJ44_2, ↓pJ44_3, ↓pJ44_4, ↓pJ44_5, ↓gR44_0, ↓gR44_1, ↓aI45, ↓sZ45, ↓ln45, ↓aJ46, ↓sJ46, ↓c_I, ↓c_J, ↓c_Q, ↓c_V, ↓c_It, ↓c_Jt, ↓c_Vt, ↓k_I, ↓k_J, ↓n_I, ↓n_V, li0, li1, li2, li3, li4, li5, li6, li7, li8, li9, li10, li11, li12, li13, li14, li15, li16, li17, li18, li19, li20, li21, li22, li23, li24, li25, li26, li27, li28, li29, li30, li31, li32, li33, li34, li35, li36, li37, li38, li39, li40, li41, li42, li44, li48, li57, li63, li64, li65, li97, li99, li100, li101, li102, li104, li105, li106, li109, li114, li120, li128, li130, li300, li514, li999, li1000, li8192, li9999, li65536, li1000000, li1000001, li1000002, li1000003, li1000004, li1000005, li1000006, li1000007, li1000008, li1000009, li1000010, li1000011, li1000012, li1000013, li1000014, li1000015, li1000016, li1000017, li1000018, li1000019, li2147483647, lj0, lj1, W_add, W_sub, W_mul, W_neg, V_add, V_sub, V_mul, V_neg, W_ite, W_le, W_lt, W_inj, V_le, V_lt, V_inj, W_V, V_W, lgc_ge, lgc_gt, lgc_le, lgc_lt, lgc_eq, ge_iff_le, gt_iff_lt, h10, n1, hak, e2, Int.reduceEq, ↓reduceIte]
      · rw [bb_neg q] at hak
        rw [cif_neg q] at r1 r2
        obtain ⟨J', k1, k2⟩ := ih (k + 1) (uI J 44 2 (J 44 2 - grw A ax k)) J0 (by omega) (by omega) (by omega) (by rw [u_eq, hj2, r1]; omega) (by rw [u_ne (by decide), r2, hj3]; omega) (fun a ha => by rw [u_obj ha]; exact hjo a ha)
        refine ⟨J', ?_, k2⟩
        rw [← k1]
        simp (disch := first | assumption | omega) only [f_X3_findLeftover_b21, f_X3_findLeftover_b73, ↓rcL, ↓gIL_0, ↓gIL_10, ↓gIL_11, ↓gIL_12, ↓gIL_13, ↓gIL_14, ↓gIL_15, ↓pIL_0, ↓pIL_10, ↓pIL_11, ↓pIL_12, ↓pIL_13, ↓pIL_14, ↓pIL_15, ↓gRL_1, ↓gRL_2, ↓gRL_3, ↓gRL_4, ↓gRL_5, ↓gRL_6, ↓gRL_7, ↓gRL_8, ↓gRL_9, ↓aIL1, ↓sZL1, ↓lnL1, ↓aIL2, ↓sIL2, ↓lnL2, ↓aIL3, ↓sIL3, ↓lnL3, ↓aIL4, ↓sIL4, ↓lnL4, ↓aIL5, ↓sIL5, ↓lnL5, ↓aIL6, ↓sIL6, ↓lnL6, ↓aIL7, ↓sIL7, ↓lnL7, ↓rc44, ↓gJ44_2, ↓gJ44_3, ↓gJ44_4, ↓gJ44_5, ↓pJ44_2, ↓pJ44_3, ↓pJ44_4, ↓pJ44_5, ↓gR44_0, ↓gR44_1, ↓aI45, ↓sZ45, ↓ln45, ↓aJ46, ↓sJ46, ↓c_I, ↓c_J, ↓c_Q, ↓c_V, ↓c_It, ↓c_Jt, ↓c_Vt, ↓k_I, ↓k_J, ↓n_I, ↓n_V, li0, li1, li2, li3, li4, li5, li6, li7, li8, li9, li10, li11, li12, li13, li14, li15, li16, li17, li18, li19, li20, li21, li22, li23, li24, li25, li26, li27, li28, li29, li30, li31, li32, li33, li34, li35, li36, li37, li38, li39, li40, li41, li42, li44, li48, li57, li63, li64, li65, li97, li99, li100, li101, li102, li104, li105, li106, li109, li114, li120, li128, li130, li300, li514, li999, li1000, li8192, li9999, li65536, li1000000, li1000001, li1000002, li1000003, li1000004, li1000005, li1000006, li1000007, li1000008, li1000009, li1000010, li1000011, li1000012, li1000013, li1000014, li1000015, li1000016, li1000017, li1000018, li1000019, li2147483647, lj0, lj1, W_add, W_sub, W_mul, W_neg, V_add, V_sub, V_mul, V_neg, W_ite, W_le, W_lt, W_inj, V_le, V_lt, V_inj, W_V, V_W, lgc_ge, lgc_gt, lgc_le, lgc_lt, lgc_eq, ge_iff_le, gt_iff_lt, h10, n1, hak, e1, ↓reduceIte]
theorem e_lfo {I J : CF} {act : Int → Prop} (h : FX I A o ax) (hact : ∀ k, 1 ≤ k → k ≤ nt A ax → I 45 k = bb (act k)) : ∃ J', f_X3_findLeftover (Sx I J b c) 44 o = some (Sx I J' b c, xv) ∧ J' 44 2 = lfo A ax act ∧ J' 44 3 = fxs A ax act ∧ ∀ a, a ≠ 44 → J' a = J a := by
  have hX := h.1.1
  obtain ⟨ho, hx, h1, hA, hP, hM, hR⟩ := hX
  have hnt := hP.2 ax (by omega) (by omega)
  have h14 := h.1.2.2.2.1
  have h13 := h.1.2.2.2.2.2.1
  have hgb := gut_bd hA hP (ax := ax) (by omega) (by omega)
  have hzb := (hA.2.2.2.1 ax (by omega) (by omega)).2.1
  have hzb : -1 ≤ asz A ax ∧ asz A ax ≤ 9999 := hzb
  obtain ⟨J', k1, k2⟩ := e_lfo_L (b := b) (c := c) h hact FU 1 (uI (uI J 44 2 (asz A ax - gut A ax)) 44 3 0) J (by unfold FU; omega) (by omega) (by omega) (by rw [u_ne (by decide), u_eq, rs_0 (by omega)]; omega) (by rw [u_eq, rs_0 (by omega)]) (fun a ha => by rw [u_obj ha, u_obj ha])
  refine ⟨J', ?_, k2⟩
  rw [← k1]
  simp (disch := first | assumption | omega) only [f_X3_findLeftover, ↓rcL, ↓gIL_0, ↓gIL_10, ↓gIL_11, ↓gIL_12, ↓gIL_13, ↓gIL_14, ↓gIL_15, ↓pIL_0, ↓pIL_10, ↓pIL_11, ↓pIL_12, ↓pIL_13, ↓pIL_14, ↓pIL_15, ↓gRL_1, ↓gRL_2, ↓gRL_3, ↓gRL_4, ↓gRL_5, ↓gRL_6, ↓gRL_7, ↓gRL_8, ↓gRL_9, ↓aIL1, ↓sZL1, ↓lnL1, ↓aIL2, ↓sIL2, ↓lnL2, ↓aIL3, ↓sIL3, ↓lnL3, ↓aIL4, ↓sIL4, ↓lnL4, ↓aIL5, ↓sIL5, ↓lnL5, ↓aIL6, ↓sIL6, ↓lnL6, ↓aIL7, ↓sIL7, ↓lnL7, ↓rc44, ↓gJ44_2, ↓gJ44_3, ↓gJ44_4, ↓gJ44_5, ↓pJ44_2, ↓pJ44_3, ↓pJ44_4, ↓pJ44_5, ↓gR44_0, ↓gR44_1, ↓aI45, ↓sZ45, ↓ln45, ↓aJ46, ↓sJ46, ↓c_I, ↓c_J, ↓c_Q, ↓c_V, ↓c_It, ↓c_Jt, ↓c_Vt, ↓k_I, ↓k_J, ↓n_I, ↓n_V, li0, li1, li2, li3, li4, li5, li6, li7, li8, li9, li10, li11, li12, li13, li14, li15, li16, li17, li18, li19, li20, li21, li22, li23, li24, li25, li26, li27, li28, li29, li30, li31, li32, li33, li34, li35, li36, li37, li38, li39, li40, li41, li42, li44, li48, li57, li63, li64, li65, li97, li99, li100, li101, li102, li104, li105, li106, li109, li114, li120, li128, li130, li300, li514, li999, li1000, li8192, li9999, li65536, li1000000, li1000001, li1000002, li1000003, li1000004, li1000005, li1000006, li1000007, li1000008, li1000009, li1000010, li1000011, li1000012, li1000013, li1000014, li1000015, li1000016, li1000017, li1000018, li1000019, li2147483647, lj0, lj1, W_add, W_sub, W_mul, W_neg, V_add, V_sub, V_mul, V_neg, W_ite, W_le, W_lt, W_inj, V_le, V_lt, V_inj, W_V, V_W, lgc_ge, lgc_gt, lgc_le, lgc_lt, lgc_eq, ge_iff_le, gt_iff_lt, h14, h13]
theorem e_stop_L {J : CF} {act : Int → Prop} (h2 : J 44 2 = lfo A ax act) (h3 : J 44 3 = fxs A ax act) : ∀ (fuel : Nat) (k : Int) (I I0 : CF), nt A ax - k + 1 < fuel → 1 ≤ k → k ≤ nt A ax + 1 → FX I A o ax → (∀ j, 1 ≤ j → j ≤ nt A ax → I 45 j = if j < k then bb (anx A ax act j) else bb (act j)) → (∀ a, a ≠ 45 → I a = I0 a) →
    ∃ I', f_X3_stopLargeTracks_L4 fuel (Sx I J b c) 44 o (iW (bb (∃ j, 1 ≤ j ∧ j < k ∧ act j ∧ big A ax act j))) (iW k) = some (Sx I' J b c, xi (iW (bb (∃ j, 1 ≤ j ∧ j < nt A ax + 1 ∧ act j ∧ big A ax act j)))) ∧ (∀ j, 1 ≤ j → j ≤ nt A ax → I' 45 j = bb (anx A ax act j)) ∧ ∀ a, a ≠ 45 → I' a = I0 a := by
  intro fuel
  induction fuel with
  | zero => intro k I I0 a1 a2 a3; omega
  | succ fuel ih =>
    intro k I I0 a1 a2 a3 h hI ho2
    show ∃ I', f_X3_stopLargeTracks_b4 (f_X3_stopLargeTracks_L4 fuel) (Sx I J b c) 44 o _ (iW k) = _ ∧ _
    have hX := h.1.1
    obtain ⟨ho, hx, h1, hA, hP, hM, hR⟩ := hX
    have hob := isL_bd ho
    have hnt := hP.2 ax (by omega) (by omega)
    have h10 := h.1.2.1
    by_cases hk : k = nt A ax + 1
    · subst hk
      have n0 : nt A ax < nt A ax + 1 := by omega
      refine ⟨I, ?_, fun j j0 j1 => by rw [hI j j0 j1, if_pos (by omega)], ho2⟩
      simp (disch := first | assumption | omega) only [f_X3_stopLargeTracks_b4, ↓rcL, ↓gIL_0, ↓gIL_10, ↓gIL_11, ↓gIL_12, ↓gIL_13, ↓gIL_14, ↓gIL_15, ↓pIL_0, ↓pIL_10, ↓pIL_11, ↓pIL_12, ↓pIL_13, ↓pIL_14, ↓pIL_15, ↓gRL_1, ↓gRL_2, ↓gRL_3, ↓gRL_4, ↓gRL_5, ↓gRL_6, ↓gRL_7, ↓gRL_8, ↓gRL_9, ↓aIL1, ↓sZL1, ↓lnL1, ↓aIL2, ↓sIL2, ↓lnL2, ↓aIL3, ↓sIL3, ↓lnL3, ↓aIL4, ↓sIL4, ↓lnL4, ↓aIL5, ↓sIL5, ↓lnL5, ↓aIL6, ↓sIL6, ↓lnL6, ↓aIL7, ↓sIL7, ↓lnL7, ↓rc44, ↓gJ44_2, ↓gJ44_3, ↓gJ44_4, ↓gJ44_5, ↓pJ44_2, ↓pJ44_3, ↓pJ44_4, ↓pJ44_5, ↓gR44_0, ↓gR44_1, ↓aI45, ↓sZ45, ↓ln45, ↓aJ46, ↓sJ46, ↓c_I, ↓c_J, ↓c_Q, ↓c_V, ↓c_It, ↓c_Jt, ↓c_Vt, ↓k_I, ↓k_J, ↓n_I, ↓n_V, li0, li1, li2, li3, li4, li5, li6, li7, li8, li9, li10, li11, li12, li13, li14, li15, li16, li17, li18, li19, li20, li21, li22, li23, li24, li25, li26, li27, li28, li29, li30, li31, li32, li33, li34, li35, li36, li37, li38, li39, li40, li41, li42, li44, li48, li57, li63, li64, li65, li97, li99, li100, li101, li102, li104, li105, li106, li109, li114, li120, li128, li130, li300, li514, li999, li1000, li8192, li9999, li65536, li1000000, li1000001, li1000002, li1000003, li1000004, li1000005, li1000006, li1000007, li1000008, li1000009, li1000010, li1000011, li1000012, li1000013, li1000014, li1000015, li1000016, li1000017, li1000018, li1000019, li2147483647, lj0, lj1, W_add, W_sub, W_mul, W_neg, V_add, V_sub, V_mul, V_neg, W_ite, W_le, W_lt, W_inj, V_le, V_lt, V_inj, W_V, V_W, lgc_ge, lgc_gt, lgc_le, lgc_lt, lgc_eq, ge_iff_le, gt_iff_lt, h10, n0, ↓reduceIte]
      exact r_Z (bb_01 _)
    · have n1 : ¬ (nt A ax < k) := by omega
      have hak := hI k a2 (by omega)
      rw [if_neg (by omega)] at hak
      have hpt := tpt_ok hA (ax := ax) (by omega) (by omega) a2
      have gb := (grw_bd hA hP (ax := ax) (by omega) (by omega) k).1
      have lb := lfo_bd hA hP (ax := ax) (by omega) (by omega) act
      have fb := (fxs_bd hA hP (ax := ax) (by omega) (by omega) act).1
      have m1 := mul_bds (a := lfo A ax act) (b := tpt A ax k 3) (A := 700000) (B := 999) (by omega) (by omega) (by omega) (by omega) (by omega)
      have m2 := mul_bd (a := grw A ax k) (b := fxs A ax act) (A := 11000) (B := 62937) (by omega) (by omega) (by omega) (by omega)
      have e2 := e_part (J := J) (b := b) (c := c) h.1.1 (k := k) (p := 3) a2 (by omega) (by omega) (by omega)
      have e3 := h.2 k (by omega) (by omega)
      have same : ¬ (act k ∧ big A ax act k) → ∃ I', f_X3_stopLargeTracks_L4 fuel (Sx I J b c) 44 o (iW (bb (∃ j, 1 ≤ j ∧ j < k ∧ act j ∧ big A ax act j))) (iW (k + 1)) = some (Sx I' J b c, xi (iW (bb (∃ j, 1 ≤ j ∧ j < nt A ax + 1 ∧ act j ∧ big A ax act j)))) ∧ (∀ j, 1 ≤ j → j ≤ nt A ax → I' 45 j = bb (anx A ax act j)) ∧ ∀ a, a ≠ 45 → I' a = I0 a := by
        intro hn
        have hcg : bb (∃ j, 1 ≤ j ∧ j < k ∧ act j ∧ big A ax act j) = bb (∃ j, 1 ≤ j ∧ j < k + 1 ∧ act j ∧ big A ax act j) := bb_congr ⟨fun ⟨j, j0, j1, j2⟩ => ⟨j, j0, by omega, j2⟩, fun ⟨j, j0, j1, j2⟩ => ⟨j, j0, by
          by_cases e : j = k
          · subst e
            exact absurd j2 hn
          · omega, j2⟩⟩
        rw [hcg]
        refine ih (k + 1) I I0 (by omega) (by omega) (by omega) h (fun j j0 j1 => ?_) ho2
        rw [hI j j0 j1]
        by_cases e : j = k
        · subst e
          rw [if_neg (by omega), if_pos (by omega)]
          exact bb_congr ⟨fun z => ⟨z, fun y => hn ⟨z, y⟩⟩, fun z => z.1⟩
        · by_cases e2 : j < k
          · rw [if_pos e2, if_pos (by omega)]
          · rw [if_neg e2, if_neg (by omega)]
      by_cases q : act k
      · rw [bb_pos q] at hak
        by_cases hbig : big A ax act k
        · have hbig' := hbig
          unfold big at hbig'
          have hcg : (1 : Int) = bb (∃ j, 1 ≤ j ∧ j < k + 1 ∧ act j ∧ big A ax act j) := (bb_pos ⟨k, a2, by omega, q, hbig⟩).symm
          obtain ⟨I', k1, k2⟩ := ih (k + 1) (uI I 45 k 0) I0 (by omega) (by omega) (by omega) (h.fr (fun a ha ha' => u_obj (by omega))) (fun j j0 j1 => by
            rw [u_at]
            by_cases e : j = k
            · rw [if_pos e, if_pos (by omega), e, bb_neg (fun z => z.2 hbig)]
            · rw [if_neg e, hI j j0 j1]
              by_cases e2 : j < k
              · rw [if_pos e2, if_pos (by omega)]
              · rw [if_neg e2, if_neg (by omega)]) (fun a ha => by rw [u_obj ha]; exact ho2 a ha)
          refine ⟨I', ?_, k2⟩
          rw [← k1, ← hcg]
          have n2 : ¬ (grw A ax k * fxs A ax act ≤ lfo A ax act * tpt A ax k 3) := by omega
          simp (disch := first | assumption | omega) only [f_X3_stopLargeTracks_b4, f_X3_stopLargeTracks_b62, ↓rcL, ↓gIL_0, ↓gIL_10, ↓gIL_11, ↓gIL_12, ↓gIL_13, ↓gIL_14, ↓gIL_15, ↓pIL_0, ↓pIL_10, ↓pIL_11, ↓pIL_12, ↓pIL_13, ↓pIL_14, ↓pIL_15, ↓gRL_1, ↓gRL_2, ↓gRL_3, ↓gRL_4, ↓gRL_5, ↓gRL_6, ↓gRL_7, ↓gRL_8, ↓gRL_9, ↓aIL1, ↓sZL1, ↓lnL1, ↓aIL2, ↓sIL2, ↓lnL2, ↓aIL3, ↓sIL3, ↓lnL3, ↓aIL4, ↓sIL4, ↓lnL4, ↓aIL5, ↓sIL5, ↓lnL5, ↓aIL6, ↓sIL6, ↓lnL6, ↓aIL7, ↓sIL7, ↓lnL7, ↓rc44, ↓gJ44_2, ↓gJ44_3, ↓gJ44_4, ↓gJ44_5, ↓pJ44_2, ↓pJ44_3, ↓pJ44_4, ↓pJ44_5, ↓gR44_0, ↓gR44_1, ↓aI45, ↓sZ45, ↓ln45, ↓aJ46, ↓sJ46, ↓c_I, ↓c_J, ↓c_Q, ↓c_V, ↓c_It, ↓c_Jt, ↓c_Vt, ↓k_I, ↓k_J, ↓n_I, ↓n_V, li0, li1, li2, li3, li4, li5, li6, li7, li8, li9, li10, li11, li12, li13, li14, li15, li16, li17, li18, li19, li20, li21, li22, li23, li24, li25, li26, li27, li28, li29, li30, li31, li32, li33, li34, li35, li36, li37, li38, li39, li40, li41, li42, li44, li48, li57, li63, li64, li65, li97, li99, li100, li101, li102, li104, li105, li106, li109, li114, li120, li128, li130, li300, li514, li999, li1000, li8192, li9999, li65536, li1000000, li1000001, li1000002, li1000003, li1000004, li1000005, li1000006, li1000007, li1000008, li1000009, li1000010, li1000011, li1000012, li1000013, li1000014, li1000015, li1000016, li1000017, li1000018, li1000019, li2147483647, lj0, lj1, W_add, W_sub, W_mul, W_neg, V_add, V_sub, V_mul, V_neg, W_ite, W_le, W_lt, W_inj, V_le, V_lt, V_inj, W_V, V_W, lgc_ge, lgc_gt, lgc_le, lgc_lt, lgc_eq, ge_iff_le, gt_iff_lt, h10, n1, h2, h3, hak, e2, e3, n2, Int.reduceEq, ↓reduceIte]
        · obtain ⟨I', k1, k2⟩ := same (fun z => hbig z.2)
          refine ⟨I', ?_, k2⟩
          rw [← k1]
          unfold big at hbig
          have n2 : grw A ax k * fxs A ax act ≤ lfo A ax act * tpt A ax k 3 := by omega
          simp (disch := first | assumption | omega) only [f_X3_stopLargeTracks_b4, f_X3_stopLargeTracks_b62, ↓rcL, ↓gIL_0, ↓gIL_10, ↓gIL_11, ↓gIL_12, ↓gIL_13, ↓gIL_14, ↓gIL_15, ↓pIL_0, ↓pIL_10, ↓pIL_11, ↓pIL_12, ↓pIL_13, ↓pIL_14, ↓pIL_15, ↓gRL_1, ↓gRL_2, ↓gRL_3, ↓gRL_4, ↓gRL_5, ↓gRL_6, ↓gRL_7, ↓gRL_8, ↓gRL_9, ↓aIL1, ↓sZL1, ↓lnL1, ↓aIL2, ↓sIL2, ↓lnL2, ↓aIL3, ↓sIL3, ↓lnL3, ↓aIL4, ↓sIL4, ↓lnL4, ↓aIL5, ↓sIL5, ↓lnL5, ↓aIL6, ↓sIL6, ↓lnL6, ↓aIL7, ↓sIL7, ↓lnL7, ↓rc44, ↓gJ44_2, ↓gJ44_3, ↓gJ44_4, ↓gJ44_5, ↓pJ44_2, ↓pJ44_3, ↓pJ44_4, ↓pJ44_5, ↓gR44_0, ↓gR44_1, ↓aI45, ↓sZ45, ↓ln45, ↓aJ46, ↓sJ46, ↓c_I, ↓c_J, ↓c_Q, ↓c_V, ↓c_It, ↓c_Jt, ↓c_Vt, ↓k_I, ↓k_J, ↓n_I, ↓n_V, li0, li1, li2, li3, li4, li5, li6, li7, li8, li9, li10, li11, li12, li13, li14, li15, li16, li17, li18, li19, li20, li21, li22, li23, li24, li25, li26, li27, li28, li29, li30, li31, li32, li33, li34, li35, li36, li37, li38, li39, li40, li41, li42, li44, li48, li57, li63, li64, li65, li97, li99, li100, li101, li102, li104, li105, li106, li109, li114, li120, li128, li130, li300, li514, li999, li1000, li8192, li9999, li65536, li1000000, li1000001, li1000002, li1000003, li1000004, li1000005, li1000006, li1000007, li1000008, li1000009, li1000010, li1000011, li1000012, li1000013, li1000014, li1000015, li1000016, li1000017, li1000018, li1000019, li2147483647, lj0, lj1, W_add, W_sub, W_mul, W_neg, V_add, V_sub, V_mul, V_neg, W_ite, W_le, W_lt, W_inj, V_le, V_lt, V_inj, W_V, V_W, lgc_ge, lgc_gt, lgc_le, lgc_lt, lgc_eq, ge_iff_le, gt_iff_lt, h10, n1, h2, h3, hak, e2, e3, n2, Int.reduceEq, ↓reduceIte]
      · rw [bb_neg q] at hak
        obtain ⟨I', k1, k2⟩ := same (fun z => q z.1)
        refine ⟨I', ?_, k2⟩
        rw [← k1]
        simp (disch := first | assumption | omega) only [f_X3_stopLargeTracks_b4, f_X3_stopLargeTracks_b62, ↓rcL, ↓gIL_0, ↓gIL_10, ↓gIL_11, ↓gIL_12, ↓gIL_13, ↓gIL_14, ↓gIL_15, ↓pIL_0, ↓pIL_10, ↓pIL_11, ↓pIL_12, ↓pIL_13, ↓pIL_14, ↓pIL_15, ↓gRL_1, ↓gRL_2, ↓gRL_3, ↓gRL_4, ↓gRL_5, ↓gRL_6, ↓gRL_7, ↓gRL_8, ↓gRL_9, ↓aIL1, ↓sZL1, ↓lnL1, ↓aIL2, ↓sIL2, ↓lnL2, ↓aIL3, ↓sIL3, ↓lnL3, ↓aIL4, ↓sIL4, ↓lnL4, ↓aIL5, ↓sIL5, ↓lnL5, ↓aIL6, ↓sIL6, ↓lnL6, ↓aIL7, ↓sIL7, ↓lnL7, ↓rc44, ↓gJ44_2, ↓gJ44_3, ↓gJ44_4, ↓gJ44_5, ↓pJ44_2, ↓pJ44_3, ↓pJ44_4, ↓pJ44_5, ↓gR44_0, ↓gR44_1, ↓aI45, ↓sZ45, ↓ln45, ↓aJ46, ↓sJ46, ↓c_I, ↓c_J, ↓c_Q, ↓c_V, ↓c_It, ↓c_Jt, ↓c_Vt, ↓k_I, ↓k_J, ↓n_I, ↓n_V, li0, li1, li2, li3, li4, li5, li6, li7, li8, li9, li10, li11, li12, li13, li14, li15, li16, li17, li18, li19, li20, li21, li22, li23, li24, li25, li26, li27, li28, li29, li30, li31, li32, li33, li34, li35, li36, li37, li38, li39, li40, li41, li42, li44, li48, li57, li63, li64, li65, li97, li99, li100, li101, li102, li104, li105, li106, li109, li114, li120, li128, li130, li300, li514, li999, li1000, li8192, li9999, li65536, li1000000, li1000001, li1000002, li1000003, li1000004, li1000005, li1000006, li1000007, li1000008, li1000009, li1000010, li1000011, li1000012, li1000013, li1000014, li1000015, li1000016, li1000017, li1000018, li1000019, li2147483647, lj0, lj1, W_add, W_sub, W_mul, W_neg, V_add, V_sub, V_mul, V_neg, W_ite, W_le, W_lt, W_inj, V_le, V_lt, V_inj, W_V, V_W, lgc_ge, lgc_gt, lgc_le, lgc_lt, lgc_eq, ge_iff_le, gt_iff_lt, h10, n1, h2, h3, hak, e2, ↓reduceIte]
theorem e_active_L : ∀ (fuel : Nat) (t : Int) (act : Int → Prop) (I J : CF), 65 - t < fuel → 0 ≤ t → t + rs (fun k => bb (act k)) 1 (nt A ax) ≤ 63 → FX I A o ax → (∀ k, act k → 1 ≤ k ∧ k ≤ nt A ax) → (∀ k, 1 ≤ k → k ≤ nt A ax → I 45 k = bb (act k)) →
    ∃ I' J' act', f_X3_findActiveTracks_L4 fuel (Sx I J b c) 44 o (iW 1) (iW t) = some (Sx I' J' b c, xv) ∧ FO (anx A ax) (agd A ax) act act' ∧ (∀ k, act' k → act k) ∧ (∀ k, 1 ≤ k → k ≤ nt A ax → I' 45 k = bb (act' k)) ∧ J' 44 2 = lfo A ax act' ∧ J' 44 3 = fxs A ax act' ∧ (∀ a, a ≠ 45 → I' a = I a) ∧ ∀ a, a ≠ 44 → J' a = J a := by
  intro fuel
  induction fuel with
  | zero =>
    intro t act I J a1 a2 a3
    have := rs_nonneg (f := fun k => bb (act k)) (a := 1) (b := nt A ax) (fun k _ _ => by rcases bb_01 (act k) with h | h <;> omega)
    omega
  | succ fuel ih =>
    intro t act I J a1 a2 a3 h hin hact
    show ∃ I' J' act', f_X3_findActiveTracks_b4 (f_X3_findActiveTracks_L4 fuel) (Sx I J b c) 44 o (iW 1) (iW t) = _ ∧ _
    have h0 := rs_nonneg (f := fun k => bb (act k)) (a := 1) (b := nt A ax) (fun k _ _ => by rcases bb_01 (act k) with h | h <;> omega)
    have hX := h.1.1
    obtain ⟨ho, hx, h1, hA, hP, hM, hR⟩ := hX
    have hnt := hP.2 ax (by omega) (by omega)
    have n1 : ¬ (64 < t) := by omega
    obtain ⟨J1, x1, x2, x3, x4⟩ := e_lfo (b := b) (c := c) (J := J) h hact
    obtain ⟨I1, y1, y2, y3⟩ := e_stop_L (b := b) (c := c) (o := o) x2 x3 FU 1 I I (by unfold FU; omega) (by omega) (by omega) h (fun j j0 j1 => by rw [if_neg (by omega)]; exact hact j j0 j1) (fun _ _ => rfl)
    rw [bb_neg (show ¬ ∃ j, 1 ≤ j ∧ j < (1 : Int) ∧ act j ∧ big A ax act j by rintro ⟨j, j0, j1, -⟩; omega)] at y1
    have y1 : f_X3_stopLargeTracks (Sx I J1 b c) 44 o = _ := y1
    by_cases hg : agd A ax act
    · have hno : ¬ ∃ j, 1 ≤ j ∧ j < nt A ax + 1 ∧ act j ∧ big A ax act j := by
        rintro ⟨j, j0, j1, j2, j3⟩
        exact hg j j2 j3
      rw [bb_neg hno] at y1
      refine ⟨I1, J1, act, ?_, FO.here hg, fun k hk => hk, fun k k0 k1 => ?_, x2, x3, y3, x4⟩
      · have hlast : f_X3_findActiveTracks_L4 fuel (Sx I1 J1 b c) 44 o (iW 0) (iW (t + 1)) = some (Sx I1 J1 b c, xv) := by
          obtain ⟨f2, rfl⟩ : ∃ f2, fuel = f2 + 1 := ⟨fuel - 1, by omega⟩
          show f_X3_findActiveTracks_b4 (f_X3_findActiveTracks_L4 f2) (Sx I1 J1 b c) 44 o (iW 0) (iW (t + 1)) = _
          by_cases q : 64 < t + 1
          · simp (disch := first | assumption | omega) only [f_X3_findActiveTracks_b4, f_X3_findActiveTracks_b31, li0, li1, li2, li3, li4, li5, li6, li7, li8, li9, li10, li11, li12, li13, li14, li15, li16, li17, li18, li19, li20, li21, li22, li23, li24, li25, li26, li27, li28, li29, li30, li31, li32, li33, li34, li35, li36, li37, li38, li39, li40, li41, li42, li44, li48, li57, li63, li64, li65, li97, li99, li100, li101, li102, li104, li105, li106, li109, li114, li120, li128, li130, li300, li514, li999, li1000, li8192, li9999, li65536, li1000000, li1000001, li1000002, li1000003, li1000004, li1000005, li1000006, li1000007, li1000008, li1000009, li1000010, li1000011, li1000012, li1000013, li1000014, li1000015, li1000016, li1000017, li1000018, li1000019, li2147483647, lj0, lj1, W_add, W_sub, W_mul, W_neg, V_add, V_sub, V_mul, V_neg, W_ite, W_le, W_lt, W_inj, V_le, V_lt, V_inj, W_V, V_W, lgc_ge, lgc_gt, lgc_le, lgc_lt, lgc_eq, ge_iff_le, gt_iff_lt, q, ↓reduceIte]
          · simp (disch := first | assumption | omega) only [f_X3_findActiveTracks_b4, f_X3_findActiveTracks_b31, li0, li1, li2, li3, li4, li5, li6, li7, li8, li9, li10, li11, li12, li13, li14, li15, li16, li17, li18, li19, li20, li21, li22, li23, li24, li25, li26, li27, li28, li29, li30, li31, li32, li33, li34, li35, li36, li37, li38, li39, li40, li41, li42, li44, li48, li57, li63, li64, li65, li97, li99, li100, li101, li102, li104, li105, li106, li109, li114, li120, li128, li130, li300, li514, li999, li1000, li8192, li9999, li65536, li1000000, li1000001, li1000002, li1000003, li1000004, li1000005, li1000006, li1000007, li1000008, li1000009, li1000010, li1000011, li1000012, li1000013, li1000014, li1000015, li1000016, li1000017, li1000018, li1000019, li2147483647, lj0, lj1, W_add, W_sub, W_mul, W_neg, V_add, V_sub, V_mul, V_neg, W_ite, W_le, W_lt, W_inj, V_le, V_lt, V_inj, W_V, V_W, lgc_ge, lgc_gt, lgc_le, lgc_lt, lgc_eq, ge_iff_le, gt_iff_lt, q, ↓reduceIte]
        simp (disch := first | assumption | omega) only [f_X3_findActiveTracks_b4, ↓rcL, ↓gIL_0, ↓gIL_10, ↓gIL_11, ↓gIL_12, ↓gIL_13, ↓gIL_14, ↓gIL_15, ↓pIL_0, ↓pIL_10, ↓pIL_11, ↓pIL_12, ↓pIL_13, ↓pIL_14, ↓pIL_15, ↓gRL_1, ↓gRL_2, ↓gRL_3, ↓gRL_4, ↓gRL_5, ↓gRL_6, ↓gRL_7, ↓gRL_8, ↓gRL_9, ↓aIL1, ↓sZL1, ↓lnL1, ↓aIL2, ↓sIL2, ↓lnL2, ↓aIL3, ↓sIL3, ↓lnL3, ↓aIL4, ↓sIL4, ↓lnL4, ↓aIL5, ↓sIL5, ↓lnL5, ↓aIL6, ↓sIL6, ↓lnL6, ↓aIL7, ↓sIL7, ↓lnL7, ↓rc44, ↓gJ44_2, ↓gJ44_3, ↓gJ44_4, ↓gJ44_5, ↓pJ44_2, ↓pJ44_3, ↓pJ44_4, ↓pJ44_5, ↓gR44_0, ↓gR44_1, ↓aI45, ↓sZ45, ↓ln45, ↓aJ46, ↓sJ46, ↓c_I, ↓c_J, ↓c_Q, ↓c_V, ↓c_It, ↓c_Jt, ↓c_Vt, ↓k_I, ↓k_J, ↓n_I, ↓n_V, li0, li1, li2, li3, li4, li5, li6, li7, li8, li9, li10, li11, li12, li13, li14, li15, li16, li17, li18, li19, li20, li21, li22, li23, li24, li25, li26, li27, li28, li29, li30, li31, li32, li33, li34, li35, li36, li37, li38, li39, li40, li41, li42, li44, li48, li57, li63, li64, li65, li97, li99, li100, li101, li102, li104, li105, li106, li109, li114, li120, li128, li130, li300, li514, li999, li1000, li8192, li9999, li65536, li1000000, li1000001, li1000002, li1000003, li1000004, li1000005, li1000006, li1000007, li1000008, li1000009, li1000010, li1000011, li1000012, li1000013, li1000014, li1000015, li1000016, li1000017, li1000018, li1000019, li2147483647, lj0, lj1, W_add, W_sub, W_mul, W_neg, V_add, V_sub, V_mul, V_neg, W_ite, W_le, W_lt, W_inj, V_le, V_lt, V_inj, W_V, V_W, lgc_ge, lgc_gt, lgc_le, lgc_lt, lgc_eq, ge_iff_le, gt_iff_lt, n1, x1, y1, Int.reduceEq, ↓reduceIte]
        exact hlast
      · rw [y2 k k0 k1]
        exact bb_congr ⟨fun z => z.1, fun z => ⟨z, hg k z⟩⟩
    · have hyes : ∃ j, act j ∧ big A ax act j := by
        apply Classical.byContradiction
        intro hn
        exact hg fun j j0 j1 => hn ⟨j, j0, j1⟩
      obtain ⟨j, j0, j1⟩ := hyes
      have hjin := hin j j0
      rw [bb_pos ⟨j, hjin.1, by omega, j0, j1⟩] at y1
      have hlt := rs_lt (f := fun k => bb (anx A ax act k)) (g := fun k => bb (act k)) (a := 1) (b := nt A ax) (k := j) (fun i _ _ => by
        show bb _ ≤ bb _
        by_cases q : anx A ax act i
        · rw [bb_pos q, bb_pos q.1]
          omega
        · rw [bb_neg q]
          rcases bb_01 (act i) with h | h <;> omega) hjin.1 hjin.2 (by
        show bb _ < bb _
        rw [bb_neg (fun z => z.2 j1), bb_pos j0]
        omega)
      obtain ⟨I', J', act', k1, k2, k3, k4, k5, k6, k7, k8⟩ := ih (t + 1) (anx A ax act) I1 J1 (by omega) (by omega) (by omega) (h.fr fun a ha ha' => y3 a (by omega)) (fun k hk => hin k hk.1) y2
      refine ⟨I', J', act', ?_, FO.next hg k2, fun k hk => (k3 k hk).1, k4, k5, k6, fun a ha => by rw [k7 a ha, y3 a ha], fun a ha => by rw [k8 a ha, x4 a ha]⟩
      rw [← k1]
      simp (disch := first | assumption | omega) only [f_X3_findActiveTracks_b4, ↓rcL, ↓gIL_0, ↓gIL_10, ↓gIL_11, ↓gIL_12, ↓gIL_13, ↓gIL_14, ↓gIL_15, ↓pIL_0, ↓pIL_10, ↓pIL_11, ↓pIL_12, ↓pIL_13, ↓pIL_14, ↓pIL_15, ↓gRL_1, ↓gRL_2, ↓gRL_3, ↓gRL_4, ↓gRL_5, ↓gRL_6, ↓gRL_7, ↓gRL_8, ↓gRL_9, ↓aIL1, ↓sZL1, ↓lnL1, ↓aIL2, ↓sIL2, ↓lnL2, ↓aIL3, ↓sIL3, ↓lnL3, ↓aIL4, ↓sIL4, ↓lnL4, ↓aIL5, ↓sIL5, ↓lnL5, ↓aIL6, ↓sIL6, ↓lnL6, ↓aIL7, ↓sIL7, ↓lnL7, ↓rc44, ↓gJ44_2, ↓gJ44_3, ↓gJ44_4, ↓gJ44_5, ↓pJ44_2, ↓pJ44_3, ↓pJ44_4, ↓pJ44_5, ↓gR44_0, ↓gR44_1, ↓aI45, ↓sZ45, ↓ln45, ↓aJ46, ↓sJ46, ↓c_I, ↓c_J, ↓c_Q, ↓c_V, ↓c_It, ↓c_Jt, ↓c_Vt, ↓k_I, ↓k_J, ↓n_I, ↓n_V, li0, li1, li2, li3, li4, li5, li6, li7, li8, li9, li10, li11, li12, li13, li14, li15, li16, li17, li18, li19, li20, li21, li22, li23, li24, li25, li26, li27, li28, li29, li30, li31, li32, li33, li34, li35, li36, li37, li38, li39, li40, li41, li42, li44, li48, li57, li63, li64, li65, li97, li99, li100, li101, li102, li104, li105, li106, li109, li114, li120, li128, li130, li300, li514, li999, li1000, li8192, li9999, li65536, li1000000, li1000001, li1000002, li1000003, li1000004, li1000005, li1000006, li1000007, li1000008, li1000009, li1000010, li1000011, li1000012, li1000013, li1000014, li1000015, li1000016, li1000017, li1000018, li1000019, li2147483647, lj0, lj1, W_add, W_sub, W_mul, W_neg, V_add, V_sub, V_mul, V_neg, W_ite, W_le, W_lt, W_inj, V_le, V_lt, V_inj, W_V, V_W, lgc_ge, lgc_gt, lgc_le, lgc_lt, lgc_eq, ge_iff_le, gt_iff_lt, n1, x1, y1, Int.reduceEq, ↓reduceIte]
end FracE

/-! ===== the reference's filling, pixel by pixel ===== -/
section RFill
variable {J : CF} {b : Nat} {c : Bool}
/-- what a filling has: the tracks that may be filled, weights, rooms, the sizes and what was given -/
def RF (I : CF) (n : Int) (may : Int → Prop) (w f g : Int → Int) : Prop := (I 102 28 = n ∧ 0 ≤ n ∧ n ≤ 63) ∧ (∀ k, may k → 1 ≤ k ∧ k ≤ n) ∧ (∀ k, 1 ≤ k → k ≤ n → I 234 k = bb (may k)) ∧ (∀ k, may k → I 230 k = w k ∧ 0 < w k ∧ w k ≤ 999) ∧ ∀ k, 1 ≤ k → k ≤ n → I 229 k = f k + g k ∧ I 232 k = g k ∧ (0 ≤ g k ∧ g k ≤ 20000) ∧ (0 ≤ f k ∧ f k ≤ 20000000)
theorem r_fill16 {k5 : HP → Nat → Int32 → Int32 → Int32 → Option XR} {I : CF} {n : Int} {may : Int → Prop} {w f g r : Int → Int} {rg bd p : Int} (h : RF I n may w f g) (hbd : bd = 0 ∨ bd = 1) (h231 : ∀ k, 1 ≤ k → k ≤ n → -2147483648 ≤ I 231 k ∧ I 231 k ≤ 2147483647) (hav : ∀ k, may k → ((bd = 0 ∨ I 229 k < I 231 k) ↔ g k < r k)) : ∀ (fuel : Nat) (k x : Int), n - k + 1 < fuel → 1 ≤ k → k ≤ n + 1 → (0 ≤ x ∧ x < k) → PB (av may r g) w g 0 k x →
    ∃ x', f_X8_fill_L16 k5 fuel (Sx I J b c) 102 (iW rg) (iW bd) (iW p) (iW x) (iW k) = f_X8_fill_b16 k5 (f_X8_fill_L16 k5 0) (Sx I J b c) 102 (iW rg) (iW bd) (iW p) (iW x') (iW (n + 1)) ∧ PB (av may r g) w g 0 (n + 1) x' ∧ 0 ≤ x' ∧ x' ≤ n := by
  obtain ⟨⟨hn, hn0, hn1⟩, hin, hma, hw, hfg⟩ := h
  intro fuel
  induction fuel with
  | zero => intro k x a1 a2 a3; omega
  | succ fuel ih =>
    intro k x a1 a2 a3 hx hb
    show ∃ x', f_X8_fill_b16 k5 (f_X8_fill_L16 k5 fuel) (Sx I J b c) 102 (iW rg) (iW bd) (iW p) (iW x) (iW k) = _ ∧ _
    by_cases hk : k = n + 1
    · subst hk
      have n0 : n < n + 1 := by omega
      refine ⟨x, ?_, hb, hx.1, by omega⟩
      unfold f_X8_fill_b16
      rw [gI102_28, hn, if_pos (show iW n < iW (n + 1) by rw [W_lt (by omega) (by omega) (by omega) (by omega)]; exact n0), gI102_28, hn, if_pos (show iW n < iW (n + 1) by rw [W_lt (by omega) (by omega) (by omega) (by omega)]; exact n0)]
    · have n1 : ¬ (n < k) := by omega
      have hmk := hma k a2 (by omega)
      obtain ⟨f1, f2, f3, f4⟩ := hfg k a2 (by omega)
      have b231 := h231 k a2 (by omega)
      by_cases q : may k
      · rw [bb_pos q] at hmk
        have hwk := hw k q
        have hak := hav k q
        -- after the bound
        have go : f_X8_fill_b16 k5 (f_X8_fill_L16 k5 fuel) (Sx I J b c) 102 (iW rg) (iW bd) (iW p) (iW x) (iW k) = if g k < r k then f_X8_fill_b56 k5 (f_X8_fill_L16 k5 fuel) (Sx I J b c) 102 (iW rg) (iW bd) (iW p) (iW x) (iW k) else f_X8_fill_L16 k5 fuel (Sx I J b c) 102 (iW rg) (iW bd) (iW p) (iW x) (iW (k + 1)) := by
          rcases hbd with rfl | rfl
          · rw [if_pos (hak.mp (Or.inl rfl))]
            unfold f_X8_fill_b16
            rw [gI102_28, hn, if_neg (show ¬ iW n < iW k by rw [W_lt (by omega) (by omega) (by omega) (by omega)]; exact n1), gR102_37, aI234 (by omega) (by omega), hmk, if_neg (show ¬ iW 1 = 0 by decide), if_pos (show iW 0 = 0 from rfl)]
          · by_cases q2 : I 231 k ≤ I 229 k
            · rw [if_neg (fun z => by have := hak.mpr z; omega)]
              unfold f_X8_fill_b16
              rw [gI102_28, hn, if_neg (show ¬ iW n < iW k by rw [W_lt (by omega) (by omega) (by omega) (by omega)]; exact n1), gR102_37, aI234 (by omega) (by omega), hmk, if_neg (show ¬ iW 1 = 0 by decide), if_neg (show ¬ iW 1 = 0 by decide), gR102_32, aI229 (by omega) (by omega), gR102_34, aI231 (by omega) (by omega), if_pos (show iW (I 231 k) ≤ iW (I 229 k) by rw [W_le (by omega) (by omega) (by omega) (by omega)]; exact q2)]
              unfold f_X8_fill_b107
              rw [li1, W_add]
            · rw [if_pos (hak.mp (Or.inr (by omega)))]
              unfold f_X8_fill_b16
              rw [gI102_28, hn, if_neg (show ¬ iW n < iW k by rw [W_lt (by omega) (by omega) (by omega) (by omega)]; exact n1), gR102_37, aI234 (by omega) (by omega), hmk, if_neg (show ¬ iW 1 = 0 by decide), if_neg (show ¬ iW 1 = 0 by decide), gR102_32, aI229 (by omega) (by omega), gR102_34, aI231 (by omega) (by omega), if_neg (show ¬ iW (I 231 k) ≤ iW (I 229 k) by rw [W_le (by omega) (by omega) (by omega) (by omega)]; exact q2)]
        rw [go]
        by_cases q3 : g k < r k
        · rw [if_pos q3]
          have hok : av may r g k := ⟨q, q3⟩
          by_cases hx0 : x = 0
          · obtain ⟨x', k1, k2⟩ := ih (k + 1) k (by omega) (by omega) (by omega) (by omega) ((hx0 ▸ hb).first hok (by omega))
            refine ⟨x', ?_, k2⟩
            rw [← k1, hx0]
            simp (disch := first | assumption | omega) only [f_X8_fill_b56, f_X8_fill_b98, f_X8_fill_b105, f_X8_fill_b107, li0, li1, li2, li3, li4, li5, li6, li7, li8, li9, li10, li11, li12, li13, li14, li15, li16, li17, li18, li19, li20, li21, li22, li23, li24, li25, li26, li27, li28, li29, li30, li31, li32, li33, li34, li35, li36, li37, li38, li39, li40, li41, li42, li44, li48, li57, li63, li64, li65, li97, li99, li100, li101, li102, li104, li105, li106, li109, li114, li120, li128, li130, li300, li514, li999, li1000, li8192, li9999, li65536, li1000000, li1000001, li1000002, li1000003, li1000004, li1000005, li1000006, li1000007, li1000008, li1000009, li1000010, li1000011, li1000012, li1000013, li1000014, li1000015, li1000016, li1000017, li1000018, li1000019, li2147483647, lj0, lj1, W_add, W_sub, W_mul, W_neg, V_add, V_sub, V_mul, V_neg, W_ite, W_le, W_lt, W_inj, V_le, V_lt, V_inj, W_V, V_W, lgc_ge, lgc_gt, lgc_le, lgc_lt, lgc_eq, ge_iff_le, gt_iff_lt, ↓reduceIte]
          · have hax : av may r g x := by
              rcases hb with ⟨h1, h2⟩ | ⟨h1, h2, h3⟩
              · exact absurd h1 hx0
              · exact h2.1
            have hwx := hw x hax.1
            obtain ⟨g1, g2, g3, g4⟩ := hfg x (by omega) (by omega)
            have m1 := mul_bd (a := g k + 1) (b := w x) (A := 20001) (B := 999) (by omega) (by omega) (by omega) (by omega)
            have m2 := mul_bd (a := g x + 1) (b := w k) (A := 20001) (B := 999) (by omega) (by omega) (by omega) (by omega)
            have wx := hwx.1
            have wk := hwk.1
            by_cases q4 : (g x + 1) * w k ≤ (g k + 1) * w x
            · obtain ⟨x', k1, k2⟩ := ih (k + 1) x (by omega) (by omega) (by omega) (by omega) (hb.keep hx0 hok (by omega))
              refine ⟨x', ?_, k2⟩
              rw [← k1]
              simp (disch := first | assumption | omega) only [f_X8_fill_b56, f_X8_fill_b98, f_X8_fill_b105, f_X8_fill_b107, ↓rc102, ↓gI102_0, ↓gI102_6, ↓gI102_8, ↓gI102_9, ↓gI102_13, ↓gI102_15, ↓gI102_16, ↓gI102_17, ↓gI102_18, ↓gI102_19, ↓gI102_27, ↓gI102_28, ↓gI102_29, ↓gJ102_39, ↓gJ102_40, ↓gJ102_41, ↓gJ102_42, ↓pI102_0, ↓pI102_6, ↓pI102_9, ↓pI102_13, ↓pI102_15, ↓pI102_16, ↓pI102_17, ↓pI102_27, ↓pI102_28, ↓pI102_29, ↓pZ102_8, ↓pZ102_18, ↓pZ102_19, ↓pJ102_39, ↓pJ102_40, ↓pJ102_41, ↓pJ102_42, ↓gR102_1, ↓gR102_2, ↓gR102_3, ↓gR102_4, ↓gR102_5, ↓gR102_7, ↓gR102_10, ↓gR102_11, ↓gR102_12, ↓gR102_14, ↓gR102_20, ↓gR102_21, ↓gR102_22, ↓gR102_23, ↓gR102_24, ↓gR102_25, ↓gR102_26, ↓gR102_30, ↓gR102_31, ↓gR102_32, ↓gR102_33, ↓gR102_34, ↓gR102_35, ↓gR102_36, ↓gR102_37, ↓gR102_38, ↓aI103, ↓sI103, ↓ln103, ↓aI137, ↓sI137, ↓ln137, ↓aI188, ↓sZ188, ↓ln188, ↓aI189, ↓ln189, ↓aI203, ↓sI203, ↓ln203, ↓aI217, ↓sZ217, ↓ln217, ↓aI218, ↓sI218, ↓ln218, ↓aI219, ↓sI219, ↓ln219, ↓aI220, ↓sZ220, ↓ln220, ↓aI221, ↓sZ221, ↓ln221, ↓aI229, ↓sI229, ↓ln229, ↓aI230, ↓sI230, ↓ln230, ↓aI231, ↓sI231, ↓ln231, ↓aI232, ↓sI232, ↓ln232, ↓aI233, ↓sI233, ↓ln233, ↓aI234, ↓sZ234, ↓ln234, ↓aI235, ↓sZ235, ↓ln235, ↓aR104, ↓aR131, ↓aR134, ↓aR138, ↓aR175, ↓aR179, ↓aR190, ↓aR204, ↓aR222, ↓aR105, ↓aR139, ↓aI106, ↓sI106, ↓lI106, ↓aI132, ↓sI132, ↓lI132, ↓aI135, ↓sI135, ↓lI135, ↓aI140, ↓sI140, ↓lI140, ↓aI176, ↓sI176, ↓lI176, ↓aI180, ↓sI180, ↓lI180, ↓aI191, ↓sI191, ↓lI191, ↓aI205, ↓sI205, ↓lI205, ↓aI223, ↓sI223, ↓lI223, ↓c_I, ↓c_J, ↓c_Q, ↓c_V, ↓c_It, ↓c_Jt, ↓c_Vt, ↓k_I, ↓k_J, ↓n_I, ↓n_V, li0, li1, li2, li3, li4, li5, li6, li7, li8, li9, li10, li11, li12, li13, li14, li15, li16, li17, li18, li19, li20, li21, li22, li23, li24, li25, li26, li27, li28, li29, li30, li31, li32, li33, li34, li35, li36, li37, li38, li39, li40, li41, li42, li44, li48, li57, li63, li64, li65, li97, li99, li100, li101, li102, li104, li105, li106, li109, li114, li120, li128, li130, li300, li514, li999, li1000, li8192, li9999, li65536, li1000000, li1000001, li1000002, li1000003, li1000004, li1000005, li1000006, li1000007, li1000008, li1000009, li1000010, li1000011, li1000012, li1000013, li1000014, li1000015, li1000016, li1000017, li1000018, li1000019, li2147483647, lj0, lj1, W_add, W_sub, W_mul, W_neg, V_add, V_sub, V_mul, V_neg, W_ite, W_le, W_lt, W_inj, V_le, V_lt, V_inj, W_V, V_W, lgc_ge, lgc_gt, lgc_le, lgc_lt, lgc_eq, ge_iff_le, gt_iff_lt, hx0, f2, g2, wx, wk, q4, ↓reduceIte]
            · obtain ⟨x', k1, k2⟩ := ih (k + 1) k (by omega) (by omega) (by omega) (by omega) (hb.take hx0 hok (by omega) (fun j hj => (hw j hj.1).2.1) (by omega))
              refine ⟨x', ?_, k2⟩
              rw [← k1]
              simp (disch := first | assumption | omega) only [f_X8_fill_b56, f_X8_fill_b98, f_X8_fill_b105, f_X8_fill_b107, ↓rc102, ↓gI102_0, ↓gI102_6, ↓gI102_8, ↓gI102_9, ↓gI102_13, ↓gI102_15, ↓gI102_16, ↓gI102_17, ↓gI102_18, ↓gI102_19, ↓gI102_27, ↓gI102_28, ↓gI102_29, ↓gJ102_39, ↓gJ102_40, ↓gJ102_41, ↓gJ102_42, ↓pI102_0, ↓pI102_6, ↓pI102_9, ↓pI102_13, ↓pI102_15, ↓pI102_16, ↓pI102_17, ↓pI102_27, ↓pI102_28, ↓pI102_29, ↓pZ102_8, ↓pZ102_18, ↓pZ102_19, ↓pJ102_39, ↓pJ102_40, ↓pJ102_41, ↓pJ102_42, ↓gR102_1, ↓gR102_2, ↓gR102_3, ↓gR102_4, ↓gR102_5, ↓gR102_7, ↓gR102_10, ↓gR102_11, ↓gR102_12, ↓gR102_14, ↓gR102_20, ↓gR102_21, ↓gR102_22, ↓gR102_23, ↓gR102_24, ↓gR102_25, ↓gR102_26, ↓gR102_30, ↓gR102_31, ↓gR102_32, ↓gR102_33, ↓gR102_34, ↓gR102_35, ↓gR102_36, ↓gR102_37, ↓gR102_38, ↓aI103, ↓sI103, ↓ln103, ↓aI137, ↓sI137, ↓ln137, ↓aI188, ↓sZ188, ↓ln188, ↓aI189, ↓ln189, ↓aI203, ↓sI203, ↓ln203, ↓aI217, ↓sZ217, ↓ln217, ↓aI218, ↓sI218, ↓ln218, ↓aI219, ↓sI219, ↓ln219, ↓aI220, ↓sZ220, ↓ln220, ↓aI221, ↓sZ221, ↓ln221, ↓aI229, ↓sI229, ↓ln229, ↓aI230, ↓sI230, ↓ln230, ↓aI231, ↓sI231, ↓ln231, ↓aI232, ↓sI232, ↓ln232, ↓aI233, ↓sI233, ↓ln233, ↓aI234, ↓sZ234, ↓ln234, ↓aI235, ↓sZ235, ↓ln235, ↓aR104, ↓aR131, ↓aR134, ↓aR138, ↓aR175, ↓aR179, ↓aR190, ↓aR204, ↓aR222, ↓aR105, ↓aR139, ↓aI106, ↓sI106, ↓lI106, ↓aI132, ↓sI132, ↓lI132, ↓aI135, ↓sI135, ↓lI135, ↓aI140, ↓sI140, ↓lI140, ↓aI176, ↓sI176, ↓lI176, ↓aI180, ↓sI180, ↓lI180, ↓aI191, ↓sI191, ↓lI191, ↓aI205, ↓sI205, ↓lI205, ↓aI223, ↓sI223, ↓lI223, ↓c_I, ↓c_J, ↓c_Q, ↓c_V, ↓c_It, ↓c_Jt, ↓c_Vt, ↓k_I, ↓k_J, ↓n_I, ↓n_V, li0, li1, li2, li3, li4, li5, li6, li7, li8, li9, li10, li11, li12, li13, li14, li15, li16, li17, li18, li19, li20, li21, li22, li23, li24, li25, li26, li27, li28, li29, li30, li31, li32, li33, li34, li35, li36, li37, li38, li39, li40, li41, li42, li44, li48, li57, li63, li64, li65, li97, li99, li100, li101, li102, li104, li105, li106, li109, li114, li120, li128, li130, li300, li514, li999, li1000, li8192, li9999, li65536, li1000000, li1000001, li1000002, li1000003, li1000004, li1000005, li1000006, li1000007, li1000008, li1000009, li1000010, li1000011, li1000012, li1000013, li1000014, li1000015, li1000016, li1000017, li1000018, li1000019, li2147483647, lj0, lj1, W_add, W_sub, W_mul, W_neg, V_add, V_sub, V_mul, V_neg, W_ite, W_le, W_lt, W_inj, V_le, V_lt, V_inj, W_V, V_W, lgc_ge, lgc_gt, lgc_le, lgc_lt, lgc_eq, ge_iff_le, gt_iff_lt, hx0, f2, g2, wx, wk, q4, ↓reduceIte]
        · rw [if_neg q3]
          obtain ⟨x', k1, k2⟩ := ih (k + 1) x (by omega) (by omega) (by omega) (by omega) (hb.skip (fun z => q3 z.2))
          exact ⟨x', k1, k2⟩
      · rw [bb_neg q] at hmk
        obtain ⟨x', k1, k2⟩ := ih (k + 1) x (by omega) (by omega) (by omega) (by omega) (hb.skip (fun z => q z.1))
        refine ⟨x', ?_, k2⟩
        rw [← k1]
        unfold f_X8_fill_b16
        rw [gI102_28, hn, if_neg (show ¬ iW n < iW k by rw [W_lt (by omega) (by omega) (by omega) (by omega)]; exact n1), gR102_37, aI234 (by omega) (by omega), hmk, if_pos (show iW 0 = 0 from rfl)]
        unfold f_X8_fill_b107
        rw [li1, W_add]
theorem RF.give {I : CF} {n : Int} {may : Int → Prop} {w f g : Int → Int} {x : Int} (h : RF I n may w f g) (hx : may x) (hg : g x < 20000) : RF (uI (uI I 229 x (I 229 x + 1)) 232 x (I 232 x + 1)) n may w f (up1 g x (g x + 1)) := by
  obtain ⟨⟨hn, hn0, hn1⟩, hin, hma, hw, hfg⟩ := h
  have hxi := hin x hx
  refine ⟨⟨by rw [u_obj (by decide), u_obj (by decide)]; exact hn, hn0, hn1⟩, hin, ?_, ?_, ?_⟩
  · rw [u_obj (by decide), u_obj (by decide)]
    exact hma
  · rw [u_obj (by decide), u_obj (by decide)]
    exact hw
  · intro k k0 k1
    rw [u_obj (by decide), u_at, u_at, u_obj (by decide)]
    obtain ⟨a1, a2, a3, a4⟩ := hfg k k0 k1
    by_cases e : k = x
    · subst e
      rw [if_pos rfl, if_pos rfl, up1_eq]
      exact ⟨by omega, by omega, by omega, a4⟩
    · rw [if_neg e, if_neg e, up1_ne e]
      exact ⟨a1, a2, a3, a4⟩
/-- without bounds -/
theorem r_fillU {n : Int} {may : Int → Prop} {w f : Int → Int} {rg : Int} (hrg : rg = 0 ∨ rg = 1) {I0 : CF} (h231 : ∀ k, 1 ≤ k → k ≤ n → -2147483648 ≤ I0 231 k ∧ I0 231 k ≤ 2147483647) : ∀ (fuel p : Nat) (I : CF) (g : Int → Int), p + 1 < fuel → p ≤ 20000 → RF I n may w f g → (∀ k, 1 ≤ k → k ≤ n → g k + p ≤ 20000) → (∀ a, a ≠ 229 → a ≠ 232 → I a = I0 a) →
    ∃ I' g' s, f_X8_fill_L5 fuel (Sx I J b c) 102 (iW rg) (iW 0) (iW p) = some (Sx I' J b c, xv) ∧ Gr may w (fun _ => 1000000) p g g' s ∧ RF I' n may w f g' ∧ ∀ a, a ≠ 229 → a ≠ 232 → I' a = I0 a := by
  intro fuel
  induction fuel with
  | zero => intro p I g a1; omega
  | succ fuel ih =>
    intro p I g a1 hp2 hF hp hIo
    show ∃ I' g' s, f_X8_fill_b5 (f_X8_fill_L5 fuel) (Sx I J b c) 102 (iW rg) (iW 0) (iW p) = _ ∧ _
    have hF' := hF
    obtain ⟨⟨hn, hn0, hn1⟩, hin, hma, hw, hfg⟩ := hF'
    match p with
    | 0 =>
      refine ⟨I, g, 0, ?_, ⟨rfl, rfl⟩, hF, hIo⟩
      simp (disch := first | assumption | omega) only [f_X8_fill_b5, li0, li1, li2, li3, li4, li5, li6, li7, li8, li9, li10, li11, li12, li13, li14, li15, li16, li17, li18, li19, li20, li21, li22, li23, li24, li25, li26, li27, li28, li29, li30, li31, li32, li33, li34, li35, li36, li37, li38, li39, li40, li41, li42, li44, li48, li57, li63, li64, li65, li97, li99, li100, li101, li102, li104, li105, li106, li109, li114, li120, li128, li130, li300, li514, li999, li1000, li8192, li9999, li65536, li1000000, li1000001, li1000002, li1000003, li1000004, li1000005, li1000006, li1000007, li1000008, li1000009, li1000010, li1000011, li1000012, li1000013, li1000014, li1000015, li1000016, li1000017, li1000018, li1000019, li2147483647, lj0, lj1, W_add, W_sub, W_mul, W_neg, V_add, V_sub, V_mul, V_neg, W_ite, W_le, W_lt, W_inj, V_le, V_lt, V_inj, W_V, V_W, lgc_ge, lgc_gt, lgc_le, lgc_lt, lgc_eq, ge_iff_le, gt_iff_lt, Int.natCast_zero, Int.cast_ofNat_Int, Int.le_refl, ↓reduceIte]
    | p + 1 =>
      have hpb : ((p + 1 : Nat) : Int) ≤ 20000 ∨ n = 0 := by
        by_cases z : n = 0
        · exact Or.inr z
        · have := hp 1 (by omega) (by omega)
          have := (hfg 1 (by omega) (by omega)).2.2.1
          exact Or.inl (by omega)
      by_cases hpb2 : ((p + 1 : Nat) : Int) ≤ 2147483647
      · have n0 : ¬ (((p + 1 : Nat) : Int) ≤ 0) := by omega
        obtain ⟨x, x1, x2, x3, x4⟩ := r_fill16 (J := J) (b := b) (c := c) (k5 := f_X8_fill_L5 fuel) (r := fun _ => 1000000) (rg := rg) (bd := 0) (p := ((p + 1 : Nat) : Int)) hF (Or.inl rfl) (by rw [hIo 231 (by decide) (by decide)]; exact h231) (fun k hk => ⟨fun _ => by have := (hfg k (hin k hk).1 (hin k hk).2).2.2.1; show g k < 1000000; omega, fun _ => Or.inl rfl⟩) FU 1 0 (by unfold FU; omega) (by omega) (by omega) (by omega) (Or.inl ⟨rfl, fun j hj q => by have := hin j hj.1; omega⟩)
        have hb5 : f_X8_fill_b5 (f_X8_fill_L5 fuel) (Sx I J b c) 102 (iW rg) (iW 0) (iW ((p + 1 : Nat) : Int)) = f_X8_fill_b16 (f_X8_fill_L5 fuel) (f_X8_fill_L16 (f_X8_fill_L5 fuel) 0) (Sx I J b c) 102 (iW rg) (iW 0) (iW ((p + 1 : Nat) : Int)) (iW x) (iW (n + 1)) := by
          rw [← x1]
          unfold f_X8_fill_b5
          rw [if_neg (show ¬ iW ((p + 1 : Nat) : Int) ≤ 0 by rw [li0, W_le (by omega) (by omega) (by omega) (by omega)]; exact n0)]
          rfl
        rw [hb5]
        have n2 : n < n + 1 := by omega
        rcases x2.done (fun j hj => by have := hin j hj.1; omega) with ⟨y1, y2⟩ | ⟨y1, y2⟩
        · refine ⟨I, g, p + 1, ?_, Or.inl ⟨y2, rfl, rfl⟩, hF, hIo⟩
          unfold f_X8_fill_b16
          rw [gI102_28, hn, if_pos (show iW n < iW (n + 1) by rw [W_lt (by omega) (by omega) (by omega) (by omega)]; exact n2), y1, if_pos (show iW 0 = 0 from rfl), if_pos (show iW 0 = 0 from rfl)]
          rfl
        · have hmx := y2.1.1
          have hxi := hin x hmx
          have hpx := hp x hxi.1 hxi.2
          obtain ⟨f1, f2, f3, f4⟩ := hfg x hxi.1 hxi.2
          obtain ⟨I', g', s, k1, k2, k3⟩ := ih p (uI (uI I 229 x (I 229 x + 1)) 232 x (I 232 x + 1)) (up1 g x (g x + 1)) (by omega) (by omega) (hF.give hmx (by omega)) (fun k k0 k1 => by
            have := hp k k0 k1
            by_cases e : k = x
            · rw [e, up1_eq]
              omega
            · rw [up1_ne e]
              omega) (fun a ha ha' => by rw [u_obj ha', u_obj ha]; exact hIo a ha ha')
          refine ⟨I', g', s, ?_, Or.inr ⟨x, y2, k2⟩, k3⟩
          rw [← k1]
          have n3 : ((p + 1 : Nat) : Int) + -1 = p := by omega
          have w0 : uI I 229 x (I 229 x + 1) 232 x = I 232 x := by rw [u_obj (by decide)]
          unfold f_X8_fill_b16
          rw [gI102_28, hn, if_pos (show iW n < iW (n + 1) by rw [W_lt (by omega) (by omega) (by omega) (by omega)]; exact n2), if_neg (show ¬ iW x = 0 from fun z => y1 (by rw [li0, W_inj (by omega) (by omega) (by omega) (by omega)] at z; exact z))]
          simp (disch := first | assumption | omega) only [f_X8_fill_b127, f_X8_fill_b162, ↓rc102, ↓gI102_0, ↓gI102_6, ↓gI102_8, ↓gI102_9, ↓gI102_13, ↓gI102_15, ↓gI102_16, ↓gI102_17, ↓gI102_18, ↓gI102_19, ↓gI102_27, ↓gI102_28, ↓gI102_29, ↓gJ102_39, ↓gJ102_40, ↓gJ102_41, ↓gJ102_42, ↓pI102_0, ↓pI102_6, ↓pI102_9, ↓pI102_13, ↓pI102_15, ↓pI102_16, ↓pI102_17, ↓pI102_27, ↓pI102_28, ↓pI102_29, ↓pZ102_8, ↓pZ102_18, ↓pZ102_19, ↓pJ102_39, ↓pJ102_40, ↓pJ102_41, ↓pJ102_42, ↓gR102_1, ↓gR102_2, ↓gR102_3, ↓gR102_4, ↓gR102_5, ↓gR102_7, ↓gR102_10, ↓gR102_11, ↓gR102_12, ↓gR102_14, ↓gR102_20, ↓gR102_21, ↓gR102_22, ↓gR102_23, ↓gR102_24, ↓gR102_25, ↓gR102_26, ↓gR102_30, ↓gR102_31, ↓gR102_32, ↓gR102_33, ↓gR102_34, ↓gR102_35, ↓gR102_36, ↓gR102_37, ↓gR102_38, ↓aI103, ↓sI103, ↓ln103, ↓aI137, ↓sI137, ↓ln137, ↓aI188, ↓sZ188, ↓ln188, ↓aI189, ↓ln189, ↓aI203, ↓sI203, ↓ln203, ↓aI217, ↓sZ217, ↓ln217, ↓aI218, ↓sI218, ↓ln218, ↓aI219, ↓sI219, ↓ln219, ↓aI220, ↓sZ220, ↓ln220, ↓aI221, ↓sZ221, ↓ln221, ↓aI229, ↓sI229, ↓ln229, ↓aI230, ↓sI230, ↓ln230, ↓aI231, ↓sI231, ↓ln231, ↓aI232, ↓sI232, ↓ln232, ↓aI233, ↓sI233, ↓ln233, ↓aI234, ↓sZ234, ↓ln234, ↓aI235, ↓sZ235, ↓ln235, ↓aR104, ↓aR131, ↓aR134, ↓aR138, ↓aR175, ↓aR179, ↓aR190, ↓aR204, ↓aR222, ↓aR105, ↓aR139, ↓aI106, ↓sI106, ↓lI106, ↓aI132, ↓sI132, ↓lI132, ↓aI135, ↓sI135, ↓lI135, ↓aI140, ↓sI140, ↓lI140, ↓aI176, ↓sI176, ↓lI176, ↓aI180, ↓sI180, ↓lI180, ↓aI191, ↓sI191, ↓lI191, ↓aI205, ↓sI205, ↓lI205, ↓aI223, ↓sI223, ↓lI223, ↓c_I, ↓c_J, ↓c_Q, ↓c_V, ↓c_It, ↓c_Jt, ↓c_Vt, ↓k_I, ↓k_J, ↓n_I, ↓n_V, li0, li1, li2, li3, li4, li5, li6, li7, li8, li9, li10, li11, li12, li13, li14, li15, li16, li17, li18, li19, li20, li21, li22, li23, li24, li25, li26, li27, li28, li29, li30, li31, li32, li33, li34, li35, li36, li37, li38, li39, li40, li41, li42, li44, li48, li57, li63, li64, li65, li97, li99, li100, li101, li102, li104, li105, li106, li109, li114, li120, li128, li130, li300, li514, li999, li1000, li8192, li9999, li65536, li1000000, li1000001, li1000002, li1000003, li1000004, li1000005, li1000006, li1000007, li1000008, li1000009, li1000010, li1000011, li1000012, li1000013, li1000014, li1000015, li1000016, li1000017, li1000018, li1000019, li2147483647, lj0, lj1, W_add, W_sub, W_mul, W_neg, V_add, V_sub, V_mul, V_neg, W_ite, W_le, W_lt, W_inj, V_le, V_lt, V_inj, W_V, V_W, lgc_ge, lgc_gt, lgc_le, lgc_lt, lgc_eq, ge_iff_le, gt_iff_lt, y1, w0, n3, ↓reduceIte]
      · exfalso
        omega
/-- with bounds first -/
theorem r_fillB {n : Int} {may : Int → Prop} {w f r : Int → Int} {rg : Int} (hrg : rg = 0 ∨ rg = 1) {I0 : CF} (h231 : ∀ k, 1 ≤ k → k ≤ n → -2147483648 ≤ I0 231 k ∧ I0 231 k ≤ 2147483647) (hroom : ∀ k, may k → ∀ x, 0 ≤ x → x ≤ 20000 → (f k + x < I0 231 k ↔ x < r k)) : ∀ (fuel p : Nat) (I : CF) (g : Int → Int), p + 2 < fuel → p ≤ 20000 → RF I n may w f g → (∀ k, 1 ≤ k → k ≤ n → g k + p ≤ 20000) → (∀ a, a ≠ 229 → a ≠ 232 → I a = I0 a) →
    ∃ I' g1 s1 g2 s2, f_X8_fill_L5 fuel (Sx I J b c) 102 (iW rg) (iW 1) (iW p) = some (Sx I' J b c, xv) ∧ Gr may w r p g g1 s1 ∧ (rg = 1 → Gr may w (fun _ => 1000000) s1 g1 g2 s2) ∧ (rg = 0 → g2 = g1) ∧ RF I' n may w f g2 ∧ ∀ a, a ≠ 229 → a ≠ 232 → I' a = I0 a := by
  intro fuel
  induction fuel with
  | zero => intro p I g a1; omega
  | succ fuel ih =>
    intro p I g a1 hp2 hF hp hIo
    show ∃ I' g1 s1 g2 s2, f_X8_fill_b5 (f_X8_fill_L5 fuel) (Sx I J b c) 102 (iW rg) (iW 1) (iW p) = _ ∧ _
    have hF' := hF
    obtain ⟨⟨hn, hn0, hn1⟩, hin, hma, hw, hfg⟩ := hF'
    match p with
    | 0 =>
      refine ⟨I, g, 0, g, 0, ?_, ⟨rfl, rfl⟩, fun _ => ⟨rfl, rfl⟩, fun _ => rfl, hF, hIo⟩
      simp (disch := first | assumption | omega) only [f_X8_fill_b5, li0, li1, li2, li3, li4, li5, li6, li7, li8, li9, li10, li11, li12, li13, li14, li15, li16, li17, li18, li19, li20, li21, li22, li23, li24, li25, li26, li27, li28, li29, li30, li31, li32, li33, li34, li35, li36, li37, li38, li39, li40, li41, li42, li44, li48, li57, li63, li64, li65, li97, li99, li100, li101, li102, li104, li105, li106, li109, li114, li120, li128, li130, li300, li514, li999, li1000, li8192, li9999, li65536, li1000000, li1000001, li1000002, li1000003, li1000004, li1000005, li1000006, li1000007, li1000008, li1000009, li1000010, li1000011, li1000012, li1000013, li1000014, li1000015, li1000016, li1000017, li1000018, li1000019, li2147483647, lj0, lj1, W_add, W_sub, W_mul, W_neg, V_add, V_sub, V_mul, V_neg, W_ite, W_le, W_lt, W_inj, V_le, V_lt, V_inj, W_V, V_W, lgc_ge, lgc_gt, lgc_le, lgc_lt, lgc_eq, ge_iff_le, gt_iff_lt, Int.natCast_zero, Int.cast_ofNat_Int, Int.le_refl, ↓reduceIte]
    | p + 1 =>
      have n0 : ¬ (((p + 1 : Nat) : Int) ≤ 0) := by omega
      obtain ⟨x, x1, x2, x3, x4⟩ := r_fill16 (J := J) (b := b) (c := c) (k5 := f_X8_fill_L5 fuel) (r := r) (rg := rg) (bd := 1) (p := ((p + 1 : Nat) : Int)) hF (Or.inr rfl) (by rw [hIo 231 (by decide) (by decide)]; exact h231) (fun k hk => by
        have hk1 := hin k hk
        obtain ⟨f1, f2, f3, f4⟩ := hfg k hk1.1 hk1.2
        have := hroom k hk (g k) f3.1 f3.2
        rw [f1, hIo 231 (by decide) (by decide), ← this]
        exact ⟨fun z => z.resolve_left (by decide), Or.inr⟩) FU 1 0 (by unfold FU; omega) (by omega) (by omega) (by omega) (Or.inl ⟨rfl, fun j hj q => by have := hin j hj.1; omega⟩)
      have hb5 : f_X8_fill_b5 (f_X8_fill_L5 fuel) (Sx I J b c) 102 (iW rg) (iW 1) (iW ((p + 1 : Nat) : Int)) = f_X8_fill_b16 (f_X8_fill_L5 fuel) (f_X8_fill_L16 (f_X8_fill_L5 fuel) 0) (Sx I J b c) 102 (iW rg) (iW 1) (iW ((p + 1 : Nat) : Int)) (iW x) (iW (n + 1)) := by
        rw [← x1]
        unfold f_X8_fill_b5
        rw [if_neg (show ¬ iW ((p + 1 : Nat) : Int) ≤ 0 by rw [li0, W_le (by omega) (by omega) (by omega) (by omega)]; exact n0)]
        rfl
      rw [hb5]
      have n2 : n < n + 1 := by omega
      rcases x2.done (fun j hj => by have := hin j hj.1; omega) with ⟨y1, y2⟩ | ⟨y1, y2⟩
      · rcases hrg with rfl | rfl
        · refine ⟨I, g, p + 1, g, 0, ?_, Or.inl ⟨y2, rfl, rfl⟩, fun e => by omega, fun _ => rfl, hF, hIo⟩
          unfold f_X8_fill_b16
          rw [gI102_28, hn, if_pos (show iW n < iW (n + 1) by rw [W_lt (by omega) (by omega) (by omega) (by omega)]; exact n2), y1, if_pos (show iW 0 = 0 from rfl), if_neg (show ¬ iW 1 = 0 by decide), if_pos (show iW 0 = 0 from rfl)]
          rfl
        · obtain ⟨I', g', s, k1, k2, k3⟩ := r_fillU (J := J) (b := b) (c := c) (n := n) (may := may) (w := w) (f := f) (rg := 1) (Or.inr rfl) (I0 := I0) h231 fuel (p + 1) I g (by omega) hp2 hF hp hIo
          refine ⟨I', g, p + 1, g', s, ?_, Or.inl ⟨y2, rfl, rfl⟩, fun _ => k2, fun e => by omega, k3⟩
          rw [← k1]
          unfold f_X8_fill_b16
          rw [gI102_28, hn, if_pos (show iW n < iW (n + 1) by rw [W_lt (by omega) (by omega) (by omega) (by omega)]; exact n2), y1, if_pos (show iW 0 = 0 from rfl), if_neg (show ¬ iW 1 = 0 by decide), if_neg (show ¬ iW 1 = 0 by decide)]
          unfold f_X8_fill_b127
          rw [if_pos (show iW 0 = 0 from rfl)]
          rfl
      · have hmx := y2.1.1
        have hxi := hin x hmx
        have hpx := hp x hxi.1 hxi.2
        obtain ⟨f1, f2, f3, f4⟩ := hfg x hxi.1 hxi.2
        obtain ⟨I', g1, s1, g2, s2, k1, k2, k3⟩ := ih p (uI (uI I 229 x (I 229 x + 1)) 232 x (I 232 x + 1)) (up1 g x (g x + 1)) (by omega) (by omega) (hF.give hmx (by omega)) (fun k k0 k1 => by
          have := hp k k0 k1
          by_cases e : k = x
          · rw [e, up1_eq]
            omega
          · rw [up1_ne e]
            omega) (fun a ha ha' => by rw [u_obj ha', u_obj ha]; exact hIo a ha ha')
        refine ⟨I', g1, s1, g2, s2, ?_, Or.inr ⟨x, y2, k2⟩, k3⟩
        rw [← k1]
        have n3 : ((p + 1 : Nat) : Int) + -1 = p := by omega
        have w0 : uI I 229 x (I 229 x + 1) 232 x = I 232 x := by rw [u_obj (by decide)]
        unfold f_X8_fill_b16
        rw [gI102_28, hn, if_pos (show iW n < iW (n + 1) by rw [W_lt (by omega) (by omega) (by omega) (by omega)]; exact n2), if_neg (show ¬ iW x = 0 from fun z => y1 (by rw [li0, W_inj (by omega) (by omega) (by omega) (by omega)] at z; exact z))]
        simp (disch := first | assumption | omega) only [f_X8_fill_b127, f_X8_fill_b162, ↓rc102, ↓gI102_0, ↓gI102_6, ↓gI102_8, ↓gI102_9, ↓gI102_13, ↓gI102_15, ↓gI102_16, ↓gI102_17, ↓gI102_18, ↓gI102_19, ↓gI102_27, ↓gI102_28, ↓gI102_29, ↓gJ102_39, ↓gJ102_40, ↓gJ102_41, ↓gJ102_42, ↓pI102_0, ↓pI102_6, ↓pI102_9, ↓pI102_13, ↓pI102_15, ↓pI102_16, ↓pI102_17, ↓pI102_27, ↓pI102_28, ↓pI102_29, ↓pZ102_8, ↓pZ102_18, ↓pZ102_19, ↓pJ102_39, ↓pJ102_40, ↓pJ102_41, ↓pJ102_42, ↓gR102_1, ↓gR102_2, ↓gR102_3, ↓gR102_4, ↓gR102_5, ↓gR102_7, ↓gR102_10, ↓gR102_11, ↓gR102_12, ↓gR102_14, ↓gR102_20, ↓gR102_21, ↓gR102_22, ↓gR102_23, ↓gR102_24, ↓gR102_25, ↓gR102_26, ↓gR102_30, ↓gR102_31, ↓gR102_32, ↓gR102_33, ↓gR102_34, ↓gR102_35, ↓gR102_36, ↓gR102_37, ↓gR102_38, ↓aI103, ↓sI103, ↓ln103, ↓aI137, ↓sI137, ↓ln137, ↓aI188, ↓sZ188, ↓ln188, ↓aI189, ↓ln189, ↓aI203, ↓sI203, ↓ln203, ↓aI217, ↓sZ217, ↓ln217, ↓aI218, ↓sI218, ↓ln218, ↓aI219, ↓sI219, ↓ln219, ↓aI220, ↓sZ220, ↓ln220, ↓aI221, ↓sZ221, ↓ln221, ↓aI229, ↓sI229, ↓ln229, ↓aI230, ↓sI230, ↓ln230, ↓aI231, ↓sI231, ↓ln231, ↓aI232, ↓sI232, ↓ln232, ↓aI233, ↓sI233, ↓ln233, ↓aI234, ↓sZ234, ↓ln234, ↓aI235, ↓sZ235, ↓ln235, ↓aR104, ↓aR131, ↓aR134, ↓aR138, ↓aR175, ↓aR179, ↓aR190, ↓aR204, ↓aR222, ↓aR105, ↓aR139, ↓aI106, ↓sI106, ↓lI106, ↓aI132, ↓sI132, ↓lI132, ↓aI135, ↓sI135, ↓lI135, ↓aI140, ↓sI140, ↓lI140, ↓aI176, ↓sI176, ↓lI176, ↓aI180, ↓sI180, ↓lI180, ↓aI191, ↓sI191, ↓lI191, ↓aI205, ↓sI205, ↓lI205, ↓aI223, ↓sI223, ↓lI223, ↓c_I, ↓c_J, ↓c_Q, ↓c_V, ↓c_It, ↓c_Jt, ↓c_Vt, ↓k_I, ↓k_J, ↓n_I, ↓n_V, li0, li1, li2, li3, li4, li5, li6, li7, li8, li9, li10, li11, li12, li13, li14, li15, li16, li17, li18, li19, li20, li21, li22, li23, li24, li25, li26, li27, li28, li29, li30, li31, li32, li33, li34, li35, li36, li37, li38, li39, li40, li41, li42, li44, li48, li57, li63, li64, li65, li97, li99, li100, li101, li102, li104, li105, li106, li109, li114, li120, li128, li130, li300, li514, li999, li1000, li8192, li9999, li65536, li1000000, li1000001, li1000002, li1000003, li1000004, li1000005, li1000006, li1000007, li1000008, li1000009, li1000010, li1000011, li1000012, li1000013, li1000014, li1000015, li1000016, li1000017, li1000018, li1000019, li2147483647, lj0, lj1, W_add, W_sub, W_mul, W_neg, V_add, V_sub, V_mul, V_neg, W_ite, W_le, W_lt, W_inj, V_le, V_lt, V_inj, W_V, V_W, lgc_ge, lgc_gt, lgc_le, lgc_lt, lgc_eq, ge_iff_le, gt_iff_lt, y1, w0, n3, ↓reduceIte]
/-- fill as the definition says it -/
theorem r_fill {n : Int} {may : Int → Prop} {w f r : Int → Int} {rg : Int} {I : CF} (hrg : rg = 0 ∨ rg = 1) (h231 : ∀ k, 1 ≤ k → k ≤ n → -2147483648 ≤ I 231 k ∧ I 231 k ≤ 2147483647) (hroom : ∀ k, may k → ∀ x, 0 ≤ x → x ≤ 20000 → (f k + x < I 231 k ↔ x < r k)) {p : Int} (p0 : -2147483648 ≤ p) (p1 : p ≤ 20000) (hF : RF I n may w f (fun _ => 0)) :
    ∃ I', f_X8_fill (Sx I J b c) 102 (iW p) (iW rg) = some (Sx I' J b c, xv) ∧ (∀ k, 1 ≤ k → k ≤ n → I' 229 k = f k + fil (decide (rg = 1)) may w r p.toNat k) ∧ ∀ a, a ≠ 229 → a ≠ 232 → I' a = I a := by
  have hstart : ∃ q : Nat, q = p.toNat ∧ f_X8_fill (Sx I J b c) 102 (iW p) (iW rg) = f_X8_fill_L5 FU (Sx I J b c) 102 (iW rg) (iW 1) (iW (q : Int)) := by
    by_cases hp : p ≤ 0
    · refine ⟨0, by omega, ?_⟩
      show f_X8_fill_b5 (f_X8_fill_L5 99999) (Sx I J b c) 102 (iW rg) (iW 1) (iW p) = f_X8_fill_b5 (f_X8_fill_L5 99999) (Sx I J b c) 102 (iW rg) (iW 1) (iW ((0 : Nat) : Int))
      unfold f_X8_fill_b5
      rw [if_pos (show iW p ≤ 0 by rw [li0, W_le (by omega) (by omega) (by omega) (by omega)]; exact hp), if_pos (show iW ((0 : Nat) : Int) ≤ 0 by decide)]
    · refine ⟨p.toNat, rfl, ?_⟩
      rw [Int.toNat_of_nonneg (by omega)]
      rfl
  obtain ⟨q, hq, hgo⟩ := hstart
  obtain ⟨I', g1, s1, g2, s2, k1, k2, k3, k4, k5, k6⟩ := r_fillB (J := J) (b := b) (c := c) hrg h231 hroom FU q I (fun _ => 0) (by unfold FU; omega) (by omega) hF (fun k _ _ => by show (0 : Int) + q ≤ 20000; omega) (fun _ _ _ => rfl)
  refine ⟨I', by rw [hgo, k1], fun k k0 k1' => ?_, k6⟩
  rw [(k5.2.2.2.2 k k0 k1').1]
  congr 1
  rw [← hq]
  unfold fil
  rw [grf_eq k2]
  rcases hrg with rfl | rfl
  · rw [if_neg (by decide), k4 rfl]
  · rw [if_pos (by decide)]
    show g2 k = (grf may w (fun _ => 1000000) s1 g1).1 k
    rw [grf_eq (k3 rfl)]
end RFill

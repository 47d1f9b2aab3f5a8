/-! ===== the law's loop ===== -/
theorem g_useC {fl : Option XR} {fq K : HP → Option XR} {K2 : HP → Int64 → Int64 → Option XR} (h : GSP (fun v => v = 0 ∨ v = 1) fl fq) (hK : ∀ h2, Good h2 → ∃ z, K h2 = some z) (hK2 : ∀ h2 j, Good h2 → ∃ z, K2 h2 j j = some z) : ∃ z, (x_nI fl fun h2 i1 => x_rc h2 102 8 <| x_nI (fq h2) fun h4 i3 => x_rc h4 102 8 <| x_nI (f_X8_thrown h4 102) fun h6 i5 => if i5 = i1 then (if i1 = 0 then (x_aJ h6 236 0 fun j7 => if i3 = 0 then K2 h6 0 j7 else K2 h6 1 j7) else K h6) else none) = some z := by
  obtain ⟨h1, h2, t, v, hv, e1, e2, g, e3, e4, e5, e6⟩ := h
  rw [e1, n_I, e4, e2, n_I, e5, e3, n_I, if_pos rfl]
  by_cases q : t = 0
  · rw [if_pos q, e6 q]
    rcases hv with rfl | rfl
    · rw [if_pos (show iW 0 = 0 from rfl)]
      exact hK2 h2 0 g
    · rw [if_neg (show ¬ (iW 1 = 0) by decide)]
      exact hK2 h2 1 g
  · rw [if_neg q]
    exact hK h2 g
theorem chr_w (y : Int32) : ∃ w : Int, (y.toUInt32 % 65536).toInt32 = iW w ∧ 0 ≤ w ∧ w < 65536 := by
  have hb : (y.toUInt32 % 65536).toNat < 65536 := by
    have h : (y.toUInt32 % 65536).toNat = y.toUInt32.toNat % 65536 := UInt32.toNat_mod _ _
    omega
  refine ⟨(y.toUInt32 % 65536).toNat, ?_, by omega, by omega⟩
  apply Int32.toInt_inj.mp
  rw [W_toInt (by omega) (by omega)]
  show (y.toUInt32 % 65536).toBitVec.toInt = _
  exact BitVec.toInt_eq_toNat_of_lt (by
    show 2 * (y.toUInt32 % 65536).toNat < 2 ^ 32
    omega)
theorem l_pos {P : Prop} [Decidable P] {u v : Option XR} (h : P) (e : ∃ z, u = some z) : ∃ z, (if P then u else v) = some z := by
  rw [if_pos h]
  exact e
theorem l_neg {P : Prop} [Decidable P] {u v : Option XR} (h : ¬ P) (e : ∃ z, v = some z) : ∃ z, (if P then u else v) = some z := by
  rw [if_neg h]
  exact e
section Loop
variable {L : Nat} {xs : Nat → Int32} {k23 : HP → Nat → Nat → Nat → Int32 → Option XR} {X : Int}
theorem l_step (hL : L ≤ 2560) (X0 : 0 ≤ X) (X1 : X ≤ 2600) (hk : ∀ h, Good h → (X + 5 ≤ L) → ∃ z, k23 h 0 102 236 (iW (X + 5)) = some z) {h : HP} (hG : Good h) : ∃ z, f_L_law_b23 L xs k23 h 0 102 236 (iW X) = some z := by
  have hq : (Int32.ofNat L - 5 < iW X) = ((L : Int) - 5 < X) := by
    rw [W_ofNat, li5, W_sub, W_lt (by omega) (by omega) (by omega) (by omega)]
  unfold f_L_law_b23
  by_cases qe : (L : Int) - 5 < X
  · rw [if_pos (by rw [hq]; exact qe)]
    exact ⟨_, rfl⟩
  · rw [if_neg (by rw [hq]; exact qe)]
    have hk' : ∀ h, Good h → ∃ z, f_L_law_b2070 L xs k23 h 0 102 236 (iW X) = some z := fun h g => by
      obtain ⟨z, hz⟩ := hk h g (by omega)
      refine ⟨z, ?_⟩
      unfold f_L_law_b2070
      rw [li5, W_add]
      exact hz
    have hs0 : ∀ k, x_sl L (iW X) k = k := fun k => by
      unfold x_sl
      rw [W_toInt (by omega) (by omega), if_pos (by omega)]
    have hs1 : ∀ k, x_sl L (iW X + 1) k = k := fun k => by
      unfold x_sl
      rw [li1, W_add, W_toInt (by omega) (by omega), if_pos (by omega)]
    have hs2 : ∀ k, x_sl L (iW X + 2) k = k := fun k => by
      unfold x_sl
      rw [li2, W_add, W_toInt (by omega) (by omega), if_pos (by omega)]
    have hs3 : ∀ k, x_sl L (iW X + 3) k = k := fun k => by
      unfold x_sl
      rw [li3, W_add, W_toInt (by omega) (by omega), if_pos (by omega)]
    have hs4 : ∀ k, x_sl L (iW X + 4) k = k := fun k => by
      unfold x_sl
      rw [li4, W_add, W_toInt (by omega) (by omega), if_pos (by omega)]
    rw [hs0]
    obtain ⟨I, J, b, c, S, hh, hS, hE, hR⟩ := hG
    subst hh
    generalize (xs (iW X).toNatClampNeg &&& 31) = op
    by_cases c0 : op = 0
    · refine l_pos c0 ?_
      simp only [hs1]
      obtain ⟨w, hw, w0, w1⟩ := chr_w (xs (iW X + 1).toNatClampNeg)
      rw [hw]
      exact g_use (gs_feed hS hE hR w0 w1) (fun h2 g2 => hk' h2 g2)
    refine l_neg c0 ?_
    by_cases c1 : op = 1
    · refine l_pos c1 ?_
      simp only [hs1]
      exact g_use (gs_readTracks hS hE hR _) (fun h2 g2 => hk' h2 g2)
    refine l_neg c1 ?_
    by_cases c2 : op = 2
    · refine l_pos c2 ?_
      simp only [hs1]
      exact g_use (gs_readImplicit hS hE hR _) (fun h2 g2 => hk' h2 g2)
    refine l_neg c2 ?_
    by_cases c3 : op = 3
    · refine l_pos c3 ?_
      simp only [hs1, hs2, hs3]
      exact g_use (gs_definition hS hE hR _ _ _) (fun h2 g2 => hk' h2 g2)
    refine l_neg c3 ?_
    by_cases c4 : op = 4
    · refine l_pos c4 ?_
      simp only [hs1, hs2, hs3]
      exact g_use (gs_set hS hE hR _ _ _) (fun h2 g2 => hk' h2 g2)
    refine l_neg c4 ?_
    by_cases c5 : op = 5
    · refine l_pos c5 ?_
      simp only [hs1, hs2]
      by_cases d : xs (iW X + 2).toNatClampNeg = 0
      · simp only [if_pos d, f_L_law_b515, f_L_law_b542, hs1, hs2]
        exact g_use (gs_setFlow hS hE hR _ (w := 0) (Or.inl rfl)) (fun h2 g2 => hk' h2 g2)
      · simp only [if_neg d, f_L_law_b515, f_L_law_b542, hs1, hs2]
        exact g_use (gs_setFlow hS hE hR _ (w := 1) (Or.inr rfl)) (fun h2 g2 => hk' h2 g2)
    refine l_neg c5 ?_
    by_cases c6 : op = 6
    · refine l_pos c6 ?_
      simp only [hs1, hs2, hs3, hs4]
      exact g_use (gs_addItem hS hE hR _ _ _ _) (fun h2 g2 => hk' h2 g2)
    refine l_neg c6 ?_
    by_cases c7 : op = 7
    · refine l_pos c7 ?_
      simp only [hs1, hs2, hs3, hs4]
      exact g_use (gs_place hS hE hR _ _ _ _) (fun h2 g2 => hk' h2 g2)
    refine l_neg c7 ?_
    by_cases c8 : op = 8
    · refine l_pos c8 ?_
      simp only [hs1, hs2, hs3]
      exact g_use (gs_align hS hE hR _ _ _) (fun h2 g2 => hk' h2 g2)
    refine l_neg c8 ?_
    by_cases c9 : op = 9
    · refine l_pos c9 ?_
      simp only [hs1, hs2, hs3]
      by_cases d : xs (iW X + 3).toNatClampNeg = 0
      · simp only [if_pos d, f_L_law_b869, f_L_law_b908, hs1, hs2, hs3, hs4]
        exact g_use (gs_contribute hS hE hR _ _ _ (w := 0) (Or.inl rfl)) (fun h2 g2 => hk' h2 g2)
      · simp only [if_neg d, f_L_law_b869, f_L_law_b908, hs1, hs2, hs3, hs4]
        exact g_use (gs_contribute hS hE hR _ _ _ (w := 1) (Or.inr rfl)) (fun h2 g2 => hk' h2 g2)
    refine l_neg c9 ?_
    by_cases c10 : op = 10
    · refine l_pos c10 ?_
      simp only [hs1]
      exact g_use (gs_removeItem hS hE hR _) (fun h2 g2 => hk' h2 g2)
    refine l_neg c10 ?_
    by_cases c11 : op = 11
    · refine l_pos c11 ?_
      simp only [hs1, hs2]
      exact g_use (gs_exchange hS hE hR _ _) (fun h2 g2 => hk' h2 g2)
    refine l_neg c11 ?_
    by_cases c12 : op = 12
    · refine l_pos c12 ?_
      obtain ⟨h1, h2, v, e1, e2, g, e3, e4⟩ := gs_items (b := b) (c := c) (J := J) hS hE hR
      rw [e3, e1, n_I, e4, e2, n_I, if_pos rfl]
      exact hk' h2 g
    refine l_neg c12 ?_
    by_cases c13 : op = 13
    · refine l_pos c13 ?_
      simp only [hs1]
      exact g_use (gs_tracks hS hE hR _) (fun h2 g2 => hk' h2 g2)
    refine l_neg c13 ?_
    by_cases c14 : op = 14
    · refine l_pos c14 ?_
      simp only [hs1, hs2]
      exact g_use (gs_startOf hS hE hR _ _) (fun h2 g2 => hk' h2 g2)
    refine l_neg c14 ?_
    by_cases c15 : op = 15
    · refine l_pos c15 ?_
      simp only [hs1, hs2]
      exact g_use (gs_itemIn hS hE hR _ _) (fun h2 g2 => hk' h2 g2)
    refine l_neg c15 ?_
    by_cases c16 : op = 16
    · refine l_pos c16 ?_
      simp only [hs1]
      exact g_use (gs_cells hS hE hR _) (fun h2 g2 => hk' h2 g2)
    refine l_neg c16 ?_
    by_cases c17 : op = 17
    · refine l_pos c17 ?_
      simp only [hs1, hs2, hs3]
      exact g_use (gs_size hS hE hR _ _ _) (fun h2 g2 => hk' h2 g2)
    refine l_neg c17 ?_
    by_cases c18 : op = 18
    · refine l_pos c18 ?_
      simp only [hs1, hs2]
      refine g_useC (K := fun h6 => f_L_law_b1487 L xs k23 h6 0 102 236 (iW X)) (K2 := fun h6 t j => f_L_law_b1481 L xs k23 h6 t j 0 102 236 (iW X)) (gs_isCollapsed hS hE hR _ _) (fun h2 g2 => hk' h2 g2) (fun h2 j g2 => ?_)
      show ∃ z, f_L_law_b1481 L xs k23 h2 j j 0 102 236 (iW X) = some z
      unfold f_L_law_b1481
      rw [if_pos ((lg_cmp_eq _ _).2 rfl)]
      exact hk' h2 g2
    refine l_neg c18 ?_
    by_cases c19 : op = 19
    · refine l_pos c19 ?_
      simp only [hs1, hs2]
      exact g_use (gs_position hS hE hR _ _) (fun h2 g2 => hk' h2 g2)
    refine l_neg c19 ?_
    by_cases c20 : op = 20
    · refine l_pos c20 ?_
      simp only [hs1, hs2]
      exact g_use (gs_total hS hE hR _ _) (fun h2 g2 => hk' h2 g2)
    refine l_neg c20 ?_
    by_cases c21 : op = 21
    · refine l_pos c21 ?_
      simp only [hs1]
      exact g_use (gs_free hS hE hR _) (fun h2 g2 => hk' h2 g2)
    refine l_neg c21 ?_
    by_cases c22 : op = 22
    · refine l_pos c22 ?_
      simp only [hs1, hs2, hs3]
      exact g_use (gs_box hS hE hR _ _ _) (fun h2 g2 => hk' h2 g2)
    refine l_neg c22 ?_
    by_cases c23 : op = 23
    · refine l_pos c23 ?_
      simp only [hs1, hs2]
      by_cases d : xs (iW X + 2).toNatClampNeg = 0
      · simp only [if_pos d, f_L_law_b1783, f_L_law_b1810, hs1, hs2]
        exact g_use (gs_unmet hS hE hR _ _) (fun h2 g2 => hk' h2 g2)
      · simp only [if_neg d, f_L_law_b1783, f_L_law_b1810, hs1, hs2]
        exact g_use (gs_unmet hS hE hR _ _) (fun h2 g2 => hk' h2 g2)
    refine l_neg c23 ?_
    by_cases c24 : op = 24
    · refine l_pos c24 ?_
      simp only [hs1, hs2]
      exact g_use (gs_itemUnder hS hE hR _ _) (fun h2 g2 => hk' h2 g2)
    refine l_neg c24 ?_
    by_cases c25 : op = 25
    · refine l_pos c25 ?_
      simp only [hs1]
      exact g_use (gs_save hS hE hR _) (fun h2 g2 => hk' h2 g2)
    refine l_neg c25 ?_
    by_cases c26 : op = 26
    · refine l_pos c26 ?_
      simp only [hs1]
      exact g_use (gs_restore hS hE hR _) (fun h2 g2 => hk' h2 g2)
    refine l_neg c26 ?_
    by_cases c27 : op = 27
    · refine l_pos c27 ?_
      exact g_use (gs_undo hS hE hR ) (fun h2 g2 => hk' h2 g2)
    refine l_neg c27 ?_
    exact hk' _ ⟨I, J, b, c, S, rfl, hS, hE, hR⟩
theorem l_loop (hL : L ≤ 2560) : ∀ (fuel : Nat) (X : Int) (h : HP), (L : Int) - X < 5 * fuel → 0 ≤ X → X ≤ L → Good h → ∃ z, f_L_law_L23 L xs fuel h 0 102 236 (iW X) = some z := by
  intro fuel
  induction fuel with
  | zero => 
    intro X h a1 a2 a3 g
    omega
  | succ fuel ih =>
    intro X h a1 a2 a3 g
    show ∃ z, f_L_law_b23 L xs (f_L_law_L23 L xs fuel) h 0 102 236 (iW X) = some z
    exact l_step hL a2 (by omega) (fun h2 g2 hb => ih (X + 5) h2 (by omega) (by omega) (by omega) g2) g
end Loop

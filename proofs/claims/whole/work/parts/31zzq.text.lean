/-! ===== a whole text, both sides ===== -/
theorem eps_self {I : CF} : EPS I (I 2 2) (I 2 3) (I 2 4) (I 2 5) (I 2 6) (I 2 9) (I 5) (I 4) (I 6) (I 7) = I := by
  funext a k
  unfold EPS
  by_cases q : a = 2
  · subst q
    rw [if_pos rfl]
    by_cases k2 : k = 2
    · rw [if_pos k2, k2]
    · rw [if_neg k2]
      by_cases k3 : k = 3
      · rw [if_pos k3, k3]
      · rw [if_neg k3]
        by_cases k4 : k = 4
        · rw [if_pos k4, k4]
        · rw [if_neg k4]
          by_cases k5 : k = 5
          · rw [if_pos k5, k5]
          · rw [if_neg k5]
            by_cases k6 : k = 6
            · rw [if_pos k6, k6]
            · rw [if_neg k6]
              by_cases k9 : k = 9
              · rw [if_pos k9, k9]
              · rw [if_neg k9]
  · rw [if_neg q]
    by_cases a5 : a = 5
    · rw [if_pos a5, a5]
    · rw [if_neg a5]
      by_cases a4 : a = 4
      · rw [if_pos a4, a4]
      · rw [if_neg a4]
        by_cases a6 : a = 6
        · rw [if_pos a6, a6]
        · rw [if_neg a6]
          by_cases a7 : a = 7
          · rw [if_pos a7, a7]
          · rw [if_neg a7]
theorem rps_self {I : CF} : RPS I (I 102 16) (I 102 18) (I 102 19) (I 203) (fun r k => I (191 + r) k) = I := by
  funext a k
  unfold RPS
  by_cases q : a = 102
  · subst q
    rw [if_pos rfl]
    by_cases k2 : k = 16
    · rw [if_pos k2, k2]
    · rw [if_neg k2]
      by_cases k3 : k = 18
      · rw [if_pos k3, k3]
      · rw [if_neg k3]
        by_cases k4 : k = 19
        · rw [if_pos k4, k4]
        · rw [if_neg k4]
  · rw [if_neg q]
    by_cases a5 : a = 203
    · rw [if_pos a5, a5]
    · rw [if_neg a5]
      by_cases a4 : 191 ≤ a ∧ a ≤ 202
      · rw [if_pos a4]
        show I (191 + (a - 191)) k = I a k
        rw [show 191 + (a - 191) = a by omega]
      · rw [if_neg a4]
theorem eps_o {I : CF} {p nm kd z cn oc a : Int} {g PT OS OC : Int → Int} (h : a ≠ 2 ∧ a ≠ 4 ∧ a ≠ 5 ∧ a ≠ 6 ∧ a ≠ 7) : EPS I p nm kd z cn oc g PT OS OC a = I a := by
  funext k
  unfold EPS
  rw [if_neg h.1, if_neg h.2.2.1, if_neg h.2.1, if_neg h.2.2.2.1, if_neg h.2.2.2.2]
theorem rps_o {I : CF} {p f z a : Int} {g : Int → Int} {R : CF} (h : a ≠ 102 ∧ a ≠ 203 ∧ (a < 191 ∨ 202 < a)) : RPS I p f z g R a = I a := by
  funext k
  unfold RPS
  rw [if_neg h.1, if_neg h.2.1, if_neg (by omega)]
theorem rps_k {I : CF} {p f z k : Int} {g : Int → Int} {R : CF} (h : k ≠ 16 ∧ k ≠ 18 ∧ k ≠ 19) : RPS I p f z g R 102 k = I 102 k := by
  unfold RPS
  rw [if_pos rfl, if_neg h.1, if_neg h.2.1, if_neg h.2.2]
section TextJ
variable {J J' : CF} {b b' : Nat} {c c' : Bool} {I Ir : CF} {L : Int} {T : Int → Int}
/-- u 1: the text is good -/
def JT (I Ir J J' : CF) (b b' : Nat) (c c' : Bool) (L : Int) : Prop := ∃ (u p z n cn : Int) (R : CF) (I' Ir' : CF),
  (u = 0 ∨ u = 1) ∧ (0 ≤ p ∧ p ≤ L) ∧ (z = 0 ∨ z = 1) ∧
  f_X6_parse (Sx I J b c) 2 1 (iW L) = some (Sx I' J 1 c, xi (iW u)) ∧ I' 2 2 = p ∧ (u = 1 → I' 2 5 = z ∧ I' 2 6 = cn ∧ CR z cn n (I' 4) R) ∧ (∀ a : Int, a ≠ 2 → a ≠ 4 → a ≠ 5 → a ≠ 6 → a ≠ 7 → I' a = I a) ∧
  f_X8_readText (Sx Ir J' b' c') 102 = some (Sx Ir' J' b' c', xi (iW u)) ∧ Ir' 102 16 = p ∧ Ir' 102 15 = 0 ∧ (u = 1 → Ir' 102 19 = z ∧ Ir' 102 17 = n ∧ ∀ r k, 0 ≤ r → r < 12 → Ir' (191 + r) k = R r k) ∧ (∀ a : Int, a ≠ 102 → a ≠ 203 → (a < 191 ∨ 202 < a) → Ir' a = Ir a) ∧ ∀ k : Int, k < 15 ∨ 19 < k → Ir' 102 k = Ir 102 k
theorem j_text (hL : 0 ≤ L ∧ L ≤ 120) (hTe : ∀ k, 0 ≤ k → k < L → I 1 k = T k) (hTb : ∀ k, 0 ≤ k → k < L → 0 ≤ T k ∧ T k < 65536) (hTr : TXr Ir L T) : JT I Ir J J' b b' c c' L := by
  obtain ⟨I1, hI1⟩ : ∃ X, X = uI I 2 1 L := ⟨_, rfl⟩
  have hX : TXe I1 L T := ⟨by rw [hI1, u_eq], hL, fun k k0 k1 => by rw [hI1, u_obj (by omega)]; exact hTe k k0 k1, hTb⟩
  have hes : uI I 2 1 L = EPS I1 (I1 2 2) (I1 2 3) (I1 2 4) (I1 2 5) (I1 2 6) (I1 2 9) (I1 5) (I1 4) (I1 6) (I1 7) := by rw [eps_self, hI1]
  obtain ⟨E0, hE0⟩ : ∃ X, X = EPS I1 0 (I1 2 3) (I1 2 4) 0 0 0 (I1 5) (I1 4) (I1 6) (I1 7) := ⟨_, rfl⟩
  have hm : (if 0 < (if 120 < L then (120 : Int) else L) then (if 120 < L then 120 else L) else 0) = L := by
    rw [if_neg (show ¬ (120 < L) by omega)]
    split <;> omega
  have q120 : ¬ ((120 : Int) < L) := by omega
  have hfo : ∀ a : Int, a ≠ 2 → I1 a = I a := fun a ha => by rw [hI1, u_obj ha]
  have heng : f_X6_parse (Sx I J b c) 2 1 (iW L) = if L = 0 then some (Sx E0 J 1 c, xi (iW 1)) else f_X6_parse_L50 FU (Sx E0 J 1 c) 2 (iW 0) := by
    have h1 : I1 2 1 = L := hX.1
    rw [hE0]
    by_cases q : L = 0
    · rw [if_pos q]
      have q1 : ¬ ((0 : Int) < L) := by omega
      rw [q] at hes h1
      simp (disch := first | assumption | omega) only [f_X6_parse, p_R, ↓rc2, ↓gI2_1, ↓gI2_2, ↓gI2_3, ↓gI2_4, ↓gI2_5, ↓gI2_6, ↓gI2_9, ↓pI2_1, ↓pI2_2, ↓pI2_3, ↓pI2_4, ↓pI2_6, ↓pI2_9, ↓pZ2_5, ↓gR2_0, ↓gR2_7, ↓gR2_8, ↓gR2_10, ↓gR2_11, ↓aI3, ↓ln3, ↓aI4, ↓sI4, ↓ln4, ↓aI5, ↓sI5, ↓ln5, ↓aI6, ↓sI6, ↓ln6, ↓aI7, ↓sI7, ↓ln7, ↓rc0, ↓gI0_1, ↓gI0_7, ↓gI0_8, ↓gI0_15, ↓pI0_1, ↓pI0_7, ↓pI0_8, ↓pZ0_15, ↓gR0_0, ↓gR0_2, ↓gR0_3, ↓gR0_4, ↓gR0_5, ↓gR0_6, ↓gR0_9, ↓gR0_10, ↓gR0_11, ↓gR0_12, ↓gR0_13, ↓gR0_14, ↓aI1, ↓ln1, ↓aI14, ↓sZ14, ↓ln14, ↓aR13, ↓aR15, ↓c_I, ↓c_J, ↓c_Q, ↓c_V, ↓c_It, ↓c_Jt, ↓c_Vt, ↓k_I, ↓k_J, ↓n_I, ↓n_V, li0, li1, li2, li3, li4, li5, li6, li7, li8, li9, li10, li11, li12, li13, li14, li15, li16, li17, li18, li19, li20, li21, li22, li23, li24, li25, li26, li27, li28, li29, li30, li31, li32, li33, li34, li35, li36, li37, li38, li39, li40, li41, li42, li44, li48, li57, li63, li64, li65, li97, li99, li100, li101, li102, li104, li105, li106, li109, li114, li120, li128, li130, li300, li514, li999, li1000, li8192, li9999, li65536, li1000000, li1000001, li1000002, li1000003, li1000004, li1000005, li1000006, li1000007, li1000008, li1000009, li1000010, li1000011, li1000012, li1000013, li1000014, li1000015, li1000016, li1000017, li1000018, li1000019, li2147483647, lj0, lj1, W_add, W_sub, W_mul, W_neg, V_add, V_sub, V_mul, V_neg, W_ite, W_le, W_lt, W_inj, V_le, V_lt, V_inj, W_V, V_W, lgc_ge, lgc_gt, lgc_le, lgc_lt, lgc_eq, ge_iff_le, gt_iff_lt, q, Int.reduceLT, hes, ew2, ew5, ew6, ew9, ep1, h1, ↓reduceIte, r_Z]
    · rw [if_neg q]
      have q1 : (0 : Int) < L := by omega
      simp (disch := first | assumption | omega) only [f_X6_parse, p_R, ↓rc2, ↓gI2_1, ↓gI2_2, ↓gI2_3, ↓gI2_4, ↓gI2_5, ↓gI2_6, ↓gI2_9, ↓pI2_1, ↓pI2_2, ↓pI2_3, ↓pI2_4, ↓pI2_6, ↓pI2_9, ↓pZ2_5, ↓gR2_0, ↓gR2_7, ↓gR2_8, ↓gR2_10, ↓gR2_11, ↓aI3, ↓ln3, ↓aI4, ↓sI4, ↓ln4, ↓aI5, ↓sI5, ↓ln5, ↓aI6, ↓sI6, ↓ln6, ↓aI7, ↓sI7, ↓ln7, ↓rc0, ↓gI0_1, ↓gI0_7, ↓gI0_8, ↓gI0_15, ↓pI0_1, ↓pI0_7, ↓pI0_8, ↓pZ0_15, ↓gR0_0, ↓gR0_2, ↓gR0_3, ↓gR0_4, ↓gR0_5, ↓gR0_6, ↓gR0_9, ↓gR0_10, ↓gR0_11, ↓gR0_12, ↓gR0_13, ↓gR0_14, ↓aI1, ↓ln1, ↓aI14, ↓sZ14, ↓ln14, ↓aR13, ↓aR15, ↓c_I, ↓c_J, ↓c_Q, ↓c_V, ↓c_It, ↓c_Jt, ↓c_Vt, ↓k_I, ↓k_J, ↓n_I, ↓n_V, li0, li1, li2, li3, li4, li5, li6, li7, li8, li9, li10, li11, li12, li13, li14, li15, li16, li17, li18, li19, li20, li21, li22, li23, li24, li25, li26, li27, li28, li29, li30, li31, li32, li33, li34, li35, li36, li37, li38, li39, li40, li41, li42, li44, li48, li57, li63, li64, li65, li97, li99, li100, li101, li102, li104, li105, li106, li109, li114, li120, li128, li130, li300, li514, li999, li1000, li8192, li9999, li65536, li1000000, li1000001, li1000002, li1000003, li1000004, li1000005, li1000006, li1000007, li1000008, li1000009, li1000010, li1000011, li1000012, li1000013, li1000014, li1000015, li1000016, li1000017, li1000018, li1000019, li2147483647, lj0, lj1, W_add, W_sub, W_mul, W_neg, V_add, V_sub, V_mul, V_neg, W_ite, W_le, W_lt, W_inj, V_le, V_lt, V_inj, W_V, V_W, lgc_ge, lgc_gt, lgc_le, lgc_lt, lgc_eq, ge_iff_le, gt_iff_lt, q120, q1, hes, ew2, ew5, ew6, ew9, ep1, h1, q, ↓reduceIte]
  -- the other side
  obtain ⟨R0, hR0⟩ : ∃ X : CF, X = fun r k => Ir (191 + r) k := ⟨_, rfl⟩
  have hrs : Ir = RPS Ir (Ir 102 16) (Ir 102 18) (Ir 102 19) (Ir 203) R0 := by rw [hR0, rps_self]
  have t15 := hTr.1
  obtain ⟨r0, hr0⟩ : ∃ X, X = RPS Ir 0 0 0 (Ir 203) R0 := ⟨_, rfl⟩
  have hwr : uI (uI (uI Ir 102 16 0) 102 18 0) 102 19 0 = r0 := by
    conv => lhs; rw [hrs]
    rw [wr16, wr18, wr19, hr0]
  have e15 : r0 102 15 = L := by rw [hr0, rp15]; exact t15
  have href : f_X8_readText (Sx Ir J' b' c') 102 = if L = 0 then f_X8_readText_b33 (Sx r0 J' b' c') (iW 0) 102 102 else x_cI (f_X8_readList6 (Sx r0 J' b' c') 102 (iW 0) (iW 0)) (fun h6 i5 => f_X8_readText_b33 h6 i5 102 102) := by
    by_cases q : L = 0
    · rw [if_pos q]
      rw [q] at e15
      simp (disch := first | assumption | omega) only [f_X8_readText, ↓rc102, ↓gI102_0, ↓gI102_6, ↓gI102_8, ↓gI102_9, ↓gI102_13, ↓gI102_15, ↓gI102_16, ↓gI102_17, ↓gI102_18, ↓gI102_19, ↓gI102_27, ↓gI102_28, ↓gI102_29, ↓gJ102_39, ↓gJ102_40, ↓gJ102_41, ↓gJ102_42, ↓pI102_0, ↓pI102_6, ↓pI102_9, ↓pI102_13, ↓pI102_15, ↓pI102_16, ↓pI102_17, ↓pI102_27, ↓pI102_28, ↓pI102_29, ↓pZ102_8, ↓pZ102_18, ↓pZ102_19, ↓pJ102_39, ↓pJ102_40, ↓pJ102_41, ↓pJ102_42, ↓gR102_1, ↓gR102_2, ↓gR102_3, ↓gR102_4, ↓gR102_5, ↓gR102_7, ↓gR102_10, ↓gR102_11, ↓gR102_12, ↓gR102_14, ↓gR102_20, ↓gR102_21, ↓gR102_22, ↓gR102_23, ↓gR102_24, ↓gR102_25, ↓gR102_26, ↓gR102_30, ↓gR102_31, ↓gR102_32, ↓gR102_33, ↓gR102_34, ↓gR102_35, ↓gR102_36, ↓gR102_37, ↓gR102_38, ↓aI103, ↓sI103, ↓ln103, ↓aI137, ↓sI137, ↓ln137, ↓aI188, ↓sZ188, ↓ln188, ↓aI189, ↓ln189, ↓aI203, ↓sI203, ↓ln203, ↓aI217, ↓sZ217, ↓ln217, ↓aI218, ↓sI218, ↓ln218, ↓aI219, ↓sI219, ↓ln219, ↓aI220, ↓sZ220, ↓ln220, ↓aI221, ↓sZ221, ↓ln221, ↓aI229, ↓sI229, ↓ln229, ↓aI230, ↓sI230, ↓ln230, ↓aI231, ↓sI231, ↓ln231, ↓aI232, ↓sI232, ↓ln232, ↓aI233, ↓sI233, ↓ln233, ↓aI234, ↓sZ234, ↓ln234, ↓aI235, ↓sZ235, ↓ln235, ↓aR104, ↓aR131, ↓aR134, ↓aR138, ↓aR175, ↓aR179, ↓aR190, ↓aR204, ↓aR222, ↓aR105, ↓aR139, ↓aI106, ↓sI106, ↓lI106, ↓aI132, ↓sI132, ↓lI132, ↓aI135, ↓sI135, ↓lI135, ↓aI140, ↓sI140, ↓lI140, ↓aI176, ↓sI176, ↓lI176, ↓aI180, ↓sI180, ↓lI180, ↓aI191, ↓sI191, ↓lI191, ↓aI205, ↓sI205, ↓lI205, ↓aI223, ↓sI223, ↓lI223, ↓c_I, ↓c_J, ↓c_Q, ↓c_V, ↓c_It, ↓c_Jt, ↓c_Vt, ↓k_I, ↓k_J, ↓n_I, ↓n_V, li0, li1, li2, li3, li4, li5, li6, li7, li8, li9, li10, li11, li12, li13, li14, li15, li16, li17, li18, li19, li20, li21, li22, li23, li24, li25, li26, li27, li28, li29, li30, li31, li32, li33, li34, li35, li36, li37, li38, li39, li40, li41, li42, li44, li48, li57, li63, li64, li65, li97, li99, li100, li101, li102, li104, li105, li106, li109, li114, li120, li128, li130, li300, li514, li999, li1000, li8192, li9999, li65536, li1000000, li1000001, li1000002, li1000003, li1000004, li1000005, li1000006, li1000007, li1000008, li1000009, li1000010, li1000011, li1000012, li1000013, li1000014, li1000015, li1000016, li1000017, li1000018, li1000019, li2147483647, lj0, lj1, W_add, W_sub, W_mul, W_neg, V_add, V_sub, V_mul, V_neg, W_ite, W_le, W_lt, W_inj, V_le, V_lt, V_inj, W_V, V_W, lgc_ge, lgc_gt, lgc_le, lgc_lt, lgc_eq, ge_iff_le, gt_iff_lt, hwr, e15, ↓reduceIte]
    · rw [if_neg q]
      simp (disch := first | assumption | omega) only [f_X8_readText, ↓rc102, ↓gI102_0, ↓gI102_6, ↓gI102_8, ↓gI102_9, ↓gI102_13, ↓gI102_15, ↓gI102_16, ↓gI102_17, ↓gI102_18, ↓gI102_19, ↓gI102_27, ↓gI102_28, ↓gI102_29, ↓gJ102_39, ↓gJ102_40, ↓gJ102_41, ↓gJ102_42, ↓pI102_0, ↓pI102_6, ↓pI102_9, ↓pI102_13, ↓pI102_15, ↓pI102_16, ↓pI102_17, ↓pI102_27, ↓pI102_28, ↓pI102_29, ↓pZ102_8, ↓pZ102_18, ↓pZ102_19, ↓pJ102_39, ↓pJ102_40, ↓pJ102_41, ↓pJ102_42, ↓gR102_1, ↓gR102_2, ↓gR102_3, ↓gR102_4, ↓gR102_5, ↓gR102_7, ↓gR102_10, ↓gR102_11, ↓gR102_12, ↓gR102_14, ↓gR102_20, ↓gR102_21, ↓gR102_22, ↓gR102_23, ↓gR102_24, ↓gR102_25, ↓gR102_26, ↓gR102_30, ↓gR102_31, ↓gR102_32, ↓gR102_33, ↓gR102_34, ↓gR102_35, ↓gR102_36, ↓gR102_37, ↓gR102_38, ↓aI103, ↓sI103, ↓ln103, ↓aI137, ↓sI137, ↓ln137, ↓aI188, ↓sZ188, ↓ln188, ↓aI189, ↓ln189, ↓aI203, ↓sI203, ↓ln203, ↓aI217, ↓sZ217, ↓ln217, ↓aI218, ↓sI218, ↓ln218, ↓aI219, ↓sI219, ↓ln219, ↓aI220, ↓sZ220, ↓ln220, ↓aI221, ↓sZ221, ↓ln221, ↓aI229, ↓sI229, ↓ln229, ↓aI230, ↓sI230, ↓ln230, ↓aI231, ↓sI231, ↓ln231, ↓aI232, ↓sI232, ↓ln232, ↓aI233, ↓sI233, ↓ln233, ↓aI234, ↓sZ234, ↓ln234, ↓aI235, ↓sZ235, ↓ln235, ↓aR104, ↓aR131, ↓aR134, ↓aR138, ↓aR175, ↓aR179, ↓aR190, ↓aR204, ↓aR222, ↓aR105, ↓aR139, ↓aI106, ↓sI106, ↓lI106, ↓aI132, ↓sI132, ↓lI132, ↓aI135, ↓sI135, ↓lI135, ↓aI140, ↓sI140, ↓lI140, ↓aI176, ↓sI176, ↓lI176, ↓aI180, ↓sI180, ↓lI180, ↓aI191, ↓sI191, ↓lI191, ↓aI205, ↓sI205, ↓lI205, ↓aI223, ↓sI223, ↓lI223, ↓c_I, ↓c_J, ↓c_Q, ↓c_V, ↓c_It, ↓c_Jt, ↓c_Vt, ↓k_I, ↓k_J, ↓n_I, ↓n_V, li0, li1, li2, li3, li4, li5, li6, li7, li8, li9, li10, li11, li12, li13, li14, li15, li16, li17, li18, li19, li20, li21, li22, li23, li24, li25, li26, li27, li28, li29, li30, li31, li32, li33, li34, li35, li36, li37, li38, li39, li40, li41, li42, li44, li48, li57, li63, li64, li65, li97, li99, li100, li101, li102, li104, li105, li106, li109, li114, li120, li128, li130, li300, li514, li999, li1000, li8192, li9999, li65536, li1000000, li1000001, li1000002, li1000003, li1000004, li1000005, li1000006, li1000007, li1000008, li1000009, li1000010, li1000011, li1000012, li1000013, li1000014, li1000015, li1000016, li1000017, li1000018, li1000019, li2147483647, lj0, lj1, W_add, W_sub, W_mul, W_neg, V_add, V_sub, V_mul, V_neg, W_ite, W_le, W_lt, W_inj, V_le, V_lt, V_inj, W_V, V_W, lgc_ge, lgc_gt, lgc_le, lgc_lt, lgc_eq, ge_iff_le, gt_iff_lt, hwr, e15, q, ↓reduceIte]
  have hb33 : ∀ (p f z n : Int) (g : Int → Int) (R : CF), (f = 0 ∨ f = 1) → 0 ≤ p → p ≤ L → f_X8_readText_b33 (Sx (RPS Ir p f z g R) J' b' c') (iW n) 102 102 = some (Sx (uI (RPS (uI Ir 102 17 n) p (if f = 0 ∧ L ≤ p then 0 else 1) z g R) 102 15 0) J' b' c', xi (iW (if f = 0 ∧ L ≤ p then 1 else 0))) := by
    intro p f z n g R hf p0 p1
    have h17 : uI (RPS Ir p f z g R) 102 17 n = RPS (uI Ir 102 17 n) p f z g R := by
      funext a k
      unfold uI RPS
      by_cases q : a = 102
      · by_cases e : k = 17
        · simp only [q, e, and_self, ↓reduceIte, Int.reduceEq]
        · simp only [q, e, and_false, ↓reduceIte]
      · simp only [q, false_and, ↓reduceIte]
    have g15 : RPS (uI Ir 102 17 n) p f z g R 102 15 = L := by rw [rp15, u_ne (by omega)]; exact t15
    have g18 : ∀ f' v, uI (RPS (uI Ir 102 17 n) p f' z g R) 102 15 v 102 18 = f' := fun f' v => by rw [u_ne (by omega), rp18]
    by_cases q : L ≤ p
    · by_cases qf : f = 0
      · rw [if_pos ⟨qf, q⟩, if_pos ⟨qf, q⟩]
        subst qf
        simp (disch := first | assumption | omega) only [f_X8_readText_b33, f_X8_readText_b57, f_X8_readText_b78, ↓rc102, ↓gI102_0, ↓gI102_6, ↓gI102_8, ↓gI102_9, ↓gI102_13, ↓gI102_15, ↓gI102_16, ↓gI102_17, ↓gI102_18, ↓gI102_19, ↓gI102_27, ↓gI102_28, ↓gI102_29, ↓gJ102_39, ↓gJ102_40, ↓gJ102_41, ↓gJ102_42, ↓pI102_0, ↓pI102_6, ↓pI102_9, ↓pI102_13, ↓pI102_15, ↓pI102_16, ↓pI102_17, ↓pI102_27, ↓pI102_28, ↓pI102_29, ↓pZ102_8, ↓pZ102_18, ↓pZ102_19, ↓pJ102_39, ↓pJ102_40, ↓pJ102_41, ↓pJ102_42, ↓gR102_1, ↓gR102_2, ↓gR102_3, ↓gR102_4, ↓gR102_5, ↓gR102_7, ↓gR102_10, ↓gR102_11, ↓gR102_12, ↓gR102_14, ↓gR102_20, ↓gR102_21, ↓gR102_22, ↓gR102_23, ↓gR102_24, ↓gR102_25, ↓gR102_26, ↓gR102_30, ↓gR102_31, ↓gR102_32, ↓gR102_33, ↓gR102_34, ↓gR102_35, ↓gR102_36, ↓gR102_37, ↓gR102_38, ↓aI103, ↓sI103, ↓ln103, ↓aI137, ↓sI137, ↓ln137, ↓aI188, ↓sZ188, ↓ln188, ↓aI189, ↓ln189, ↓aI203, ↓sI203, ↓ln203, ↓aI217, ↓sZ217, ↓ln217, ↓aI218, ↓sI218, ↓ln218, ↓aI219, ↓sI219, ↓ln219, ↓aI220, ↓sZ220, ↓ln220, ↓aI221, ↓sZ221, ↓ln221, ↓aI229, ↓sI229, ↓ln229, ↓aI230, ↓sI230, ↓ln230, ↓aI231, ↓sI231, ↓ln231, ↓aI232, ↓sI232, ↓ln232, ↓aI233, ↓sI233, ↓ln233, ↓aI234, ↓sZ234, ↓ln234, ↓aI235, ↓sZ235, ↓ln235, ↓aR104, ↓aR131, ↓aR134, ↓aR138, ↓aR175, ↓aR179, ↓aR190, ↓aR204, ↓aR222, ↓aR105, ↓aR139, ↓aI106, ↓sI106, ↓lI106, ↓aI132, ↓sI132, ↓lI132, ↓aI135, ↓sI135, ↓lI135, ↓aI140, ↓sI140, ↓lI140, ↓aI176, ↓sI176, ↓lI176, ↓aI180, ↓sI180, ↓lI180, ↓aI191, ↓sI191, ↓lI191, ↓aI205, ↓sI205, ↓lI205, ↓aI223, ↓sI223, ↓lI223, ↓c_I, ↓c_J, ↓c_Q, ↓c_V, ↓c_It, ↓c_Jt, ↓c_Vt, ↓k_I, ↓k_J, ↓n_I, ↓n_V, li0, li1, li2, li3, li4, li5, li6, li7, li8, li9, li10, li11, li12, li13, li14, li15, li16, li17, li18, li19, li20, li21, li22, li23, li24, li25, li26, li27, li28, li29, li30, li31, li32, li33, li34, li35, li36, li37, li38, li39, li40, li41, li42, li44, li48, li57, li63, li64, li65, li97, li99, li100, li101, li102, li104, li105, li106, li109, li114, li120, li128, li130, li300, li514, li999, li1000, li8192, li9999, li65536, li1000000, li1000001, li1000002, li1000003, li1000004, li1000005, li1000006, li1000007, li1000008, li1000009, li1000010, li1000011, li1000012, li1000013, li1000014, li1000015, li1000016, li1000017, li1000018, li1000019, li2147483647, lj0, lj1, W_add, W_sub, W_mul, W_neg, V_add, V_sub, V_mul, V_neg, W_ite, W_le, W_lt, W_inj, V_le, V_lt, V_inj, W_V, V_W, lgc_ge, lgc_gt, lgc_le, lgc_lt, lgc_eq, ge_iff_le, gt_iff_lt, h17, rp16, rp18, g15, q, W_or0, wr18, g18, ↓reduceIte, r_Z]
      · rw [if_neg (fun z => qf z.1), if_neg (fun z => qf z.1)]
        have qf1 : f = 1 := by omega
        subst qf1
        simp (disch := first | assumption | omega) only [f_X8_readText_b33, f_X8_readText_b57, f_X8_readText_b78, ↓rc102, ↓gI102_0, ↓gI102_6, ↓gI102_8, ↓gI102_9, ↓gI102_13, ↓gI102_15, ↓gI102_16, ↓gI102_17, ↓gI102_18, ↓gI102_19, ↓gI102_27, ↓gI102_28, ↓gI102_29, ↓gJ102_39, ↓gJ102_40, ↓gJ102_41, ↓gJ102_42, ↓pI102_0, ↓pI102_6, ↓pI102_9, ↓pI102_13, ↓pI102_15, ↓pI102_16, ↓pI102_17, ↓pI102_27, ↓pI102_28, ↓pI102_29, ↓pZ102_8, ↓pZ102_18, ↓pZ102_19, ↓pJ102_39, ↓pJ102_40, ↓pJ102_41, ↓pJ102_42, ↓gR102_1, ↓gR102_2, ↓gR102_3, ↓gR102_4, ↓gR102_5, ↓gR102_7, ↓gR102_10, ↓gR102_11, ↓gR102_12, ↓gR102_14, ↓gR102_20, ↓gR102_21, ↓gR102_22, ↓gR102_23, ↓gR102_24, ↓gR102_25, ↓gR102_26, ↓gR102_30, ↓gR102_31, ↓gR102_32, ↓gR102_33, ↓gR102_34, ↓gR102_35, ↓gR102_36, ↓gR102_37, ↓gR102_38, ↓aI103, ↓sI103, ↓ln103, ↓aI137, ↓sI137, ↓ln137, ↓aI188, ↓sZ188, ↓ln188, ↓aI189, ↓ln189, ↓aI203, ↓sI203, ↓ln203, ↓aI217, ↓sZ217, ↓ln217, ↓aI218, ↓sI218, ↓ln218, ↓aI219, ↓sI219, ↓ln219, ↓aI220, ↓sZ220, ↓ln220, ↓aI221, ↓sZ221, ↓ln221, ↓aI229, ↓sI229, ↓ln229, ↓aI230, ↓sI230, ↓ln230, ↓aI231, ↓sI231, ↓ln231, ↓aI232, ↓sI232, ↓ln232, ↓aI233, ↓sI233, ↓ln233, ↓aI234, ↓sZ234, ↓ln234, ↓aI235, ↓sZ235, ↓ln235, ↓aR104, ↓aR131, ↓aR134, ↓aR138, ↓aR175, ↓aR179, ↓aR190, ↓aR204, ↓aR222, ↓aR105, ↓aR139, ↓aI106, ↓sI106, ↓lI106, ↓aI132, ↓sI132, ↓lI132, ↓aI135, ↓sI135, ↓lI135, ↓aI140, ↓sI140, ↓lI140, ↓aI176, ↓sI176, ↓lI176, ↓aI180, ↓sI180, ↓lI180, ↓aI191, ↓sI191, ↓lI191, ↓aI205, ↓sI205, ↓lI205, ↓aI223, ↓sI223, ↓lI223, ↓c_I, ↓c_J, ↓c_Q, ↓c_V, ↓c_It, ↓c_Jt, ↓c_Vt, ↓k_I, ↓k_J, ↓n_I, ↓n_V, li0, li1, li2, li3, li4, li5, li6, li7, li8, li9, li10, li11, li12, li13, li14, li15, li16, li17, li18, li19, li20, li21, li22, li23, li24, li25, li26, li27, li28, li29, li30, li31, li32, li33, li34, li35, li36, li37, li38, li39, li40, li41, li42, li44, li48, li57, li63, li64, li65, li97, li99, li100, li101, li102, li104, li105, li106, li109, li114, li120, li128, li130, li300, li514, li999, li1000, li8192, li9999, li65536, li1000000, li1000001, li1000002, li1000003, li1000004, li1000005, li1000006, li1000007, li1000008, li1000009, li1000010, li1000011, li1000012, li1000013, li1000014, li1000015, li1000016, li1000017, li1000018, li1000019, li2147483647, lj0, lj1, W_add, W_sub, W_mul, W_neg, V_add, V_sub, V_mul, V_neg, W_ite, W_le, W_lt, W_inj, V_le, V_lt, V_inj, W_V, V_W, lgc_ge, lgc_gt, lgc_le, lgc_lt, lgc_eq, ge_iff_le, gt_iff_lt, h17, rp16, rp18, g15, q, W_or0, wr18, g18, Int.reduceEq, ↓reduceIte, r_Z]
    · rw [if_neg (fun z => q z.2), if_neg (fun z => q z.2)]
      simp (disch := first | assumption | omega) only [f_X8_readText_b33, f_X8_readText_b57, f_X8_readText_b78, ↓rc102, ↓gI102_0, ↓gI102_6, ↓gI102_8, ↓gI102_9, ↓gI102_13, ↓gI102_15, ↓gI102_16, ↓gI102_17, ↓gI102_18, ↓gI102_19, ↓gI102_27, ↓gI102_28, ↓gI102_29, ↓gJ102_39, ↓gJ102_40, ↓gJ102_41, ↓gJ102_42, ↓pI102_0, ↓pI102_6, ↓pI102_9, ↓pI102_13, ↓pI102_15, ↓pI102_16, ↓pI102_17, ↓pI102_27, ↓pI102_28, ↓pI102_29, ↓pZ102_8, ↓pZ102_18, ↓pZ102_19, ↓pJ102_39, ↓pJ102_40, ↓pJ102_41, ↓pJ102_42, ↓gR102_1, ↓gR102_2, ↓gR102_3, ↓gR102_4, ↓gR102_5, ↓gR102_7, ↓gR102_10, ↓gR102_11, ↓gR102_12, ↓gR102_14, ↓gR102_20, ↓gR102_21, ↓gR102_22, ↓gR102_23, ↓gR102_24, ↓gR102_25, ↓gR102_26, ↓gR102_30, ↓gR102_31, ↓gR102_32, ↓gR102_33, ↓gR102_34, ↓gR102_35, ↓gR102_36, ↓gR102_37, ↓gR102_38, ↓aI103, ↓sI103, ↓ln103, ↓aI137, ↓sI137, ↓ln137, ↓aI188, ↓sZ188, ↓ln188, ↓aI189, ↓ln189, ↓aI203, ↓sI203, ↓ln203, ↓aI217, ↓sZ217, ↓ln217, ↓aI218, ↓sI218, ↓ln218, ↓aI219, ↓sI219, ↓ln219, ↓aI220, ↓sZ220, ↓ln220, ↓aI221, ↓sZ221, ↓ln221, ↓aI229, ↓sI229, ↓ln229, ↓aI230, ↓sI230, ↓ln230, ↓aI231, ↓sI231, ↓ln231, ↓aI232, ↓sI232, ↓ln232, ↓aI233, ↓sI233, ↓ln233, ↓aI234, ↓sZ234, ↓ln234, ↓aI235, ↓sZ235, ↓ln235, ↓aR104, ↓aR131, ↓aR134, ↓aR138, ↓aR175, ↓aR179, ↓aR190, ↓aR204, ↓aR222, ↓aR105, ↓aR139, ↓aI106, ↓sI106, ↓lI106, ↓aI132, ↓sI132, ↓lI132, ↓aI135, ↓sI135, ↓lI135, ↓aI140, ↓sI140, ↓lI140, ↓aI176, ↓sI176, ↓lI176, ↓aI180, ↓sI180, ↓lI180, ↓aI191, ↓sI191, ↓lI191, ↓aI205, ↓sI205, ↓lI205, ↓aI223, ↓sI223, ↓lI223, ↓c_I, ↓c_J, ↓c_Q, ↓c_V, ↓c_It, ↓c_Jt, ↓c_Vt, ↓k_I, ↓k_J, ↓n_I, ↓n_V, li0, li1, li2, li3, li4, li5, li6, li7, li8, li9, li10, li11, li12, li13, li14, li15, li16, li17, li18, li19, li20, li21, li22, li23, li24, li25, li26, li27, li28, li29, li30, li31, li32, li33, li34, li35, li36, li37, li38, li39, li40, li41, li42, li44, li48, li57, li63, li64, li65, li97, li99, li100, li101, li102, li104, li105, li106, li109, li114, li120, li128, li130, li300, li514, li999, li1000, li8192, li9999, li65536, li1000000, li1000001, li1000002, li1000003, li1000004, li1000005, li1000006, li1000007, li1000008, li1000009, li1000010, li1000011, li1000012, li1000013, li1000014, li1000015, li1000016, li1000017, li1000018, li1000019, li2147483647, lj0, lj1, W_add, W_sub, W_mul, W_neg, V_add, V_sub, V_mul, V_neg, W_ite, W_le, W_lt, W_inj, V_le, V_lt, V_inj, W_V, V_W, lgc_ge, lgc_gt, lgc_le, lgc_lt, lgc_eq, ge_iff_le, gt_iff_lt, h17, rp16, rp18, g15, q, W_or1, wr18, g18, Int.reduceEq, ↓reduceIte, r_Z]
  have hframe : ∀ (p f z n : Int) (g : Int → Int) (R : CF), (∀ a : Int, a ≠ 102 → a ≠ 203 → (a < 191 ∨ 202 < a) → uI (RPS (uI Ir 102 17 n) p f z g R) 102 15 0 a = Ir a) ∧ (∀ k : Int, k < 15 ∨ 19 < k → uI (RPS (uI Ir 102 17 n) p f z g R) 102 15 0 102 k = Ir 102 k) ∧ uI (RPS (uI Ir 102 17 n) p f z g R) 102 15 0 102 16 = p ∧ uI (RPS (uI Ir 102 17 n) p f z g R) 102 15 0 102 15 = 0 ∧ uI (RPS (uI Ir 102 17 n) p f z g R) 102 15 0 102 19 = z ∧ uI (RPS (uI Ir 102 17 n) p f z g R) 102 15 0 102 17 = n ∧ ∀ r k, 0 ≤ r → r < 12 → uI (RPS (uI Ir 102 17 n) p f z g R) 102 15 0 (191 + r) k = R r k := fun p f z n g R =>
    ⟨fun a h1 h2 h3 => by rw [u_obj h1, rps_o ⟨h1, h2, h3⟩, u_obj h1], fun k hk => by rw [u_ne (by omega), rps_k (by omega), u_ne (by omega)], by rw [u_ne (by omega), rp16], u_eq, by rw [u_ne (by omega), rp19], by rw [u_ne (by omega), rps_k (by omega), u_eq], fun r k r0 r1 => by rw [u_obj (by omega), rd191 r0 r1]⟩
  by_cases q : L = 0
  · rw [if_pos q] at heng href
    have hb := hb33 0 0 0 0 (Ir 203) R0 (Or.inl rfl) (by omega) (by omega)
    rw [← hr0, if_pos ⟨rfl, by omega⟩, if_pos ⟨rfl, by omega⟩] at hb
    rw [hb] at href
    obtain ⟨f1, f2, f3, f4, f5, f6, f7⟩ := hframe 0 0 0 0 (Ir 203) R0
    refine ⟨1, 0, 0, 0, 0, R0, E0, _, Or.inr rfl, by omega, Or.inl rfl, heng, by rw [hE0, ep2], fun _ => ⟨by rw [hE0, ep5], by rw [hE0, ep6], by omega, by omega, by omega, fun r k r0 r1 => by omega, fun r r0 r1 => by omega⟩, fun a h2 h4 h5 h6 h7 => by rw [hE0, eps_o ⟨h2, h4, h5, h6, h7⟩]; exact hfo a h2, href, f3, f4, fun _ => ⟨f5, f6, f7⟩, f1, f2⟩
  · rw [if_neg q] at heng href
    have hj := j_list (J := J) (J' := J') (b := b') (c := c) (c' := c') (Ie := I1) (Ir := Ir) hX hTr 6 0 (by omega) (by omega) (by omega) 0 0 0 0 (I1 2 3) (I1 2 4) (Ir 203) R0 (I1 5) (I1 4) (I1 6) (I1 7) FU 0 (by omega) (by omega) (Or.inl rfl) ⟨Or.inl ⟨rfl, by omega⟩, by omega, by omega, fun r k r0 r1 => by omega, fun r r0 r1 => by omega⟩ (by omega) (by omega) (by unfold FU; omega)
    rw [← hE0, ← hr0] at hj
    obtain ⟨p6, f6, z6, g6, R6, n6, a1, a2, a3, a4, a5, a6, a7, a8⟩ := hj
    have a2' : 0 ≤ p6 ∧ p6 ≤ L ∧ (f6 = 0 ∨ f6 = 1) := a2
    have a1 : f_X8_rl 7 (Sx r0 J' b' c') 102 (iW 0) (iW 0) = some (Sx (RPS Ir p6 f6 z6 g6 R6) J' b' c', xi (iW n6)) := a1
    have h6 : f_X8_readList6 (Sx r0 J' b' c') 102 (iW 0) (iW 0) = some (Sx (RPS Ir p6 f6 z6 g6 R6) J' b' c', xi (iW n6)) := a1
    rw [h6, c_I, hb33 p6 f6 z6 n6 g6 R6 a2'.2.2 a2'.1 a2'.2.1] at href
    rcases a2'.2.2 with hf | hf
    · subst hf
      obtain ⟨b0, F', x3', f0', nm, kd, cn, gg, PT, OS, OC, b1, b2, b3, b4, b5, b6, b7⟩ := a8 rfl
      by_cases qp : L ≤ p6
      · have hpL : p6 = L := by omega
        rw [if_pos ⟨rfl, qp⟩, if_pos ⟨rfl, qp⟩] at href
        obtain ⟨f1, f2, f3, f4, f5, f7, f8⟩ := hframe p6 0 z6 n6 g6 R6
        have hns : ∀ ch, ¬ sn T L (p6, 0) ch := fun ch w => by
          have : p6 < L := w.2.1
          omega
        obtain ⟨f1', rfl⟩ : ∃ f1', f0' = f1' + 1 := ⟨f0' - 1, by unfold FU at b7; omega⟩
        have e0 := e_closeN (J := J) (c := c) (I := I1) (nm := nm) (kd := kd) (z := z6) (cn := cn) (oc := 0) (g := gg) (PT := PT) (OS := OS) (OC := OC) hX a2'.1 a2'.2.1 (by omega) (by omega) (Or.inl (by omega)) f1'
        have hfin : f_X6_parse (Sx I J b c) 2 1 (iW L) = some (Sx (EPS I1 p6 nm kd z6 cn 0 gg PT OS OC) J 1 c, xi (iW 1)) := by
          rw [heng, b1]
          have x1 := hX.1
          have x2 : ¬ (p6 < L) := by omega
          simp (disch := first | assumption | omega) only [aftR, f_X6_parse_b116, ↓rc2, ↓gI2_1, ↓gI2_2, ↓gI2_3, ↓gI2_4, ↓gI2_5, ↓gI2_6, ↓gI2_9, ↓pI2_1, ↓pI2_2, ↓pI2_3, ↓pI2_4, ↓pI2_6, ↓pI2_9, ↓pZ2_5, ↓gR2_0, ↓gR2_7, ↓gR2_8, ↓gR2_10, ↓gR2_11, ↓aI3, ↓ln3, ↓aI4, ↓sI4, ↓ln4, ↓aI5, ↓sI5, ↓ln5, ↓aI6, ↓sI6, ↓ln6, ↓aI7, ↓sI7, ↓ln7, ↓c_I, ↓c_J, ↓c_Q, ↓c_V, ↓c_It, ↓c_Jt, ↓c_Vt, ↓k_I, ↓k_J, ↓n_I, ↓n_V, li0, li1, li2, li3, li4, li5, li6, li7, li8, li9, li10, li11, li12, li13, li14, li15, li16, li17, li18, li19, li20, li21, li22, li23, li24, li25, li26, li27, li28, li29, li30, li31, li32, li33, li34, li35, li36, li37, li38, li39, li40, li41, li42, li44, li48, li57, li63, li64, li65, li97, li99, li100, li101, li102, li104, li105, li106, li109, li114, li120, li128, li130, li300, li514, li999, li1000, li8192, li9999, li65536, li1000000, li1000001, li1000002, li1000003, li1000004, li1000005, li1000006, li1000007, li1000008, li1000009, li1000010, li1000011, li1000012, li1000013, li1000014, li1000015, li1000016, li1000017, li1000018, li1000019, li2147483647, lj0, lj1, W_add, W_sub, W_mul, W_neg, V_add, V_sub, V_mul, V_neg, W_ite, W_le, W_lt, W_inj, V_le, V_lt, V_inj, W_V, V_W, lgc_ge, lgc_gt, lgc_le, lgc_lt, lgc_eq, ge_iff_le, gt_iff_lt, e0, ep2, ep1, ep9, x1, x2, ↓reduceIte, r_Z]
        refine ⟨1, p6, z6, n6, cn, R6, _, _, Or.inr rfl, by omega, a4, hfin, ep2, fun _ => ⟨ep5, ep6, ?_⟩, fun a h2 h4 h5 h6 h7 => by rw [eps_o ⟨h2, h4, h5, h6, h7⟩]; exact hfo a h2, href, f3, f4, fun _ => ⟨f5, f7, f8⟩, f1, f2⟩
        have hPT : EPS I1 p6 nm kd z6 cn 0 gg PT OS OC 4 = PT := funext fun k => epP
        rw [hPT]
        exact b2
      · rw [if_neg (fun w => qp w.2), if_neg (fun w => qp w.2)] at href
        obtain ⟨f1, f2, f3, f4, f5, f7, f8⟩ := hframe p6 1 z6 n6 g6 R6
        have hbad := aft_bad (J := J) (c := c) (nm := nm) (kd := kd) (z := z6) (cn := cn) (oc := 0) (g := gg) (PT := PT) (OS := OS) (OC := OC) hX a2'.1 a2'.2.1 (by omega) (by omega) (Or.inl (by omega)) b0 (Or.inl (by omega)) (k50 := f_X6_parse_L50 F') (x3 := iW x3') (f0 := f0') (by unfold FU at b7; omega)
        rw [b1, hbad] at heng
        refine ⟨0, p6, z6, n6, cn, R6, _, _, Or.inl rfl, by omega, a4, heng, ep2, fun h => absurd h (by decide), fun a h2 h4 h5 h6 h7 => by rw [eps_o ⟨h2, h4, h5, h6, h7⟩]; exact hfo a h2, href, f3, f4, fun h => absurd h (by decide), f1, f2⟩
    · subst hf
      rw [if_neg (fun w => absurd w.1 (by decide)), if_neg (fun w => absurd w.1 (by decide))] at href
      obtain ⟨f1, f2, f3, f4, f5, f7, f8⟩ := hframe p6 1 z6 n6 g6 R6
      obtain ⟨nm, kd, zz, cn, oc, gg, PT, OS, OC, b1⟩ := a7 rfl
      rw [b1] at heng
      refine ⟨0, p6, z6, n6, cn, R6, _, _, Or.inl rfl, by omega, a4, heng, ep2, fun h => absurd h (by decide), fun a h2 h4 h5 h6 h7 => by rw [eps_o ⟨h2, h4, h5, h6, h7⟩]; exact hfo a h2, href, f3, f4, fun h => absurd h (by decide), f1, f2⟩
end TextJ

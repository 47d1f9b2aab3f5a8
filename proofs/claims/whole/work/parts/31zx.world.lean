/-! ===== the engine: models copied, changes remembered, slots, letters ===== -/
def EMm (I : CF) (m : Int) (A : CF) : Prop := (∀ k, 0 ≤ k → k < 130 → I (m + 1) k = A 0 k) ∧ (∀ k, 0 ≤ k → k < 2 → I (m + 2) k = A 1 k) ∧ (∀ k, 0 ≤ k → k < 6 → I (m + 3) k = A 2 k) ∧ (∀ k, 0 ≤ k → k < 120 → I (m + 4) k = A 3 k) ∧ I m 4 = A 4 0 ∧ I m 5 = A 4 1 ∧ I m 6 = A 4 2
theorem EMm.fr {I I' A : CF} {m : Int} (h : EMm I m A) (hf : ∀ a, m ≤ a → a ≤ m + 4 → I' a = I a) : EMm I' m A := by
  unfold EMm
  rw [hf m (by omega) (by omega), hf (m + 1) (by omega) (by omega), hf (m + 2) (by omega) (by omega), hf (m + 3) (by omega) (by omega), hf (m + 4) (by omega) (by omega)]
  exact h
theorem EM8 {I A : CF} : EMm I 8 A ↔ EM I A := Iff.rfl
def rgp (p j : Int) : Int := (p + 7 - j) % 8
def psh (A : CF) (H : Int → CF) : Int → CF := fun j => if j = 0 then A else H (j - 1)
def EH (I : CF) (n p : Int) (H : Int → CF) (F : Int → Prop) (V : Int → CF) (L : Int) (T : Int → Int) : Prop := (I 0 8 = n ∧ I 0 7 = p ∧ 0 ≤ n ∧ n ≤ 8 ∧ 0 ≤ p ∧ p < 8) ∧ (∀ j, 0 ≤ j → j < n → EMm I (62 + 5 * rgp p j) (H j)) ∧ (∀ s, 0 ≤ s → s < 3 → I 14 s = bb (F s) ∧ (F s → EMm I (47 + 5 * s) (V s))) ∧ I 0 1 = L ∧ ∀ k, 0 ≤ k → k < L → I 1 k = T k
theorem EH.fr {I I' : CF} {n p L : Int} {H V : Int → CF} {F : Int → Prop} {T : Int → Int} (h : EH I n p H F V L T) (h0 : ∀ k, k = 1 ∨ k = 7 ∨ k = 8 → I' 0 k = I 0 k) (hf : ∀ a, a = 1 ∨ a = 14 ∨ (47 ≤ a ∧ a ≤ 101) → I' a = I a) : EH I' n p H F V L T := by
  obtain ⟨⟨a1, a2, a3, a4, a5, a6⟩, a7, a8, a9, a10⟩ := h
  refine ⟨⟨by rw [h0 8 (by omega)]; exact a1, by rw [h0 7 (by omega)]; exact a2, a3, a4, a5, a6⟩, fun j j0 j1 => (a7 j j0 j1).fr (fun a b0 b1 => hf a (by unfold rgp at b0 b1; omega)), fun s s0 s1 => ⟨by rw [hf 14 (by omega)]; exact (a8 s s0 s1).1, fun hs => ((a8 s s0 s1).2 hs).fr (fun a b0 b1 => hf a (by omega))⟩, by rw [h0 1 (by omega)]; exact a9, fun k k0 k1 => by rw [hf 1 (by omega)]; exact a10 k k0 k1⟩
theorem isM_8 : isM 8 := by unfold isM; decide
theorem isM_r {z : Int} (h0 : 0 ≤ z) (h1 : z < 8) : isM (62 + 5 * z.toNat) := by
  have h : ∀ k < 8, 62 + 5 * k ∈ [8, 47, 52, 57, 62, 67, 72, 77, 82, 87, 92, 97] := by decide +kernel
  exact h _ (by omega)
theorem isM_s {z : Int} (h0 : 0 ≤ z) (h1 : z < 3) : isM (47 + 5 * z.toNat) := by
  have h : ∀ k < 3, 47 + 5 * k ∈ [8, 47, 52, 57, 62, 67, 72, 77, 82, 87, 92, 97] := by decide +kernel
  exact h _ (by omega)
section WorldE
variable {J : CF} {b : Nat} {c : Bool} {A I : CF} {n p L : Int} {H V : Int → CF} {F : Int → Prop} {T : Int → Int}
theorem e_copyFrom {m m2 : Nat} (hm : isM m) (h2 : isM m2) (hd : m2 + 4 < m ∨ m + 4 < m2) (h : EMm I m2 A) (hz : A 4 2 = 0 ∨ A 4 2 = 1) : ∃ I', f_X4_copyFrom (Sx I J b c) m m2 = some (Sx I' J b c, xv) ∧ EMm I' m A ∧ ∀ a : Int, (a < m ∨ m + 4 < a) → I' a = I a := by
  obtain ⟨I4, hI4⟩ : ∃ X, X = cpf (cpf (cpf (cpf I (m2 + 1) 0 (m + 1) 0 130) (m2 + 2) 0 (m + 2) 0 2) (m2 + 3) 0 (m + 3) 0 6) (m2 + 4) 0 (m + 4) 0 120 := ⟨_, rfl⟩
  have q0 : ∀ a : Int, (a < m + 1 ∨ m + 4 < a) → I4 a = I a := fun a ha => by rw [hI4, cp_obj (by omega), cp_obj (by omega), cp_obj (by omega), cp_obj (by omega)]
  have q1 : ∀ k, 0 ≤ k → k < 130 → I4 (m + 1) k = I (m2 + 1) k := fun k k0 k1 => by
    rw [hI4, cp_obj (by omega), cp_obj (by omega), cp_obj (by omega), cp_in k0 (by omega), show (0 : Int) + (k - 0) = k by omega]
  have q2 : ∀ k, 0 ≤ k → k < 2 → I4 (m + 2) k = I (m2 + 2) k := fun k k0 k1 => by
    rw [hI4, cp_obj (by omega), cp_obj (by omega), cp_in k0 (by omega), show (0 : Int) + (k - 0) = k by omega, cp_obj (by omega)]
  have q3 : ∀ k, 0 ≤ k → k < 6 → I4 (m + 3) k = I (m2 + 3) k := fun k k0 k1 => by
    rw [hI4, cp_obj (by omega), cp_in k0 (by omega), show (0 : Int) + (k - 0) = k by omega, cp_obj (by omega), cp_obj (by omega)]
  have q4 : ∀ k, 0 ≤ k → k < 120 → I4 (m + 4) k = I (m2 + 4) k := fun k k0 k1 => by
    rw [hI4, cp_in k0 (by omega), show (0 : Int) + (k - 0) = k by omega, cp_obj (by omega), cp_obj (by omega), cp_obj (by omega)]
  obtain ⟨a1, a2, a3, a4, a5, a6, a7⟩ := h
  have e4 : I4 m2 4 = A 4 0 := by rw [q0 _ (by omega)]; exact a5
  have e5 : uI I4 m 4 (A 4 0) m2 5 = A 4 1 := by rw [u_obj (by omega), q0 _ (by omega)]; exact a6
  have e6 : uI (uI I4 m 4 (A 4 0)) m 5 (A 4 1) m2 6 = A 4 2 := by rw [u_obj (by omega), u_obj (by omega), q0 _ (by omega)]; exact a7
  refine ⟨uI (uI (uI I4 m 4 (A 4 0)) m 5 (A 4 1)) m 6 (A 4 2), ?_, ?_, fun a ha => by rw [u_obj (by omega), u_obj (by omega), u_obj (by omega), q0 a (by omega)]⟩
  · simp (disch := first | assumption | omega) only [f_X4_copyFrom, ↓rcM, ↓gIM_4, ↓gIM_5, ↓gIM_6, ↓pIM_4, ↓pIM_5, ↓pZM_6, ↓gRM_0, ↓lnM0, ↓cpM0, ↓gRM_1, ↓lnM1, ↓cpM1, ↓gRM_2, ↓lnM2, ↓cpM2, ↓gRM_3, ↓lnM3, ↓cpM3, ↓c_I, ↓c_J, ↓c_Q, ↓c_V, ↓c_It, ↓c_Jt, ↓c_Vt, ↓k_I, ↓k_J, ↓n_I, ↓n_V, li0, li1, li2, li3, li4, li5, li6, li7, li8, li9, li10, li11, li12, li13, li14, li15, li16, li17, li18, li19, li20, li21, li22, li23, li24, li25, li26, li27, li28, li29, li30, li31, li32, li33, li34, li35, li36, li37, li38, li39, li40, li41, li42, li44, li48, li57, li63, li64, li65, li97, li99, li100, li101, li102, li104, li105, li106, li109, li114, li120, li128, li130, li300, li514, li999, li1000, li8192, li9999, li65536, li1000000, li1000001, li1000002, li1000003, li1000004, li1000005, li1000006, li1000007, li1000008, li1000009, li1000010, li1000011, li1000012, li1000013, li1000014, li1000015, li1000016, li1000017, li1000018, li1000019, li2147483647, lj0, lj1, W_add, W_sub, W_mul, W_neg, V_add, V_sub, V_mul, V_neg, W_ite, ← hI4, e4, e5, e6]
  · refine ⟨fun k k0 k1 => ?_, fun k k0 k1 => ?_, fun k k0 k1 => ?_, fun k k0 k1 => ?_, ?_, ?_, ?_⟩
    · rw [u_obj (by omega), u_obj (by omega), u_obj (by omega), q1 k k0 k1]; exact a1 k k0 k1
    · rw [u_obj (by omega), u_obj (by omega), u_obj (by omega), q2 k k0 k1]; exact a2 k k0 k1
    · rw [u_obj (by omega), u_obj (by omega), u_obj (by omega), q3 k k0 k1]; exact a3 k k0 k1
    · rw [u_obj (by omega), u_obj (by omega), u_obj (by omega), q4 k k0 k1]; exact a4 k k0 k1
    · rw [u_ne (by omega), u_ne (by omega), u_eq]
    · rw [u_ne (by omega), u_eq]
    · rw [u_eq]
theorem e_remember (hE : EH I n p H F V L T) (hM : EM I A) (hA : okA A) : ∃ I', f_X7_rememberChange (Sx I J b c) 0 = some (Sx I' J b c, xv) ∧ EH I' (min 8 (n + 1)) (if p = 7 then 0 else p + 1) (psh A H) F V L T ∧ I' 0 15 = 0 ∧ ∀ a, a ≠ 0 → (a < 62 ∨ 101 < a) → I' a = I a := by
  obtain ⟨⟨a1, a2, a3, a4, a5, a6⟩, a7, a8, a9, a10⟩ := hE
  have hmm := isM_r a5 a6
  obtain ⟨I1, k1, k2, k3⟩ := e_copyFrom (J := J) (b := b) (c := c) hmm isM_8 (by omega) (EM8.2 hM) hA.2.2.1
  have k3' : ∀ a : Int, (a < 62 + 5 * p ∨ 62 + 5 * p + 4 < a) → I1 a = I a := fun a ha => k3 a (by omega)
  have k2' : EMm I1 (62 + 5 * p) A := by
    rw [show 62 + 5 * p = ((62 + 5 * p.toNat : Nat) : Int) by omega]
    exact k2
  have b1 : I1 0 8 = n := by rw [k3' 0 (by omega)]; exact a1
  have b2 : I1 0 7 = p := by rw [k3' 0 (by omega)]; exact a2
  have hrc := fun f => rcM (I := I) (J := J) (b := b) (c := c) hmm (k := f)
  refine ⟨uI (uI (uI I1 0 7 (if p = 7 then 0 else p + 1)) 0 8 (min 8 (n + 1))) 0 15 0, ?_, ⟨⟨?_, ?_, ?_, ?_, ?_, ?_⟩, ?_, ?_, ?_, ?_⟩, u_eq, fun a ha hb => by rw [u_obj ha, u_obj ha, u_obj ha, k3' a (by omega)]⟩
  · have key : ∀ v : Int, 0 ≤ v → v < 8 → f_X7_rememberChange_b36 (Sx I1 J b c) (iW v) 0 0 = some (Sx (uI (uI (uI I1 0 7 v) 0 8 (min 8 (n + 1))) 0 15 0) J b c, xv) := fun v v0 v1 => by
      have b3 : uI I1 0 7 v 0 8 = n := by rw [u_ne (by omega)]; exact b1
      by_cases q : n = 8
      · have q8 : (8 : Int) < n + 1 := by omega
        rw [show min 8 (n + 1) = 8 by omega]
        simp (disch := first | assumption | omega) only [f_X7_rememberChange_b36, ↓rc0, ↓gI0_1, ↓gI0_7, ↓gI0_8, ↓gI0_15, ↓pI0_1, ↓pI0_7, ↓pI0_8, ↓pZ0_15, ↓gR0_0, ↓gR0_2, ↓gR0_3, ↓gR0_4, ↓gR0_5, ↓gR0_6, ↓gR0_9, ↓gR0_10, ↓gR0_11, ↓gR0_12, ↓gR0_13, ↓gR0_14, ↓aI1, ↓ln1, ↓aI14, ↓sZ14, ↓ln14, ↓aR13, ↓aR15, ↓c_I, ↓c_J, ↓c_Q, ↓c_V, ↓c_It, ↓c_Jt, ↓c_Vt, ↓k_I, ↓k_J, ↓n_I, ↓n_V, li0, li1, li2, li3, li4, li5, li6, li7, li8, li9, li10, li11, li12, li13, li14, li15, li16, li17, li18, li19, li20, li21, li22, li23, li24, li25, li26, li27, li28, li29, li30, li31, li32, li33, li34, li35, li36, li37, li38, li39, li40, li41, li42, li44, li48, li57, li63, li64, li65, li97, li99, li100, li101, li102, li104, li105, li106, li109, li114, li120, li128, li130, li300, li514, li999, li1000, li8192, li9999, li65536, li1000000, li1000001, li1000002, li1000003, li1000004, li1000005, li1000006, li1000007, li1000008, li1000009, li1000010, li1000011, li1000012, li1000013, li1000014, li1000015, li1000016, li1000017, li1000018, li1000019, li2147483647, lj0, lj1, W_add, W_sub, W_mul, W_neg, V_add, V_sub, V_mul, V_neg, W_ite, W_le, W_lt, W_inj, V_le, V_lt, V_inj, W_V, V_W, lgc_ge, lgc_gt, lgc_le, lgc_lt, lgc_eq, ge_iff_le, gt_iff_lt, b3, q8, ↓reduceIte]
      · have q8 : ¬ ((8 : Int) < n + 1) := by omega
        rw [show min 8 (n + 1) = n + 1 by omega]
        simp (disch := first | assumption | omega) only [f_X7_rememberChange_b36, ↓rc0, ↓gI0_1, ↓gI0_7, ↓gI0_8, ↓gI0_15, ↓pI0_1, ↓pI0_7, ↓pI0_8, ↓pZ0_15, ↓gR0_0, ↓gR0_2, ↓gR0_3, ↓gR0_4, ↓gR0_5, ↓gR0_6, ↓gR0_9, ↓gR0_10, ↓gR0_11, ↓gR0_12, ↓gR0_13, ↓gR0_14, ↓aI1, ↓ln1, ↓aI14, ↓sZ14, ↓ln14, ↓aR13, ↓aR15, ↓c_I, ↓c_J, ↓c_Q, ↓c_V, ↓c_It, ↓c_Jt, ↓c_Vt, ↓k_I, ↓k_J, ↓n_I, ↓n_V, li0, li1, li2, li3, li4, li5, li6, li7, li8, li9, li10, li11, li12, li13, li14, li15, li16, li17, li18, li19, li20, li21, li22, li23, li24, li25, li26, li27, li28, li29, li30, li31, li32, li33, li34, li35, li36, li37, li38, li39, li40, li41, li42, li44, li48, li57, li63, li64, li65, li97, li99, li100, li101, li102, li104, li105, li106, li109, li114, li120, li128, li130, li300, li514, li999, li1000, li8192, li9999, li65536, li1000000, li1000001, li1000002, li1000003, li1000004, li1000005, li1000006, li1000007, li1000008, li1000009, li1000010, li1000011, li1000012, li1000013, li1000014, li1000015, li1000016, li1000017, li1000018, li1000019, li2147483647, lj0, lj1, W_add, W_sub, W_mul, W_neg, V_add, V_sub, V_mul, V_neg, W_ite, W_le, W_lt, W_inj, V_le, V_lt, V_inj, W_V, V_W, lgc_ge, lgc_gt, lgc_le, lgc_lt, lgc_eq, ge_iff_le, gt_iff_lt, b3, q8, ↓reduceIte]
    by_cases q : p = 7
    · rw [if_pos q, ← key 0 (by omega) (by omega)]
      have q7 : (7 : Int) ≤ p := by omega
      simp (disch := first | assumption | omega) only [f_X7_rememberChange, ↓rc0, ↓gI0_1, ↓gI0_7, ↓gI0_8, ↓gI0_15, ↓pI0_1, ↓pI0_7, ↓pI0_8, ↓pZ0_15, ↓gR0_0, ↓gR0_2, ↓gR0_3, ↓gR0_4, ↓gR0_5, ↓gR0_6, ↓gR0_9, ↓gR0_10, ↓gR0_11, ↓gR0_12, ↓gR0_13, ↓gR0_14, ↓aI1, ↓ln1, ↓aI14, ↓sZ14, ↓ln14, ↓aR13, ↓aR15, ↓c_I, ↓c_J, ↓c_Q, ↓c_V, ↓c_It, ↓c_Jt, ↓c_Vt, ↓k_I, ↓k_J, ↓n_I, ↓n_V, li0, li1, li2, li3, li4, li5, li6, li7, li8, li9, li10, li11, li12, li13, li14, li15, li16, li17, li18, li19, li20, li21, li22, li23, li24, li25, li26, li27, li28, li29, li30, li31, li32, li33, li34, li35, li36, li37, li38, li39, li40, li41, li42, li44, li48, li57, li63, li64, li65, li97, li99, li100, li101, li102, li104, li105, li106, li109, li114, li120, li128, li130, li300, li514, li999, li1000, li8192, li9999, li65536, li1000000, li1000001, li1000002, li1000003, li1000004, li1000005, li1000006, li1000007, li1000008, li1000009, li1000010, li1000011, li1000012, li1000013, li1000014, li1000015, li1000016, li1000017, li1000018, li1000019, li2147483647, lj0, lj1, W_add, W_sub, W_mul, W_neg, V_add, V_sub, V_mul, V_neg, W_ite, W_le, W_lt, W_inj, V_le, V_lt, V_inj, W_V, V_W, lgc_ge, lgc_gt, lgc_le, lgc_lt, lgc_eq, ge_iff_le, gt_iff_lt, a2, hrc, k1, b2, q7, ↓reduceIte]
    · rw [if_neg q, ← key (p + 1) (by omega) (by omega)]
      have q7 : ¬ ((7 : Int) ≤ p) := by omega
      simp (disch := first | assumption | omega) only [f_X7_rememberChange, ↓rc0, ↓gI0_1, ↓gI0_7, ↓gI0_8, ↓gI0_15, ↓pI0_1, ↓pI0_7, ↓pI0_8, ↓pZ0_15, ↓gR0_0, ↓gR0_2, ↓gR0_3, ↓gR0_4, ↓gR0_5, ↓gR0_6, ↓gR0_9, ↓gR0_10, ↓gR0_11, ↓gR0_12, ↓gR0_13, ↓gR0_14, ↓aI1, ↓ln1, ↓aI14, ↓sZ14, ↓ln14, ↓aR13, ↓aR15, ↓c_I, ↓c_J, ↓c_Q, ↓c_V, ↓c_It, ↓c_Jt, ↓c_Vt, ↓k_I, ↓k_J, ↓n_I, ↓n_V, li0, li1, li2, li3, li4, li5, li6, li7, li8, li9, li10, li11, li12, li13, li14, li15, li16, li17, li18, li19, li20, li21, li22, li23, li24, li25, li26, li27, li28, li29, li30, li31, li32, li33, li34, li35, li36, li37, li38, li39, li40, li41, li42, li44, li48, li57, li63, li64, li65, li97, li99, li100, li101, li102, li104, li105, li106, li109, li114, li120, li128, li130, li300, li514, li999, li1000, li8192, li9999, li65536, li1000000, li1000001, li1000002, li1000003, li1000004, li1000005, li1000006, li1000007, li1000008, li1000009, li1000010, li1000011, li1000012, li1000013, li1000014, li1000015, li1000016, li1000017, li1000018, li1000019, li2147483647, lj0, lj1, W_add, W_sub, W_mul, W_neg, V_add, V_sub, V_mul, V_neg, W_ite, W_le, W_lt, W_inj, V_le, V_lt, V_inj, W_V, V_W, lgc_ge, lgc_gt, lgc_le, lgc_lt, lgc_eq, ge_iff_le, gt_iff_lt, a2, hrc, k1, b2, q7, ↓reduceIte]
  · rw [u_ne (by omega), u_eq]
  · rw [u_ne (by omega), u_ne (by omega), u_eq]
  · omega
  · omega
  · split <;> omega
  · split <;> omega
  · intro j j0 j1
    unfold psh
    by_cases q : j = 0
    · rw [if_pos q, show rgp (if p = 7 then 0 else p + 1) j = p by unfold rgp; split <;> omega]
      exact k2'.fr (fun a c0 c1 => by rw [u_obj (by omega), u_obj (by omega), u_obj (by omega)])
    · rw [if_neg q, show rgp (if p = 7 then 0 else p + 1) j = rgp p (j - 1) by unfold rgp; split <;> omega]
      exact (a7 (j - 1) (by omega) (by omega)).fr (fun a c0 c1 => by
        have : rgp p (j - 1) ≠ p := by unfold rgp; omega
        have : 0 ≤ rgp p (j - 1) := by unfold rgp; omega
        rw [u_obj (by omega), u_obj (by omega), u_obj (by omega), k3' a (by omega)])
  · intro s s0 s1
    refine ⟨?_, fun hs => ((a8 s s0 s1).2 hs).fr (fun a c0 c1 => by rw [u_obj (by omega), u_obj (by omega), u_obj (by omega), k3' a (by omega)])⟩
    rw [u_obj (by omega), u_obj (by omega), u_obj (by omega), k3' 14 (by omega)]
    exact (a8 s s0 s1).1
  · rw [u_ne (by omega), u_ne (by omega), u_ne (by omega), k3' 0 (by omega)]
    exact a9
  · intro k k0 k1
    rw [u_obj (by omega), u_obj (by omega), u_obj (by omega), k3' 1 (by omega)]
    exact a10 k k0 k1
end WorldE

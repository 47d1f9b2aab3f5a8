/-! ===== removeItem, exchange: both sides ===== -/
def remA (A : CF) (i n : Int) : CF := uI (cpf A 3 ((i + 1) * 10) 3 (i * 10) ((n - 1 - i) * 10)) 4 0 (n - 1)
def swN (A : CF) (i k : Int) : Nat → CF
  | 0 => A
  | m + 1 => uI (uI (swN A i k m) 3 (10 * i + m) (swN A i k m 3 (10 * k + m))) 3 (10 * k + m) (swN A i k m 3 (10 * i + m))
theorem EM.cp {I A : CF} (h : EM I A) {s d m : Int} (s0 : 0 ≤ s) (s1 : s + m ≤ 120) : EM (cpf I 12 s 12 d m) (cpf A 3 s 3 d m) := by
  obtain ⟨h1, h2, h3, h4, h5, h6, h7⟩ := h
  refine ⟨fun k k0 k1 => by rw [cp_obj (by omega), cp_obj (by omega)]; exact h1 k k0 k1, fun k k0 k1 => by rw [cp_obj (by omega), cp_obj (by omega)]; exact h2 k k0 k1, fun k k0 k1 => by rw [cp_obj (by omega), cp_obj (by omega)]; exact h3 k k0 k1, fun k k0 k1 => ?_, by rw [cp_obj (by omega), cp_obj (by omega)]; exact h5, by rw [cp_obj (by omega), cp_obj (by omega)]; exact h6, by rw [cp_obj (by omega), cp_obj (by omega)]; exact h7⟩
  by_cases q : d ≤ k ∧ k < d + m
  · rw [cp_in q.1 q.2, cp_in q.1 q.2]
    exact h4 _ (by omega) (by omega)
  · rw [cp_out q, cp_out q]
    exact h4 k k0 k1
theorem okA.rem {A : CF} (hA : okA A) {i : Int} (i0 : 0 ≤ i) (i1 : i < nit A) : okA (remA A i (nit A)) := by
  obtain ⟨h1, h2, h3, h4, h5, h6⟩ := hA
  have hn : nit (remA A i (nit A)) = nit A - 1 := by
    show uI (cpf A 3 ((i + 1) * 10) 3 (i * 10) ((nit A - 1 - i) * 10)) 4 0 (nit A - 1) 4 0 = _
    exact u_eq
  have hc : ∀ o k, o ≠ 3 → (o ≠ 4 ∨ k ≠ 0) → remA A i (nit A) o k = A o k := fun o k ho hk => by
    unfold remA uI
    rw [if_neg (by omega), cp_obj ho]
  refine ⟨by rw [hn]; omega, by rw [hc 4 1 (by omega) (by omega)]; exact h2, by rw [hc 4 2 (by omega) (by omega)]; exact h3, fun ax a0 a1 => ?_, fun ax row a0 a1 b0 b1 => ?_, fun j y j0 j1 y0 y1 => ?_⟩
  · have := h4 ax a0 a1
    unfold stg at this ⊢
    rw [hc 1 _ (by omega) (by omega), hc 2 _ (by omega) (by omega), hc 2 _ (by omega) (by omega), hc 2 _ (by omega) (by omega)]
    exact this
  · have := h5 ax row a0 a1 b0 b1
    have e : remA A i (nit A) 0 = A 0 := funext fun k => hc 0 k (by omega) (by omega)
    rw [e]
    exact this
  · rw [hn] at j1
    have hi : ∀ g, 0 ≤ g → g < 5 → itf (remA A i (nit A)) j y g = if i ≤ j then itf A (j + 1) y g else itf A j y g := fun g g0 g1 => by
      unfold itf remA
      rw [u_obj (by omega)]
      by_cases q : i ≤ j
      · rw [if_pos q, cp_in (by omega) (by omega)]
        congr 1
        omega
      · rw [if_neg q, cp_out (by omega)]
    unfold okI
    rw [hi 0 (by omega) (by omega), hi 1 (by omega) (by omega), hi 2 (by omega) (by omega), hi 3 (by omega) (by omega), hi 4 (by omega) (by omega)]
    by_cases q : i ≤ j
    · have := h6 (j + 1) y (by omega) (by omega) y0 y1
      unfold okI at this
      rw [if_pos q, if_pos q, if_pos q, if_pos q, if_pos q]
      exact this
    · have := h6 j y (by omega) (by omega) y0 y1
      unfold okI at this
      rw [if_neg q, if_neg q, if_neg q, if_neg q, if_neg q]
      exact this
theorem swN_o {A : CF} {i k o : Int} (h : o ≠ 3) : ∀ m : Nat, swN A i k m o = A o := by
  intro m
  induction m with
  | zero => rfl
  | succ m ih =>
    unfold swN
    rw [u_obj h, u_obj h, ih]
theorem swN_at {A : CF} {i k q : Int} : ∀ m : Nat, m ≤ 10 → swN A i k m 3 q = if 10 * i ≤ q ∧ q < 10 * i + m then A 3 (q - 10 * i + 10 * k) else if 10 * k ≤ q ∧ q < 10 * k + m then A 3 (q - 10 * k + 10 * i) else A 3 q := by
  intro m
  induction m generalizing q with
  | zero =>
    intro _
    rw [if_neg (by omega), if_neg (by omega)]
    rfl
  | succ m ih =>
    intro hm
    have e1 := ih (q := 10 * i + m) (by omega)
    have e2 := ih (q := 10 * k + m) (by omega)
    have e3 := ih (q := q) (by omega)
    unfold swN
    rw [u_at, u_at, e1, e2, e3]
    by_cases c2 : q = 10 * k + m
    · by_cases c4 : i = k
      · subst c4
        subst c2
        rw [if_pos rfl, if_neg (by omega), if_neg (by omega), if_pos (by omega)]
        congr 1
        omega
      · rw [if_pos c2, if_neg (by omega), if_neg (by omega), if_neg (by omega), if_pos (by omega)]
        congr 1
        omega
    · rw [if_neg c2]
      by_cases c1 : q = 10 * i + m
      · rw [if_pos c1, if_neg (by omega), if_neg (by omega), if_pos (by omega)]
        congr 1
        omega
      · rw [if_neg c1]
        by_cases c3 : 10 * i ≤ q ∧ q < 10 * i + m
        · rw [if_pos c3, if_pos (by omega)]
        · rw [if_neg c3, if_neg (show ¬ (10 * i ≤ q ∧ q < 10 * i + ((m + 1 : Nat) : Int)) by omega)]
          by_cases c5 : 10 * k ≤ q ∧ q < 10 * k + m
          · rw [if_pos c5, if_pos (show 10 * k ≤ q ∧ q < 10 * k + ((m + 1 : Nat) : Int) by omega)]
          · rw [if_neg c5, if_neg (show ¬ (10 * k ≤ q ∧ q < 10 * k + ((m + 1 : Nat) : Int)) by omega)]
theorem okA.sw {A : CF} (hA : okA A) {i k : Int} (i0 : 0 ≤ i) (i1 : i < nit A) (k0 : 0 ≤ k) (k1 : k < nit A) : okA (swN A i k 10) := by
  obtain ⟨h1, h2, h3, h4, h5, h6⟩ := hA
  have hn : nit (swN A i k 10) = nit A := by
    unfold nit
    rw [swN_o (by omega)]
  refine ⟨by rw [hn]; exact h1, by rw [swN_o (by omega)]; exact h2, by rw [swN_o (by omega)]; exact h3, fun ax a0 a1 => ?_, fun ax row a0 a1 b0 b1 => by rw [swN_o (by omega)]; exact h5 ax row a0 a1 b0 b1, fun j y j0 j1 y0 y1 => ?_⟩
  · have := h4 ax a0 a1
    unfold stg at this ⊢
    rw [swN_o (by omega), swN_o (by omega)]
    exact this
  · rw [hn] at j1
    have hi : ∀ g, 0 ≤ g → g < 5 → itf (swN A i k 10) j y g = itf A (if j = i then k else if j = k then i else j) y g := fun g g0 g1 => by
      unfold itf
      rw [swN_at 10 (by omega)]
      by_cases q : j = i
      · rw [if_pos q, if_pos (by omega)]
        congr 1
        omega
      · rw [if_neg q, if_neg (by omega)]
        by_cases q2 : j = k
        · rw [if_pos q2, if_pos (by omega)]
          congr 1
          omega
        · rw [if_neg q2, if_neg (by omega)]
    unfold okI
    rw [hi 0 (by omega) (by omega), hi 1 (by omega) (by omega), hi 2 (by omega) (by omega), hi 3 (by omega) (by omega), hi 4 (by omega) (by omega)]
    have := h6 (if j = i then k else if j = k then i else j) y (by split; omega; split <;> omega) (by split; omega; split <;> omega) y0 y1
    unfold okI at this
    exact this
section RemW
variable {J : CF} {b : Nat} {c : Bool} {I : CF} {S : ST}
theorem x_removeItem (h : EW I S) {i : Int} (i0 : -2147483648 ≤ i) (i1 : i ≤ 2147483647) (E2 : String) :
    EStp (f_X7_removeItem (Sx I J b c) 0 (iW i)) I J c "java/lang/IndexOutOfBoundsException" E2 (if 0 ≤ i ∧ i ≤ nit S.1 - 1 then nit S.1 - 1 else 0) (if 0 ≤ i ∧ i ≤ nit S.1 - 1 then 0 else 1) (if 0 ≤ i ∧ i ≤ nit S.1 - 1 then chg S (remA S.1 i (nit S.1)) else S) := by
  have ei := e_chkItem (J := J) (b := b) (c := c) h.1 i0 i1
  have hNn := h.1.1.1
  by_cases qi : 0 ≤ i ∧ i ≤ nit S.1 - 1
  · rw [if_pos qi] at ei
    rw [if_pos qi, if_pos qi, if_pos qi]
    obtain ⟨I1, k1, k2, k3, k4, k5⟩ := e_chg (J := J) (b := b) (c := c) h
    have hn1 : I1 8 4 = nit S.1 := k2.2.2.2.2.1
    have hcp := fun f => c_p (I := I1) (J := J) (b := b) (c := c) (s := 12) (d := 12) (sp := (i + 1) * 10) (dp := i * 10) (n := (nit S.1 - 1 - i) * 10) (f := f) sh12 sh12 (by decide) (by decide) (by omega) (by omega) (by omega) (by omega) (by omega)
    have hcp : ∀ f, x_cp (Sx I1 J b c) 12 (iW ((i + 1) * 10)) 12 (iW (i * 10)) (iW ((nit S.1 - 1 - i) * 10)) f = f (Sx (cpf I1 12 ((i + 1) * 10) 12 (i * 10) ((nit S.1 - 1 - i) * 10)) J b c) := hcp
    have hn2 : cpf I1 12 ((i + 1) * 10) 12 (i * 10) ((nit S.1 - 1 - i) * 10) 8 4 = nit S.1 := by rw [cp_obj (by omega)]; exact hn1
    have n1 : ¬ (i < 0) := by omega
    have n2 : ¬ (nit S.1 ≤ i) := by omega
    have n3 : nit S.1 ≤ 12 := by omega
    refine ⟨uI (cpf I1 12 ((i + 1) * 10) 12 (i * 10) ((nit S.1 - 1 - i) * 10)) 8 4 (nit S.1 - 1), J, b, ?_, EW.mk k3 k4 (h.1.1.rem qi.1 (by omega)) ((k2.cp (by omega) (by omega)).f (by omega)) (fun a ha => by rw [u_obj (by omega), cp_obj (by omega)]), fun a ha => by rw [u_obj (by omega), cp_obj (by omega), k5 a (by omega) (by omega)], fun _ _ => rfl⟩
    rw [if_pos rfl]
    simp (disch := first | assumption | omega) only [f_X7_removeItem, f_X4_dropItem, f_X4_dropItem_b24, ↓rc0, ↓gI0_1, ↓gI0_7, ↓gI0_8, ↓gI0_15, ↓pI0_1, ↓pI0_7, ↓pI0_8, ↓pZ0_15, ↓gR0_0, ↓gR0_2, ↓gR0_3, ↓gR0_4, ↓gR0_5, ↓gR0_6, ↓gR0_9, ↓gR0_10, ↓gR0_11, ↓gR0_12, ↓gR0_13, ↓gR0_14, ↓aI1, ↓ln1, ↓aI14, ↓sZ14, ↓ln14, ↓aR13, ↓aR15, ↓rc8, ↓gI8_4, ↓gI8_5, ↓gI8_6, ↓pI8_4, ↓pI8_5, ↓pZ8_6, ↓gR8_0, ↓gR8_1, ↓gR8_2, ↓gR8_3, ↓aI9, ↓sI9, ↓ln9, ↓aI10, ↓sI10, ↓ln10, ↓aI11, ↓sI11, ↓ln11, ↓aI12, ↓sI12, ↓ln12, ↓c_I, ↓c_J, ↓c_Q, ↓c_V, ↓c_It, ↓c_Jt, ↓c_Vt, ↓k_I, ↓k_J, ↓n_I, ↓n_V, li0, li1, li2, li3, li4, li5, li6, li7, li8, li9, li10, li11, li12, li13, li14, li15, li16, li17, li18, li19, li20, li21, li22, li23, li24, li25, li26, li27, li28, li29, li30, li31, li32, li33, li34, li35, li36, li37, li38, li39, li40, li41, li42, li44, li48, li57, li63, li64, li65, li97, li99, li100, li101, li102, li104, li105, li106, li109, li114, li120, li128, li130, li300, li514, li999, li1000, li8192, li9999, li65536, li1000000, li1000001, li1000002, li1000003, li1000004, li1000005, li1000006, li1000007, li1000008, li1000009, li1000010, li1000011, li1000012, li1000013, li1000014, li1000015, li1000016, li1000017, li1000018, li1000019, li2147483647, lj0, lj1, W_add, W_sub, W_mul, W_neg, V_add, V_sub, V_mul, V_neg, W_ite, W_le, W_lt, W_inj, V_le, V_lt, V_inj, W_V, V_W, lgc_ge, lgc_gt, lgc_le, lgc_lt, lgc_eq, ge_iff_le, gt_iff_lt, ei, k1, hn1, n1, n2, n3, hcp, hn2, u_eq, ↓reduceIte]
  · rw [if_neg qi] at ei
    rw [if_neg qi, if_neg qi, if_neg qi]
    have hgo : f_X7_removeItem (Sx I J b c) 0 (iW i) = some (Sx I J b false, xt "java/lang/IndexOutOfBoundsException") := by
      simp (disch := first | assumption | omega) only [f_X7_removeItem, ↓rc0, ↓gI0_1, ↓gI0_7, ↓gI0_8, ↓gI0_15, ↓pI0_1, ↓pI0_7, ↓pI0_8, ↓pZ0_15, ↓gR0_0, ↓gR0_2, ↓gR0_3, ↓gR0_4, ↓gR0_5, ↓gR0_6, ↓gR0_9, ↓gR0_10, ↓gR0_11, ↓gR0_12, ↓gR0_13, ↓gR0_14, ↓aI1, ↓ln1, ↓aI14, ↓sZ14, ↓ln14, ↓aR13, ↓aR15, ↓c_I, ↓c_J, ↓c_Q, ↓c_V, ↓c_It, ↓c_Jt, ↓c_Vt, ↓k_I, ↓k_J, ↓n_I, ↓n_V, li0, li1, li2, li3, li4, li5, li6, li7, li8, li9, li10, li11, li12, li13, li14, li15, li16, li17, li18, li19, li20, li21, li22, li23, li24, li25, li26, li27, li28, li29, li30, li31, li32, li33, li34, li35, li36, li37, li38, li39, li40, li41, li42, li44, li48, li57, li63, li64, li65, li97, li99, li100, li101, li102, li104, li105, li106, li109, li114, li120, li128, li130, li300, li514, li999, li1000, li8192, li9999, li65536, li1000000, li1000001, li1000002, li1000003, li1000004, li1000005, li1000006, li1000007, li1000008, li1000009, li1000010, li1000011, li1000012, li1000013, li1000014, li1000015, li1000016, li1000017, li1000018, li1000019, li2147483647, lj0, lj1, W_add, W_sub, W_mul, W_neg, V_add, V_sub, V_mul, V_neg, W_ite, ei]
    rw [hgo]
    exact h.t (t := 1) (Or.inl rfl)
theorem cpf_s {B : CF} {s d : Int} {k : Int} (hsd : s ≠ d) (k0 : 0 ≤ k) (k1 : k < 10) : uI (cpf B 3 (10 * s) 3 (10 * d) k) 3 (10 * d + k) (B 3 (10 * s + k)) = cpf B 3 (10 * s) 3 (10 * d) (k + 1) := by
  funext o q
  unfold uI cpf
  by_cases c1 : o = 3 ∧ q = 10 * d + k
  · rw [if_pos c1, if_pos (by omega)]
    congr 1
    omega
  · rw [if_neg c1]
    by_cases c2 : o = 3 ∧ 10 * d ≤ q ∧ q < 10 * d + k
    · rw [if_pos c2, if_pos (by omega)]
    · rw [if_neg c2, if_neg (by omega)]
theorem r_moveL {B : CF} {s d : Int} (hsd : s ≠ d) (s0 : 0 ≤ s) (s1 : s < 12) (d0 : 0 ≤ d) (d1 : d < 12) : ∀ (fuel : Nat) (k : Int) (I : CF), 10 - k < fuel → 0 ≤ k → k ≤ 10 → RM I (cpf B 3 (10 * s) 3 (10 * d) k) → ∃ I', f_X8_moveItem_L2 fuel (Sx I J b c) 102 (iW s) (iW d) (iW k) = some (Sx I' J b c, xv) ∧ RM I' (cpf B 3 (10 * s) 3 (10 * d) 10) ∧ ∀ a : Int, a < 140 ∨ 174 < a → I' a = I a := by
  intro fuel
  induction fuel with
  | zero => intro k I a1; omega
  | succ fuel ih =>
    intro k I a1 a2 a3 hM
    show ∃ I', f_X8_moveItem_b2 (f_X8_moveItem_L2 fuel) (Sx I J b c) 102 (iW s) (iW d) (iW k) = _ ∧ _
    by_cases hk : k = 10
    · subst hk
      refine ⟨I, ?_, hM, fun _ _ => rfl⟩
      have n0 : (10 : Int) ≤ 10 := by omega
      simp (disch := first | assumption | omega) only [f_X8_moveItem_b2, ↓rc102, ↓gI102_0, ↓gI102_6, ↓gI102_8, ↓gI102_9, ↓gI102_13, ↓gI102_15, ↓gI102_16, ↓gI102_17, ↓gI102_18, ↓gI102_19, ↓gI102_27, ↓gI102_28, ↓gI102_29, ↓gJ102_39, ↓gJ102_40, ↓gJ102_41, ↓gJ102_42, ↓pI102_0, ↓pI102_6, ↓pI102_9, ↓pI102_13, ↓pI102_15, ↓pI102_16, ↓pI102_17, ↓pI102_27, ↓pI102_28, ↓pI102_29, ↓pZ102_8, ↓pZ102_18, ↓pZ102_19, ↓pJ102_39, ↓pJ102_40, ↓pJ102_41, ↓pJ102_42, ↓gR102_1, ↓gR102_2, ↓gR102_3, ↓gR102_4, ↓gR102_5, ↓gR102_7, ↓gR102_10, ↓gR102_11, ↓gR102_12, ↓gR102_14, ↓gR102_20, ↓gR102_21, ↓gR102_22, ↓gR102_23, ↓gR102_24, ↓gR102_25, ↓gR102_26, ↓gR102_30, ↓gR102_31, ↓gR102_32, ↓gR102_33, ↓gR102_34, ↓gR102_35, ↓gR102_36, ↓gR102_37, ↓gR102_38, ↓aI103, ↓sI103, ↓ln103, ↓aI137, ↓sI137, ↓ln137, ↓aI188, ↓sZ188, ↓ln188, ↓aI189, ↓ln189, ↓aI203, ↓sI203, ↓ln203, ↓aI217, ↓sZ217, ↓ln217, ↓aI218, ↓sI218, ↓ln218, ↓aI219, ↓sI219, ↓ln219, ↓aI220, ↓sZ220, ↓ln220, ↓aI221, ↓sZ221, ↓ln221, ↓aI229, ↓sI229, ↓ln229, ↓aI230, ↓sI230, ↓ln230, ↓aI231, ↓sI231, ↓ln231, ↓aI232, ↓sI232, ↓ln232, ↓aI233, ↓sI233, ↓ln233, ↓aI234, ↓sZ234, ↓ln234, ↓aI235, ↓sZ235, ↓ln235, ↓aR104, ↓aR131, ↓aR134, ↓aR138, ↓aR175, ↓aR179, ↓aR190, ↓aR204, ↓aR222, ↓aR105, ↓aR139, ↓aI106, ↓sI106, ↓lI106, ↓aI132, ↓sI132, ↓lI132, ↓aI135, ↓sI135, ↓lI135, ↓aI140, ↓sI140, ↓lI140, ↓aI176, ↓sI176, ↓lI176, ↓aI180, ↓sI180, ↓lI180, ↓aI191, ↓sI191, ↓lI191, ↓aI205, ↓sI205, ↓lI205, ↓aI223, ↓sI223, ↓lI223, ↓c_I, ↓c_J, ↓c_Q, ↓c_V, ↓c_It, ↓c_Jt, ↓c_Vt, ↓k_I, ↓k_J, ↓n_I, ↓n_V, li0, li1, li2, li3, li4, li5, li6, li7, li8, li9, li10, li11, li12, li13, li14, li15, li16, li17, li18, li19, li20, li21, li22, li23, li24, li25, li26, li27, li28, li29, li30, li31, li32, li33, li34, li35, li36, li37, li38, li39, li40, li41, li42, li44, li48, li57, li63, li64, li65, li97, li99, li100, li101, li102, li104, li105, li106, li109, li114, li120, li128, li130, li300, li514, li999, li1000, li8192, li9999, li65536, li1000000, li1000001, li1000002, li1000003, li1000004, li1000005, li1000006, li1000007, li1000008, li1000009, li1000010, li1000011, li1000012, li1000013, li1000014, li1000015, li1000016, li1000017, li1000018, li1000019, li2147483647, lj0, lj1, W_add, W_sub, W_mul, W_neg, V_add, V_sub, V_mul, V_neg, W_ite, W_le, W_lt, W_inj, V_le, V_lt, V_inj, W_V, V_W, lgc_ge, lgc_gt, lgc_le, lgc_lt, lgc_eq, ge_iff_le, gt_iff_lt, n0, ↓reduceIte]
    · have n1 : ¬ ((10 : Int) ≤ k) := by omega
      have e1 : I (140 + 3 * s + k / 5) (k - k / 5 * 5) = B 3 (10 * s + k) := by
        rw [r_itemF hM s0 s1 (by omega) (by omega) (by omega) (by omega)]
        unfold itf
        rw [cp_out (by omega)]
        congr 1
        omega
      have hM2 := hM.i (i := d) (x := k / 5) (f := k - k / 5 * 5) (v := B 3 (10 * s + k)) d0 d1 (by omega) (by omega) (by omega) (by omega)
      rw [show (d * 2 + k / 5) * 5 + (k - k / 5 * 5) = 10 * d + k by omega, cpf_s hsd a2 (by omega)] at hM2
      obtain ⟨I', k1, k2, k3⟩ := ih (k + 1) _ (by omega) (by omega) (by omega) hM2
      refine ⟨I', ?_, k2, fun a ha => by rw [k3 a ha, u_obj (by omega)]⟩
      rw [← k1]
      simp (disch := first | assumption | omega) only [f_X8_moveItem_b2, W_d, W_div5, ↓rc102, ↓gI102_0, ↓gI102_6, ↓gI102_8, ↓gI102_9, ↓gI102_13, ↓gI102_15, ↓gI102_16, ↓gI102_17, ↓gI102_18, ↓gI102_19, ↓gI102_27, ↓gI102_28, ↓gI102_29, ↓gJ102_39, ↓gJ102_40, ↓gJ102_41, ↓gJ102_42, ↓pI102_0, ↓pI102_6, ↓pI102_9, ↓pI102_13, ↓pI102_15, ↓pI102_16, ↓pI102_17, ↓pI102_27, ↓pI102_28, ↓pI102_29, ↓pZ102_8, ↓pZ102_18, ↓pZ102_19, ↓pJ102_39, ↓pJ102_40, ↓pJ102_41, ↓pJ102_42, ↓gR102_1, ↓gR102_2, ↓gR102_3, ↓gR102_4, ↓gR102_5, ↓gR102_7, ↓gR102_10, ↓gR102_11, ↓gR102_12, ↓gR102_14, ↓gR102_20, ↓gR102_21, ↓gR102_22, ↓gR102_23, ↓gR102_24, ↓gR102_25, ↓gR102_26, ↓gR102_30, ↓gR102_31, ↓gR102_32, ↓gR102_33, ↓gR102_34, ↓gR102_35, ↓gR102_36, ↓gR102_37, ↓gR102_38, ↓aI103, ↓sI103, ↓ln103, ↓aI137, ↓sI137, ↓ln137, ↓aI188, ↓sZ188, ↓ln188, ↓aI189, ↓ln189, ↓aI203, ↓sI203, ↓ln203, ↓aI217, ↓sZ217, ↓ln217, ↓aI218, ↓sI218, ↓ln218, ↓aI219, ↓sI219, ↓ln219, ↓aI220, ↓sZ220, ↓ln220, ↓aI221, ↓sZ221, ↓ln221, ↓aI229, ↓sI229, ↓ln229, ↓aI230, ↓sI230, ↓ln230, ↓aI231, ↓sI231, ↓ln231, ↓aI232, ↓sI232, ↓ln232, ↓aI233, ↓sI233, ↓ln233, ↓aI234, ↓sZ234, ↓ln234, ↓aI235, ↓sZ235, ↓ln235, ↓aR104, ↓aR131, ↓aR134, ↓aR138, ↓aR175, ↓aR179, ↓aR190, ↓aR204, ↓aR222, ↓aR105, ↓aR139, ↓aI106, ↓sI106, ↓lI106, ↓aI132, ↓sI132, ↓lI132, ↓aI135, ↓sI135, ↓lI135, ↓aI140, ↓sI140, ↓lI140, ↓aI176, ↓sI176, ↓lI176, ↓aI180, ↓sI180, ↓lI180, ↓aI191, ↓sI191, ↓lI191, ↓aI205, ↓sI205, ↓lI205, ↓aI223, ↓sI223, ↓lI223, ↓c_I, ↓c_J, ↓c_Q, ↓c_V, ↓c_It, ↓c_Jt, ↓c_Vt, ↓k_I, ↓k_J, ↓n_I, ↓n_V, li0, li1, li2, li3, li4, li5, li6, li7, li8, li9, li10, li11, li12, li13, li14, li15, li16, li17, li18, li19, li20, li21, li22, li23, li24, li25, li26, li27, li28, li29, li30, li31, li32, li33, li34, li35, li36, li37, li38, li39, li40, li41, li42, li44, li48, li57, li63, li64, li65, li97, li99, li100, li101, li102, li104, li105, li106, li109, li114, li120, li128, li130, li300, li514, li999, li1000, li8192, li9999, li65536, li1000000, li1000001, li1000002, li1000003, li1000004, li1000005, li1000006, li1000007, li1000008, li1000009, li1000010, li1000011, li1000012, li1000013, li1000014, li1000015, li1000016, li1000017, li1000018, li1000019, li2147483647, lj0, lj1, W_add, W_sub, W_mul, W_neg, V_add, V_sub, V_mul, V_neg, W_ite, W_le, W_lt, W_inj, V_le, V_lt, V_inj, W_V, V_W, lgc_ge, lgc_gt, lgc_le, lgc_lt, lgc_eq, ge_iff_le, gt_iff_lt, n1, e1, ↓reduceIte]
theorem cpf_0 {B : CF} {s d : Int} : cpf B 3 s 3 d 0 = B := by
  funext o q
  unfold cpf
  rw [if_neg (by omega)]
theorem r_move {B : CF} {s d : Int} (hsd : s ≠ d) (s0 : 0 ≤ s) (s1 : s < 12) (d0 : 0 ≤ d) (d1 : d < 12) (hM : RM I B) : ∃ I', f_X8_moveItem (Sx I J b c) 102 (iW s) (iW d) = some (Sx I' J b c, xv) ∧ RM I' (cpf B 3 (10 * s) 3 (10 * d) 10) ∧ ∀ a : Int, a < 140 ∨ 174 < a → I' a = I a := by
  obtain ⟨I', k1, k2⟩ := r_moveL (J := J) (b := b) (c := c) (B := B) hsd s0 s1 d0 d1 FU 0 I (by unfold FU; omega) (by omega) (by omega) (by rw [cpf_0]; exact hM)
  refine ⟨I', ?_, k2⟩
  rw [← k1]
  simp (disch := first | assumption | omega) only [f_X8_moveItem, li0, li1, li2, li3, li4, li5, li6, li7, li8, li9, li10, li11, li12, li13, li14, li15, li16, li17, li18, li19, li20, li21, li22, li23, li24, li25, li26, li27, li28, li29, li30, li31, li32, li33, li34, li35, li36, li37, li38, li39, li40, li41, li42, li44, li48, li57, li63, li64, li65, li97, li99, li100, li101, li102, li104, li105, li106, li109, li114, li120, li128, li130, li300, li514, li999, li1000, li8192, li9999, li65536, li1000000, li1000001, li1000002, li1000003, li1000004, li1000005, li1000006, li1000007, li1000008, li1000009, li1000010, li1000011, li1000012, li1000013, li1000014, li1000015, li1000016, li1000017, li1000018, li1000019, li2147483647, lj0, lj1, W_add, W_sub, W_mul, W_neg, V_add, V_sub, V_mul, V_neg, W_ite]
theorem rem_s {A : CF} {i x n : Int} (hx : i ≤ x) : cpf (uI (cpf A 3 ((i + 1) * 10) 3 (i * 10) ((x - i) * 10)) 4 0 n) 3 (10 * (x + 1)) 3 (10 * x) 10 = uI (cpf A 3 ((i + 1) * 10) 3 (i * 10) ((x + 1 - i) * 10)) 4 0 n := by
  funext o q
  by_cases ho : o = 3
  · subst ho
    rw [u_obj (by omega)]
    by_cases c1 : 10 * x ≤ q ∧ q < 10 * x + 10
    · rw [cp_in c1.1 c1.2, u_obj (by omega), cp_out (by omega), cp_in (by omega) (by omega)]
      congr 1
      omega
    · rw [cp_out c1, u_obj (by omega)]
      by_cases c2 : i * 10 ≤ q ∧ q < i * 10 + (x - i) * 10
      · rw [cp_in c2.1 c2.2, cp_in (by omega) (by omega)]
      · rw [cp_out c2, cp_out (by omega)]
  · rw [cp_obj ho]
    unfold uI
    by_cases c3 : o = 4 ∧ q = 0
    · rw [if_pos c3, if_pos c3]
    · rw [if_neg c3, if_neg c3, cp_obj ho, cp_obj ho]
theorem r_remL {A : CF} {i n : Int} (i0 : 0 ≤ i) (n1 : n ≤ 12) : ∀ (fuel : Nat) (x : Int) (I : CF), n - 1 - x < fuel → i ≤ x → x ≤ n - 1 → RM I (uI (cpf A 3 ((i + 1) * 10) 3 (i * 10) ((x - i) * 10)) 4 0 (n - 1)) → ∃ I', f_X8_removeItem_L39 fuel (Sx I J b c) 102 (iW x) = some (Sx I' J b c, xi (iW (n - 1))) ∧ RM I' (remA A i n) ∧ ∀ a : Int, a < 140 ∨ 174 < a → I' a = I a := by
  intro fuel
  induction fuel with
  | zero => intro x I a1; omega
  | succ fuel ih =>
    intro x I a1 a2 a3 hM
    show ∃ I', f_X8_removeItem_b39 (f_X8_removeItem_L39 fuel) (Sx I J b c) 102 (iW x) = _ ∧ _
    have hn : I 102 6 = n - 1 := hM.2.2.2.2.2.2.1.trans u_eq
    by_cases hk : x = n - 1
    · have q0 : n - 1 ≤ x := by omega
      refine ⟨I, ?_, by unfold remA; rw [show n - 1 - i = x - i by omega]; exact hM, fun _ _ => rfl⟩
      simp (disch := first | assumption | omega) only [f_X8_removeItem_b39, ↓rc102, ↓gI102_0, ↓gI102_6, ↓gI102_8, ↓gI102_9, ↓gI102_13, ↓gI102_15, ↓gI102_16, ↓gI102_17, ↓gI102_18, ↓gI102_19, ↓gI102_27, ↓gI102_28, ↓gI102_29, ↓gJ102_39, ↓gJ102_40, ↓gJ102_41, ↓gJ102_42, ↓pI102_0, ↓pI102_6, ↓pI102_9, ↓pI102_13, ↓pI102_15, ↓pI102_16, ↓pI102_17, ↓pI102_27, ↓pI102_28, ↓pI102_29, ↓pZ102_8, ↓pZ102_18, ↓pZ102_19, ↓pJ102_39, ↓pJ102_40, ↓pJ102_41, ↓pJ102_42, ↓gR102_1, ↓gR102_2, ↓gR102_3, ↓gR102_4, ↓gR102_5, ↓gR102_7, ↓gR102_10, ↓gR102_11, ↓gR102_12, ↓gR102_14, ↓gR102_20, ↓gR102_21, ↓gR102_22, ↓gR102_23, ↓gR102_24, ↓gR102_25, ↓gR102_26, ↓gR102_30, ↓gR102_31, ↓gR102_32, ↓gR102_33, ↓gR102_34, ↓gR102_35, ↓gR102_36, ↓gR102_37, ↓gR102_38, ↓aI103, ↓sI103, ↓ln103, ↓aI137, ↓sI137, ↓ln137, ↓aI188, ↓sZ188, ↓ln188, ↓aI189, ↓ln189, ↓aI203, ↓sI203, ↓ln203, ↓aI217, ↓sZ217, ↓ln217, ↓aI218, ↓sI218, ↓ln218, ↓aI219, ↓sI219, ↓ln219, ↓aI220, ↓sZ220, ↓ln220, ↓aI221, ↓sZ221, ↓ln221, ↓aI229, ↓sI229, ↓ln229, ↓aI230, ↓sI230, ↓ln230, ↓aI231, ↓sI231, ↓ln231, ↓aI232, ↓sI232, ↓ln232, ↓aI233, ↓sI233, ↓ln233, ↓aI234, ↓sZ234, ↓ln234, ↓aI235, ↓sZ235, ↓ln235, ↓aR104, ↓aR131, ↓aR134, ↓aR138, ↓aR175, ↓aR179, ↓aR190, ↓aR204, ↓aR222, ↓aR105, ↓aR139, ↓aI106, ↓sI106, ↓lI106, ↓aI132, ↓sI132, ↓lI132, ↓aI135, ↓sI135, ↓lI135, ↓aI140, ↓sI140, ↓lI140, ↓aI176, ↓sI176, ↓lI176, ↓aI180, ↓sI180, ↓lI180, ↓aI191, ↓sI191, ↓lI191, ↓aI205, ↓sI205, ↓lI205, ↓aI223, ↓sI223, ↓lI223, ↓c_I, ↓c_J, ↓c_Q, ↓c_V, ↓c_It, ↓c_Jt, ↓c_Vt, ↓k_I, ↓k_J, ↓n_I, ↓n_V, li0, li1, li2, li3, li4, li5, li6, li7, li8, li9, li10, li11, li12, li13, li14, li15, li16, li17, li18, li19, li20, li21, li22, li23, li24, li25, li26, li27, li28, li29, li30, li31, li32, li33, li34, li35, li36, li37, li38, li39, li40, li41, li42, li44, li48, li57, li63, li64, li65, li97, li99, li100, li101, li102, li104, li105, li106, li109, li114, li120, li128, li130, li300, li514, li999, li1000, li8192, li9999, li65536, li1000000, li1000001, li1000002, li1000003, li1000004, li1000005, li1000006, li1000007, li1000008, li1000009, li1000010, li1000011, li1000012, li1000013, li1000014, li1000015, li1000016, li1000017, li1000018, li1000019, li2147483647, lj0, lj1, W_add, W_sub, W_mul, W_neg, V_add, V_sub, V_mul, V_neg, W_ite, W_le, W_lt, W_inj, V_le, V_lt, V_inj, W_V, V_W, lgc_ge, lgc_gt, lgc_le, lgc_lt, lgc_eq, ge_iff_le, gt_iff_lt, hn, q0, ↓reduceIte]
    · have q0 : ¬ (n - 1 ≤ x) := by omega
      obtain ⟨I1, w1, w2, w3⟩ := r_move (J := J) (b := b) (c := c) (s := x + 1) (d := x) (by omega) (by omega) (by omega) (by omega) (by omega) hM
      rw [rem_s a2] at w2
      obtain ⟨I', k1, k2, k3⟩ := ih (x + 1) I1 (by omega) (by omega) (by omega) w2
      refine ⟨I', ?_, k2, fun a ha => by rw [k3 a ha, w3 a ha]⟩
      rw [← k1]
      simp (disch := first | assumption | omega) only [f_X8_removeItem_b39, ↓rc102, ↓gI102_0, ↓gI102_6, ↓gI102_8, ↓gI102_9, ↓gI102_13, ↓gI102_15, ↓gI102_16, ↓gI102_17, ↓gI102_18, ↓gI102_19, ↓gI102_27, ↓gI102_28, ↓gI102_29, ↓gJ102_39, ↓gJ102_40, ↓gJ102_41, ↓gJ102_42, ↓pI102_0, ↓pI102_6, ↓pI102_9, ↓pI102_13, ↓pI102_15, ↓pI102_16, ↓pI102_17, ↓pI102_27, ↓pI102_28, ↓pI102_29, ↓pZ102_8, ↓pZ102_18, ↓pZ102_19, ↓pJ102_39, ↓pJ102_40, ↓pJ102_41, ↓pJ102_42, ↓gR102_1, ↓gR102_2, ↓gR102_3, ↓gR102_4, ↓gR102_5, ↓gR102_7, ↓gR102_10, ↓gR102_11, ↓gR102_12, ↓gR102_14, ↓gR102_20, ↓gR102_21, ↓gR102_22, ↓gR102_23, ↓gR102_24, ↓gR102_25, ↓gR102_26, ↓gR102_30, ↓gR102_31, ↓gR102_32, ↓gR102_33, ↓gR102_34, ↓gR102_35, ↓gR102_36, ↓gR102_37, ↓gR102_38, ↓aI103, ↓sI103, ↓ln103, ↓aI137, ↓sI137, ↓ln137, ↓aI188, ↓sZ188, ↓ln188, ↓aI189, ↓ln189, ↓aI203, ↓sI203, ↓ln203, ↓aI217, ↓sZ217, ↓ln217, ↓aI218, ↓sI218, ↓ln218, ↓aI219, ↓sI219, ↓ln219, ↓aI220, ↓sZ220, ↓ln220, ↓aI221, ↓sZ221, ↓ln221, ↓aI229, ↓sI229, ↓ln229, ↓aI230, ↓sI230, ↓ln230, ↓aI231, ↓sI231, ↓ln231, ↓aI232, ↓sI232, ↓ln232, ↓aI233, ↓sI233, ↓ln233, ↓aI234, ↓sZ234, ↓ln234, ↓aI235, ↓sZ235, ↓ln235, ↓aR104, ↓aR131, ↓aR134, ↓aR138, ↓aR175, ↓aR179, ↓aR190, ↓aR204, ↓aR222, ↓aR105, ↓aR139, ↓aI106, ↓sI106, ↓lI106, ↓aI132, ↓sI132, ↓lI132, ↓aI135, ↓sI135, ↓lI135, ↓aI140, ↓sI140, ↓lI140, ↓aI176, ↓sI176, ↓lI176, ↓aI180, ↓sI180, ↓lI180, ↓aI191, ↓sI191, ↓lI191, ↓aI205, ↓sI205, ↓lI205, ↓aI223, ↓sI223, ↓lI223, ↓c_I, ↓c_J, ↓c_Q, ↓c_V, ↓c_It, ↓c_Jt, ↓c_Vt, ↓k_I, ↓k_J, ↓n_I, ↓n_V, li0, li1, li2, li3, li4, li5, li6, li7, li8, li9, li10, li11, li12, li13, li14, li15, li16, li17, li18, li19, li20, li21, li22, li23, li24, li25, li26, li27, li28, li29, li30, li31, li32, li33, li34, li35, li36, li37, li38, li39, li40, li41, li42, li44, li48, li57, li63, li64, li65, li97, li99, li100, li101, li102, li104, li105, li106, li109, li114, li120, li128, li130, li300, li514, li999, li1000, li8192, li9999, li65536, li1000000, li1000001, li1000002, li1000003, li1000004, li1000005, li1000006, li1000007, li1000008, li1000009, li1000010, li1000011, li1000012, li1000013, li1000014, li1000015, li1000016, li1000017, li1000018, li1000019, li2147483647, lj0, lj1, W_add, W_sub, W_mul, W_neg, V_add, V_sub, V_mul, V_neg, W_ite, W_le, W_lt, W_inj, V_le, V_lt, V_inj, W_V, V_W, lgc_ge, lgc_gt, lgc_le, lgc_lt, lgc_eq, ge_iff_le, gt_iff_lt, hn, q0, w1, ↓reduceIte]
theorem q_removeItem (hA : okA S.1) (h : RWd I S) {i : Int} (i0 : -2147483648 ≤ i) (i1 : i ≤ 2147483647) :
    RStp (f_X8_removeItem (Sx I J b c) 102 (iW i)) I J b c (if 0 ≤ i ∧ i ≤ nit S.1 - 1 then nit S.1 - 1 else 0) (if 0 ≤ i ∧ i ≤ nit S.1 - 1 then 0 else 1) (if 0 ≤ i ∧ i ≤ nit S.1 - 1 then chg S (remA S.1 i (nit S.1)) else S) := by
  have ei := r_isItem (J := J) (b := b) (c := c) hA h.1 i0 i1
  have hNn := hA.1
  by_cases qi : 0 ≤ i ∧ i ≤ nit S.1 - 1
  · rw [bb_pos qi] at ei
    rw [if_pos qi, if_pos qi, if_pos qi]
    have h0 : RWd (uI I 102 0 0) S := h.t
    obtain ⟨I1, k1, k2, k3, k4, k5⟩ := r_chg (J := J) (b := b) (c := c) h0
    have hn1 : I1 102 6 = nit S.1 := k3.2.2.2.2.2.2.1
    have hM2 : RM (uI I1 102 6 (nit S.1 - 1)) (uI (cpf S.1 3 ((i + 1) * 10) 3 (i * 10) ((i - i) * 10)) 4 0 (nit S.1 - 1)) := by
      rw [show (i - i) * 10 = 0 by omega, cpf_0]
      exact k3.n
    obtain ⟨I2, w1, w2, w3⟩ := r_remL (J := J) (b := b) (c := c) qi.1 hNn.2 FU i (uI I1 102 6 (nit S.1 - 1)) (by unfold FU; omega) (by omega) (by omega) hM2
    refine ⟨I2, J, ?_, by rw [w3 _ (by omega), u_ne (by omega), k4, u_eq], RWd.mk k2 w2 (fun k hk => by rw [w3 _ (by omega), u_ne hk]) (fun a ha => by rw [w3 _ (by omega), u_obj (by omega)]), fun a ha => by rw [w3 _ (by omega), u_obj (by omega), k5 a ha, u_obj (by omega)], fun _ _ => rfl⟩
    rw [← w1]
    simp (disch := first | assumption | omega) only [f_X8_removeItem, f_X8_removeItem_b15, ↓rc102, ↓gI102_0, ↓gI102_6, ↓gI102_8, ↓gI102_9, ↓gI102_13, ↓gI102_15, ↓gI102_16, ↓gI102_17, ↓gI102_18, ↓gI102_19, ↓gI102_27, ↓gI102_28, ↓gI102_29, ↓gJ102_39, ↓gJ102_40, ↓gJ102_41, ↓gJ102_42, ↓pI102_0, ↓pI102_6, ↓pI102_9, ↓pI102_13, ↓pI102_15, ↓pI102_16, ↓pI102_17, ↓pI102_27, ↓pI102_28, ↓pI102_29, ↓pZ102_8, ↓pZ102_18, ↓pZ102_19, ↓pJ102_39, ↓pJ102_40, ↓pJ102_41, ↓pJ102_42, ↓gR102_1, ↓gR102_2, ↓gR102_3, ↓gR102_4, ↓gR102_5, ↓gR102_7, ↓gR102_10, ↓gR102_11, ↓gR102_12, ↓gR102_14, ↓gR102_20, ↓gR102_21, ↓gR102_22, ↓gR102_23, ↓gR102_24, ↓gR102_25, ↓gR102_26, ↓gR102_30, ↓gR102_31, ↓gR102_32, ↓gR102_33, ↓gR102_34, ↓gR102_35, ↓gR102_36, ↓gR102_37, ↓gR102_38, ↓aI103, ↓sI103, ↓ln103, ↓aI137, ↓sI137, ↓ln137, ↓aI188, ↓sZ188, ↓ln188, ↓aI189, ↓ln189, ↓aI203, ↓sI203, ↓ln203, ↓aI217, ↓sZ217, ↓ln217, ↓aI218, ↓sI218, ↓ln218, ↓aI219, ↓sI219, ↓ln219, ↓aI220, ↓sZ220, ↓ln220, ↓aI221, ↓sZ221, ↓ln221, ↓aI229, ↓sI229, ↓ln229, ↓aI230, ↓sI230, ↓ln230, ↓aI231, ↓sI231, ↓ln231, ↓aI232, ↓sI232, ↓ln232, ↓aI233, ↓sI233, ↓ln233, ↓aI234, ↓sZ234, ↓ln234, ↓aI235, ↓sZ235, ↓ln235, ↓aR104, ↓aR131, ↓aR134, ↓aR138, ↓aR175, ↓aR179, ↓aR190, ↓aR204, ↓aR222, ↓aR105, ↓aR139, ↓aI106, ↓sI106, ↓lI106, ↓aI132, ↓sI132, ↓lI132, ↓aI135, ↓sI135, ↓lI135, ↓aI140, ↓sI140, ↓lI140, ↓aI176, ↓sI176, ↓lI176, ↓aI180, ↓sI180, ↓lI180, ↓aI191, ↓sI191, ↓lI191, ↓aI205, ↓sI205, ↓lI205, ↓aI223, ↓sI223, ↓lI223, ↓c_I, ↓c_J, ↓c_Q, ↓c_V, ↓c_It, ↓c_Jt, ↓c_Vt, ↓k_I, ↓k_J, ↓n_I, ↓n_V, li0, li1, li2, li3, li4, li5, li6, li7, li8, li9, li10, li11, li12, li13, li14, li15, li16, li17, li18, li19, li20, li21, li22, li23, li24, li25, li26, li27, li28, li29, li30, li31, li32, li33, li34, li35, li36, li37, li38, li39, li40, li41, li42, li44, li48, li57, li63, li64, li65, li97, li99, li100, li101, li102, li104, li105, li106, li109, li114, li120, li128, li130, li300, li514, li999, li1000, li8192, li9999, li65536, li1000000, li1000001, li1000002, li1000003, li1000004, li1000005, li1000006, li1000007, li1000008, li1000009, li1000010, li1000011, li1000012, li1000013, li1000014, li1000015, li1000016, li1000017, li1000018, li1000019, li2147483647, lj0, lj1, W_add, W_sub, W_mul, W_neg, V_add, V_sub, V_mul, V_neg, W_ite, W_le, W_lt, W_inj, V_le, V_lt, V_inj, W_V, V_W, lgc_ge, lgc_gt, lgc_le, lgc_lt, lgc_eq, ge_iff_le, gt_iff_lt, ei, r_fails0, r_fails1, k1, hn1, Int.reduceEq, ↓reduceIte]
  · rw [bb_neg qi] at ei
    rw [if_neg qi, if_neg qi, if_neg qi]
    have hgo : f_X8_removeItem (Sx I J b c) 102 (iW i) = some (Sx (uI I 102 0 1) J b c, xi (iW 0)) := by
      simp (disch := first | assumption | omega) only [f_X8_removeItem, f_X8_removeItem_b15, ↓rc102, ↓gI102_0, ↓gI102_6, ↓gI102_8, ↓gI102_9, ↓gI102_13, ↓gI102_15, ↓gI102_16, ↓gI102_17, ↓gI102_18, ↓gI102_19, ↓gI102_27, ↓gI102_28, ↓gI102_29, ↓gJ102_39, ↓gJ102_40, ↓gJ102_41, ↓gJ102_42, ↓pI102_0, ↓pI102_6, ↓pI102_9, ↓pI102_13, ↓pI102_15, ↓pI102_16, ↓pI102_17, ↓pI102_27, ↓pI102_28, ↓pI102_29, ↓pZ102_8, ↓pZ102_18, ↓pZ102_19, ↓pJ102_39, ↓pJ102_40, ↓pJ102_41, ↓pJ102_42, ↓gR102_1, ↓gR102_2, ↓gR102_3, ↓gR102_4, ↓gR102_5, ↓gR102_7, ↓gR102_10, ↓gR102_11, ↓gR102_12, ↓gR102_14, ↓gR102_20, ↓gR102_21, ↓gR102_22, ↓gR102_23, ↓gR102_24, ↓gR102_25, ↓gR102_26, ↓gR102_30, ↓gR102_31, ↓gR102_32, ↓gR102_33, ↓gR102_34, ↓gR102_35, ↓gR102_36, ↓gR102_37, ↓gR102_38, ↓aI103, ↓sI103, ↓ln103, ↓aI137, ↓sI137, ↓ln137, ↓aI188, ↓sZ188, ↓ln188, ↓aI189, ↓ln189, ↓aI203, ↓sI203, ↓ln203, ↓aI217, ↓sZ217, ↓ln217, ↓aI218, ↓sI218, ↓ln218, ↓aI219, ↓sI219, ↓ln219, ↓aI220, ↓sZ220, ↓ln220, ↓aI221, ↓sZ221, ↓ln221, ↓aI229, ↓sI229, ↓ln229, ↓aI230, ↓sI230, ↓ln230, ↓aI231, ↓sI231, ↓ln231, ↓aI232, ↓sI232, ↓ln232, ↓aI233, ↓sI233, ↓ln233, ↓aI234, ↓sZ234, ↓ln234, ↓aI235, ↓sZ235, ↓ln235, ↓aR104, ↓aR131, ↓aR134, ↓aR138, ↓aR175, ↓aR179, ↓aR190, ↓aR204, ↓aR222, ↓aR105, ↓aR139, ↓aI106, ↓sI106, ↓lI106, ↓aI132, ↓sI132, ↓lI132, ↓aI135, ↓sI135, ↓lI135, ↓aI140, ↓sI140, ↓lI140, ↓aI176, ↓sI176, ↓lI176, ↓aI180, ↓sI180, ↓lI180, ↓aI191, ↓sI191, ↓lI191, ↓aI205, ↓sI205, ↓lI205, ↓aI223, ↓sI223, ↓lI223, ↓c_I, ↓c_J, ↓c_Q, ↓c_V, ↓c_It, ↓c_Jt, ↓c_Vt, ↓k_I, ↓k_J, ↓n_I, ↓n_V, li0, li1, li2, li3, li4, li5, li6, li7, li8, li9, li10, li11, li12, li13, li14, li15, li16, li17, li18, li19, li20, li21, li22, li23, li24, li25, li26, li27, li28, li29, li30, li31, li32, li33, li34, li35, li36, li37, li38, li39, li40, li41, li42, li44, li48, li57, li63, li64, li65, li97, li99, li100, li101, li102, li104, li105, li106, li109, li114, li120, li128, li130, li300, li514, li999, li1000, li8192, li9999, li65536, li1000000, li1000001, li1000002, li1000003, li1000004, li1000005, li1000006, li1000007, li1000008, li1000009, li1000010, li1000011, li1000012, li1000013, li1000014, li1000015, li1000016, li1000017, li1000018, li1000019, li2147483647, lj0, lj1, W_add, W_sub, W_mul, W_neg, V_add, V_sub, V_mul, V_neg, W_ite, W_le, W_lt, W_inj, V_le, V_lt, V_inj, W_V, V_W, lgc_ge, lgc_gt, lgc_le, lgc_lt, lgc_eq, ge_iff_le, gt_iff_lt, ei, r_fails0, r_fails1, Int.reduceEq, ↓reduceIte]
    rw [hgo]
    exact RStp.bad h
theorem e_swL10 {A : CF} {i k y : Int} {k2 : HP → Nat → Int32 → Int32 → Int32 → Option XR} (i0 : 0 ≤ i) (i1 : i < 12) (k0 : 0 ≤ k) (k1 : k < 12) (y0 : 0 ≤ y) (y1 : y < 2) : ∀ (fuel : Nat) (f : Int) (I : CF), 5 - f < fuel → 0 ≤ f → f ≤ 5 → EM I (swN A i k (5 * y + f).toNat) → ∃ I', f_X4_swapItems_L10 k2 fuel (Sx I J b c) 8 (iW i) (iW k) (iW y) (iW f) = k2 (Sx I' J b c) 8 (iW i) (iW k) (iW (y + 1)) ∧ EM I' (swN A i k (5 * (y + 1)).toNat) ∧ ∀ a : Int, a ≠ 12 → I' a = I a := by
  intro fuel
  induction fuel with
  | zero => intro f I a1; omega
  | succ fuel ih =>
    intro f I a1 a2 a3 hM
    show ∃ I', f_X4_swapItems_b10 k2 (f_X4_swapItems_L10 k2 fuel) (Sx I J b c) 8 (iW i) (iW k) (iW y) (iW f) = _ ∧ _
    by_cases hk : f = 5
    · refine ⟨I, ?_, by rw [show 5 * (y + 1) = 5 * y + f by omega]; exact hM, fun _ _ => rfl⟩
      have n0 : (5 : Int) ≤ f := by omega
      simp (disch := first | assumption | omega) only [f_X4_swapItems_b10, ↓rc8, ↓gI8_4, ↓gI8_5, ↓gI8_6, ↓pI8_4, ↓pI8_5, ↓pZ8_6, ↓gR8_0, ↓gR8_1, ↓gR8_2, ↓gR8_3, ↓aI9, ↓sI9, ↓ln9, ↓aI10, ↓sI10, ↓ln10, ↓aI11, ↓sI11, ↓ln11, ↓aI12, ↓sI12, ↓ln12, ↓c_I, ↓c_J, ↓c_Q, ↓c_V, ↓c_It, ↓c_Jt, ↓c_Vt, ↓k_I, ↓k_J, ↓n_I, ↓n_V, li0, li1, li2, li3, li4, li5, li6, li7, li8, li9, li10, li11, li12, li13, li14, li15, li16, li17, li18, li19, li20, li21, li22, li23, li24, li25, li26, li27, li28, li29, li30, li31, li32, li33, li34, li35, li36, li37, li38, li39, li40, li41, li42, li44, li48, li57, li63, li64, li65, li97, li99, li100, li101, li102, li104, li105, li106, li109, li114, li120, li128, li130, li300, li514, li999, li1000, li8192, li9999, li65536, li1000000, li1000001, li1000002, li1000003, li1000004, li1000005, li1000006, li1000007, li1000008, li1000009, li1000010, li1000011, li1000012, li1000013, li1000014, li1000015, li1000016, li1000017, li1000018, li1000019, li2147483647, lj0, lj1, W_add, W_sub, W_mul, W_neg, V_add, V_sub, V_mul, V_neg, W_ite, W_le, W_lt, W_inj, V_le, V_lt, V_inj, W_V, V_W, lgc_ge, lgc_gt, lgc_le, lgc_lt, lgc_eq, ge_iff_le, gt_iff_lt, n0, ↓reduceIte]
    · have n1 : ¬ ((5 : Int) ≤ f) := by omega
      have e1 := e_itemField (J := J) (b := b) (c := c) hM (i := i) (ax := y) (f := f) i0 i1 y0 y1 a2 (by omega)
      have e2 := e_itemField (J := J) (b := b) (c := c) hM (i := k) (ax := y) (f := f) k0 k1 y0 y1 a2 (by omega)
      obtain ⟨u, hu⟩ : ∃ u, u = itf (swN A i k (5 * y + f).toNat) i y f := ⟨_, rfl⟩
      obtain ⟨v, hv⟩ : ∃ v, v = itf (swN A i k (5 * y + f).toNat) k y f := ⟨_, rfl⟩
      rw [← hu] at e1
      rw [← hv] at e2
      have e3 := e_changeItem (I := I) (J := J) (b := b) (c := c) (i := i) (x := y) (f := f) (v := v) i0 i1 y0 y1 a2 (by omega)
      have e4 := e_changeItem (I := uI I 12 ((i * 2 + y) * 5 + f) v) (J := J) (b := b) (c := c) (i := k) (x := y) (f := f) (v := u) k0 k1 y0 y1 a2 (by omega)
      have hM2 := (hM.u (a := 12) (o := 3) (q := (i * 2 + y) * 5 + f) (v := v) (by omega)).u (a := 12) (o := 3) (q := (k * 2 + y) * 5 + f) (v := u) (by omega)
      have hsw : uI (uI (swN A i k (5 * y + f).toNat) 3 ((i * 2 + y) * 5 + f) v) 3 ((k * 2 + y) * 5 + f) u = swN A i k (5 * y + (f + 1)).toNat := by
        rw [show (5 * y + (f + 1)).toNat = (5 * y + f).toNat + 1 by omega]
        show _ = uI (uI (swN A i k (5 * y + f).toNat) 3 (10 * i + ((5 * y + f).toNat : Nat)) (swN A i k (5 * y + f).toNat 3 (10 * k + ((5 * y + f).toNat : Nat)))) 3 (10 * k + ((5 * y + f).toNat : Nat)) (swN A i k (5 * y + f).toNat 3 (10 * i + ((5 * y + f).toNat : Nat)))
        rw [show 10 * i + ((5 * y + f).toNat : Nat) = (i * 2 + y) * 5 + f by omega, show 10 * k + ((5 * y + f).toNat : Nat) = (k * 2 + y) * 5 + f by omega, hu, hv]
        rfl
      rw [hsw] at hM2
      obtain ⟨I', w1, w2, w3⟩ := ih (f + 1) _ (by omega) (by omega) (by omega) hM2
      refine ⟨I', ?_, w2, fun a ha => by rw [w3 a ha, u_obj ha, u_obj ha]⟩
      rw [← w1]
      simp (disch := first | assumption | omega) only [f_X4_swapItems_b10, ↓rc8, ↓gI8_4, ↓gI8_5, ↓gI8_6, ↓pI8_4, ↓pI8_5, ↓pZ8_6, ↓gR8_0, ↓gR8_1, ↓gR8_2, ↓gR8_3, ↓aI9, ↓sI9, ↓ln9, ↓aI10, ↓sI10, ↓ln10, ↓aI11, ↓sI11, ↓ln11, ↓aI12, ↓sI12, ↓ln12, ↓c_I, ↓c_J, ↓c_Q, ↓c_V, ↓c_It, ↓c_Jt, ↓c_Vt, ↓k_I, ↓k_J, ↓n_I, ↓n_V, li0, li1, li2, li3, li4, li5, li6, li7, li8, li9, li10, li11, li12, li13, li14, li15, li16, li17, li18, li19, li20, li21, li22, li23, li24, li25, li26, li27, li28, li29, li30, li31, li32, li33, li34, li35, li36, li37, li38, li39, li40, li41, li42, li44, li48, li57, li63, li64, li65, li97, li99, li100, li101, li102, li104, li105, li106, li109, li114, li120, li128, li130, li300, li514, li999, li1000, li8192, li9999, li65536, li1000000, li1000001, li1000002, li1000003, li1000004, li1000005, li1000006, li1000007, li1000008, li1000009, li1000010, li1000011, li1000012, li1000013, li1000014, li1000015, li1000016, li1000017, li1000018, li1000019, li2147483647, lj0, lj1, W_add, W_sub, W_mul, W_neg, V_add, V_sub, V_mul, V_neg, W_ite, W_le, W_lt, W_inj, V_le, V_lt, V_inj, W_V, V_W, lgc_ge, lgc_gt, lgc_le, lgc_lt, lgc_eq, ge_iff_le, gt_iff_lt, n1, e1, e2, e3, e4, ↓reduceIte]
theorem e_swap {A : CF} {i k : Int} (i0 : 0 ≤ i) (i1 : i < 12) (k0 : 0 ≤ k) (k1 : k < 12) (hM : EM I A) : ∃ I', f_X4_swapItems (Sx I J b c) 8 (iW i) (iW k) = some (Sx I' J b c, xv) ∧ EM I' (swN A i k 10) ∧ ∀ a : Int, a ≠ 12 → I' a = I a := by
  obtain ⟨I1, a1, a2, a3⟩ := e_swL10 (J := J) (b := b) (c := c) (A := A) (y := 0) (k2 := f_X4_swapItems_L2 99999) i0 i1 k0 k1 (by omega) (by omega) FU 0 I (by unfold FU; omega) (by omega) (by omega) hM
  obtain ⟨I2, b1, b2, b3⟩ := e_swL10 (J := J) (b := b) (c := c) (A := A) (y := 1) (k2 := f_X4_swapItems_L2 99998) i0 i1 k0 k1 (by omega) (by omega) FU 0 I1 (by unfold FU; omega) (by omega) (by omega) a2
  have n0 : ¬ ((2 : Int) ≤ 0) := by omega
  have n1 : ¬ ((2 : Int) ≤ 0 + 1) := by omega
  have n2 : (2 : Int) ≤ 1 + 1 := by omega
  refine ⟨I2, ?_, b2, fun a ha => by rw [b3 a ha, a3 a ha]⟩
  have h1 : f_X4_swapItems_b2 (f_X4_swapItems_L2 99999) (Sx I J b c) 8 (iW i) (iW k) (iW 0) = f_X4_swapItems_L2 99999 (Sx I1 J b c) 8 (iW i) (iW k) (iW (0 + 1)) := by
    rw [← a1]
    simp (disch := first | assumption | omega) only [f_X4_swapItems_b2, ↓rc8, ↓gI8_4, ↓gI8_5, ↓gI8_6, ↓pI8_4, ↓pI8_5, ↓pZ8_6, ↓gR8_0, ↓gR8_1, ↓gR8_2, ↓gR8_3, ↓aI9, ↓sI9, ↓ln9, ↓aI10, ↓sI10, ↓ln10, ↓aI11, ↓sI11, ↓ln11, ↓aI12, ↓sI12, ↓ln12, ↓c_I, ↓c_J, ↓c_Q, ↓c_V, ↓c_It, ↓c_Jt, ↓c_Vt, ↓k_I, ↓k_J, ↓n_I, ↓n_V, li0, li1, li2, li3, li4, li5, li6, li7, li8, li9, li10, li11, li12, li13, li14, li15, li16, li17, li18, li19, li20, li21, li22, li23, li24, li25, li26, li27, li28, li29, li30, li31, li32, li33, li34, li35, li36, li37, li38, li39, li40, li41, li42, li44, li48, li57, li63, li64, li65, li97, li99, li100, li101, li102, li104, li105, li106, li109, li114, li120, li128, li130, li300, li514, li999, li1000, li8192, li9999, li65536, li1000000, li1000001, li1000002, li1000003, li1000004, li1000005, li1000006, li1000007, li1000008, li1000009, li1000010, li1000011, li1000012, li1000013, li1000014, li1000015, li1000016, li1000017, li1000018, li1000019, li2147483647, lj0, lj1, W_add, W_sub, W_mul, W_neg, V_add, V_sub, V_mul, V_neg, W_ite, W_le, W_lt, W_inj, V_le, V_lt, V_inj, W_V, V_W, lgc_ge, lgc_gt, lgc_le, lgc_lt, lgc_eq, ge_iff_le, gt_iff_lt, n0, ↓reduceIte]
  have h2 : f_X4_swapItems_b2 (f_X4_swapItems_L2 99998) (Sx I1 J b c) 8 (iW i) (iW k) (iW 1) = f_X4_swapItems_L2 99998 (Sx I2 J b c) 8 (iW i) (iW k) (iW (1 + 1)) := by
    rw [← b1]
    simp (disch := first | assumption | omega) only [f_X4_swapItems_b2, ↓rc8, ↓gI8_4, ↓gI8_5, ↓gI8_6, ↓pI8_4, ↓pI8_5, ↓pZ8_6, ↓gR8_0, ↓gR8_1, ↓gR8_2, ↓gR8_3, ↓aI9, ↓sI9, ↓ln9, ↓aI10, ↓sI10, ↓ln10, ↓aI11, ↓sI11, ↓ln11, ↓aI12, ↓sI12, ↓ln12, ↓c_I, ↓c_J, ↓c_Q, ↓c_V, ↓c_It, ↓c_Jt, ↓c_Vt, ↓k_I, ↓k_J, ↓n_I, ↓n_V, li0, li1, li2, li3, li4, li5, li6, li7, li8, li9, li10, li11, li12, li13, li14, li15, li16, li17, li18, li19, li20, li21, li22, li23, li24, li25, li26, li27, li28, li29, li30, li31, li32, li33, li34, li35, li36, li37, li38, li39, li40, li41, li42, li44, li48, li57, li63, li64, li65, li97, li99, li100, li101, li102, li104, li105, li106, li109, li114, li120, li128, li130, li300, li514, li999, li1000, li8192, li9999, li65536, li1000000, li1000001, li1000002, li1000003, li1000004, li1000005, li1000006, li1000007, li1000008, li1000009, li1000010, li1000011, li1000012, li1000013, li1000014, li1000015, li1000016, li1000017, li1000018, li1000019, li2147483647, lj0, lj1, W_add, W_sub, W_mul, W_neg, V_add, V_sub, V_mul, V_neg, W_ite, W_le, W_lt, W_inj, V_le, V_lt, V_inj, W_V, V_W, lgc_ge, lgc_gt, lgc_le, lgc_lt, lgc_eq, ge_iff_le, gt_iff_lt, n1, Int.reduceLE, ↓reduceIte]
  have h3 : f_X4_swapItems_b2 (f_X4_swapItems_L2 99997) (Sx I2 J b c) 8 (iW i) (iW k) (iW (1 + 1)) = some (Sx I2 J b c, xv) := by
    simp (disch := first | assumption | omega) only [f_X4_swapItems_b2, ↓rc8, ↓gI8_4, ↓gI8_5, ↓gI8_6, ↓pI8_4, ↓pI8_5, ↓pZ8_6, ↓gR8_0, ↓gR8_1, ↓gR8_2, ↓gR8_3, ↓aI9, ↓sI9, ↓ln9, ↓aI10, ↓sI10, ↓ln10, ↓aI11, ↓sI11, ↓ln11, ↓aI12, ↓sI12, ↓ln12, ↓c_I, ↓c_J, ↓c_Q, ↓c_V, ↓c_It, ↓c_Jt, ↓c_Vt, ↓k_I, ↓k_J, ↓n_I, ↓n_V, li0, li1, li2, li3, li4, li5, li6, li7, li8, li9, li10, li11, li12, li13, li14, li15, li16, li17, li18, li19, li20, li21, li22, li23, li24, li25, li26, li27, li28, li29, li30, li31, li32, li33, li34, li35, li36, li37, li38, li39, li40, li41, li42, li44, li48, li57, li63, li64, li65, li97, li99, li100, li101, li102, li104, li105, li106, li109, li114, li120, li128, li130, li300, li514, li999, li1000, li8192, li9999, li65536, li1000000, li1000001, li1000002, li1000003, li1000004, li1000005, li1000006, li1000007, li1000008, li1000009, li1000010, li1000011, li1000012, li1000013, li1000014, li1000015, li1000016, li1000017, li1000018, li1000019, li2147483647, lj0, lj1, W_add, W_sub, W_mul, W_neg, V_add, V_sub, V_mul, V_neg, W_ite, W_le, W_lt, W_inj, V_le, V_lt, V_inj, W_V, V_W, lgc_ge, lgc_gt, lgc_le, lgc_lt, lgc_eq, ge_iff_le, gt_iff_lt, n2, ↓reduceIte]
  show f_X4_swapItems_b2 (f_X4_swapItems_L2 99999) (Sx I J b c) 8 (iW i) (iW k) (iW 0) = _
  rw [h1]
  show f_X4_swapItems_b2 (f_X4_swapItems_L2 99998) (Sx I1 J b c) 8 (iW i) (iW k) (iW 1) = _
  rw [h2]
  exact h3
theorem x_exchange (h : EW I S) {i k : Int} (i0 : -2147483648 ≤ i) (i1 : i ≤ 2147483647) (k0 : -2147483648 ≤ k) (k1 : k ≤ 2147483647) (E2 : String) :
    EStp (f_X7_exchange (Sx I J b c) 0 (iW i) (iW k)) I J c "java/lang/IndexOutOfBoundsException" E2 (if (0 ≤ i ∧ i ≤ nit S.1 - 1) ∧ (0 ≤ k ∧ k ≤ nit S.1 - 1) then nit S.1 else 0) (if (0 ≤ i ∧ i ≤ nit S.1 - 1) ∧ (0 ≤ k ∧ k ≤ nit S.1 - 1) then 0 else 1) (if (0 ≤ i ∧ i ≤ nit S.1 - 1) ∧ (0 ≤ k ∧ k ≤ nit S.1 - 1) then chg S (swN S.1 i k 10) else S) := by
  have ei := e_chkItem (J := J) (b := b) (c := c) h.1 i0 i1
  have ek := e_chkItem (J := J) (b := b) (c := c) h.1 k0 k1
  have hNn := h.1.1.1
  by_cases qi : 0 ≤ i ∧ i ≤ nit S.1 - 1
  · rw [if_pos qi] at ei
    by_cases qk : 0 ≤ k ∧ k ≤ nit S.1 - 1
    · rw [if_pos qk] at ek
      have qq : (0 ≤ i ∧ i ≤ nit S.1 - 1) ∧ (0 ≤ k ∧ k ≤ nit S.1 - 1) := ⟨qi, qk⟩
      rw [if_pos qq, if_pos qq, if_pos qq]
      obtain ⟨I1, c1, c2, c3, c4, c5⟩ := e_chg (J := J) (b := b) (c := c) h
      obtain ⟨I2, d1, d2, d3⟩ := e_swap (J := J) (b := b) (c := c) (i := i) (k := k) (by omega) (by omega) (by omega) (by omega) c2
      have hn2 : I2 8 4 = nit S.1 := by rw [d3 _ (by omega)]; exact c2.2.2.2.2.1
      refine ⟨I2, J, b, ?_, EW.mk c3 c4 (h.1.1.sw (by omega) (by omega) (by omega) (by omega)) d2 (fun a ha => d3 a (by omega)), fun a ha => by rw [d3 a (by omega), c5 a (by omega) (by omega)], fun _ _ => rfl⟩
      rw [if_pos rfl]
      simp (disch := first | assumption | omega) only [f_X7_exchange, ↓rc0, ↓gI0_1, ↓gI0_7, ↓gI0_8, ↓gI0_15, ↓pI0_1, ↓pI0_7, ↓pI0_8, ↓pZ0_15, ↓gR0_0, ↓gR0_2, ↓gR0_3, ↓gR0_4, ↓gR0_5, ↓gR0_6, ↓gR0_9, ↓gR0_10, ↓gR0_11, ↓gR0_12, ↓gR0_13, ↓gR0_14, ↓aI1, ↓ln1, ↓aI14, ↓sZ14, ↓ln14, ↓aR13, ↓aR15, ↓rc8, ↓gI8_4, ↓gI8_5, ↓gI8_6, ↓pI8_4, ↓pI8_5, ↓pZ8_6, ↓gR8_0, ↓gR8_1, ↓gR8_2, ↓gR8_3, ↓aI9, ↓sI9, ↓ln9, ↓aI10, ↓sI10, ↓ln10, ↓aI11, ↓sI11, ↓ln11, ↓aI12, ↓sI12, ↓ln12, ↓c_I, ↓c_J, ↓c_Q, ↓c_V, ↓c_It, ↓c_Jt, ↓c_Vt, ↓k_I, ↓k_J, ↓n_I, ↓n_V, li0, li1, li2, li3, li4, li5, li6, li7, li8, li9, li10, li11, li12, li13, li14, li15, li16, li17, li18, li19, li20, li21, li22, li23, li24, li25, li26, li27, li28, li29, li30, li31, li32, li33, li34, li35, li36, li37, li38, li39, li40, li41, li42, li44, li48, li57, li63, li64, li65, li97, li99, li100, li101, li102, li104, li105, li106, li109, li114, li120, li128, li130, li300, li514, li999, li1000, li8192, li9999, li65536, li1000000, li1000001, li1000002, li1000003, li1000004, li1000005, li1000006, li1000007, li1000008, li1000009, li1000010, li1000011, li1000012, li1000013, li1000014, li1000015, li1000016, li1000017, li1000018, li1000019, li2147483647, lj0, lj1, W_add, W_sub, W_mul, W_neg, V_add, V_sub, V_mul, V_neg, W_ite, W_le, W_lt, W_inj, V_le, V_lt, V_inj, W_V, V_W, lgc_ge, lgc_gt, lgc_le, lgc_lt, lgc_eq, ge_iff_le, gt_iff_lt, ei, ek, c1, d1, hn2]
    · rw [if_neg qk] at ek
      rw [if_neg (fun z => qk z.2), if_neg (fun z => qk z.2), if_neg (fun z => qk z.2)]
      have hgo : f_X7_exchange (Sx I J b c) 0 (iW i) (iW k) = some (Sx I J b false, xt "java/lang/IndexOutOfBoundsException") := by
        simp (disch := first | assumption | omega) only [f_X7_exchange, ↓rc0, ↓gI0_1, ↓gI0_7, ↓gI0_8, ↓gI0_15, ↓pI0_1, ↓pI0_7, ↓pI0_8, ↓pZ0_15, ↓gR0_0, ↓gR0_2, ↓gR0_3, ↓gR0_4, ↓gR0_5, ↓gR0_6, ↓gR0_9, ↓gR0_10, ↓gR0_11, ↓gR0_12, ↓gR0_13, ↓gR0_14, ↓aI1, ↓ln1, ↓aI14, ↓sZ14, ↓ln14, ↓aR13, ↓aR15, ↓c_I, ↓c_J, ↓c_Q, ↓c_V, ↓c_It, ↓c_Jt, ↓c_Vt, ↓k_I, ↓k_J, ↓n_I, ↓n_V, li0, li1, li2, li3, li4, li5, li6, li7, li8, li9, li10, li11, li12, li13, li14, li15, li16, li17, li18, li19, li20, li21, li22, li23, li24, li25, li26, li27, li28, li29, li30, li31, li32, li33, li34, li35, li36, li37, li38, li39, li40, li41, li42, li44, li48, li57, li63, li64, li65, li97, li99, li100, li101, li102, li104, li105, li106, li109, li114, li120, li128, li130, li300, li514, li999, li1000, li8192, li9999, li65536, li1000000, li1000001, li1000002, li1000003, li1000004, li1000005, li1000006, li1000007, li1000008, li1000009, li1000010, li1000011, li1000012, li1000013, li1000014, li1000015, li1000016, li1000017, li1000018, li1000019, li2147483647, lj0, lj1, W_add, W_sub, W_mul, W_neg, V_add, V_sub, V_mul, V_neg, W_ite, ei, ek]
      rw [hgo]
      exact h.t (t := 1) (Or.inl rfl)
  · rw [if_neg qi] at ei
    rw [if_neg (fun z => qi z.1), if_neg (fun z => qi z.1), if_neg (fun z => qi z.1)]
    have hgo : f_X7_exchange (Sx I J b c) 0 (iW i) (iW k) = some (Sx I J b false, xt "java/lang/IndexOutOfBoundsException") := by
      simp (disch := first | assumption | omega) only [f_X7_exchange, ↓rc0, ↓gI0_1, ↓gI0_7, ↓gI0_8, ↓gI0_15, ↓pI0_1, ↓pI0_7, ↓pI0_8, ↓pZ0_15, ↓gR0_0, ↓gR0_2, ↓gR0_3, ↓gR0_4, ↓gR0_5, ↓gR0_6, ↓gR0_9, ↓gR0_10, ↓gR0_11, ↓gR0_12, ↓gR0_13, ↓gR0_14, ↓aI1, ↓ln1, ↓aI14, ↓sZ14, ↓ln14, ↓aR13, ↓aR15, ↓c_I, ↓c_J, ↓c_Q, ↓c_V, ↓c_It, ↓c_Jt, ↓c_Vt, ↓k_I, ↓k_J, ↓n_I, ↓n_V, li0, li1, li2, li3, li4, li5, li6, li7, li8, li9, li10, li11, li12, li13, li14, li15, li16, li17, li18, li19, li20, li21, li22, li23, li24, li25, li26, li27, li28, li29, li30, li31, li32, li33, li34, li35, li36, li37, li38, li39, li40, li41, li42, li44, li48, li57, li63, li64, li65, li97, li99, li100, li101, li102, li104, li105, li106, li109, li114, li120, li128, li130, li300, li514, li999, li1000, li8192, li9999, li65536, li1000000, li1000001, li1000002, li1000003, li1000004, li1000005, li1000006, li1000007, li1000008, li1000009, li1000010, li1000011, li1000012, li1000013, li1000014, li1000015, li1000016, li1000017, li1000018, li1000019, li2147483647, lj0, lj1, W_add, W_sub, W_mul, W_neg, V_add, V_sub, V_mul, V_neg, W_ite, ei]
    rw [hgo]
    exact h.t (t := 1) (Or.inl rfl)
theorem r_swL {A : CF} {i k : Int} (i0 : 0 ≤ i) (i1 : i < 12) (k0 : 0 ≤ k) (k1 : k < 12) : ∀ (fuel m : Nat) (I : CF), 10 - m < fuel → m ≤ 10 → RM I (swN A i k m) → ∃ I', f_X8_exchange_L37 fuel (Sx I J b c) 102 (iW i) (iW k) (iW m) = some (Sx I' J b c, xi (iW (nit A))) ∧ RM I' (swN A i k 10) ∧ ∀ a : Int, a < 140 ∨ 174 < a → I' a = I a := by
  intro fuel
  induction fuel with
  | zero => intro m I a1; omega
  | succ fuel ih =>
    intro m I a1 a2 hM
    show ∃ I', f_X8_exchange_b37 (f_X8_exchange_L37 fuel) (Sx I J b c) 102 (iW i) (iW k) (iW m) = _ ∧ _
    have hn : I 102 6 = nit A := hM.2.2.2.2.2.2.1.trans (by rw [swN_o (by omega)]; rfl)
    by_cases hk : m = 10
    · subst hk
      refine ⟨I, ?_, hM, fun _ _ => rfl⟩
      have n0 : (10 : Int) ≤ ((10 : Nat) : Int) := by omega
      simp (disch := first | assumption | omega) only [f_X8_exchange_b37, ↓rc102, ↓gI102_0, ↓gI102_6, ↓gI102_8, ↓gI102_9, ↓gI102_13, ↓gI102_15, ↓gI102_16, ↓gI102_17, ↓gI102_18, ↓gI102_19, ↓gI102_27, ↓gI102_28, ↓gI102_29, ↓gJ102_39, ↓gJ102_40, ↓gJ102_41, ↓gJ102_42, ↓pI102_0, ↓pI102_6, ↓pI102_9, ↓pI102_13, ↓pI102_15, ↓pI102_16, ↓pI102_17, ↓pI102_27, ↓pI102_28, ↓pI102_29, ↓pZ102_8, ↓pZ102_18, ↓pZ102_19, ↓pJ102_39, ↓pJ102_40, ↓pJ102_41, ↓pJ102_42, ↓gR102_1, ↓gR102_2, ↓gR102_3, ↓gR102_4, ↓gR102_5, ↓gR102_7, ↓gR102_10, ↓gR102_11, ↓gR102_12, ↓gR102_14, ↓gR102_20, ↓gR102_21, ↓gR102_22, ↓gR102_23, ↓gR102_24, ↓gR102_25, ↓gR102_26, ↓gR102_30, ↓gR102_31, ↓gR102_32, ↓gR102_33, ↓gR102_34, ↓gR102_35, ↓gR102_36, ↓gR102_37, ↓gR102_38, ↓aI103, ↓sI103, ↓ln103, ↓aI137, ↓sI137, ↓ln137, ↓aI188, ↓sZ188, ↓ln188, ↓aI189, ↓ln189, ↓aI203, ↓sI203, ↓ln203, ↓aI217, ↓sZ217, ↓ln217, ↓aI218, ↓sI218, ↓ln218, ↓aI219, ↓sI219, ↓ln219, ↓aI220, ↓sZ220, ↓ln220, ↓aI221, ↓sZ221, ↓ln221, ↓aI229, ↓sI229, ↓ln229, ↓aI230, ↓sI230, ↓ln230, ↓aI231, ↓sI231, ↓ln231, ↓aI232, ↓sI232, ↓ln232, ↓aI233, ↓sI233, ↓ln233, ↓aI234, ↓sZ234, ↓ln234, ↓aI235, ↓sZ235, ↓ln235, ↓aR104, ↓aR131, ↓aR134, ↓aR138, ↓aR175, ↓aR179, ↓aR190, ↓aR204, ↓aR222, ↓aR105, ↓aR139, ↓aI106, ↓sI106, ↓lI106, ↓aI132, ↓sI132, ↓lI132, ↓aI135, ↓sI135, ↓lI135, ↓aI140, ↓sI140, ↓lI140, ↓aI176, ↓sI176, ↓lI176, ↓aI180, ↓sI180, ↓lI180, ↓aI191, ↓sI191, ↓lI191, ↓aI205, ↓sI205, ↓lI205, ↓aI223, ↓sI223, ↓lI223, ↓c_I, ↓c_J, ↓c_Q, ↓c_V, ↓c_It, ↓c_Jt, ↓c_Vt, ↓k_I, ↓k_J, ↓n_I, ↓n_V, li0, li1, li2, li3, li4, li5, li6, li7, li8, li9, li10, li11, li12, li13, li14, li15, li16, li17, li18, li19, li20, li21, li22, li23, li24, li25, li26, li27, li28, li29, li30, li31, li32, li33, li34, li35, li36, li37, li38, li39, li40, li41, li42, li44, li48, li57, li63, li64, li65, li97, li99, li100, li101, li102, li104, li105, li106, li109, li114, li120, li128, li130, li300, li514, li999, li1000, li8192, li9999, li65536, li1000000, li1000001, li1000002, li1000003, li1000004, li1000005, li1000006, li1000007, li1000008, li1000009, li1000010, li1000011, li1000012, li1000013, li1000014, li1000015, li1000016, li1000017, li1000018, li1000019, li2147483647, lj0, lj1, W_add, W_sub, W_mul, W_neg, V_add, V_sub, V_mul, V_neg, W_ite, W_le, W_lt, W_inj, V_le, V_lt, V_inj, W_V, V_W, lgc_ge, lgc_gt, lgc_le, lgc_lt, lgc_eq, ge_iff_le, gt_iff_lt, hn, n0, ↓reduceIte]
    · have n1 : ¬ ((10 : Int) ≤ (m : Int)) := by omega
      obtain ⟨y, hy⟩ : ∃ y : Int, y = (m : Int) / 5 := ⟨_, rfl⟩
      obtain ⟨f, hf⟩ : ∃ f : Int, f = (m : Int) - (m : Int) / 5 * 5 := ⟨_, rfl⟩
      have hf' : (m : Int) - y * 5 = f := by omega
      have yb : 0 ≤ y ∧ y < 2 := by omega
      have fb : 0 ≤ f ∧ f < 5 := by omega
      have e1 : I (140 + 3 * i + y) f = swN A i k m 3 (10 * i + m) := by
        rw [r_itemF hM i0 i1 (by omega) (by omega) (by omega) (by omega)]
        unfold itf
        congr 1
        omega
      have e2 : I (140 + 3 * k + y) f = swN A i k m 3 (10 * k + m) := by
        rw [r_itemF hM k0 k1 (by omega) (by omega) (by omega) (by omega)]
        unfold itf
        congr 1
        omega
      have hM2 := (hM.i (i := i) (x := y) (f := f) (v := swN A i k m 3 (10 * k + m)) i0 i1 (by omega) (by omega) (by omega) (by omega)).i (i := k) (x := y) (f := f) (v := swN A i k m 3 (10 * i + m)) k0 k1 (by omega) (by omega) (by omega) (by omega)
      rw [show (i * 2 + y) * 5 + f = 10 * i + m by omega, show (k * 2 + y) * 5 + f = 10 * k + m by omega] at hM2
      obtain ⟨I', w1, w2, w3⟩ := ih (m + 1) _ (by omega) (by omega) hM2
      refine ⟨I', ?_, w2, fun a ha => by rw [w3 a ha, u_obj (by omega), u_obj (by omega)]⟩
      rw [← w1, show ((m + 1 : Nat) : Int) = (m : Int) + 1 by omega]
      simp (disch := first | assumption | omega) only [f_X8_exchange_b37, W_d, W_div5, ↓rc102, ↓gI102_0, ↓gI102_6, ↓gI102_8, ↓gI102_9, ↓gI102_13, ↓gI102_15, ↓gI102_16, ↓gI102_17, ↓gI102_18, ↓gI102_19, ↓gI102_27, ↓gI102_28, ↓gI102_29, ↓gJ102_39, ↓gJ102_40, ↓gJ102_41, ↓gJ102_42, ↓pI102_0, ↓pI102_6, ↓pI102_9, ↓pI102_13, ↓pI102_15, ↓pI102_16, ↓pI102_17, ↓pI102_27, ↓pI102_28, ↓pI102_29, ↓pZ102_8, ↓pZ102_18, ↓pZ102_19, ↓pJ102_39, ↓pJ102_40, ↓pJ102_41, ↓pJ102_42, ↓gR102_1, ↓gR102_2, ↓gR102_3, ↓gR102_4, ↓gR102_5, ↓gR102_7, ↓gR102_10, ↓gR102_11, ↓gR102_12, ↓gR102_14, ↓gR102_20, ↓gR102_21, ↓gR102_22, ↓gR102_23, ↓gR102_24, ↓gR102_25, ↓gR102_26, ↓gR102_30, ↓gR102_31, ↓gR102_32, ↓gR102_33, ↓gR102_34, ↓gR102_35, ↓gR102_36, ↓gR102_37, ↓gR102_38, ↓aI103, ↓sI103, ↓ln103, ↓aI137, ↓sI137, ↓ln137, ↓aI188, ↓sZ188, ↓ln188, ↓aI189, ↓ln189, ↓aI203, ↓sI203, ↓ln203, ↓aI217, ↓sZ217, ↓ln217, ↓aI218, ↓sI218, ↓ln218, ↓aI219, ↓sI219, ↓ln219, ↓aI220, ↓sZ220, ↓ln220, ↓aI221, ↓sZ221, ↓ln221, ↓aI229, ↓sI229, ↓ln229, ↓aI230, ↓sI230, ↓ln230, ↓aI231, ↓sI231, ↓ln231, ↓aI232, ↓sI232, ↓ln232, ↓aI233, ↓sI233, ↓ln233, ↓aI234, ↓sZ234, ↓ln234, ↓aI235, ↓sZ235, ↓ln235, ↓aR104, ↓aR131, ↓aR134, ↓aR138, ↓aR175, ↓aR179, ↓aR190, ↓aR204, ↓aR222, ↓aR105, ↓aR139, ↓aI106, ↓sI106, ↓lI106, ↓aI132, ↓sI132, ↓lI132, ↓aI135, ↓sI135, ↓lI135, ↓aI140, ↓sI140, ↓lI140, ↓aI176, ↓sI176, ↓lI176, ↓aI180, ↓sI180, ↓lI180, ↓aI191, ↓sI191, ↓lI191, ↓aI205, ↓sI205, ↓lI205, ↓aI223, ↓sI223, ↓lI223, ↓c_I, ↓c_J, ↓c_Q, ↓c_V, ↓c_It, ↓c_Jt, ↓c_Vt, ↓k_I, ↓k_J, ↓n_I, ↓n_V, li0, li1, li2, li3, li4, li5, li6, li7, li8, li9, li10, li11, li12, li13, li14, li15, li16, li17, li18, li19, li20, li21, li22, li23, li24, li25, li26, li27, li28, li29, li30, li31, li32, li33, li34, li35, li36, li37, li38, li39, li40, li41, li42, li44, li48, li57, li63, li64, li65, li97, li99, li100, li101, li102, li104, li105, li106, li109, li114, li120, li128, li130, li300, li514, li999, li1000, li8192, li9999, li65536, li1000000, li1000001, li1000002, li1000003, li1000004, li1000005, li1000006, li1000007, li1000008, li1000009, li1000010, li1000011, li1000012, li1000013, li1000014, li1000015, li1000016, li1000017, li1000018, li1000019, li2147483647, lj0, lj1, W_add, W_sub, W_mul, W_neg, V_add, V_sub, V_mul, V_neg, W_ite, W_le, W_lt, W_inj, V_le, V_lt, V_inj, W_V, V_W, lgc_ge, lgc_gt, lgc_le, lgc_lt, lgc_eq, ge_iff_le, gt_iff_lt, n1, ← hy, hf', e1, e2, ↓reduceIte]
theorem q_exchange (hA : okA S.1) (h : RWd I S) {i k : Int} (i0 : -2147483648 ≤ i) (i1 : i ≤ 2147483647) (k0 : -2147483648 ≤ k) (k1 : k ≤ 2147483647) :
    RStp (f_X8_exchange (Sx I J b c) 102 (iW i) (iW k)) I J b c (if (0 ≤ i ∧ i ≤ nit S.1 - 1) ∧ (0 ≤ k ∧ k ≤ nit S.1 - 1) then nit S.1 else 0) (if (0 ≤ i ∧ i ≤ nit S.1 - 1) ∧ (0 ≤ k ∧ k ≤ nit S.1 - 1) then 0 else 1) (if (0 ≤ i ∧ i ≤ nit S.1 - 1) ∧ (0 ≤ k ∧ k ≤ nit S.1 - 1) then chg S (swN S.1 i k 10) else S) := by
  have ei := r_isItem (J := J) (b := b) (c := c) hA h.1 i0 i1
  have ek := r_isItem (J := J) (b := b) (c := c) hA h.1 k0 k1
  have hNn := hA.1
  by_cases qi : 0 ≤ i ∧ i ≤ nit S.1 - 1
  · rw [bb_pos qi] at ei
    by_cases qk : 0 ≤ k ∧ k ≤ nit S.1 - 1
    · rw [bb_pos qk] at ek
      have qq : (0 ≤ i ∧ i ≤ nit S.1 - 1) ∧ (0 ≤ k ∧ k ≤ nit S.1 - 1) := ⟨qi, qk⟩
      rw [if_pos qq, if_pos qq, if_pos qq]
      have h0 : RWd (uI I 102 0 0) S := h.t
      obtain ⟨I1, c1, c2, c3, c4, c5⟩ := r_chg (J := J) (b := b) (c := c) h0
      obtain ⟨I2, w1, w2, w3⟩ := r_swL (J := J) (b := b) (c := c) (A := S.1) (i := i) (k := k) (by omega) (by omega) (by omega) (by omega) FU 0 I1 (by unfold FU; omega) (by omega) c3
      have w1 : f_X8_exchange_L37 FU (Sx I1 J b c) 102 (iW i) (iW k) (iW 0) = _ := w1
      refine ⟨I2, J, ?_, by rw [w3 _ (by omega), c4, u_eq], RWd.mk c2 w2 (fun k hk => by rw [w3 _ (by omega)]) (fun a ha => by rw [w3 _ (by omega)]), fun a ha => by rw [w3 _ (by omega), c5 a ha, u_obj (by omega)], fun _ _ => rfl⟩
      rw [← w1]
      simp (disch := first | assumption | omega) only [f_X8_exchange, f_X8_exchange_b23, ↓rc102, ↓gI102_0, ↓gI102_6, ↓gI102_8, ↓gI102_9, ↓gI102_13, ↓gI102_15, ↓gI102_16, ↓gI102_17, ↓gI102_18, ↓gI102_19, ↓gI102_27, ↓gI102_28, ↓gI102_29, ↓gJ102_39, ↓gJ102_40, ↓gJ102_41, ↓gJ102_42, ↓pI102_0, ↓pI102_6, ↓pI102_9, ↓pI102_13, ↓pI102_15, ↓pI102_16, ↓pI102_17, ↓pI102_27, ↓pI102_28, ↓pI102_29, ↓pZ102_8, ↓pZ102_18, ↓pZ102_19, ↓pJ102_39, ↓pJ102_40, ↓pJ102_41, ↓pJ102_42, ↓gR102_1, ↓gR102_2, ↓gR102_3, ↓gR102_4, ↓gR102_5, ↓gR102_7, ↓gR102_10, ↓gR102_11, ↓gR102_12, ↓gR102_14, ↓gR102_20, ↓gR102_21, ↓gR102_22, ↓gR102_23, ↓gR102_24, ↓gR102_25, ↓gR102_26, ↓gR102_30, ↓gR102_31, ↓gR102_32, ↓gR102_33, ↓gR102_34, ↓gR102_35, ↓gR102_36, ↓gR102_37, ↓gR102_38, ↓aI103, ↓sI103, ↓ln103, ↓aI137, ↓sI137, ↓ln137, ↓aI188, ↓sZ188, ↓ln188, ↓aI189, ↓ln189, ↓aI203, ↓sI203, ↓ln203, ↓aI217, ↓sZ217, ↓ln217, ↓aI218, ↓sI218, ↓ln218, ↓aI219, ↓sI219, ↓ln219, ↓aI220, ↓sZ220, ↓ln220, ↓aI221, ↓sZ221, ↓ln221, ↓aI229, ↓sI229, ↓ln229, ↓aI230, ↓sI230, ↓ln230, ↓aI231, ↓sI231, ↓ln231, ↓aI232, ↓sI232, ↓ln232, ↓aI233, ↓sI233, ↓ln233, ↓aI234, ↓sZ234, ↓ln234, ↓aI235, ↓sZ235, ↓ln235, ↓aR104, ↓aR131, ↓aR134, ↓aR138, ↓aR175, ↓aR179, ↓aR190, ↓aR204, ↓aR222, ↓aR105, ↓aR139, ↓aI106, ↓sI106, ↓lI106, ↓aI132, ↓sI132, ↓lI132, ↓aI135, ↓sI135, ↓lI135, ↓aI140, ↓sI140, ↓lI140, ↓aI176, ↓sI176, ↓lI176, ↓aI180, ↓sI180, ↓lI180, ↓aI191, ↓sI191, ↓lI191, ↓aI205, ↓sI205, ↓lI205, ↓aI223, ↓sI223, ↓lI223, ↓c_I, ↓c_J, ↓c_Q, ↓c_V, ↓c_It, ↓c_Jt, ↓c_Vt, ↓k_I, ↓k_J, ↓n_I, ↓n_V, li0, li1, li2, li3, li4, li5, li6, li7, li8, li9, li10, li11, li12, li13, li14, li15, li16, li17, li18, li19, li20, li21, li22, li23, li24, li25, li26, li27, li28, li29, li30, li31, li32, li33, li34, li35, li36, li37, li38, li39, li40, li41, li42, li44, li48, li57, li63, li64, li65, li97, li99, li100, li101, li102, li104, li105, li106, li109, li114, li120, li128, li130, li300, li514, li999, li1000, li8192, li9999, li65536, li1000000, li1000001, li1000002, li1000003, li1000004, li1000005, li1000006, li1000007, li1000008, li1000009, li1000010, li1000011, li1000012, li1000013, li1000014, li1000015, li1000016, li1000017, li1000018, li1000019, li2147483647, lj0, lj1, W_add, W_sub, W_mul, W_neg, V_add, V_sub, V_mul, V_neg, W_ite, W_le, W_lt, W_inj, V_le, V_lt, V_inj, W_V, V_W, lgc_ge, lgc_gt, lgc_le, lgc_lt, lgc_eq, ge_iff_le, gt_iff_lt, ei, ek, r_fails0, r_fails1, c1, Int.reduceEq, ↓reduceIte]
    · rw [bb_neg qk] at ek
      rw [if_neg (fun z => qk z.2), if_neg (fun z => qk z.2), if_neg (fun z => qk z.2)]
      have hgo : f_X8_exchange (Sx I J b c) 102 (iW i) (iW k) = some (Sx (uI I 102 0 1) J b c, xi (iW 0)) := by
        simp (disch := first | assumption | omega) only [f_X8_exchange, f_X8_exchange_b18, f_X8_exchange_b23, ↓rc102, ↓gI102_0, ↓gI102_6, ↓gI102_8, ↓gI102_9, ↓gI102_13, ↓gI102_15, ↓gI102_16, ↓gI102_17, ↓gI102_18, ↓gI102_19, ↓gI102_27, ↓gI102_28, ↓gI102_29, ↓gJ102_39, ↓gJ102_40, ↓gJ102_41, ↓gJ102_42, ↓pI102_0, ↓pI102_6, ↓pI102_9, ↓pI102_13, ↓pI102_15, ↓pI102_16, ↓pI102_17, ↓pI102_27, ↓pI102_28, ↓pI102_29, ↓pZ102_8, ↓pZ102_18, ↓pZ102_19, ↓pJ102_39, ↓pJ102_40, ↓pJ102_41, ↓pJ102_42, ↓gR102_1, ↓gR102_2, ↓gR102_3, ↓gR102_4, ↓gR102_5, ↓gR102_7, ↓gR102_10, ↓gR102_11, ↓gR102_12, ↓gR102_14, ↓gR102_20, ↓gR102_21, ↓gR102_22, ↓gR102_23, ↓gR102_24, ↓gR102_25, ↓gR102_26, ↓gR102_30, ↓gR102_31, ↓gR102_32, ↓gR102_33, ↓gR102_34, ↓gR102_35, ↓gR102_36, ↓gR102_37, ↓gR102_38, ↓aI103, ↓sI103, ↓ln103, ↓aI137, ↓sI137, ↓ln137, ↓aI188, ↓sZ188, ↓ln188, ↓aI189, ↓ln189, ↓aI203, ↓sI203, ↓ln203, ↓aI217, ↓sZ217, ↓ln217, ↓aI218, ↓sI218, ↓ln218, ↓aI219, ↓sI219, ↓ln219, ↓aI220, ↓sZ220, ↓ln220, ↓aI221, ↓sZ221, ↓ln221, ↓aI229, ↓sI229, ↓ln229, ↓aI230, ↓sI230, ↓ln230, ↓aI231, ↓sI231, ↓ln231, ↓aI232, ↓sI232, ↓ln232, ↓aI233, ↓sI233, ↓ln233, ↓aI234, ↓sZ234, ↓ln234, ↓aI235, ↓sZ235, ↓ln235, ↓aR104, ↓aR131, ↓aR134, ↓aR138, ↓aR175, ↓aR179, ↓aR190, ↓aR204, ↓aR222, ↓aR105, ↓aR139, ↓aI106, ↓sI106, ↓lI106, ↓aI132, ↓sI132, ↓lI132, ↓aI135, ↓sI135, ↓lI135, ↓aI140, ↓sI140, ↓lI140, ↓aI176, ↓sI176, ↓lI176, ↓aI180, ↓sI180, ↓lI180, ↓aI191, ↓sI191, ↓lI191, ↓aI205, ↓sI205, ↓lI205, ↓aI223, ↓sI223, ↓lI223, ↓c_I, ↓c_J, ↓c_Q, ↓c_V, ↓c_It, ↓c_Jt, ↓c_Vt, ↓k_I, ↓k_J, ↓n_I, ↓n_V, li0, li1, li2, li3, li4, li5, li6, li7, li8, li9, li10, li11, li12, li13, li14, li15, li16, li17, li18, li19, li20, li21, li22, li23, li24, li25, li26, li27, li28, li29, li30, li31, li32, li33, li34, li35, li36, li37, li38, li39, li40, li41, li42, li44, li48, li57, li63, li64, li65, li97, li99, li100, li101, li102, li104, li105, li106, li109, li114, li120, li128, li130, li300, li514, li999, li1000, li8192, li9999, li65536, li1000000, li1000001, li1000002, li1000003, li1000004, li1000005, li1000006, li1000007, li1000008, li1000009, li1000010, li1000011, li1000012, li1000013, li1000014, li1000015, li1000016, li1000017, li1000018, li1000019, li2147483647, lj0, lj1, W_add, W_sub, W_mul, W_neg, V_add, V_sub, V_mul, V_neg, W_ite, W_le, W_lt, W_inj, V_le, V_lt, V_inj, W_V, V_W, lgc_ge, lgc_gt, lgc_le, lgc_lt, lgc_eq, ge_iff_le, gt_iff_lt, ei, ek, r_fails0, r_fails1, Int.reduceEq, ↓reduceIte]
      rw [hgo]
      exact RStp.bad h
  · rw [bb_neg qi] at ei
    rw [if_neg (fun z => qi z.1), if_neg (fun z => qi z.1), if_neg (fun z => qi z.1)]
    have hgo : f_X8_exchange (Sx I J b c) 102 (iW i) (iW k) = some (Sx (uI I 102 0 1) J b c, xi (iW 0)) := by
      simp (disch := first | assumption | omega) only [f_X8_exchange, f_X8_exchange_b18, f_X8_exchange_b23, ↓rc102, ↓gI102_0, ↓gI102_6, ↓gI102_8, ↓gI102_9, ↓gI102_13, ↓gI102_15, ↓gI102_16, ↓gI102_17, ↓gI102_18, ↓gI102_19, ↓gI102_27, ↓gI102_28, ↓gI102_29, ↓gJ102_39, ↓gJ102_40, ↓gJ102_41, ↓gJ102_42, ↓pI102_0, ↓pI102_6, ↓pI102_9, ↓pI102_13, ↓pI102_15, ↓pI102_16, ↓pI102_17, ↓pI102_27, ↓pI102_28, ↓pI102_29, ↓pZ102_8, ↓pZ102_18, ↓pZ102_19, ↓pJ102_39, ↓pJ102_40, ↓pJ102_41, ↓pJ102_42, ↓gR102_1, ↓gR102_2, ↓gR102_3, ↓gR102_4, ↓gR102_5, ↓gR102_7, ↓gR102_10, ↓gR102_11, ↓gR102_12, ↓gR102_14, ↓gR102_20, ↓gR102_21, ↓gR102_22, ↓gR102_23, ↓gR102_24, ↓gR102_25, ↓gR102_26, ↓gR102_30, ↓gR102_31, ↓gR102_32, ↓gR102_33, ↓gR102_34, ↓gR102_35, ↓gR102_36, ↓gR102_37, ↓gR102_38, ↓aI103, ↓sI103, ↓ln103, ↓aI137, ↓sI137, ↓ln137, ↓aI188, ↓sZ188, ↓ln188, ↓aI189, ↓ln189, ↓aI203, ↓sI203, ↓ln203, ↓aI217, ↓sZ217, ↓ln217, ↓aI218, ↓sI218, ↓ln218, ↓aI219, ↓sI219, ↓ln219, ↓aI220, ↓sZ220, ↓ln220, ↓aI221, ↓sZ221, ↓ln221, ↓aI229, ↓sI229, ↓ln229, ↓aI230, ↓sI230, ↓ln230, ↓aI231, ↓sI231, ↓ln231, ↓aI232, ↓sI232, ↓ln232, ↓aI233, ↓sI233, ↓ln233, ↓aI234, ↓sZ234, ↓ln234, ↓aI235, ↓sZ235, ↓ln235, ↓aR104, ↓aR131, ↓aR134, ↓aR138, ↓aR175, ↓aR179, ↓aR190, ↓aR204, ↓aR222, ↓aR105, ↓aR139, ↓aI106, ↓sI106, ↓lI106, ↓aI132, ↓sI132, ↓lI132, ↓aI135, ↓sI135, ↓lI135, ↓aI140, ↓sI140, ↓lI140, ↓aI176, ↓sI176, ↓lI176, ↓aI180, ↓sI180, ↓lI180, ↓aI191, ↓sI191, ↓lI191, ↓aI205, ↓sI205, ↓lI205, ↓aI223, ↓sI223, ↓lI223, ↓c_I, ↓c_J, ↓c_Q, ↓c_V, ↓c_It, ↓c_Jt, ↓c_Vt, ↓k_I, ↓k_J, ↓n_I, ↓n_V, li0, li1, li2, li3, li4, li5, li6, li7, li8, li9, li10, li11, li12, li13, li14, li15, li16, li17, li18, li19, li20, li21, li22, li23, li24, li25, li26, li27, li28, li29, li30, li31, li32, li33, li34, li35, li36, li37, li38, li39, li40, li41, li42, li44, li48, li57, li63, li64, li65, li97, li99, li100, li101, li102, li104, li105, li106, li109, li114, li120, li128, li130, li300, li514, li999, li1000, li8192, li9999, li65536, li1000000, li1000001, li1000002, li1000003, li1000004, li1000005, li1000006, li1000007, li1000008, li1000009, li1000010, li1000011, li1000012, li1000013, li1000014, li1000015, li1000016, li1000017, li1000018, li1000019, li2147483647, lj0, lj1, W_add, W_sub, W_mul, W_neg, V_add, V_sub, V_mul, V_neg, W_ite, W_le, W_lt, W_inj, V_le, V_lt, V_inj, W_V, V_W, lgc_ge, lgc_gt, lgc_le, lgc_lt, lgc_eq, ge_iff_le, gt_iff_lt, ei, r_fails0, r_fails1, Int.reduceEq, ↓reduceIte]
    rw [hgo]
    exact RStp.bad h
end RemW

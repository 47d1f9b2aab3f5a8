/-! ===== readTracks, readImplicit: both sides ===== -/
def clr (S : ST) : ST := (S.1, S.2.1, S.2.2.1, S.2.2.2.1, S.2.2.2.2.1, 0, S.2.2.2.2.2.2)
theorem okS.cl {S : ST} (h : okS S) : okS (clr S) := by
  obtain ⟨h1, h2, h3, h4, h5, h6⟩ := h
  refine ⟨h1, h2, h3, h4, ⟨Int.le_refl _, show (0 : Int) ≤ 120 by decide⟩, fun k k0 k1 => ?_⟩
  have k1 : k < 0 := k1
  omega
def trA (A : CF) (x n : Int) (R : CF) : CF := uI (fun o k => if o = 0 ∧ x * 65 ≤ k ∧ k < x * 65 + 5 * n then R ((k - x * 65) / 5) ((k - x * 65) % 5) else A o k) 1 x n
def imA (A : CF) (x : Int) (R : CF) : CF := fun o k => if o = 0 ∧ (x * 13 + 12) * 5 ≤ k ∧ k < (x * 13 + 12) * 5 + 5 then R 0 (k - (x * 13 + 12) * 5) else A o k
theorem okT_R {R : Int → Int} {T : Int → Int} {q : Int} (h : okR 0 R) (e0 : T q = R 0) (e1 : T (q + 1) = R 1) (e2 : T (q + 2) = R 2) (e3 : T (q + 3) = R 3) (e4 : T (q + 4) = R 4) : okT T q := by
  obtain ⟨h1, h2, h3, h4, h5, h6⟩ := h
  unfold okT
  rw [e0, e1, e2, e3, e4]
  exact ⟨h1, h2, h3, h4, fun z => (h5 z).resolve_right (by decide), h6⟩
theorem okA.tr {A R : CF} (hA : okA A) {x n : Int} (x0 : 0 ≤ x) (x1 : x < 2) (n0 : 0 ≤ n) (n1 : n ≤ 12) (hR : ∀ r, 0 ≤ r → r < n → okR 0 (R r)) : okA (trA A x n R) := by
  obtain ⟨h1, h2, h3, h4, h5, h6⟩ := hA
  have hc : ∀ o k, o ≠ 0 → (o ≠ 1 ∨ k ≠ x) → trA A x n R o k = A o k := fun o k ho hk => by
    unfold trA uI
    rw [if_neg (by omega)]
    show (if o = 0 ∧ x * 65 ≤ k ∧ k < x * 65 + 5 * n then R ((k - x * 65) / 5) ((k - x * 65) % 5) else A o k) = A o k
    rw [if_neg (fun z => ho z.1)]
  have h0 : ∀ k, trA A x n R 0 k = if x * 65 ≤ k ∧ k < x * 65 + 5 * n then R ((k - x * 65) / 5) ((k - x * 65) % 5) else A 0 k := fun k => by
    unfold trA
    rw [u_obj (by omega)]
    by_cases e : x * 65 ≤ k ∧ k < x * 65 + 5 * n
    · rw [if_pos ⟨rfl, e⟩, if_pos e]
    · rw [if_neg (fun z => e z.2), if_neg e]
  have e3 : trA A x n R 3 = A 3 := funext fun k => hc 3 k (by omega) (by omega)
  refine ⟨by unfold nit; rw [hc 4 0 (by omega) (by omega)]; exact h1, by rw [hc 4 1 (by omega) (by omega)]; exact h2, by rw [hc 4 2 (by omega) (by omega)]; exact h3, fun ax a0 a1 => ?_, fun ax row a0 a1 b0 b1 => ?_, fun i ax i0 i1 a0 a1 => ?_⟩
  · have := h4 ax a0 a1
    unfold stg at this ⊢
    rw [hc 2 _ (by omega) (by omega), hc 2 _ (by omega) (by omega), hc 2 _ (by omega) (by omega)]
    refine ⟨?_, this.2⟩
    by_cases e : ax = x
    · have : trA A x n R 1 ax = n := by
        rw [e]
        unfold trA
        exact u_eq
      rw [this]
      omega
    · rw [hc 1 ax (by omega) (Or.inr e)]
      exact this.1
  · by_cases e : ax = x ∧ row < n
    · obtain ⟨rfl, e⟩ := e
      have hh : ∀ j, 0 ≤ j → j < 5 → trA A ax n R 0 ((ax * 13 + row) * 5 + j) = R row j := fun j j0 j1 => by
        rw [h0, if_pos (by omega)]
        congr 1
        · congr 1
          omega
        · omega
      refine okT_R (hR row b0 e) ?_ (hh 1 (by omega) (by omega)) (hh 2 (by omega) (by omega)) (hh 3 (by omega) (by omega)) (hh 4 (by omega) (by omega))
      have := hh 0 (by omega) (by omega)
      rw [Int.add_zero] at this
      exact this
    · have := h5 ax row a0 a1 b0 b1
      unfold okT at this ⊢
      rw [h0, h0, h0, h0, h0, if_neg (by omega), if_neg (by omega), if_neg (by omega), if_neg (by omega), if_neg (by omega)]
      exact this
  · have i1 : i < A 4 0 := by
      have : nit (trA A x n R) = A 4 0 := hc 4 0 (by omega) (by omega)
      rw [this] at i1
      exact i1
    have := h6 i ax i0 i1 a0 a1
    unfold okI itf at this ⊢
    rw [e3]
    exact this
theorem okA.im {A R : CF} (hA : okA A) {x : Int} (x0 : 0 ≤ x) (x1 : x < 2) (hR : okR 0 (R 0)) : okA (imA A x R) := by
  obtain ⟨h1, h2, h3, h4, h5, h6⟩ := hA
  have hc : ∀ o, o ≠ 0 → imA A x R o = A o := fun o ho => by
    funext k
    unfold imA
    rw [if_neg (fun z => ho z.1)]
  have h0 : ∀ k, imA A x R 0 k = if (x * 13 + 12) * 5 ≤ k ∧ k < (x * 13 + 12) * 5 + 5 then R 0 (k - (x * 13 + 12) * 5) else A 0 k := fun k => by
    unfold imA
    by_cases e : (x * 13 + 12) * 5 ≤ k ∧ k < (x * 13 + 12) * 5 + 5
    · rw [if_pos ⟨rfl, e⟩, if_pos e]
    · rw [if_neg (fun z => e z.2), if_neg e]
  refine ⟨by unfold nit; rw [hc 4 (by omega)]; exact h1, by rw [hc 4 (by omega)]; exact h2, by rw [hc 4 (by omega)]; exact h3, fun ax a0 a1 => ?_, fun ax row a0 a1 b0 b1 => ?_, fun i ax i0 i1 a0 a1 => ?_⟩
  · have := h4 ax a0 a1
    unfold stg at this ⊢
    rw [hc 1 (by omega), hc 2 (by omega)]
    exact this
  · by_cases e : ax = x ∧ row = 12
    · obtain ⟨rfl, rfl⟩ := e
      have hh : ∀ j, 0 ≤ j → j < 5 → imA A ax R 0 ((ax * 13 + 12) * 5 + j) = R 0 j := fun j j0 j1 => by
        rw [h0, if_pos (by omega), show (ax * 13 + 12) * 5 + j - (ax * 13 + 12) * 5 = j by omega]
      refine okT_R hR ?_ (hh 1 (by omega) (by omega)) (hh 2 (by omega) (by omega)) (hh 3 (by omega) (by omega)) (hh 4 (by omega) (by omega))
      have := hh 0 (by omega) (by omega)
      rw [Int.add_zero] at this
      exact this
    · have := h5 ax row a0 a1 b0 b1
      unfold okT at this ⊢
      rw [h0, h0, h0, h0, h0, if_neg (by omega), if_neg (by omega), if_neg (by omega), if_neg (by omega), if_neg (by omega)]
      exact this
  · have i1 : i < A 4 0 := by
      have : nit (imA A x R) = A 4 0 := by unfold nit; rw [hc 4 (by omega)]
      rw [this] at i1
      exact i1
    have := h6 i ax i0 i1 a0 a1
    unfold okI itf at this ⊢
    rw [hc 3 (by omega)]
    exact this
section ReadW
variable {J J' : CF} {b b' : Nat} {c c' : Bool} {I Ir : CF} {S : ST}
/-- the letters are spent -/
theorem EW.cl {I' : CF} (h : EW I S) (hf : ∀ a : Int, a ≠ 2 → a ≠ 4 → a ≠ 5 → a ≠ 6 → a ≠ 7 → I' a = uI I 0 1 0 a) : EW I' (clr S) := by
  obtain ⟨g1, p, g2⟩ := h
  obtain ⟨⟨a1, a2, a3⟩, a7, a8, a9, a10⟩ := g2
  have f0 : ∀ k, k ≠ 1 → I' 0 k = I 0 k := fun k hk => by rw [hf 0 (by omega) (by omega) (by omega) (by omega) (by omega), u_ne hk]
  have f1 : ∀ a : Int, a ≠ 0 → a ≠ 2 → a ≠ 4 → a ≠ 5 → a ≠ 6 → a ≠ 7 → I' a = I a := fun a h0 h2 h4 h5 h6 h7 => by rw [hf a h2 h4 h5 h6 h7, u_obj h0]
  refine ⟨g1.fr (f0 15 (by omega)) (fun a b0 b1 _ => f1 a (by omega) (by omega) (by omega) (by omega) (by omega) (by omega)), p, ⟨by rw [f0 8 (by omega)]; exact a1, by rw [f0 7 (by omega)]; exact a2, a3⟩, fun j j0 j1 => (a7 j j0 j1).fr (fun a b0 b1 => by
    have : 0 ≤ rgp p j := by unfold rgp; omega
    exact f1 a (by omega) (by omega) (by omega) (by omega) (by omega) (by omega)), fun s s0 s1 => ⟨by rw [f1 14 (by omega) (by omega) (by omega) (by omega) (by omega) (by omega)]; exact (a8 s s0 s1).1, fun z => ((a8 s s0 s1).2 z).fr (fun a b0 b1 => f1 a (by omega) (by omega) (by omega) (by omega) (by omega) (by omega))⟩, by rw [hf 0 (by omega) (by omega) (by omega) (by omega) (by omega), u_eq]; rfl, fun k k0 k1 => ?_⟩
  have k1 : k < 0 := k1
  omega
theorem RWd.cl {I' : CF} (h : RWd I S) (h15 : I' 102 15 = 0) (hf : ∀ a : Int, a ≠ 102 → a ≠ 203 → (a < 191 ∨ 202 < a) → I' a = I a) (hk : ∀ k : Int, (k < 15 ∨ 19 < k) → k ≠ 0 → I' 102 k = I 102 k) : RWd I' (clr S) := by
  obtain ⟨g1, ⟨a1, a2, a3⟩, a7, a8, a9, a10⟩ := h
  refine ⟨g1.fr (hk 6 (by omega) (by omega)) (fun a b0 b1 => hf a (by omega) (by omega) (by omega)), ⟨by rw [hk 13 (by omega) (by omega)]; exact a1, a2, a3⟩, fun j j0 j1 => ?_, fun s s0 s1 => ⟨by rw [hf _ (by omega) (by omega) (by omega)]; exact (a8 s s0 s1).1, fun z => by rw [hf _ (by omega) (by omega) (by omega)]; exact (a8 s s0 s1).2 z⟩, h15, fun k k0 k1 => ?_⟩
  · have j1 : j < S.2.1 := j1
    show VR (I' (180 + (S.2.1 - 1 - j))) (S.2.2.1 j)
    rw [hf _ (by omega) (by omega) (by omega)]
    exact a7 j j0 j1
  · have k1 : k < 0 := k1
    omega
theorem e_takeTracks {A R : CF} {x n : Int} (hM : EM I A) (x0 : 0 ≤ x) (x1 : x < 2) (n0 : 0 ≤ n) (n1 : n ≤ 12) (h6 : I 2 6 = n) (hP : ∀ r k, 0 ≤ r → r < n → 0 ≤ k → k < 5 → I 4 (5 * r + k) = R r k) : ∃ I', f_X4_takeTracks (Sx I J b c) 8 (iW x) 2 = some (Sx I' J b c, xv) ∧ EM I' (trA A x n R) ∧ (∀ a : Int, a ≠ 9 → a ≠ 10 → I' a = I a) := by
  have q1 : ¬ ((12 : Int) < n) := by omega
  have q3 : ¬ (x < 0) := by omega
  have q4 : ¬ ((2 : Int) ≤ x) := by omega
  have hcp := fun f => c_p (I := I) (J := J) (b := b) (c := c) (s := 4) (d := 9) (sp := 0) (dp := x * 13 * 5) (n := n * 5) (f := f) sh4 sh9 (by decide) (by decide) (by omega) (by omega) (by omega) (by omega) (by omega)
  have hcp : ∀ f, x_cp (Sx I J b c) 4 (iW 0) 9 (iW (x * 13 * 5)) (iW (n * 5)) f = f (Sx (cpf I 4 0 9 (x * 13 * 5) (n * 5)) J b c) := hcp
  refine ⟨uI (cpf I 4 0 9 (x * 13 * 5) (n * 5)) 10 x n, ?_, ?_, fun a h9 h10 => by rw [u_obj h10, cp_obj h9]⟩
  · by_cases q2 : 0 < n
    · simp (disch := first | assumption | omega) only [f_X4_takeTracks, f_X4_takeTracks_b51, ↓rc2, ↓gI2_1, ↓gI2_2, ↓gI2_3, ↓gI2_4, ↓gI2_5, ↓gI2_6, ↓gI2_9, ↓pI2_1, ↓pI2_2, ↓pI2_3, ↓pI2_4, ↓pI2_6, ↓pI2_9, ↓pZ2_5, ↓gR2_0, ↓gR2_7, ↓gR2_8, ↓gR2_10, ↓gR2_11, ↓aI3, ↓ln3, ↓aI4, ↓sI4, ↓ln4, ↓aI5, ↓sI5, ↓ln5, ↓aI6, ↓sI6, ↓ln6, ↓aI7, ↓sI7, ↓ln7, ↓rc8, ↓gI8_4, ↓gI8_5, ↓gI8_6, ↓pI8_4, ↓pI8_5, ↓pZ8_6, ↓gR8_0, ↓gR8_1, ↓gR8_2, ↓gR8_3, ↓aI9, ↓sI9, ↓ln9, ↓aI10, ↓sI10, ↓ln10, ↓aI11, ↓sI11, ↓ln11, ↓aI12, ↓sI12, ↓ln12, ↓c_I, ↓c_J, ↓c_Q, ↓c_V, ↓c_It, ↓c_Jt, ↓c_Vt, ↓k_I, ↓k_J, ↓n_I, ↓n_V, li0, li1, li2, li3, li4, li5, li6, li7, li8, li9, li10, li11, li12, li13, li14, li15, li16, li17, li18, li19, li20, li21, li22, li23, li24, li25, li26, li27, li28, li29, li30, li31, li32, li33, li34, li35, li36, li37, li38, li39, li40, li41, li42, li44, li48, li57, li63, li64, li65, li97, li99, li100, li101, li102, li104, li105, li106, li109, li114, li120, li128, li130, li300, li514, li999, li1000, li8192, li9999, li65536, li1000000, li1000001, li1000002, li1000003, li1000004, li1000005, li1000006, li1000007, li1000008, li1000009, li1000010, li1000011, li1000012, li1000013, li1000014, li1000015, li1000016, li1000017, li1000018, li1000019, li2147483647, lj0, lj1, W_add, W_sub, W_mul, W_neg, V_add, V_sub, V_mul, V_neg, W_ite, W_le, W_lt, W_inj, V_le, V_lt, V_inj, W_V, V_W, lgc_ge, lgc_gt, lgc_le, lgc_lt, lgc_eq, ge_iff_le, gt_iff_lt, h6, q1, q2, q3, q4, hcp, ↓reduceIte]
    · have qn : n = 0 := by omega
      subst qn
      simp (disch := first | assumption | omega) only [f_X4_takeTracks, f_X4_takeTracks_b51, ↓rc2, ↓gI2_1, ↓gI2_2, ↓gI2_3, ↓gI2_4, ↓gI2_5, ↓gI2_6, ↓gI2_9, ↓pI2_1, ↓pI2_2, ↓pI2_3, ↓pI2_4, ↓pI2_6, ↓pI2_9, ↓pZ2_5, ↓gR2_0, ↓gR2_7, ↓gR2_8, ↓gR2_10, ↓gR2_11, ↓aI3, ↓ln3, ↓aI4, ↓sI4, ↓ln4, ↓aI5, ↓sI5, ↓ln5, ↓aI6, ↓sI6, ↓ln6, ↓aI7, ↓sI7, ↓ln7, ↓rc8, ↓gI8_4, ↓gI8_5, ↓gI8_6, ↓pI8_4, ↓pI8_5, ↓pZ8_6, ↓gR8_0, ↓gR8_1, ↓gR8_2, ↓gR8_3, ↓aI9, ↓sI9, ↓ln9, ↓aI10, ↓sI10, ↓ln10, ↓aI11, ↓sI11, ↓ln11, ↓aI12, ↓sI12, ↓ln12, ↓c_I, ↓c_J, ↓c_Q, ↓c_V, ↓c_It, ↓c_Jt, ↓c_Vt, ↓k_I, ↓k_J, ↓n_I, ↓n_V, li0, li1, li2, li3, li4, li5, li6, li7, li8, li9, li10, li11, li12, li13, li14, li15, li16, li17, li18, li19, li20, li21, li22, li23, li24, li25, li26, li27, li28, li29, li30, li31, li32, li33, li34, li35, li36, li37, li38, li39, li40, li41, li42, li44, li48, li57, li63, li64, li65, li97, li99, li100, li101, li102, li104, li105, li106, li109, li114, li120, li128, li130, li300, li514, li999, li1000, li8192, li9999, li65536, li1000000, li1000001, li1000002, li1000003, li1000004, li1000005, li1000006, li1000007, li1000008, li1000009, li1000010, li1000011, li1000012, li1000013, li1000014, li1000015, li1000016, li1000017, li1000018, li1000019, li2147483647, lj0, lj1, W_add, W_sub, W_mul, W_neg, V_add, V_sub, V_mul, V_neg, W_ite, W_le, W_lt, W_inj, V_le, V_lt, V_inj, W_V, V_W, lgc_ge, lgc_gt, lgc_le, lgc_lt, lgc_eq, ge_iff_le, gt_iff_lt, h6, q1, q2, q3, q4, hcp, ↓reduceIte]
  · obtain ⟨m1, m2, m3, m4, m5, m6, m7⟩ := hM
    refine ⟨fun k k0 k1 => ?_, fun k k0 k1 => ?_, fun k k0 k1 => ?_, fun k k0 k1 => ?_, ?_, ?_, ?_⟩
    · rw [u_obj (by omega)]
      unfold trA
      rw [u_obj (by omega)]
      by_cases e : x * 65 ≤ k ∧ k < x * 65 + 5 * n
      · rw [cp_in (by omega) (by omega), if_pos ⟨rfl, e⟩]
        have := hP ((k - x * 65) / 5) ((k - x * 65) % 5) (by omega) (by omega) (by omega) (by omega)
        rw [← this]
        congr 1
        omega
      · rw [cp_out (by omega), if_neg (fun z => e z.2)]
        exact m1 k k0 k1
    · rw [u_at]
      unfold trA
      rw [u_at]
      by_cases e : k = x
      · rw [if_pos e, if_pos e]
      · rw [if_neg e, if_neg e, cp_obj (by omega)]
        show I 10 k = if (1 : Int) = 0 ∧ _ then _ else A 1 k
        rw [if_neg (fun z => absurd z.1 (by decide))]
        exact m2 k k0 k1
    · rw [u_obj (by omega), cp_obj (by omega)]
      unfold trA
      rw [u_obj (by omega)]
      show I 11 k = if (2 : Int) = 0 ∧ _ then _ else A 2 k
      rw [if_neg (fun z => absurd z.1 (by decide))]
      exact m3 k k0 k1
    · rw [u_obj (by omega), cp_obj (by omega)]
      unfold trA
      rw [u_obj (by omega)]
      show I 12 k = if (3 : Int) = 0 ∧ _ then _ else A 3 k
      rw [if_neg (fun z => absurd z.1 (by decide))]
      exact m4 k k0 k1
    · rw [u_obj (by omega), cp_obj (by omega)]
      unfold trA
      rw [u_obj (by omega)]
      show I 8 4 = if (4 : Int) = 0 ∧ _ then _ else A 4 0
      rw [if_neg (fun z => absurd z.1 (by decide))]
      exact m5
    · rw [u_obj (by omega), cp_obj (by omega)]
      unfold trA
      rw [u_obj (by omega)]
      show I 8 5 = if (4 : Int) = 0 ∧ _ then _ else A 4 1
      rw [if_neg (fun z => absurd z.1 (by decide))]
      exact m6
    · rw [u_obj (by omega), cp_obj (by omega)]
      unfold trA
      rw [u_obj (by omega)]
      show I 8 6 = if (4 : Int) = 0 ∧ _ then _ else A 4 2
      rw [if_neg (fun z => absurd z.1 (by decide))]
      exact m7
theorem e_takeImplicit {A R : CF} {x : Int} (hM : EM I A) (x0 : 0 ≤ x) (x1 : x < 2) (hP : ∀ k, 0 ≤ k → k < 5 → I 4 k = R 0 k) : ∃ I', f_X4_takeImplicit (Sx I J b c) 8 (iW x) 2 = some (Sx I' J b c, xv) ∧ EM I' (imA A x R) ∧ (∀ a : Int, a ≠ 9 → I' a = I a) := by
  have q3 : ¬ (x < 0) := by omega
  have q4 : ¬ ((2 : Int) ≤ x) := by omega
  have hcp := fun f => c_p (I := I) (J := J) (b := b) (c := c) (s := 4) (d := 9) (sp := 0) (dp := (x * 13 + 12) * 5) (n := 5) (f := f) sh4 sh9 (by decide) (by decide) (by omega) (by omega) (by omega) (by omega) (by omega)
  have hcp : ∀ f, x_cp (Sx I J b c) 4 (iW 0) 9 (iW ((x * 13 + 12) * 5)) (iW 5) f = f (Sx (cpf I 4 0 9 ((x * 13 + 12) * 5) 5) J b c) := hcp
  refine ⟨cpf I 4 0 9 ((x * 13 + 12) * 5) 5, ?_, ?_, fun a h9 => cp_obj h9⟩
  · simp (disch := first | assumption | omega) only [f_X4_takeImplicit, f_X4_takeImplicit_b33, ↓rc2, ↓gI2_1, ↓gI2_2, ↓gI2_3, ↓gI2_4, ↓gI2_5, ↓gI2_6, ↓gI2_9, ↓pI2_1, ↓pI2_2, ↓pI2_3, ↓pI2_4, ↓pI2_6, ↓pI2_9, ↓pZ2_5, ↓gR2_0, ↓gR2_7, ↓gR2_8, ↓gR2_10, ↓gR2_11, ↓aI3, ↓ln3, ↓aI4, ↓sI4, ↓ln4, ↓aI5, ↓sI5, ↓ln5, ↓aI6, ↓sI6, ↓ln6, ↓aI7, ↓sI7, ↓ln7, ↓rc8, ↓gI8_4, ↓gI8_5, ↓gI8_6, ↓pI8_4, ↓pI8_5, ↓pZ8_6, ↓gR8_0, ↓gR8_1, ↓gR8_2, ↓gR8_3, ↓aI9, ↓sI9, ↓ln9, ↓aI10, ↓sI10, ↓ln10, ↓aI11, ↓sI11, ↓ln11, ↓aI12, ↓sI12, ↓ln12, ↓c_I, ↓c_J, ↓c_Q, ↓c_V, ↓c_It, ↓c_Jt, ↓c_Vt, ↓k_I, ↓k_J, ↓n_I, ↓n_V, li0, li1, li2, li3, li4, li5, li6, li7, li8, li9, li10, li11, li12, li13, li14, li15, li16, li17, li18, li19, li20, li21, li22, li23, li24, li25, li26, li27, li28, li29, li30, li31, li32, li33, li34, li35, li36, li37, li38, li39, li40, li41, li42, li44, li48, li57, li63, li64, li65, li97, li99, li100, li101, li102, li104, li105, li106, li109, li114, li120, li128, li130, li300, li514, li999, li1000, li8192, li9999, li65536, li1000000, li1000001, li1000002, li1000003, li1000004, li1000005, li1000006, li1000007, li1000008, li1000009, li1000010, li1000011, li1000012, li1000013, li1000014, li1000015, li1000016, li1000017, li1000018, li1000019, li2147483647, lj0, lj1, W_add, W_sub, W_mul, W_neg, V_add, V_sub, V_mul, V_neg, W_ite, W_le, W_lt, W_inj, V_le, V_lt, V_inj, W_V, V_W, lgc_ge, lgc_gt, lgc_le, lgc_lt, lgc_eq, ge_iff_le, gt_iff_lt, q3, q4, hcp, ↓reduceIte]
  · obtain ⟨m1, m2, m3, m4, m5, m6, m7⟩ := hM
    have hc : ∀ o, o ≠ 0 → imA A x R o = A o := fun o ho => by
      funext k
      unfold imA
      rw [if_neg (fun z => ho z.1)]
    refine ⟨fun k k0 k1 => ?_, fun k k0 k1 => by rw [cp_obj (by omega), hc 1 (by omega)]; exact m2 k k0 k1, fun k k0 k1 => by rw [cp_obj (by omega), hc 2 (by omega)]; exact m3 k k0 k1, fun k k0 k1 => by rw [cp_obj (by omega), hc 3 (by omega)]; exact m4 k k0 k1, by rw [cp_obj (by omega), hc 4 (by omega)]; exact m5, by rw [cp_obj (by omega), hc 4 (by omega)]; exact m6, by rw [cp_obj (by omega), hc 4 (by omega)]; exact m7⟩
    unfold imA
    by_cases e : (x * 13 + 12) * 5 ≤ k ∧ k < (x * 13 + 12) * 5 + 5
    · rw [cp_in (by omega) (by omega), if_pos ⟨rfl, e⟩, show (0 : Int) + (k - (x * 13 + 12) * 5) = k - (x * 13 + 12) * 5 by omega]
      exact hP _ (by omega) (by omega)
    · rw [cp_out (by omega), if_neg (fun z => e z.2)]
      exact m1 k k0 k1
theorem r_row99 {x i : Int} {k89 : HP → Nat → Int32 → Int32 → Option XR} (x0 : 0 ≤ x) (x1 : x < 2) (i0 : 0 ≤ i) (i1 : i < 12) : ∀ (fuel : Nat) (k : Int) (I : CF), 5 - k < fuel → 0 ≤ k → k ≤ 5 → ∃ I', f_X8_readTracks_L99 k89 fuel (Sx I J b c) 102 (iW x) (iW i) (iW k) = k89 (Sx I' J b c) 102 (iW x) (iW (i + 1)) ∧ (∀ j, k ≤ j → j < 5 → I' (106 + 13 * x + i) j = I (191 + i) j) ∧ (∀ j, j < k → I' (106 + 13 * x + i) j = I (106 + 13 * x + i) j) ∧ ∀ a : Int, a ≠ 106 + 13 * x + i → I' a = I a := by
  intro fuel
  induction fuel with
  | zero => intro k I a1; omega
  | succ fuel ih =>
    intro k I a1 a2 a3
    show ∃ I', f_X8_readTracks_b99 k89 (f_X8_readTracks_L99 k89 fuel) (Sx I J b c) 102 (iW x) (iW i) (iW k) = _ ∧ _
    by_cases hk : k = 5
    · refine ⟨I, ?_, fun j j0 j1 => by omega, fun _ _ => rfl, fun _ _ => rfl⟩
      have n0 : (5 : Int) ≤ k := by omega
      simp (disch := first | assumption | omega) only [f_X8_readTracks_b99, ↓rc102, ↓gI102_0, ↓gI102_6, ↓gI102_8, ↓gI102_9, ↓gI102_13, ↓gI102_15, ↓gI102_16, ↓gI102_17, ↓gI102_18, ↓gI102_19, ↓gI102_27, ↓gI102_28, ↓gI102_29, ↓gJ102_39, ↓gJ102_40, ↓gJ102_41, ↓gJ102_42, ↓pI102_0, ↓pI102_6, ↓pI102_9, ↓pI102_13, ↓pI102_15, ↓pI102_16, ↓pI102_17, ↓pI102_27, ↓pI102_28, ↓pI102_29, ↓pZ102_8, ↓pZ102_18, ↓pZ102_19, ↓pJ102_39, ↓pJ102_40, ↓pJ102_41, ↓pJ102_42, ↓gR102_1, ↓gR102_2, ↓gR102_3, ↓gR102_4, ↓gR102_5, ↓gR102_7, ↓gR102_10, ↓gR102_11, ↓gR102_12, ↓gR102_14, ↓gR102_20, ↓gR102_21, ↓gR102_22, ↓gR102_23, ↓gR102_24, ↓gR102_25, ↓gR102_26, ↓gR102_30, ↓gR102_31, ↓gR102_32, ↓gR102_33, ↓gR102_34, ↓gR102_35, ↓gR102_36, ↓gR102_37, ↓gR102_38, ↓aI103, ↓sI103, ↓ln103, ↓aI137, ↓sI137, ↓ln137, ↓aI188, ↓sZ188, ↓ln188, ↓aI189, ↓ln189, ↓aI203, ↓sI203, ↓ln203, ↓aI217, ↓sZ217, ↓ln217, ↓aI218, ↓sI218, ↓ln218, ↓aI219, ↓sI219, ↓ln219, ↓aI220, ↓sZ220, ↓ln220, ↓aI221, ↓sZ221, ↓ln221, ↓aI229, ↓sI229, ↓ln229, ↓aI230, ↓sI230, ↓ln230, ↓aI231, ↓sI231, ↓ln231, ↓aI232, ↓sI232, ↓ln232, ↓aI233, ↓sI233, ↓ln233, ↓aI234, ↓sZ234, ↓ln234, ↓aI235, ↓sZ235, ↓ln235, ↓aR104, ↓aR131, ↓aR134, ↓aR138, ↓aR175, ↓aR179, ↓aR190, ↓aR204, ↓aR222, ↓aR105, ↓aR139, ↓aI106, ↓sI106, ↓lI106, ↓aI132, ↓sI132, ↓lI132, ↓aI135, ↓sI135, ↓lI135, ↓aI140, ↓sI140, ↓lI140, ↓aI176, ↓sI176, ↓lI176, ↓aI180, ↓sI180, ↓lI180, ↓aI191, ↓sI191, ↓lI191, ↓aI205, ↓sI205, ↓lI205, ↓aI223, ↓sI223, ↓lI223, ↓c_I, ↓c_J, ↓c_Q, ↓c_V, ↓c_It, ↓c_Jt, ↓c_Vt, ↓k_I, ↓k_J, ↓n_I, ↓n_V, li0, li1, li2, li3, li4, li5, li6, li7, li8, li9, li10, li11, li12, li13, li14, li15, li16, li17, li18, li19, li20, li21, li22, li23, li24, li25, li26, li27, li28, li29, li30, li31, li32, li33, li34, li35, li36, li37, li38, li39, li40, li41, li42, li44, li48, li57, li63, li64, li65, li97, li99, li100, li101, li102, li104, li105, li106, li109, li114, li120, li128, li130, li300, li514, li999, li1000, li8192, li9999, li65536, li1000000, li1000001, li1000002, li1000003, li1000004, li1000005, li1000006, li1000007, li1000008, li1000009, li1000010, li1000011, li1000012, li1000013, li1000014, li1000015, li1000016, li1000017, li1000018, li1000019, li2147483647, lj0, lj1, W_add, W_sub, W_mul, W_neg, V_add, V_sub, V_mul, V_neg, W_ite, W_le, W_lt, W_inj, V_le, V_lt, V_inj, W_V, V_W, lgc_ge, lgc_gt, lgc_le, lgc_lt, lgc_eq, ge_iff_le, gt_iff_lt, n0, ↓reduceIte]
    · have n1 : ¬ ((5 : Int) ≤ k) := by omega
      obtain ⟨I', k1, k2, k3, k4⟩ := ih (k + 1) (uI I (106 + 13 * x + i) k (I (191 + i) k)) (by omega) (by omega) (by omega)
      refine ⟨I', ?_, fun j j0 j1 => ?_, fun j j1 => ?_, fun a ha => by rw [k4 a ha, u_obj ha]⟩
      · rw [← k1]
        simp (disch := first | assumption | omega) only [f_X8_readTracks_b99, ↓rc102, ↓gI102_0, ↓gI102_6, ↓gI102_8, ↓gI102_9, ↓gI102_13, ↓gI102_15, ↓gI102_16, ↓gI102_17, ↓gI102_18, ↓gI102_19, ↓gI102_27, ↓gI102_28, ↓gI102_29, ↓gJ102_39, ↓gJ102_40, ↓gJ102_41, ↓gJ102_42, ↓pI102_0, ↓pI102_6, ↓pI102_9, ↓pI102_13, ↓pI102_15, ↓pI102_16, ↓pI102_17, ↓pI102_27, ↓pI102_28, ↓pI102_29, ↓pZ102_8, ↓pZ102_18, ↓pZ102_19, ↓pJ102_39, ↓pJ102_40, ↓pJ102_41, ↓pJ102_42, ↓gR102_1, ↓gR102_2, ↓gR102_3, ↓gR102_4, ↓gR102_5, ↓gR102_7, ↓gR102_10, ↓gR102_11, ↓gR102_12, ↓gR102_14, ↓gR102_20, ↓gR102_21, ↓gR102_22, ↓gR102_23, ↓gR102_24, ↓gR102_25, ↓gR102_26, ↓gR102_30, ↓gR102_31, ↓gR102_32, ↓gR102_33, ↓gR102_34, ↓gR102_35, ↓gR102_36, ↓gR102_37, ↓gR102_38, ↓aI103, ↓sI103, ↓ln103, ↓aI137, ↓sI137, ↓ln137, ↓aI188, ↓sZ188, ↓ln188, ↓aI189, ↓ln189, ↓aI203, ↓sI203, ↓ln203, ↓aI217, ↓sZ217, ↓ln217, ↓aI218, ↓sI218, ↓ln218, ↓aI219, ↓sI219, ↓ln219, ↓aI220, ↓sZ220, ↓ln220, ↓aI221, ↓sZ221, ↓ln221, ↓aI229, ↓sI229, ↓ln229, ↓aI230, ↓sI230, ↓ln230, ↓aI231, ↓sI231, ↓ln231, ↓aI232, ↓sI232, ↓ln232, ↓aI233, ↓sI233, ↓ln233, ↓aI234, ↓sZ234, ↓ln234, ↓aI235, ↓sZ235, ↓ln235, ↓aR104, ↓aR131, ↓aR134, ↓aR138, ↓aR175, ↓aR179, ↓aR190, ↓aR204, ↓aR222, ↓aR105, ↓aR139, ↓aI106, ↓sI106, ↓lI106, ↓aI132, ↓sI132, ↓lI132, ↓aI135, ↓sI135, ↓lI135, ↓aI140, ↓sI140, ↓lI140, ↓aI176, ↓sI176, ↓lI176, ↓aI180, ↓sI180, ↓lI180, ↓aI191, ↓sI191, ↓lI191, ↓aI205, ↓sI205, ↓lI205, ↓aI223, ↓sI223, ↓lI223, ↓c_I, ↓c_J, ↓c_Q, ↓c_V, ↓c_It, ↓c_Jt, ↓c_Vt, ↓k_I, ↓k_J, ↓n_I, ↓n_V, li0, li1, li2, li3, li4, li5, li6, li7, li8, li9, li10, li11, li12, li13, li14, li15, li16, li17, li18, li19, li20, li21, li22, li23, li24, li25, li26, li27, li28, li29, li30, li31, li32, li33, li34, li35, li36, li37, li38, li39, li40, li41, li42, li44, li48, li57, li63, li64, li65, li97, li99, li100, li101, li102, li104, li105, li106, li109, li114, li120, li128, li130, li300, li514, li999, li1000, li8192, li9999, li65536, li1000000, li1000001, li1000002, li1000003, li1000004, li1000005, li1000006, li1000007, li1000008, li1000009, li1000010, li1000011, li1000012, li1000013, li1000014, li1000015, li1000016, li1000017, li1000018, li1000019, li2147483647, lj0, lj1, W_add, W_sub, W_mul, W_neg, V_add, V_sub, V_mul, V_neg, W_ite, W_le, W_lt, W_inj, V_le, V_lt, V_inj, W_V, V_W, lgc_ge, lgc_gt, lgc_le, lgc_lt, lgc_eq, ge_iff_le, gt_iff_lt, n1, ↓reduceIte]
      · by_cases e : j = k
        · rw [k3 j (by omega), e, u_eq]
        · rw [k2 j (by omega) j1, u_obj (by omega)]
      · rw [k3 j (by omega), u_ne (by omega)]
theorem r_row89 {x n : Int} (x0 : 0 ≤ x) (x1 : x < 2) (n1 : n ≤ 12) {I0 : CF} (h17 : I0 102 17 = n) : ∀ (fuel : Nat) (i : Int) (I : CF), n - i < fuel → 0 ≤ i → i ≤ n → (∀ r j, 0 ≤ r → r < i → 0 ≤ j → j < 5 → I (106 + 13 * x + r) j = I0 (191 + r) j) → (∀ a : Int, (a < 106 + 13 * x ∨ 106 + 13 * x + i ≤ a) → I a = I0 a) → ∃ I', f_X8_readTracks_L89 fuel (Sx I J b c) 102 (iW x) (iW i) = some (Sx I' J b c, xi (iW n)) ∧ (∀ r j, 0 ≤ r → r < n → 0 ≤ j → j < 5 → I' (106 + 13 * x + r) j = I0 (191 + r) j) ∧ ∀ a : Int, (a < 106 + 13 * x ∨ 106 + 13 * x + n ≤ a) → I' a = I0 a := by
  intro fuel
  induction fuel with
  | zero => intro i I a1; omega
  | succ fuel ih =>
    intro i I a1 a2 a3 h1 h2
    show ∃ I', f_X8_readTracks_b89 (f_X8_readTracks_L89 fuel) (Sx I J b c) 102 (iW x) (iW i) = _ ∧ _
    have g17 : I 102 17 = n := by rw [h2 102 (by omega)]; exact h17
    by_cases hk : i = n
    · subst hk
      refine ⟨I, ?_, h1, h2⟩
      simp (disch := first | assumption | omega) only [f_X8_readTracks_b89, ↓rc102, ↓gI102_0, ↓gI102_6, ↓gI102_8, ↓gI102_9, ↓gI102_13, ↓gI102_15, ↓gI102_16, ↓gI102_17, ↓gI102_18, ↓gI102_19, ↓gI102_27, ↓gI102_28, ↓gI102_29, ↓gJ102_39, ↓gJ102_40, ↓gJ102_41, ↓gJ102_42, ↓pI102_0, ↓pI102_6, ↓pI102_9, ↓pI102_13, ↓pI102_15, ↓pI102_16, ↓pI102_17, ↓pI102_27, ↓pI102_28, ↓pI102_29, ↓pZ102_8, ↓pZ102_18, ↓pZ102_19, ↓pJ102_39, ↓pJ102_40, ↓pJ102_41, ↓pJ102_42, ↓gR102_1, ↓gR102_2, ↓gR102_3, ↓gR102_4, ↓gR102_5, ↓gR102_7, ↓gR102_10, ↓gR102_11, ↓gR102_12, ↓gR102_14, ↓gR102_20, ↓gR102_21, ↓gR102_22, ↓gR102_23, ↓gR102_24, ↓gR102_25, ↓gR102_26, ↓gR102_30, ↓gR102_31, ↓gR102_32, ↓gR102_33, ↓gR102_34, ↓gR102_35, ↓gR102_36, ↓gR102_37, ↓gR102_38, ↓aI103, ↓sI103, ↓ln103, ↓aI137, ↓sI137, ↓ln137, ↓aI188, ↓sZ188, ↓ln188, ↓aI189, ↓ln189, ↓aI203, ↓sI203, ↓ln203, ↓aI217, ↓sZ217, ↓ln217, ↓aI218, ↓sI218, ↓ln218, ↓aI219, ↓sI219, ↓ln219, ↓aI220, ↓sZ220, ↓ln220, ↓aI221, ↓sZ221, ↓ln221, ↓aI229, ↓sI229, ↓ln229, ↓aI230, ↓sI230, ↓ln230, ↓aI231, ↓sI231, ↓ln231, ↓aI232, ↓sI232, ↓ln232, ↓aI233, ↓sI233, ↓ln233, ↓aI234, ↓sZ234, ↓ln234, ↓aI235, ↓sZ235, ↓ln235, ↓aR104, ↓aR131, ↓aR134, ↓aR138, ↓aR175, ↓aR179, ↓aR190, ↓aR204, ↓aR222, ↓aR105, ↓aR139, ↓aI106, ↓sI106, ↓lI106, ↓aI132, ↓sI132, ↓lI132, ↓aI135, ↓sI135, ↓lI135, ↓aI140, ↓sI140, ↓lI140, ↓aI176, ↓sI176, ↓lI176, ↓aI180, ↓sI180, ↓lI180, ↓aI191, ↓sI191, ↓lI191, ↓aI205, ↓sI205, ↓lI205, ↓aI223, ↓sI223, ↓lI223, ↓c_I, ↓c_J, ↓c_Q, ↓c_V, ↓c_It, ↓c_Jt, ↓c_Vt, ↓k_I, ↓k_J, ↓n_I, ↓n_V, li0, li1, li2, li3, li4, li5, li6, li7, li8, li9, li10, li11, li12, li13, li14, li15, li16, li17, li18, li19, li20, li21, li22, li23, li24, li25, li26, li27, li28, li29, li30, li31, li32, li33, li34, li35, li36, li37, li38, li39, li40, li41, li42, li44, li48, li57, li63, li64, li65, li97, li99, li100, li101, li102, li104, li105, li106, li109, li114, li120, li128, li130, li300, li514, li999, li1000, li8192, li9999, li65536, li1000000, li1000001, li1000002, li1000003, li1000004, li1000005, li1000006, li1000007, li1000008, li1000009, li1000010, li1000011, li1000012, li1000013, li1000014, li1000015, li1000016, li1000017, li1000018, li1000019, li2147483647, lj0, lj1, W_add, W_sub, W_mul, W_neg, V_add, V_sub, V_mul, V_neg, W_ite, W_le, W_lt, W_inj, V_le, V_lt, V_inj, W_V, V_W, lgc_ge, lgc_gt, lgc_le, lgc_lt, lgc_eq, ge_iff_le, gt_iff_lt, g17, Int.le_refl, ↓reduceIte]
    · have q1 : ¬ (n ≤ i) := by omega
      obtain ⟨I1, w1, w2, w3, w4⟩ := r_row99 (J := J) (b := b) (c := c) (x := x) (i := i) (k89 := f_X8_readTracks_L89 fuel) x0 x1 a2 (by omega) FU 0 I (by unfold FU; omega) (by omega) (by omega)
      obtain ⟨I', k1, k2, k3⟩ := ih (i + 1) I1 (by omega) (by omega) (by omega) (fun r j r0 r1 j0 j1 => by
        by_cases e : r = i
        · rw [e, w2 j j0 j1, h2 _ (by omega)]
        · rw [w4 _ (by omega)]
          exact h1 r j r0 (by omega) j0 j1) (fun a ha => by rw [w4 a (by omega)]; exact h2 a (by omega))
      refine ⟨I', ?_, k2, k3⟩
      rw [← k1, ← w1]
      simp (disch := first | assumption | omega) only [f_X8_readTracks_b89, ↓rc102, ↓gI102_0, ↓gI102_6, ↓gI102_8, ↓gI102_9, ↓gI102_13, ↓gI102_15, ↓gI102_16, ↓gI102_17, ↓gI102_18, ↓gI102_19, ↓gI102_27, ↓gI102_28, ↓gI102_29, ↓gJ102_39, ↓gJ102_40, ↓gJ102_41, ↓gJ102_42, ↓pI102_0, ↓pI102_6, ↓pI102_9, ↓pI102_13, ↓pI102_15, ↓pI102_16, ↓pI102_17, ↓pI102_27, ↓pI102_28, ↓pI102_29, ↓pZ102_8, ↓pZ102_18, ↓pZ102_19, ↓pJ102_39, ↓pJ102_40, ↓pJ102_41, ↓pJ102_42, ↓gR102_1, ↓gR102_2, ↓gR102_3, ↓gR102_4, ↓gR102_5, ↓gR102_7, ↓gR102_10, ↓gR102_11, ↓gR102_12, ↓gR102_14, ↓gR102_20, ↓gR102_21, ↓gR102_22, ↓gR102_23, ↓gR102_24, ↓gR102_25, ↓gR102_26, ↓gR102_30, ↓gR102_31, ↓gR102_32, ↓gR102_33, ↓gR102_34, ↓gR102_35, ↓gR102_36, ↓gR102_37, ↓gR102_38, ↓aI103, ↓sI103, ↓ln103, ↓aI137, ↓sI137, ↓ln137, ↓aI188, ↓sZ188, ↓ln188, ↓aI189, ↓ln189, ↓aI203, ↓sI203, ↓ln203, ↓aI217, ↓sZ217, ↓ln217, ↓aI218, ↓sI218, ↓ln218, ↓aI219, ↓sI219, ↓ln219, ↓aI220, ↓sZ220, ↓ln220, ↓aI221, ↓sZ221, ↓ln221, ↓aI229, ↓sI229, ↓ln229, ↓aI230, ↓sI230, ↓ln230, ↓aI231, ↓sI231, ↓ln231, ↓aI232, ↓sI232, ↓ln232, ↓aI233, ↓sI233, ↓ln233, ↓aI234, ↓sZ234, ↓ln234, ↓aI235, ↓sZ235, ↓ln235, ↓aR104, ↓aR131, ↓aR134, ↓aR138, ↓aR175, ↓aR179, ↓aR190, ↓aR204, ↓aR222, ↓aR105, ↓aR139, ↓aI106, ↓sI106, ↓lI106, ↓aI132, ↓sI132, ↓lI132, ↓aI135, ↓sI135, ↓lI135, ↓aI140, ↓sI140, ↓lI140, ↓aI176, ↓sI176, ↓lI176, ↓aI180, ↓sI180, ↓lI180, ↓aI191, ↓sI191, ↓lI191, ↓aI205, ↓sI205, ↓lI205, ↓aI223, ↓sI223, ↓lI223, ↓c_I, ↓c_J, ↓c_Q, ↓c_V, ↓c_It, ↓c_Jt, ↓c_Vt, ↓k_I, ↓k_J, ↓n_I, ↓n_V, li0, li1, li2, li3, li4, li5, li6, li7, li8, li9, li10, li11, li12, li13, li14, li15, li16, li17, li18, li19, li20, li21, li22, li23, li24, li25, li26, li27, li28, li29, li30, li31, li32, li33, li34, li35, li36, li37, li38, li39, li40, li41, li42, li44, li48, li57, li63, li64, li65, li97, li99, li100, li101, li102, li104, li105, li106, li109, li114, li120, li128, li130, li300, li514, li999, li1000, li8192, li9999, li65536, li1000000, li1000001, li1000002, li1000003, li1000004, li1000005, li1000006, li1000007, li1000008, li1000009, li1000010, li1000011, li1000012, li1000013, li1000014, li1000015, li1000016, li1000017, li1000018, li1000019, li2147483647, lj0, lj1, W_add, W_sub, W_mul, W_neg, V_add, V_sub, V_mul, V_neg, W_ite, W_le, W_lt, W_inj, V_le, V_lt, V_inj, W_V, V_W, lgc_ge, lgc_gt, lgc_le, lgc_lt, lgc_eq, ge_iff_le, gt_iff_lt, g17, q1, ↓reduceIte]
theorem r_row86 {x : Int} (x0 : 0 ≤ x) (x1 : x < 2) : ∀ (fuel : Nat) (k : Int) (I : CF), 5 - k < fuel → 0 ≤ k → k ≤ 5 → ∃ I', f_X8_readImplicit_L86 fuel (Sx I J b c) 102 (iW x) (iW k) = f_X8_readImplicit_b113 (Sx I' J b c) 102 ∧ (∀ j, k ≤ j → j < 5 → I' (132 + x) j = I 191 j) ∧ (∀ j, j < k → I' (132 + x) j = I (132 + x) j) ∧ ∀ a : Int, a ≠ 132 + x → I' a = I a := by
  intro fuel
  induction fuel with
  | zero => intro k I a1; omega
  | succ fuel ih =>
    intro k I a1 a2 a3
    show ∃ I', f_X8_readImplicit_b86 (f_X8_readImplicit_L86 fuel) (Sx I J b c) 102 (iW x) (iW k) = _ ∧ _
    by_cases hk : k = 5
    · refine ⟨I, ?_, fun j j0 j1 => by omega, fun _ _ => rfl, fun _ _ => rfl⟩
      have n0 : (5 : Int) ≤ k := by omega
      simp (disch := first | assumption | omega) only [f_X8_readImplicit_b86, ↓rc102, ↓gI102_0, ↓gI102_6, ↓gI102_8, ↓gI102_9, ↓gI102_13, ↓gI102_15, ↓gI102_16, ↓gI102_17, ↓gI102_18, ↓gI102_19, ↓gI102_27, ↓gI102_28, ↓gI102_29, ↓gJ102_39, ↓gJ102_40, ↓gJ102_41, ↓gJ102_42, ↓pI102_0, ↓pI102_6, ↓pI102_9, ↓pI102_13, ↓pI102_15, ↓pI102_16, ↓pI102_17, ↓pI102_27, ↓pI102_28, ↓pI102_29, ↓pZ102_8, ↓pZ102_18, ↓pZ102_19, ↓pJ102_39, ↓pJ102_40, ↓pJ102_41, ↓pJ102_42, ↓gR102_1, ↓gR102_2, ↓gR102_3, ↓gR102_4, ↓gR102_5, ↓gR102_7, ↓gR102_10, ↓gR102_11, ↓gR102_12, ↓gR102_14, ↓gR102_20, ↓gR102_21, ↓gR102_22, ↓gR102_23, ↓gR102_24, ↓gR102_25, ↓gR102_26, ↓gR102_30, ↓gR102_31, ↓gR102_32, ↓gR102_33, ↓gR102_34, ↓gR102_35, ↓gR102_36, ↓gR102_37, ↓gR102_38, ↓aI103, ↓sI103, ↓ln103, ↓aI137, ↓sI137, ↓ln137, ↓aI188, ↓sZ188, ↓ln188, ↓aI189, ↓ln189, ↓aI203, ↓sI203, ↓ln203, ↓aI217, ↓sZ217, ↓ln217, ↓aI218, ↓sI218, ↓ln218, ↓aI219, ↓sI219, ↓ln219, ↓aI220, ↓sZ220, ↓ln220, ↓aI221, ↓sZ221, ↓ln221, ↓aI229, ↓sI229, ↓ln229, ↓aI230, ↓sI230, ↓ln230, ↓aI231, ↓sI231, ↓ln231, ↓aI232, ↓sI232, ↓ln232, ↓aI233, ↓sI233, ↓ln233, ↓aI234, ↓sZ234, ↓ln234, ↓aI235, ↓sZ235, ↓ln235, ↓aR104, ↓aR131, ↓aR134, ↓aR138, ↓aR175, ↓aR179, ↓aR190, ↓aR204, ↓aR222, ↓aR105, ↓aR139, ↓aI106, ↓sI106, ↓lI106, ↓aI132, ↓sI132, ↓lI132, ↓aI135, ↓sI135, ↓lI135, ↓aI140, ↓sI140, ↓lI140, ↓aI176, ↓sI176, ↓lI176, ↓aI180, ↓sI180, ↓lI180, ↓aI191, ↓sI191, ↓lI191, ↓aI205, ↓sI205, ↓lI205, ↓aI223, ↓sI223, ↓lI223, ↓c_I, ↓c_J, ↓c_Q, ↓c_V, ↓c_It, ↓c_Jt, ↓c_Vt, ↓k_I, ↓k_J, ↓n_I, ↓n_V, li0, li1, li2, li3, li4, li5, li6, li7, li8, li9, li10, li11, li12, li13, li14, li15, li16, li17, li18, li19, li20, li21, li22, li23, li24, li25, li26, li27, li28, li29, li30, li31, li32, li33, li34, li35, li36, li37, li38, li39, li40, li41, li42, li44, li48, li57, li63, li64, li65, li97, li99, li100, li101, li102, li104, li105, li106, li109, li114, li120, li128, li130, li300, li514, li999, li1000, li8192, li9999, li65536, li1000000, li1000001, li1000002, li1000003, li1000004, li1000005, li1000006, li1000007, li1000008, li1000009, li1000010, li1000011, li1000012, li1000013, li1000014, li1000015, li1000016, li1000017, li1000018, li1000019, li2147483647, lj0, lj1, W_add, W_sub, W_mul, W_neg, V_add, V_sub, V_mul, V_neg, W_ite, W_le, W_lt, W_inj, V_le, V_lt, V_inj, W_V, V_W, lgc_ge, lgc_gt, lgc_le, lgc_lt, lgc_eq, ge_iff_le, gt_iff_lt, n0, ↓reduceIte]
    · have n1 : ¬ ((5 : Int) ≤ k) := by omega
      obtain ⟨I', k1, k2, k3, k4⟩ := ih (k + 1) (uI I (132 + x) k (I (191 + 0) k)) (by omega) (by omega) (by omega)
      refine ⟨I', ?_, fun j j0 j1 => ?_, fun j j1 => ?_, fun a ha => by rw [k4 a ha, u_obj ha]⟩
      · rw [← k1]
        simp (disch := first | assumption | omega) only [f_X8_readImplicit_b86, ↓rc102, ↓gI102_0, ↓gI102_6, ↓gI102_8, ↓gI102_9, ↓gI102_13, ↓gI102_15, ↓gI102_16, ↓gI102_17, ↓gI102_18, ↓gI102_19, ↓gI102_27, ↓gI102_28, ↓gI102_29, ↓gJ102_39, ↓gJ102_40, ↓gJ102_41, ↓gJ102_42, ↓pI102_0, ↓pI102_6, ↓pI102_9, ↓pI102_13, ↓pI102_15, ↓pI102_16, ↓pI102_17, ↓pI102_27, ↓pI102_28, ↓pI102_29, ↓pZ102_8, ↓pZ102_18, ↓pZ102_19, ↓pJ102_39, ↓pJ102_40, ↓pJ102_41, ↓pJ102_42, ↓gR102_1, ↓gR102_2, ↓gR102_3, ↓gR102_4, ↓gR102_5, ↓gR102_7, ↓gR102_10, ↓gR102_11, ↓gR102_12, ↓gR102_14, ↓gR102_20, ↓gR102_21, ↓gR102_22, ↓gR102_23, ↓gR102_24, ↓gR102_25, ↓gR102_26, ↓gR102_30, ↓gR102_31, ↓gR102_32, ↓gR102_33, ↓gR102_34, ↓gR102_35, ↓gR102_36, ↓gR102_37, ↓gR102_38, ↓aI103, ↓sI103, ↓ln103, ↓aI137, ↓sI137, ↓ln137, ↓aI188, ↓sZ188, ↓ln188, ↓aI189, ↓ln189, ↓aI203, ↓sI203, ↓ln203, ↓aI217, ↓sZ217, ↓ln217, ↓aI218, ↓sI218, ↓ln218, ↓aI219, ↓sI219, ↓ln219, ↓aI220, ↓sZ220, ↓ln220, ↓aI221, ↓sZ221, ↓ln221, ↓aI229, ↓sI229, ↓ln229, ↓aI230, ↓sI230, ↓ln230, ↓aI231, ↓sI231, ↓ln231, ↓aI232, ↓sI232, ↓ln232, ↓aI233, ↓sI233, ↓ln233, ↓aI234, ↓sZ234, ↓ln234, ↓aI235, ↓sZ235, ↓ln235, ↓aR104, ↓aR131, ↓aR134, ↓aR138, ↓aR175, ↓aR179, ↓aR190, ↓aR204, ↓aR222, ↓aR105, ↓aR139, ↓aI106, ↓sI106, ↓lI106, ↓aI132, ↓sI132, ↓lI132, ↓aI135, ↓sI135, ↓lI135, ↓aI140, ↓sI140, ↓lI140, ↓aI176, ↓sI176, ↓lI176, ↓aI180, ↓sI180, ↓lI180, ↓aI191, ↓sI191, ↓lI191, ↓aI205, ↓sI205, ↓lI205, ↓aI223, ↓sI223, ↓lI223, ↓c_I, ↓c_J, ↓c_Q, ↓c_V, ↓c_It, ↓c_Jt, ↓c_Vt, ↓k_I, ↓k_J, ↓n_I, ↓n_V, li0, li1, li2, li3, li4, li5, li6, li7, li8, li9, li10, li11, li12, li13, li14, li15, li16, li17, li18, li19, li20, li21, li22, li23, li24, li25, li26, li27, li28, li29, li30, li31, li32, li33, li34, li35, li36, li37, li38, li39, li40, li41, li42, li44, li48, li57, li63, li64, li65, li97, li99, li100, li101, li102, li104, li105, li106, li109, li114, li120, li128, li130, li300, li514, li999, li1000, li8192, li9999, li65536, li1000000, li1000001, li1000002, li1000003, li1000004, li1000005, li1000006, li1000007, li1000008, li1000009, li1000010, li1000011, li1000012, li1000013, li1000014, li1000015, li1000016, li1000017, li1000018, li1000019, li2147483647, lj0, lj1, W_add, W_sub, W_mul, W_neg, V_add, V_sub, V_mul, V_neg, W_ite, W_le, W_lt, W_inj, V_le, V_lt, V_inj, W_V, V_W, lgc_ge, lgc_gt, lgc_le, lgc_lt, lgc_eq, ge_iff_le, gt_iff_lt, n1, ↓reduceIte]
      · by_cases e : j = k
        · rw [k3 j (by omega), e, u_eq]
          rfl
        · rw [k2 j (by omega) j1, u_obj (by omega)]
      · rw [k3 j (by omega), u_ne (by omega)]
end ReadW

/-! ===== the reference: a state's numbers in a row ===== -/
def vec (A : CF) (q : Int) : Int := if q = 0 then A 4 0 else if q < 3 then A 4 q else if q < 5 then A 1 (q - 3) else if q < 141 then (if (q - 5) % 68 < 5 then A 0 (((q - 5) / 68 * 13 + 12) * 5 + (q - 5) % 68) else if (q - 5) % 68 < 8 then A 2 ((q - 5) / 68 * 3 + ((q - 5) % 68 - 5)) else A 0 ((q - 5) / 68 * 65 + ((q - 5) % 68 - 8))) else A 3 (q - 141)
/-- the object and the place of the number at q -/
def co (q : Int) : Int := if q = 0 then 102 else if q < 3 then 137 else if q < 5 then 103 else if q < 141 then (if (q - 5) % 68 < 5 then 132 + (q - 5) / 68 else if (q - 5) % 68 < 8 then 135 + (q - 5) / 68 else 106 + 13 * ((q - 5) / 68) + ((q - 5) % 68 - 8) / 5) else 140 + 3 * ((q - 141) / 10) + ((q - 141) % 10) / 5
def ck (q : Int) : Int := if q = 0 then 6 else if q < 3 then q - 1 else if q < 5 then q - 3 else if q < 141 then (if (q - 5) % 68 < 5 then (q - 5) % 68 else if (q - 5) % 68 < 8 then (q - 5) % 68 - 5 else ((q - 5) % 68 - 8) % 5) else (q - 141) % 5
def cq (o k : Int) : Int := if o = 102 then 0 else if o = 137 then 1 + k else if o = 103 then 3 + k else if o < 132 then 13 + 68 * ((o - 106) / 13) + 5 * ((o - 106) % 13) + k else if o < 134 then 5 + 68 * (o - 132) + k else if o < 137 then 10 + 68 * (o - 135) + k else 141 + 10 * ((o - 140) / 3) + 5 * ((o - 140) % 3) + k
theorem cq_n : ∀ q < 261, cq (co (q : Nat)) (ck (q : Nat)) = (q : Nat) := by decide +kernel
theorem co_n : ∀ q < 261, 102 ≤ co (q : Nat) ∧ co (q : Nat) ≤ 174 ∧ (co (q : Nat) = 102 → (q : Nat) = 0) := by decide +kernel
theorem cq_co {q : Int} (h0 : 0 ≤ q) (h1 : q < 261) : cq (co q) (ck q) = q := by
  have := cq_n q.toNat (by omega)
  rw [Int.toNat_of_nonneg h0] at this
  exact this
theorem co_bd {q : Int} (h0 : 0 ≤ q) (h1 : q < 261) : 102 ≤ co q ∧ co q ≤ 174 ∧ (co q = 102 → q = 0) := by
  have := co_n q.toNat (by omega)
  rw [Int.toNat_of_nonneg h0] at this
  exact ⟨this.1, this.2.1, fun h => by have := this.2.2 h; omega⟩
def VR (T : Int → Int) (A : CF) : Prop := ∀ q, 0 ≤ q → q < 261 → T q = vec A q
theorem RM_cells {I A : CF} (h : RM I A) {q : Int} (h0 : 0 ≤ q) (h1 : q < 261) : I (co q) (ck q) = vec A q := by
  obtain ⟨g1, g2, g3, g4, g5, g6, g7, g8⟩ := h
  unfold co ck vec
  by_cases e0 : q = 0
  · rw [if_pos e0, if_pos e0, if_pos e0]; exact g7
  · rw [if_neg e0, if_neg e0, if_neg e0]
    by_cases e1 : q < 3
    · rw [if_pos e1, if_pos e1, if_pos e1]
      by_cases e2 : q = 1
      · rw [e2]; exact g5
      · rw [show q = 2 by omega]; exact g6
    · rw [if_neg e1, if_neg e1, if_neg e1]
      by_cases e2 : q < 5
      · rw [if_pos e2, if_pos e2, if_pos e2]; exact g1 _ (by omega) (by omega)
      · rw [if_neg e2, if_neg e2, if_neg e2]
        by_cases e3 : q < 141
        · rw [if_pos e3, if_pos e3, if_pos e3]
          by_cases e4 : (q - 5) % 68 < 5
          · rw [if_pos e4, if_pos e4, if_pos e4]; exact g3 _ _ (by omega) (by omega) (by omega) (by omega)
          · rw [if_neg e4, if_neg e4, if_neg e4]
            by_cases e5 : (q - 5) % 68 < 8
            · rw [if_pos e5, if_pos e5, if_pos e5]; exact g4 _ _ (by omega) (by omega) (by omega) (by omega)
            · rw [if_neg e5, if_neg e5, if_neg e5, g2 ((q - 5) / 68) (((q - 5) % 68 - 8) / 5) (((q - 5) % 68 - 8) % 5) (by omega) (by omega) (by omega) (by omega) (by omega) (by omega)]
              congr 1
              omega
        · rw [if_neg e3, if_neg e3, if_neg e3, g8 ((q - 141) / 10) (((q - 141) % 10) / 5) ((q - 141) % 5) (by omega) (by omega) (by omega) (by omega) (by omega) (by omega)]
          congr 1
          omega
theorem cells_RM {I A : CF} (h : ∀ q, 0 ≤ q → q < 261 → I (co q) (ck q) = vec A q) : RM I A := by
  refine ⟨fun ax a0 a1 => ?_, fun ax row p a0 a1 b0 b1 c0 c1 => ?_, fun ax p a0 a1 c0 c1 => ?_, fun ax s a0 a1 c0 c1 => ?_, ?_, ?_, ?_, fun i ax f b0 b1 a0 a1 c0 c1 => ?_⟩
  · have := h (3 + ax) (by omega) (by omega)
    unfold co ck vec at this
    rw [if_neg (by omega), if_neg (by omega), if_pos (by omega), if_neg (by omega), if_neg (by omega), if_pos (by omega), if_neg (by omega), if_neg (by omega), if_pos (by omega), show 3 + ax - 3 = ax by omega] at this
    exact this
  · have := h (13 + 68 * ax + 5 * row + p) (by omega) (by omega)
    unfold co ck vec at this
    have d1 : (13 + 68 * ax + 5 * row + p - 5) / 68 = ax := by omega
    have d2 : (13 + 68 * ax + 5 * row + p - 5) % 68 = 8 + 5 * row + p := by omega
    rw [if_neg (by omega), if_neg (by omega), if_neg (by omega), if_pos (by omega), d1, d2, if_neg (by omega), if_neg (by omega), if_neg (by omega), if_neg (by omega), if_neg (by omega), if_pos (by omega), if_neg (by omega), if_neg (by omega), if_neg (by omega), if_neg (by omega), if_neg (by omega), if_pos (by omega), if_neg (by omega), if_neg (by omega), show (8 + 5 * row + p - 8) / 5 = row by omega, show (8 + 5 * row + p - 8) % 5 = p by omega, show ax * 65 + (8 + 5 * row + p - 8) = (ax * 13 + row) * 5 + p by omega] at this
    exact this
  · have := h (5 + 68 * ax + p) (by omega) (by omega)
    unfold co ck vec at this
    have d1 : (5 + 68 * ax + p - 5) / 68 = ax := by omega
    have d2 : (5 + 68 * ax + p - 5) % 68 = p := by omega
    rw [if_neg (by omega), if_neg (by omega), if_neg (by omega), if_pos (by omega), d1, d2, if_pos (by omega), if_neg (by omega), if_neg (by omega), if_neg (by omega), if_pos (by omega), if_pos (by omega), if_neg (by omega), if_neg (by omega), if_neg (by omega), if_pos (by omega), if_pos (by omega)] at this
    exact this
  · have := h (10 + 68 * ax + s) (by omega) (by omega)
    unfold co ck vec at this
    have d1 : (10 + 68 * ax + s - 5) / 68 = ax := by omega
    have d2 : (10 + 68 * ax + s - 5) % 68 = 5 + s := by omega
    rw [if_neg (by omega), if_neg (by omega), if_neg (by omega), if_pos (by omega), d1, d2, if_neg (by omega), if_pos (by omega), if_neg (by omega), if_neg (by omega), if_neg (by omega), if_pos (by omega), if_neg (by omega), if_pos (by omega), if_neg (by omega), if_neg (by omega), if_neg (by omega), if_pos (by omega), if_neg (by omega), if_pos (by omega), show 5 + s - 5 = s by omega] at this
    exact this
  · exact h 1 (by omega) (by omega)
  · exact h 2 (by omega) (by omega)
  · exact h 0 (by omega) (by omega)
  · have := h (141 + 10 * i + 5 * ax + f) (by omega) (by omega)
    unfold co ck vec at this
    rw [if_neg (by omega), if_neg (by omega), if_neg (by omega), if_neg (by omega), if_neg (by omega), if_neg (by omega), if_neg (by omega), if_neg (by omega), if_neg (by omega), if_neg (by omega), if_neg (by omega), if_neg (by omega), show (141 + 10 * i + 5 * ax + f - 141) / 10 = i by omega, show (141 + 10 * i + 5 * ax + f - 141) % 10 / 5 = ax by omega, show (141 + 10 * i + 5 * ax + f - 141) % 5 = f by omega, show 141 + 10 * i + 5 * ax + f - 141 = (i * 2 + ax) * 5 + f by omega] at this
    exact this
/-- W: the row R is written; else it is read -/
def PA (W : Bool) (I0 I : CF) (R Q : Int) : Prop := I 102 8 = (if W = true then 1 else 0) ∧ I 102 9 = Q ∧ (∀ k, k ≠ 6 → k ≠ 8 → k ≠ 9 → I 102 k = I0 102 k) ∧ (if W = true then (∀ q, 0 ≤ q → q < Q → I R q = I0 (co q) (ck q)) ∧ I 102 6 = I0 102 6 ∧ ∀ a, a ≠ R → a ≠ 102 → I a = I0 a else (∀ q, 0 ≤ q → q < Q → I (co q) (ck q) = I0 R q) ∧ ∀ a, a < 102 ∨ 174 < a → I a = I0 a)
section RPass
variable {J : CF} {b : Nat} {c : Bool}
theorem r_pass {W : Bool} {I0 I : CF} {R : Nat} {Q v : Int} (hR : 176 ≤ R ∧ R ≤ 187) (hs : SHL[R]? = some (100, 300)) (h : PA W I0 I R Q) (h0 : 0 ≤ Q) (h1 : Q < 261) : f_X8_pass (Sx I J b c) 102 R (iW v) = some (Sx (if W = true then uI (uI I 102 9 (Q + 1)) R Q v else uI I 102 9 (Q + 1)) J b c, xi (iW (if W = true then v else I0 R Q))) := by
  obtain ⟨p1, p2, p3, p4⟩ := h
  have aR := fun I z f (h0 : 0 ≤ z) (h1 : z < 300) => a_I (I := I) (J := J) (b := b) (c := c) (z := z) (f := f) hs (by decide) h0 (by omega)
  have sR := fun I z v f (h0 : 0 ≤ z) (h1 : z < 300) => s_I (I := I) (J := J) (b := b) (c := c) (z := z) (v := v) (f := f) hs (by decide) h0 (by omega)
  have e8 : uI I 102 9 (Q + 1) 102 8 = I 102 8 := u_ne (by omega)
  cases W
  · have p1 : I 102 8 = 0 := p1
    have e9 : uI I 102 9 (Q + 1) R Q = I0 R Q := by
      rw [u_obj (by omega), p4.2 _ (by omega)]
    show _ = some (Sx (uI I 102 9 (Q + 1)) J b c, xi (iW (I0 R Q)))
    simp (disch := first | assumption | omega) only [f_X8_pass, f_X8_pass_b26, ↓rc102, ↓gI102_0, ↓gI102_6, ↓gI102_8, ↓gI102_9, ↓gI102_13, ↓gI102_15, ↓gI102_16, ↓gI102_17, ↓gI102_18, ↓gI102_19, ↓gI102_27, ↓gI102_28, ↓gI102_29, ↓gJ102_39, ↓gJ102_40, ↓gJ102_41, ↓gJ102_42, ↓pI102_0, ↓pI102_6, ↓pI102_9, ↓pI102_13, ↓pI102_15, ↓pI102_16, ↓pI102_17, ↓pI102_27, ↓pI102_28, ↓pI102_29, ↓pZ102_8, ↓pZ102_18, ↓pZ102_19, ↓pJ102_39, ↓pJ102_40, ↓pJ102_41, ↓pJ102_42, ↓gR102_1, ↓gR102_2, ↓gR102_3, ↓gR102_4, ↓gR102_5, ↓gR102_7, ↓gR102_10, ↓gR102_11, ↓gR102_12, ↓gR102_14, ↓gR102_20, ↓gR102_21, ↓gR102_22, ↓gR102_23, ↓gR102_24, ↓gR102_25, ↓gR102_26, ↓gR102_30, ↓gR102_31, ↓gR102_32, ↓gR102_33, ↓gR102_34, ↓gR102_35, ↓gR102_36, ↓gR102_37, ↓gR102_38, ↓aI103, ↓sI103, ↓ln103, ↓aI137, ↓sI137, ↓ln137, ↓aI188, ↓sZ188, ↓ln188, ↓aI189, ↓ln189, ↓aI203, ↓sI203, ↓ln203, ↓aI217, ↓sZ217, ↓ln217, ↓aI218, ↓sI218, ↓ln218, ↓aI219, ↓sI219, ↓ln219, ↓aI220, ↓sZ220, ↓ln220, ↓aI221, ↓sZ221, ↓ln221, ↓aI229, ↓sI229, ↓ln229, ↓aI230, ↓sI230, ↓ln230, ↓aI231, ↓sI231, ↓ln231, ↓aI232, ↓sI232, ↓ln232, ↓aI233, ↓sI233, ↓ln233, ↓aI234, ↓sZ234, ↓ln234, ↓aI235, ↓sZ235, ↓ln235, ↓aR104, ↓aR131, ↓aR134, ↓aR138, ↓aR175, ↓aR179, ↓aR190, ↓aR204, ↓aR222, ↓aR105, ↓aR139, ↓aI106, ↓sI106, ↓lI106, ↓aI132, ↓sI132, ↓lI132, ↓aI135, ↓sI135, ↓lI135, ↓aI140, ↓sI140, ↓lI140, ↓aI176, ↓sI176, ↓lI176, ↓aI180, ↓sI180, ↓lI180, ↓aI191, ↓sI191, ↓lI191, ↓aI205, ↓sI205, ↓lI205, ↓aI223, ↓sI223, ↓lI223, ↓c_I, ↓c_J, ↓c_Q, ↓c_V, ↓c_It, ↓c_Jt, ↓c_Vt, ↓k_I, ↓k_J, ↓n_I, ↓n_V, li0, li1, li2, li3, li4, li5, li6, li7, li8, li9, li10, li11, li12, li13, li14, li15, li16, li17, li18, li19, li20, li21, li22, li23, li24, li25, li26, li27, li28, li29, li30, li31, li32, li33, li34, li35, li36, li37, li38, li39, li40, li41, li42, li44, li48, li57, li63, li64, li65, li97, li99, li100, li101, li102, li104, li105, li106, li109, li114, li120, li128, li130, li300, li514, li999, li1000, li8192, li9999, li65536, li1000000, li1000001, li1000002, li1000003, li1000004, li1000005, li1000006, li1000007, li1000008, li1000009, li1000010, li1000011, li1000012, li1000013, li1000014, li1000015, li1000016, li1000017, li1000018, li1000019, li2147483647, lj0, lj1, W_add, W_sub, W_mul, W_neg, V_add, V_sub, V_mul, V_neg, W_ite, W_le, W_lt, W_inj, V_le, V_lt, V_inj, W_V, V_W, lgc_ge, lgc_gt, lgc_le, lgc_lt, lgc_eq, ge_iff_le, gt_iff_lt, p1, p2, e8, aR, sR, e9, ↓reduceIte]
  · have p1 : I 102 8 = 1 := p1
    show _ = some (Sx (uI (uI I 102 9 (Q + 1)) R Q v) J b c, xi (iW v))
    simp (disch := first | assumption | omega) only [f_X8_pass, f_X8_pass_b26, ↓rc102, ↓gI102_0, ↓gI102_6, ↓gI102_8, ↓gI102_9, ↓gI102_13, ↓gI102_15, ↓gI102_16, ↓gI102_17, ↓gI102_18, ↓gI102_19, ↓gI102_27, ↓gI102_28, ↓gI102_29, ↓gJ102_39, ↓gJ102_40, ↓gJ102_41, ↓gJ102_42, ↓pI102_0, ↓pI102_6, ↓pI102_9, ↓pI102_13, ↓pI102_15, ↓pI102_16, ↓pI102_17, ↓pI102_27, ↓pI102_28, ↓pI102_29, ↓pZ102_8, ↓pZ102_18, ↓pZ102_19, ↓pJ102_39, ↓pJ102_40, ↓pJ102_41, ↓pJ102_42, ↓gR102_1, ↓gR102_2, ↓gR102_3, ↓gR102_4, ↓gR102_5, ↓gR102_7, ↓gR102_10, ↓gR102_11, ↓gR102_12, ↓gR102_14, ↓gR102_20, ↓gR102_21, ↓gR102_22, ↓gR102_23, ↓gR102_24, ↓gR102_25, ↓gR102_26, ↓gR102_30, ↓gR102_31, ↓gR102_32, ↓gR102_33, ↓gR102_34, ↓gR102_35, ↓gR102_36, ↓gR102_37, ↓gR102_38, ↓aI103, ↓sI103, ↓ln103, ↓aI137, ↓sI137, ↓ln137, ↓aI188, ↓sZ188, ↓ln188, ↓aI189, ↓ln189, ↓aI203, ↓sI203, ↓ln203, ↓aI217, ↓sZ217, ↓ln217, ↓aI218, ↓sI218, ↓ln218, ↓aI219, ↓sI219, ↓ln219, ↓aI220, ↓sZ220, ↓ln220, ↓aI221, ↓sZ221, ↓ln221, ↓aI229, ↓sI229, ↓ln229, ↓aI230, ↓sI230, ↓ln230, ↓aI231, ↓sI231, ↓ln231, ↓aI232, ↓sI232, ↓ln232, ↓aI233, ↓sI233, ↓ln233, ↓aI234, ↓sZ234, ↓ln234, ↓aI235, ↓sZ235, ↓ln235, ↓aR104, ↓aR131, ↓aR134, ↓aR138, ↓aR175, ↓aR179, ↓aR190, ↓aR204, ↓aR222, ↓aR105, ↓aR139, ↓aI106, ↓sI106, ↓lI106, ↓aI132, ↓sI132, ↓lI132, ↓aI135, ↓sI135, ↓lI135, ↓aI140, ↓sI140, ↓lI140, ↓aI176, ↓sI176, ↓lI176, ↓aI180, ↓sI180, ↓lI180, ↓aI191, ↓sI191, ↓lI191, ↓aI205, ↓sI205, ↓lI205, ↓aI223, ↓sI223, ↓lI223, ↓c_I, ↓c_J, ↓c_Q, ↓c_V, ↓c_It, ↓c_Jt, ↓c_Vt, ↓k_I, ↓k_J, ↓n_I, ↓n_V, li0, li1, li2, li3, li4, li5, li6, li7, li8, li9, li10, li11, li12, li13, li14, li15, li16, li17, li18, li19, li20, li21, li22, li23, li24, li25, li26, li27, li28, li29, li30, li31, li32, li33, li34, li35, li36, li37, li38, li39, li40, li41, li42, li44, li48, li57, li63, li64, li65, li97, li99, li100, li101, li102, li104, li105, li106, li109, li114, li120, li128, li130, li300, li514, li999, li1000, li8192, li9999, li65536, li1000000, li1000001, li1000002, li1000003, li1000004, li1000005, li1000006, li1000007, li1000008, li1000009, li1000010, li1000011, li1000012, li1000013, li1000014, li1000015, li1000016, li1000017, li1000018, li1000019, li2147483647, lj0, lj1, W_add, W_sub, W_mul, W_neg, V_add, V_sub, V_mul, V_neg, W_ite, W_le, W_lt, W_inj, V_le, V_lt, V_inj, W_V, V_W, lgc_ge, lgc_gt, lgc_le, lgc_lt, lgc_eq, ge_iff_le, gt_iff_lt, p1, p2, e8, aR, sR, u_eq, Int.reduceEq, ↓reduceIte]
/-- one number passed -/
theorem PA.step {W : Bool} {I0 I : CF} {R Q S k v : Int} (hR : 176 ≤ R ∧ R ≤ 187) (h : PA W I0 I R Q) (h0 : 0 ≤ Q) (h1 : Q < 261) (hS : co Q = S) (hk : ck Q = k) (hv : v = if W = true then I0 S k else I0 R Q) : PA W I0 (uI (if W = true then uI (uI I 102 9 (Q + 1)) R Q v else uI I 102 9 (Q + 1)) S k v) R (Q + 1) := by
  obtain ⟨p1, p2, p3, p4⟩ := h
  have hb := co_bd h0 h1
  rw [hS] at hb
  have hk6 : S = 102 → k = 6 := fun e => by
    have := hb.2.2 e
    rw [this] at hk
    exact hk.symm
  cases W
  · show PA false I0 (uI (uI I 102 9 (Q + 1)) S k v) R (Q + 1)
    have hv : v = I0 R Q := hv
    refine ⟨?_, ?_, fun j j0 j1 j2 => ?_, fun q q0 q1 => ?_, fun a ha => ?_⟩
    · by_cases e : S = 102
      · rw [e, hk6 e, u_ne (by omega), u_ne (by omega)]; exact p1
      · rw [u_obj (fun z => e z.symm), u_ne (by omega)]; exact p1
    · by_cases e : S = 102
      · rw [e, hk6 e, u_ne (by omega), u_eq]
      · rw [u_obj (fun z => e z.symm), u_eq]
    · by_cases e : S = 102
      · rw [e, hk6 e, u_ne j0, u_ne j2]; exact p3 j j0 j1 j2
      · rw [u_obj (fun z => e z.symm), u_ne j2]; exact p3 j j0 j1 j2
    · by_cases e : q = Q
      · rw [e, hS, hk, u_eq, hv]
      · have hne : ¬ (co q = S ∧ ck q = k) := fun z => by
          have a1 := cq_co q0 (show q < 261 by omega)
          have a2 := cq_co h0 h1
          rw [z.1, z.2] at a1
          rw [hS, hk] at a2
          omega
        have hb2 := co_bd q0 (show q < 261 by omega)
        have e9 : ¬ (co q = 102 ∧ ck q = 9) := fun z => by
          have := hb2.2.2 z.1
          rw [this] at z
          exact absurd z.2 (by decide)
        rw [← p4.1 q q0 (by omega)]
        unfold uI
        rw [if_neg hne, if_neg e9]
    · rw [u_obj (by omega), u_obj (by omega)]
      exact p4.2 a ha
  · show PA true I0 (uI (uI (uI I 102 9 (Q + 1)) R Q v) S k v) R (Q + 1)
    have hv : v = I0 S k := hv
    have p4 : (∀ q, 0 ≤ q → q < Q → I R q = I0 (co q) (ck q)) ∧ I 102 6 = I0 102 6 ∧ ∀ a, a ≠ R → a ≠ 102 → I a = I0 a := p4
    refine ⟨?_, ?_, fun j j0 j1 j2 => ?_, fun q q0 q1 => ?_, ?_, fun a ha hc => ?_⟩
    · by_cases e : S = 102
      · rw [e, hk6 e, u_ne (by omega), u_obj (by omega), u_ne (by omega)]; exact p1
      · rw [u_obj (fun z => e z.symm), u_obj (by omega), u_ne (by omega)]; exact p1
    · by_cases e : S = 102
      · rw [e, hk6 e, u_ne (by omega), u_obj (by omega), u_eq]
      · rw [u_obj (fun z => e z.symm), u_obj (by omega), u_eq]
    · by_cases e : S = 102
      · rw [e, hk6 e, u_ne j0, u_obj (by omega), u_ne j2]; exact p3 j j0 j1 j2
      · rw [u_obj (fun z => e z.symm), u_obj (by omega), u_ne j2]; exact p3 j j0 j1 j2
    · rw [u_obj (by omega), u_at]
      by_cases e : q = Q
      · rw [if_pos e, e, hS, hk, hv]
      · rw [if_neg e, u_obj (by omega)]
        exact p4.1 q q0 (by omega)
    · by_cases e : S = 102
      · rw [e, hk6 e, u_eq, hv, e, hk6 e]
      · rw [u_obj (fun z => e z.symm), u_obj (by omega), u_ne (by omega)]; exact p4.2.1
    · by_cases e : a = S
      · subst e
        funext j
        rw [u_at]
        by_cases ej : j = k
        · rw [if_pos ej, ej, hv]
        · rw [if_neg ej, u_obj ha, u_obj hc]
          rw [p4.2.2 a ha hc]
      · rw [u_obj e, u_obj ha, u_obj hc]
        exact p4.2.2 a ha hc
theorem r_row {W : Bool} {I0 : CF} {R S len : Nat} {Q0 : Int} (hR : 176 ≤ R ∧ R ≤ 187) (hs : SHL[R]? = some (100, 300)) (hS : SHL[S]? = some (100, len)) (hl : len ≤ 5) (h0 : 0 ≤ Q0) (h1 : Q0 + len ≤ 261) (hSb : 103 ≤ S ∧ S ≤ 174) (hc : ∀ k : Int, 0 ≤ k → k < len → co (Q0 + k) = S ∧ ck (Q0 + k) = k) : ∀ (fuel k : Nat) (I : CF), len - k < fuel → k ≤ len → PA W I0 I R (Q0 + k) → ∃ I', f_X8_passRow_L2 fuel (Sx I J b c) 102 R S (iW k) = some (Sx I' J b c, xv) ∧ PA W I0 I' R (Q0 + len) := by
  have aS := fun I (z : Int) f (h0 : 0 ≤ z) (h1 : z < len) => a_I (I := I) (J := J) (b := b) (c := c) (z := z) (f := f) hS (by omega) h0 h1
  have sS := fun I (z v : Int) f (h0 : 0 ≤ z) (h1 : z < len) => s_I (I := I) (J := J) (b := b) (c := c) (z := z) (v := v) (f := f) hS (by omega) h0 h1
  have lS := fun I f => l_n (I := I) (J := J) (b := b) (c := c) (f := f) hS (by omega)
  intro fuel
  induction fuel with
  | zero => intro k I a1; omega
  | succ fuel ih =>
    intro k I a1 a2 hP
    show ∃ I', f_X8_passRow_b2 (f_X8_passRow_L2 fuel) (Sx I J b c) 102 R S (iW k) = _ ∧ _
    by_cases hk : k = len
    · subst hk
      refine ⟨I, ?_, hP⟩
      have n0 : (k : Int) ≤ k := Int.le_refl _
      simp (disch := first | assumption | omega) only [f_X8_passRow_b2, ↓c_I, ↓c_J, ↓c_Q, ↓c_V, ↓c_It, ↓c_Jt, ↓c_Vt, ↓k_I, ↓k_J, ↓n_I, ↓n_V, li0, li1, li2, li3, li4, li5, li6, li7, li8, li9, li10, li11, li12, li13, li14, li15, li16, li17, li18, li19, li20, li21, li22, li23, li24, li25, li26, li27, li28, li29, li30, li31, li32, li33, li34, li35, li36, li37, li38, li39, li40, li41, li42, li44, li48, li57, li63, li64, li65, li97, li99, li100, li101, li102, li104, li105, li106, li109, li114, li120, li128, li130, li300, li514, li999, li1000, li8192, li9999, li65536, li1000000, li1000001, li1000002, li1000003, li1000004, li1000005, li1000006, li1000007, li1000008, li1000009, li1000010, li1000011, li1000012, li1000013, li1000014, li1000015, li1000016, li1000017, li1000018, li1000019, li2147483647, lj0, lj1, W_add, W_sub, W_mul, W_neg, V_add, V_sub, V_mul, V_neg, W_ite, W_le, W_lt, W_inj, V_le, V_lt, V_inj, W_V, V_W, lgc_ge, lgc_gt, lgc_le, lgc_lt, lgc_eq, ge_iff_le, gt_iff_lt, lS, n0, ↓reduceIte]
    · have n1 : ¬ ((len : Int) ≤ k) := by omega
      have hp := r_pass (J := J) (b := b) (c := c) (v := I S k) hR hs hP (by omega) (by omega)
      have hcc := hc k (by omega) (by omega)
      have hst := PA.step (S := S) (k := k) (v := if W = true then I S k else I0 R (Q0 + k)) (by omega) hP (by omega) (by omega) hcc.1 hcc.2 (by
        cases W
        · rfl
        · show I S k = I0 S k
          rw [hP.2.2.2.2.2 S (by omega) (by omega)])
      rw [show Q0 + k + 1 = Q0 + ((k + 1 : Nat) : Int) by omega] at hst
      have hres : (if W = true then uI (uI I 102 9 (Q0 + k + 1)) R (Q0 + k) (if W = true then I S k else I0 R (Q0 + k)) else uI I 102 9 (Q0 + k + 1)) = (if W = true then uI (uI I 102 9 (Q0 + k + 1)) R (Q0 + k) (I S k) else uI I 102 9 (Q0 + k + 1)) := by
        cases W <;> rfl
      rw [show Q0 + ((k + 1 : Nat) : Int) = Q0 + k + 1 by omega, hres, show Q0 + k + 1 = Q0 + ((k + 1 : Nat) : Int) by omega] at hst
      rw [show Q0 + (k : Int) + 1 = Q0 + ((k + 1 : Nat) : Int) by omega] at hp
      obtain ⟨I', k1, k2⟩ := ih (k + 1) _ (by omega) (by omega) hst
      refine ⟨I', ?_, k2⟩
      rw [← k1, show ((k + 1 : Nat) : Int) = (k : Int) + 1 by omega]
      rw [show ((k + 1 : Nat) : Int) = (k : Int) + 1 by omega] at hp
      simp (disch := first | assumption | omega) only [f_X8_passRow_b2, ↓rc102, ↓gI102_0, ↓gI102_6, ↓gI102_8, ↓gI102_9, ↓gI102_13, ↓gI102_15, ↓gI102_16, ↓gI102_17, ↓gI102_18, ↓gI102_19, ↓gI102_27, ↓gI102_28, ↓gI102_29, ↓gJ102_39, ↓gJ102_40, ↓gJ102_41, ↓gJ102_42, ↓pI102_0, ↓pI102_6, ↓pI102_9, ↓pI102_13, ↓pI102_15, ↓pI102_16, ↓pI102_17, ↓pI102_27, ↓pI102_28, ↓pI102_29, ↓pZ102_8, ↓pZ102_18, ↓pZ102_19, ↓pJ102_39, ↓pJ102_40, ↓pJ102_41, ↓pJ102_42, ↓gR102_1, ↓gR102_2, ↓gR102_3, ↓gR102_4, ↓gR102_5, ↓gR102_7, ↓gR102_10, ↓gR102_11, ↓gR102_12, ↓gR102_14, ↓gR102_20, ↓gR102_21, ↓gR102_22, ↓gR102_23, ↓gR102_24, ↓gR102_25, ↓gR102_26, ↓gR102_30, ↓gR102_31, ↓gR102_32, ↓gR102_33, ↓gR102_34, ↓gR102_35, ↓gR102_36, ↓gR102_37, ↓gR102_38, ↓aI103, ↓sI103, ↓ln103, ↓aI137, ↓sI137, ↓ln137, ↓aI188, ↓sZ188, ↓ln188, ↓aI189, ↓ln189, ↓aI203, ↓sI203, ↓ln203, ↓aI217, ↓sZ217, ↓ln217, ↓aI218, ↓sI218, ↓ln218, ↓aI219, ↓sI219, ↓ln219, ↓aI220, ↓sZ220, ↓ln220, ↓aI221, ↓sZ221, ↓ln221, ↓aI229, ↓sI229, ↓ln229, ↓aI230, ↓sI230, ↓ln230, ↓aI231, ↓sI231, ↓ln231, ↓aI232, ↓sI232, ↓ln232, ↓aI233, ↓sI233, ↓ln233, ↓aI234, ↓sZ234, ↓ln234, ↓aI235, ↓sZ235, ↓ln235, ↓aR104, ↓aR131, ↓aR134, ↓aR138, ↓aR175, ↓aR179, ↓aR190, ↓aR204, ↓aR222, ↓aR105, ↓aR139, ↓aI106, ↓sI106, ↓lI106, ↓aI132, ↓sI132, ↓lI132, ↓aI135, ↓sI135, ↓lI135, ↓aI140, ↓sI140, ↓lI140, ↓aI176, ↓sI176, ↓lI176, ↓aI180, ↓sI180, ↓lI180, ↓aI191, ↓sI191, ↓lI191, ↓aI205, ↓sI205, ↓lI205, ↓aI223, ↓sI223, ↓lI223, ↓c_I, ↓c_J, ↓c_Q, ↓c_V, ↓c_It, ↓c_Jt, ↓c_Vt, ↓k_I, ↓k_J, ↓n_I, ↓n_V, li0, li1, li2, li3, li4, li5, li6, li7, li8, li9, li10, li11, li12, li13, li14, li15, li16, li17, li18, li19, li20, li21, li22, li23, li24, li25, li26, li27, li28, li29, li30, li31, li32, li33, li34, li35, li36, li37, li38, li39, li40, li41, li42, li44, li48, li57, li63, li64, li65, li97, li99, li100, li101, li102, li104, li105, li106, li109, li114, li120, li128, li130, li300, li514, li999, li1000, li8192, li9999, li65536, li1000000, li1000001, li1000002, li1000003, li1000004, li1000005, li1000006, li1000007, li1000008, li1000009, li1000010, li1000011, li1000012, li1000013, li1000014, li1000015, li1000016, li1000017, li1000018, li1000019, li2147483647, lj0, lj1, W_add, W_sub, W_mul, W_neg, V_add, V_sub, V_mul, V_neg, W_ite, W_le, W_lt, W_inj, V_le, V_lt, V_inj, W_V, V_W, lgc_ge, lgc_gt, lgc_le, lgc_lt, lgc_eq, ge_iff_le, gt_iff_lt, lS, n1, aS, hp, sS, ↓reduceIte]
theorem r_passRow {W : Bool} {I0 I : CF} {R S len : Nat} {Q0 : Int} (hR : 176 ≤ R ∧ R ≤ 187) (hs : SHL[R]? = some (100, 300)) (hS : SHL[S]? = some (100, len)) (hl : len ≤ 5) (h0 : 0 ≤ Q0) (h1 : Q0 + len ≤ 261) (hSb : 103 ≤ S ∧ S ≤ 174) (hc : ∀ k : Int, 0 ≤ k → k < len → co (Q0 + k) = S ∧ ck (Q0 + k) = k) (hP : PA W I0 I R Q0) : ∃ I', f_X8_passRow (Sx I J b c) 102 R S = some (Sx I' J b c, xv) ∧ PA W I0 I' R (Q0 + len) := by
  obtain ⟨I', k1, k2⟩ := r_row (J := J) (b := b) (c := c) (W := W) (I0 := I0) hR hs hS hl h0 h1 hSb hc FU 0 I (by unfold FU; omega) (by omega) (by rw [show Q0 + ((0 : Nat) : Int) = Q0 by omega]; exact hP)
  refine ⟨I', ?_, k2⟩
  rw [← k1]
  simp (disch := first | assumption | omega) only [f_X8_passRow, li0, li1, li2, li3, li4, li5, li6, li7, li8, li9, li10, li11, li12, li13, li14, li15, li16, li17, li18, li19, li20, li21, li22, li23, li24, li25, li26, li27, li28, li29, li30, li31, li32, li33, li34, li35, li36, li37, li38, li39, li40, li41, li42, li44, li48, li57, li63, li64, li65, li97, li99, li100, li101, li102, li104, li105, li106, li109, li114, li120, li128, li130, li300, li514, li999, li1000, li8192, li9999, li65536, li1000000, li1000001, li1000002, li1000003, li1000004, li1000005, li1000006, li1000007, li1000008, li1000009, li1000010, li1000011, li1000012, li1000013, li1000014, li1000015, li1000016, li1000017, li1000018, li1000019, li2147483647, lj0, lj1, W_add, W_sub, W_mul, W_neg, V_add, V_sub, V_mul, V_neg, W_ite]
  rfl
end RPass

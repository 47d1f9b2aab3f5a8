/-! ===== the engine: the item in a cell, cells ===== -/
section EQu6
variable {J : CF} {b : Nat} {c : Bool} {A I : CF}
theorem e_covering (h0 : LZ I A 20 0) (h1 : LZ I A 28 1) {i x y : Int} (i0 : 0 ≤ i) (i1 : i < nit A) (x0 : -1000 ≤ x) (x1 : x ≤ 1000) (y0 : -1000 ≤ y) (y1 : y ≤ 1000) : f_X5_isCovering (Sx I J b c) 16 (iW i) (iW x) (iW y) = some (Sx I J b c, xi (iW (bb (cvr A 0 i x ∧ cvr A 1 i y)))) := by
  have e1 := e_across (J := J) (b := b) (c := c) h0.1.1 (i := i) (k := x) i0 i1 x0 x1
  have e2 := e_across (J := J) (b := b) (c := c) h1.1.1 (i := i) (k := y) i0 i1 y0 y1
  by_cases q1 : cvr A 0 i x
  · rw [bb_pos q1] at e1
    by_cases q2 : cvr A 1 i y
    · rw [bb_pos q2] at e2
      rw [bb_pos (show cvr A 0 i x ∧ cvr A 1 i y from ⟨q1, q2⟩)]
      simp (disch := first | assumption | omega) only [f_X5_isCovering, f_X5_isCovering_b24, f_X5_isCovering_b25, ↓rc16, ↓gI16_4, ↓gI16_5, ↓gI16_6, ↓gI16_7, ↓gI16_8, ↓pI16_4, ↓pI16_5, ↓pI16_6, ↓pI16_7, ↓pI16_8, ↓gR16_0, ↓gR16_1, ↓gR16_2, ↓gR16_3, ↓aI17, ↓sI17, ↓ln17, ↓aI18, ↓sZ18, ↓ln18, ↓aI19, ↓sI19, ↓ln19, ↓c_I, ↓c_J, ↓c_Q, ↓c_V, ↓c_It, ↓c_Jt, ↓c_Vt, ↓k_I, ↓k_J, ↓n_I, ↓n_V, li0, li1, li2, li3, li4, li5, li6, li7, li8, li9, li10, li11, li12, li13, li14, li15, li16, li17, li18, li19, li20, li21, li22, li23, li24, li25, li26, li27, li28, li29, li30, li31, li32, li33, li34, li35, li36, li37, li38, li39, li40, li41, li42, li44, li48, li57, li63, li64, li65, li97, li99, li100, li101, li102, li104, li105, li106, li109, li114, li120, li128, li130, li300, li514, li999, li1000, li8192, li9999, li65536, li1000000, li1000001, li1000002, li1000003, li1000004, li1000005, li1000006, li1000007, li1000008, li1000009, li1000010, li1000011, li1000012, li1000013, li1000014, li1000015, li1000016, li1000017, li1000018, li1000019, li2147483647, lj0, lj1, W_add, W_sub, W_mul, W_neg, V_add, V_sub, V_mul, V_neg, W_ite, W_le, W_lt, W_inj, V_le, V_lt, V_inj, W_V, V_W, lgc_ge, lgc_gt, lgc_le, lgc_lt, lgc_eq, ge_iff_le, gt_iff_lt, e1, e2, Int.reduceEq, ↓reduceIte, r_Z]
    · rw [bb_neg q2] at e2
      rw [bb_neg (fun z : cvr A 0 i x ∧ cvr A 1 i y => q2 z.2)]
      simp (disch := first | assumption | omega) only [f_X5_isCovering, f_X5_isCovering_b24, f_X5_isCovering_b25, ↓rc16, ↓gI16_4, ↓gI16_5, ↓gI16_6, ↓gI16_7, ↓gI16_8, ↓pI16_4, ↓pI16_5, ↓pI16_6, ↓pI16_7, ↓pI16_8, ↓gR16_0, ↓gR16_1, ↓gR16_2, ↓gR16_3, ↓aI17, ↓sI17, ↓ln17, ↓aI18, ↓sZ18, ↓ln18, ↓aI19, ↓sI19, ↓ln19, ↓c_I, ↓c_J, ↓c_Q, ↓c_V, ↓c_It, ↓c_Jt, ↓c_Vt, ↓k_I, ↓k_J, ↓n_I, ↓n_V, li0, li1, li2, li3, li4, li5, li6, li7, li8, li9, li10, li11, li12, li13, li14, li15, li16, li17, li18, li19, li20, li21, li22, li23, li24, li25, li26, li27, li28, li29, li30, li31, li32, li33, li34, li35, li36, li37, li38, li39, li40, li41, li42, li44, li48, li57, li63, li64, li65, li97, li99, li100, li101, li102, li104, li105, li106, li109, li114, li120, li128, li130, li300, li514, li999, li1000, li8192, li9999, li65536, li1000000, li1000001, li1000002, li1000003, li1000004, li1000005, li1000006, li1000007, li1000008, li1000009, li1000010, li1000011, li1000012, li1000013, li1000014, li1000015, li1000016, li1000017, li1000018, li1000019, li2147483647, lj0, lj1, W_add, W_sub, W_mul, W_neg, V_add, V_sub, V_mul, V_neg, W_ite, W_le, W_lt, W_inj, V_le, V_lt, V_inj, W_V, V_W, lgc_ge, lgc_gt, lgc_le, lgc_lt, lgc_eq, ge_iff_le, gt_iff_lt, e1, e2, Int.reduceEq, ↓reduceIte, r_Z]
  · rw [bb_neg q1] at e1
    rw [bb_neg (fun z : cvr A 0 i x ∧ cvr A 1 i y => q1 z.1)]
    simp (disch := first | assumption | omega) only [f_X5_isCovering, f_X5_isCovering_b24, f_X5_isCovering_b25, ↓rc16, ↓gI16_4, ↓gI16_5, ↓gI16_6, ↓gI16_7, ↓gI16_8, ↓pI16_4, ↓pI16_5, ↓pI16_6, ↓pI16_7, ↓pI16_8, ↓gR16_0, ↓gR16_1, ↓gR16_2, ↓gR16_3, ↓aI17, ↓sI17, ↓ln17, ↓aI18, ↓sZ18, ↓ln18, ↓aI19, ↓sI19, ↓ln19, ↓c_I, ↓c_J, ↓c_Q, ↓c_V, ↓c_It, ↓c_Jt, ↓c_Vt, ↓k_I, ↓k_J, ↓n_I, ↓n_V, li0, li1, li2, li3, li4, li5, li6, li7, li8, li9, li10, li11, li12, li13, li14, li15, li16, li17, li18, li19, li20, li21, li22, li23, li24, li25, li26, li27, li28, li29, li30, li31, li32, li33, li34, li35, li36, li37, li38, li39, li40, li41, li42, li44, li48, li57, li63, li64, li65, li97, li99, li100, li101, li102, li104, li105, li106, li109, li114, li120, li128, li130, li300, li514, li999, li1000, li8192, li9999, li65536, li1000000, li1000001, li1000002, li1000003, li1000004, li1000005, li1000006, li1000007, li1000008, li1000009, li1000010, li1000011, li1000012, li1000013, li1000014, li1000015, li1000016, li1000017, li1000018, li1000019, li2147483647, lj0, lj1, W_add, W_sub, W_mul, W_neg, V_add, V_sub, V_mul, V_neg, W_ite, W_le, W_lt, W_inj, V_le, V_lt, V_inj, W_V, V_W, lgc_ge, lgc_gt, lgc_le, lgc_lt, lgc_eq, ge_iff_le, gt_iff_lt, e1, Int.reduceEq, ↓reduceIte, r_Z]
theorem lsi_s {R : Int → Prop} {n : Nat} : lsi R (n + 1) = cif (R n) (n : Int) (lsi R n) := rfl
theorem e_itemIn_L {x y : Int} (h0 : LZ I A 20 0) (h1 : LZ I A 28 1) (hA : okA A) (x0 : -1000 ≤ x) (x1 : x ≤ 1000) (y0 : -1000 ≤ y) (y1 : y ≤ 1000) : ∀ (fuel n : Nat), n < fuel → (n : Int) ≤ nit A →
    f_X7_itemIn_L26 fuel (Sx I J b c) 0 (iW x) (iW y) (iW ((n : Int) - 1)) = if 0 ≤ lsi (fun i => cvr A 0 i x ∧ cvr A 1 i y) n then some (Sx I J b c, xi (iW (lsi (fun i => cvr A 0 i x ∧ cvr A 1 i y) n))) else some (Sx I J b false, xt "java/util/NoSuchElementException") := by
  have hNn := hA.1
  intro fuel
  induction fuel with
  | zero => intro n a1; omega
  | succ fuel ih =>
    intro n a1 a2
    show f_X7_itemIn_b26 (f_X7_itemIn_L26 fuel) (Sx I J b c) 0 (iW x) (iW y) (iW ((n : Int) - 1)) = _
    match n with
    | 0 =>
      rw [show lsi (fun i => cvr A 0 i x ∧ cvr A 1 i y) 0 = -1 from Eq.symm (Eq.symm rfl), if_neg (by decide)]
      have n0 : ((0 : Nat) : Int) - 1 < 0 := by omega
      simp (disch := first | assumption | omega) only [f_X7_itemIn_b26, S_dirty, ↓rc0, ↓gI0_1, ↓gI0_7, ↓gI0_8, ↓gI0_15, ↓pI0_1, ↓pI0_7, ↓pI0_8, ↓pZ0_15, ↓gR0_0, ↓gR0_2, ↓gR0_3, ↓gR0_4, ↓gR0_5, ↓gR0_6, ↓gR0_9, ↓gR0_10, ↓gR0_11, ↓gR0_12, ↓gR0_13, ↓gR0_14, ↓aI1, ↓ln1, ↓aI14, ↓sZ14, ↓ln14, ↓aR13, ↓aR15, ↓c_I, ↓c_J, ↓c_Q, ↓c_V, ↓c_It, ↓c_Jt, ↓c_Vt, ↓k_I, ↓k_J, ↓n_I, ↓n_V, li0, li1, li2, li3, li4, li5, li6, li7, li8, li9, li10, li11, li12, li13, li14, li15, li16, li17, li18, li19, li20, li21, li22, li23, li24, li25, li26, li27, li28, li29, li30, li31, li32, li33, li34, li35, li36, li37, li38, li39, li40, li41, li42, li44, li48, li57, li63, li64, li65, li97, li99, li100, li101, li102, li104, li105, li106, li109, li114, li120, li128, li130, li300, li514, li999, li1000, li8192, li9999, li65536, li1000000, li1000001, li1000002, li1000003, li1000004, li1000005, li1000006, li1000007, li1000008, li1000009, li1000010, li1000011, li1000012, li1000013, li1000014, li1000015, li1000016, li1000017, li1000018, li1000019, li2147483647, lj0, lj1, W_add, W_sub, W_mul, W_neg, V_add, V_sub, V_mul, V_neg, W_ite, W_le, W_lt, W_inj, V_le, V_lt, V_inj, W_V, V_W, lgc_ge, lgc_gt, lgc_le, lgc_lt, lgc_eq, ge_iff_le, gt_iff_lt, n0, ↓reduceIte]
    | n + 1 =>
      have hcc : ((n + 1 : Nat) : Int) - 1 = (n : Int) := by omega
      rw [hcc]
      have n1 : ¬ ((n : Int) < 0) := by omega
      have hm : (n : Int) + -1 = (n : Int) - 1 := by omega
      have e1 := e_covering (J := J) (b := b) (c := c) h0 h1 (i := n) (by omega) (by omega) x0 x1 y0 y1
      have hnext := ih n (by omega) (by omega)
      by_cases q : cvr A 0 n x ∧ cvr A 1 n y
      · rw [lsi_s, cif_pos q, if_pos (by omega)]
        rw [bb_pos q] at e1
        simp (disch := first | assumption | omega) only [f_X7_itemIn_b26, ↓rc0, ↓gI0_1, ↓gI0_7, ↓gI0_8, ↓gI0_15, ↓pI0_1, ↓pI0_7, ↓pI0_8, ↓pZ0_15, ↓gR0_0, ↓gR0_2, ↓gR0_3, ↓gR0_4, ↓gR0_5, ↓gR0_6, ↓gR0_9, ↓gR0_10, ↓gR0_11, ↓gR0_12, ↓gR0_13, ↓gR0_14, ↓aI1, ↓ln1, ↓aI14, ↓sZ14, ↓ln14, ↓aR13, ↓aR15, ↓rc16, ↓gI16_4, ↓gI16_5, ↓gI16_6, ↓gI16_7, ↓gI16_8, ↓pI16_4, ↓pI16_5, ↓pI16_6, ↓pI16_7, ↓pI16_8, ↓gR16_0, ↓gR16_1, ↓gR16_2, ↓gR16_3, ↓aI17, ↓sI17, ↓ln17, ↓aI18, ↓sZ18, ↓ln18, ↓aI19, ↓sI19, ↓ln19, ↓c_I, ↓c_J, ↓c_Q, ↓c_V, ↓c_It, ↓c_Jt, ↓c_Vt, ↓k_I, ↓k_J, ↓n_I, ↓n_V, li0, li1, li2, li3, li4, li5, li6, li7, li8, li9, li10, li11, li12, li13, li14, li15, li16, li17, li18, li19, li20, li21, li22, li23, li24, li25, li26, li27, li28, li29, li30, li31, li32, li33, li34, li35, li36, li37, li38, li39, li40, li41, li42, li44, li48, li57, li63, li64, li65, li97, li99, li100, li101, li102, li104, li105, li106, li109, li114, li120, li128, li130, li300, li514, li999, li1000, li8192, li9999, li65536, li1000000, li1000001, li1000002, li1000003, li1000004, li1000005, li1000006, li1000007, li1000008, li1000009, li1000010, li1000011, li1000012, li1000013, li1000014, li1000015, li1000016, li1000017, li1000018, li1000019, li2147483647, lj0, lj1, W_add, W_sub, W_mul, W_neg, V_add, V_sub, V_mul, V_neg, W_ite, W_le, W_lt, W_inj, V_le, V_lt, V_inj, W_V, V_W, lgc_ge, lgc_gt, lgc_le, lgc_lt, lgc_eq, ge_iff_le, gt_iff_lt, n1, e1, Int.reduceEq, ↓reduceIte]
      · rw [lsi_s, cif_neg q, ← hnext]
        rw [bb_neg q] at e1
        simp (disch := first | assumption | omega) only [f_X7_itemIn_b26, ↓rc0, ↓gI0_1, ↓gI0_7, ↓gI0_8, ↓gI0_15, ↓pI0_1, ↓pI0_7, ↓pI0_8, ↓pZ0_15, ↓gR0_0, ↓gR0_2, ↓gR0_3, ↓gR0_4, ↓gR0_5, ↓gR0_6, ↓gR0_9, ↓gR0_10, ↓gR0_11, ↓gR0_12, ↓gR0_13, ↓gR0_14, ↓aI1, ↓ln1, ↓aI14, ↓sZ14, ↓ln14, ↓aR13, ↓aR15, ↓rc16, ↓gI16_4, ↓gI16_5, ↓gI16_6, ↓gI16_7, ↓gI16_8, ↓pI16_4, ↓pI16_5, ↓pI16_6, ↓pI16_7, ↓pI16_8, ↓gR16_0, ↓gR16_1, ↓gR16_2, ↓gR16_3, ↓aI17, ↓sI17, ↓ln17, ↓aI18, ↓sZ18, ↓ln18, ↓aI19, ↓sI19, ↓ln19, ↓c_I, ↓c_J, ↓c_Q, ↓c_V, ↓c_It, ↓c_Jt, ↓c_Vt, ↓k_I, ↓k_J, ↓n_I, ↓n_V, li0, li1, li2, li3, li4, li5, li6, li7, li8, li9, li10, li11, li12, li13, li14, li15, li16, li17, li18, li19, li20, li21, li22, li23, li24, li25, li26, li27, li28, li29, li30, li31, li32, li33, li34, li35, li36, li37, li38, li39, li40, li41, li42, li44, li48, li57, li63, li64, li65, li97, li99, li100, li101, li102, li104, li105, li106, li109, li114, li120, li128, li130, li300, li514, li999, li1000, li8192, li9999, li65536, li1000000, li1000001, li1000002, li1000003, li1000004, li1000005, li1000006, li1000007, li1000008, li1000009, li1000010, li1000011, li1000012, li1000013, li1000014, li1000015, li1000016, li1000017, li1000018, li1000019, li2147483647, lj0, lj1, W_add, W_sub, W_mul, W_neg, V_add, V_sub, V_mul, V_neg, W_ite, W_le, W_lt, W_inj, V_le, V_lt, V_inj, W_V, V_W, lgc_ge, lgc_gt, lgc_le, lgc_lt, lgc_eq, ge_iff_le, gt_iff_lt, n1, hm, e1, Int.reduceEq, ↓reduceIte]
theorem x_itemIn (h : ES I A) {k m : Int} (k0 : -2147483648 ≤ k) (k1 : k ≤ 2147483647) (m0 : -2147483648 ≤ m) (m1 : m ≤ 2147483647) :
    EAns (f_X7_itemIn (Sx I J b c) 0 (iW k) (iW m)) I J b c A "java/lang/IndexOutOfBoundsException" "java/util/NoSuchElementException" (if (1 ≤ k ∧ k ≤ nt A 0) ∧ (1 ≤ m ∧ m ≤ nt A 1) then max 0 (lsi (fun i => cvr A 0 i k ∧ cvr A 1 i m) (nit A).toNat) else 0) (if (1 ≤ k ∧ k ≤ nt A 0) ∧ (1 ≤ m ∧ m ≤ nt A 1) then (if 0 ≤ lsi (fun i => cvr A 0 i k ∧ cvr A 1 i m) (nit A).toNat then 0 else 2) else 1) := by
  have hNn := h.1.1
  obtain ⟨I1, J1, y1, y2, y2', y3, y4, y5, y6⟩ := e_laid2 (J := J) (b := b) (c := c) h
  have h4 : I1 8 4 = nit A := y3.2.1.2.2.2.2.1
  have hnt0 := (plB_of h.1).2 0 (by omega) (by omega)
  have hnt1 := (plB_of h.1).2 1 (by omega) (by omega)
  have ek := e_chkTrack (J := J1) (b := b) (c := c) (x := 0) y5 (by omega) (by omega) k0 k1
  have em := e_chkTrack (J := J1) (b := b) (c := c) (x := 1) y5 (by omega) (by omega) m0 m1
  by_cases qk : 1 ≤ k ∧ k ≤ nt A 0
  · rw [if_pos qk] at ek
    by_cases qm : 1 ≤ m ∧ m ≤ nt A 1
    · rw [if_pos qm] at em
      have qq : (1 ≤ k ∧ k ≤ nt A 0) ∧ (1 ≤ m ∧ m ≤ nt A 1) := ⟨qk, qm⟩
      rw [if_pos qq, if_pos qq]
      have hL := e_itemIn_L (J := J1) (b := b) (c := c) (x := k) (y := m) y2 y2' h.1 (by omega) (by omega) (by omega) (by omega) FU (nit A).toNat (by unfold FU; omega) (by omega)
      rw [show (((nit A).toNat : Nat) : Int) - 1 = nit A - 1 by omega] at hL
      have hgo : f_X7_itemIn (Sx I J b c) 0 (iW k) (iW m) = f_X7_itemIn_L26 FU (Sx I1 J1 b c) 0 (iW k) (iW m) (iW (nit A - 1)) := by
        simp (disch := first | assumption | omega) only [f_X7_itemIn, ↓rc0, ↓gI0_1, ↓gI0_7, ↓gI0_8, ↓gI0_15, ↓pI0_1, ↓pI0_7, ↓pI0_8, ↓pZ0_15, ↓gR0_0, ↓gR0_2, ↓gR0_3, ↓gR0_4, ↓gR0_5, ↓gR0_6, ↓gR0_9, ↓gR0_10, ↓gR0_11, ↓gR0_12, ↓gR0_13, ↓gR0_14, ↓aI1, ↓ln1, ↓aI14, ↓sZ14, ↓ln14, ↓aR13, ↓aR15, ↓rc8, ↓gI8_4, ↓gI8_5, ↓gI8_6, ↓pI8_4, ↓pI8_5, ↓pZ8_6, ↓gR8_0, ↓gR8_1, ↓gR8_2, ↓gR8_3, ↓aI9, ↓sI9, ↓ln9, ↓aI10, ↓sI10, ↓ln10, ↓aI11, ↓sI11, ↓ln11, ↓aI12, ↓sI12, ↓ln12, ↓c_I, ↓c_J, ↓c_Q, ↓c_V, ↓c_It, ↓c_Jt, ↓c_Vt, ↓k_I, ↓k_J, ↓n_I, ↓n_V, li0, li1, li2, li3, li4, li5, li6, li7, li8, li9, li10, li11, li12, li13, li14, li15, li16, li17, li18, li19, li20, li21, li22, li23, li24, li25, li26, li27, li28, li29, li30, li31, li32, li33, li34, li35, li36, li37, li38, li39, li40, li41, li42, li44, li48, li57, li63, li64, li65, li97, li99, li100, li101, li102, li104, li105, li106, li109, li114, li120, li128, li130, li300, li514, li999, li1000, li8192, li9999, li65536, li1000000, li1000001, li1000002, li1000003, li1000004, li1000005, li1000006, li1000007, li1000008, li1000009, li1000010, li1000011, li1000012, li1000013, li1000014, li1000015, li1000016, li1000017, li1000018, li1000019, li2147483647, lj0, lj1, W_add, W_sub, W_mul, W_neg, V_add, V_sub, V_mul, V_neg, W_ite, y1, ek, em, h4]
      refine ⟨I1, J1, ?_, y3, y4, y6⟩
      rw [hgo, hL]
      by_cases q : 0 ≤ lsi (fun i => cvr A 0 i k ∧ cvr A 1 i m) (nit A).toNat
      · rw [if_pos q, if_pos q, if_pos rfl]
        rw [show max 0 (lsi (fun i => cvr A 0 i k ∧ cvr A 1 i m) (nit A).toNat) = lsi (fun i => cvr A 0 i k ∧ cvr A 1 i m) (nit A).toNat by omega]
      · rw [if_neg q, if_neg q, if_neg (by decide), if_neg (by decide)]
    · rw [if_neg qm] at em
      rw [if_neg (fun z => qm z.2), if_neg (fun z => qm z.2)]
      refine ⟨I1, J1, ?_, y3, y4, y6⟩
      rw [if_neg (by decide), if_pos rfl]
      simp (disch := first | assumption | omega) only [f_X7_itemIn, ↓rc0, ↓gI0_1, ↓gI0_7, ↓gI0_8, ↓gI0_15, ↓pI0_1, ↓pI0_7, ↓pI0_8, ↓pZ0_15, ↓gR0_0, ↓gR0_2, ↓gR0_3, ↓gR0_4, ↓gR0_5, ↓gR0_6, ↓gR0_9, ↓gR0_10, ↓gR0_11, ↓gR0_12, ↓gR0_13, ↓gR0_14, ↓aI1, ↓ln1, ↓aI14, ↓sZ14, ↓ln14, ↓aR13, ↓aR15, ↓rc8, ↓gI8_4, ↓gI8_5, ↓gI8_6, ↓pI8_4, ↓pI8_5, ↓pZ8_6, ↓gR8_0, ↓gR8_1, ↓gR8_2, ↓gR8_3, ↓aI9, ↓sI9, ↓ln9, ↓aI10, ↓sI10, ↓ln10, ↓aI11, ↓sI11, ↓ln11, ↓aI12, ↓sI12, ↓ln12, ↓c_I, ↓c_J, ↓c_Q, ↓c_V, ↓c_It, ↓c_Jt, ↓c_Vt, ↓k_I, ↓k_J, ↓n_I, ↓n_V, li0, li1, li2, li3, li4, li5, li6, li7, li8, li9, li10, li11, li12, li13, li14, li15, li16, li17, li18, li19, li20, li21, li22, li23, li24, li25, li26, li27, li28, li29, li30, li31, li32, li33, li34, li35, li36, li37, li38, li39, li40, li41, li42, li44, li48, li57, li63, li64, li65, li97, li99, li100, li101, li102, li104, li105, li106, li109, li114, li120, li128, li130, li300, li514, li999, li1000, li8192, li9999, li65536, li1000000, li1000001, li1000002, li1000003, li1000004, li1000005, li1000006, li1000007, li1000008, li1000009, li1000010, li1000011, li1000012, li1000013, li1000014, li1000015, li1000016, li1000017, li1000018, li1000019, li2147483647, lj0, lj1, W_add, W_sub, W_mul, W_neg, V_add, V_sub, V_mul, V_neg, W_ite, y1, ek, em]
  · rw [if_neg qk] at ek
    rw [if_neg (fun z => qk z.1), if_neg (fun z => qk z.1)]
    refine ⟨I1, J1, ?_, y3, y4, y6⟩
    rw [if_neg (by decide), if_pos rfl]
    simp (disch := first | assumption | omega) only [f_X7_itemIn, ↓rc0, ↓gI0_1, ↓gI0_7, ↓gI0_8, ↓gI0_15, ↓pI0_1, ↓pI0_7, ↓pI0_8, ↓pZ0_15, ↓gR0_0, ↓gR0_2, ↓gR0_3, ↓gR0_4, ↓gR0_5, ↓gR0_6, ↓gR0_9, ↓gR0_10, ↓gR0_11, ↓gR0_12, ↓gR0_13, ↓gR0_14, ↓aI1, ↓ln1, ↓aI14, ↓sZ14, ↓ln14, ↓aR13, ↓aR15, ↓rc8, ↓gI8_4, ↓gI8_5, ↓gI8_6, ↓pI8_4, ↓pI8_5, ↓pZ8_6, ↓gR8_0, ↓gR8_1, ↓gR8_2, ↓gR8_3, ↓aI9, ↓sI9, ↓ln9, ↓aI10, ↓sI10, ↓ln10, ↓aI11, ↓sI11, ↓ln11, ↓aI12, ↓sI12, ↓ln12, ↓c_I, ↓c_J, ↓c_Q, ↓c_V, ↓c_It, ↓c_Jt, ↓c_Vt, ↓k_I, ↓k_J, ↓n_I, ↓n_V, li0, li1, li2, li3, li4, li5, li6, li7, li8, li9, li10, li11, li12, li13, li14, li15, li16, li17, li18, li19, li20, li21, li22, li23, li24, li25, li26, li27, li28, li29, li30, li31, li32, li33, li34, li35, li36, li37, li38, li39, li40, li41, li42, li44, li48, li57, li63, li64, li65, li97, li99, li100, li101, li102, li104, li105, li106, li109, li114, li120, li128, li130, li300, li514, li999, li1000, li8192, li9999, li65536, li1000000, li1000001, li1000002, li1000003, li1000004, li1000005, li1000006, li1000007, li1000008, li1000009, li1000010, li1000011, li1000012, li1000013, li1000014, li1000015, li1000016, li1000017, li1000018, li1000019, li2147483647, lj0, lj1, W_add, W_sub, W_mul, W_neg, V_add, V_sub, V_mul, V_neg, W_ite, y1, ek]
theorem e_covers_L {x y : Int} (h0 : LZ I A 20 0) (h1 : LZ I A 28 1) (hA : okA A) (x0 : -1000 ≤ x) (x1 : x ≤ 1000) (y0 : -1000 ≤ y) (y1 : y ≤ 1000) : ∀ (fuel n : Nat), nit A - n < fuel → (n : Int) ≤ nit A →
    f_X5_countCovers_L5 fuel (Sx I J b c) 16 (iW x) (iW y) (iW (rs (fun i => bb (cvr A 0 i x ∧ cvr A 1 i y)) 0 ((n : Int) - 1))) (iW n) = some (Sx I J b c, xi (iW (cov A x y))) := by
  have hNn := hA.1
  have h4 : I 8 4 = nit A := h0.1.1.2.2.2.2.2.1.2.2.2.2.1
  intro fuel
  induction fuel with
  | zero => intro n a1; omega
  | succ fuel ih =>
    intro n a1 a2
    show f_X5_countCovers_b5 (f_X5_countCovers_L5 fuel) (Sx I J b c) 16 (iW x) (iW y) _ (iW n) = _
    have cb := cov_bd hA (x := x) (y := y) n
    by_cases hk : (n : Int) = nit A
    · have n0 : nit A ≤ (n : Int) := by omega
      rw [show cov A x y = rs (fun i => bb (cvr A 0 i x ∧ cvr A 1 i y)) 0 ((n : Int) - 1) by unfold cov; rw [hk]]
      simp (disch := first | assumption | omega) only [f_X5_countCovers_b5, ↓rc16, ↓gI16_4, ↓gI16_5, ↓gI16_6, ↓gI16_7, ↓gI16_8, ↓pI16_4, ↓pI16_5, ↓pI16_6, ↓pI16_7, ↓pI16_8, ↓gR16_0, ↓gR16_1, ↓gR16_2, ↓gR16_3, ↓aI17, ↓sI17, ↓ln17, ↓aI18, ↓sZ18, ↓ln18, ↓aI19, ↓sI19, ↓ln19, ↓rc8, ↓gI8_4, ↓gI8_5, ↓gI8_6, ↓pI8_4, ↓pI8_5, ↓pZ8_6, ↓gR8_0, ↓gR8_1, ↓gR8_2, ↓gR8_3, ↓aI9, ↓sI9, ↓ln9, ↓aI10, ↓sI10, ↓ln10, ↓aI11, ↓sI11, ↓ln11, ↓aI12, ↓sI12, ↓ln12, ↓c_I, ↓c_J, ↓c_Q, ↓c_V, ↓c_It, ↓c_Jt, ↓c_Vt, ↓k_I, ↓k_J, ↓n_I, ↓n_V, li0, li1, li2, li3, li4, li5, li6, li7, li8, li9, li10, li11, li12, li13, li14, li15, li16, li17, li18, li19, li20, li21, li22, li23, li24, li25, li26, li27, li28, li29, li30, li31, li32, li33, li34, li35, li36, li37, li38, li39, li40, li41, li42, li44, li48, li57, li63, li64, li65, li97, li99, li100, li101, li102, li104, li105, li106, li109, li114, li120, li128, li130, li300, li514, li999, li1000, li8192, li9999, li65536, li1000000, li1000001, li1000002, li1000003, li1000004, li1000005, li1000006, li1000007, li1000008, li1000009, li1000010, li1000011, li1000012, li1000013, li1000014, li1000015, li1000016, li1000017, li1000018, li1000019, li2147483647, lj0, lj1, W_add, W_sub, W_mul, W_neg, V_add, V_sub, V_mul, V_neg, W_ite, W_le, W_lt, W_inj, V_le, V_lt, V_inj, W_V, V_W, lgc_ge, lgc_gt, lgc_le, lgc_lt, lgc_eq, ge_iff_le, gt_iff_lt, h4, n0, ↓reduceIte]
    · have n1 : ¬ (nit A ≤ (n : Int)) := by omega
      have hcc : ((n + 1 : Nat) : Int) = (n : Int) + 1 := by omega
      have hnext := ih (n + 1) (by omega) (by omega)
      rw [hcc, show (n : Int) + 1 - 1 = n by omega, rs_s (show (0 : Int) ≤ n by omega)] at hnext
      have e1 := e_covering (J := J) (b := b) (c := c) h0 h1 (i := n) (by omega) (by omega) x0 x1 y0 y1
      generalize rs (fun i => bb (cvr A 0 i x ∧ cvr A 1 i y)) 0 ((n : Int) - 1) = V at cb hnext ⊢
      rw [← hnext]
      by_cases q : cvr A 0 n x ∧ cvr A 1 n y
      · rw [bb_pos q] at e1
        rw [bb_pos q]
        simp (disch := first | assumption | omega) only [f_X5_countCovers_b5, f_X5_countCovers_b31, ↓rc16, ↓gI16_4, ↓gI16_5, ↓gI16_6, ↓gI16_7, ↓gI16_8, ↓pI16_4, ↓pI16_5, ↓pI16_6, ↓pI16_7, ↓pI16_8, ↓gR16_0, ↓gR16_1, ↓gR16_2, ↓gR16_3, ↓aI17, ↓sI17, ↓ln17, ↓aI18, ↓sZ18, ↓ln18, ↓aI19, ↓sI19, ↓ln19, ↓rc8, ↓gI8_4, ↓gI8_5, ↓gI8_6, ↓pI8_4, ↓pI8_5, ↓pZ8_6, ↓gR8_0, ↓gR8_1, ↓gR8_2, ↓gR8_3, ↓aI9, ↓sI9, ↓ln9, ↓aI10, ↓sI10, ↓ln10, ↓aI11, ↓sI11, ↓ln11, ↓aI12, ↓sI12, ↓ln12, ↓c_I, ↓c_J, ↓c_Q, ↓c_V, ↓c_It, ↓c_Jt, ↓c_Vt, ↓k_I, ↓k_J, ↓n_I, ↓n_V, li0, li1, li2, li3, li4, li5, li6, li7, li8, li9, li10, li11, li12, li13, li14, li15, li16, li17, li18, li19, li20, li21, li22, li23, li24, li25, li26, li27, li28, li29, li30, li31, li32, li33, li34, li35, li36, li37, li38, li39, li40, li41, li42, li44, li48, li57, li63, li64, li65, li97, li99, li100, li101, li102, li104, li105, li106, li109, li114, li120, li128, li130, li300, li514, li999, li1000, li8192, li9999, li65536, li1000000, li1000001, li1000002, li1000003, li1000004, li1000005, li1000006, li1000007, li1000008, li1000009, li1000010, li1000011, li1000012, li1000013, li1000014, li1000015, li1000016, li1000017, li1000018, li1000019, li2147483647, lj0, lj1, W_add, W_sub, W_mul, W_neg, V_add, V_sub, V_mul, V_neg, W_ite, W_le, W_lt, W_inj, V_le, V_lt, V_inj, W_V, V_W, lgc_ge, lgc_gt, lgc_le, lgc_lt, lgc_eq, ge_iff_le, gt_iff_lt, h4, n1, e1, Int.reduceEq, ↓reduceIte]
      · rw [bb_neg q] at e1
        rw [bb_neg q, Int.add_zero]
        simp (disch := first | assumption | omega) only [f_X5_countCovers_b5, f_X5_countCovers_b31, ↓rc16, ↓gI16_4, ↓gI16_5, ↓gI16_6, ↓gI16_7, ↓gI16_8, ↓pI16_4, ↓pI16_5, ↓pI16_6, ↓pI16_7, ↓pI16_8, ↓gR16_0, ↓gR16_1, ↓gR16_2, ↓gR16_3, ↓aI17, ↓sI17, ↓ln17, ↓aI18, ↓sZ18, ↓ln18, ↓aI19, ↓sI19, ↓ln19, ↓rc8, ↓gI8_4, ↓gI8_5, ↓gI8_6, ↓pI8_4, ↓pI8_5, ↓pZ8_6, ↓gR8_0, ↓gR8_1, ↓gR8_2, ↓gR8_3, ↓aI9, ↓sI9, ↓ln9, ↓aI10, ↓sI10, ↓ln10, ↓aI11, ↓sI11, ↓ln11, ↓aI12, ↓sI12, ↓ln12, ↓c_I, ↓c_J, ↓c_Q, ↓c_V, ↓c_It, ↓c_Jt, ↓c_Vt, ↓k_I, ↓k_J, ↓n_I, ↓n_V, li0, li1, li2, li3, li4, li5, li6, li7, li8, li9, li10, li11, li12, li13, li14, li15, li16, li17, li18, li19, li20, li21, li22, li23, li24, li25, li26, li27, li28, li29, li30, li31, li32, li33, li34, li35, li36, li37, li38, li39, li40, li41, li42, li44, li48, li57, li63, li64, li65, li97, li99, li100, li101, li102, li104, li105, li106, li109, li114, li120, li128, li130, li300, li514, li999, li1000, li8192, li9999, li65536, li1000000, li1000001, li1000002, li1000003, li1000004, li1000005, li1000006, li1000007, li1000008, li1000009, li1000010, li1000011, li1000012, li1000013, li1000014, li1000015, li1000016, li1000017, li1000018, li1000019, li2147483647, lj0, lj1, W_add, W_sub, W_mul, W_neg, V_add, V_sub, V_mul, V_neg, W_ite, W_le, W_lt, W_inj, V_le, V_lt, V_inj, W_V, V_W, lgc_ge, lgc_gt, lgc_le, lgc_lt, lgc_eq, ge_iff_le, gt_iff_lt, h4, n1, e1, Int.reduceEq, ↓reduceIte]
theorem e_cells17 {k4 : HP → Nat → Int32 → Int32 → Int32 → Option XR} (h0 : LZ I A 20 0) (h1 : LZ I A 28 1) (hA : okA A) {m u0 y : Int} (hm : 1 ≤ m ∧ m ≤ 2) (y0 : 1 ≤ y) (y1 : y ≤ 63) (u00 : 0 ≤ u0) (u01 : u0 ≤ 10000) : ∀ (fuel : Nat) (x u : Int), nt A 0 - x + 1 < fuel → 1 ≤ x → x ≤ nt A 0 + 1 → u = u0 + rs (fun x => cel A m x y) 1 (x - 1) →
    f_X5_countCells_L17 k4 fuel (Sx I J b c) 16 (iW (m - 1)) (iW u) (iW y) (iW x) = k4 (Sx I J b c) 16 (iW (m - 1)) (iW (u0 + rs (fun x => cel A m x y) 1 (nt A 0))) (iW (y + 1)) := by
  have hNn := hA.1
  have hnt := (plB_of hA).2 0 (by omega) (by omega)
  have g1 : I 19 0 = nt A 0 := h0.1.1.2.2.2.2.2.2.2 0 (by omega) (by omega)
  intro fuel
  induction fuel with
  | zero => intro x u a1; omega
  | succ fuel ih =>
    intro x u a1 a2 a3 hu
    show f_X5_countCells_b17 k4 (f_X5_countCells_L17 k4 fuel) (Sx I J b c) 16 (iW (m - 1)) (iW u) (iW y) (iW x) = _
    by_cases hk : x = nt A 0 + 1
    · have n0 : nt A 0 < x := by omega
      rw [show x - 1 = nt A 0 by omega] at hu
      rw [← hu]
      simp (disch := first | assumption | omega) only [f_X5_countCells_b17, ↓rc16, ↓gI16_4, ↓gI16_5, ↓gI16_6, ↓gI16_7, ↓gI16_8, ↓pI16_4, ↓pI16_5, ↓pI16_6, ↓pI16_7, ↓pI16_8, ↓gR16_0, ↓gR16_1, ↓gR16_2, ↓gR16_3, ↓aI17, ↓sI17, ↓ln17, ↓aI18, ↓sZ18, ↓ln18, ↓aI19, ↓sI19, ↓ln19, ↓c_I, ↓c_J, ↓c_Q, ↓c_V, ↓c_It, ↓c_Jt, ↓c_Vt, ↓k_I, ↓k_J, ↓n_I, ↓n_V, li0, li1, li2, li3, li4, li5, li6, li7, li8, li9, li10, li11, li12, li13, li14, li15, li16, li17, li18, li19, li20, li21, li22, li23, li24, li25, li26, li27, li28, li29, li30, li31, li32, li33, li34, li35, li36, li37, li38, li39, li40, li41, li42, li44, li48, li57, li63, li64, li65, li97, li99, li100, li101, li102, li104, li105, li106, li109, li114, li120, li128, li130, li300, li514, li999, li1000, li8192, li9999, li65536, li1000000, li1000001, li1000002, li1000003, li1000004, li1000005, li1000006, li1000007, li1000008, li1000009, li1000010, li1000011, li1000012, li1000013, li1000014, li1000015, li1000016, li1000017, li1000018, li1000019, li2147483647, lj0, lj1, W_add, W_sub, W_mul, W_neg, V_add, V_sub, V_mul, V_neg, W_ite, W_le, W_lt, W_inj, V_le, V_lt, V_inj, W_V, V_W, lgc_ge, lgc_gt, lgc_le, lgc_lt, lgc_eq, ge_iff_le, gt_iff_lt, g1, n0, ↓reduceIte]
    · have n1 : ¬ (nt A 0 < x) := by omega
      have hnext := ih (x + 1) (u + cel A m x y) (by omega) (by omega) (by omega) (by
        rw [show x + 1 - 1 = x by omega, rs_s (f := fun x => cel A m x y) a2, hu]
        omega)
      have hb := rs_le (f := fun x => cel A m x y) (a := 1) (b := x - 1) (M := 1) (n := 63) (fun k _ _ => by show cel A m k y ≤ 1; unfold cel; split <;> omega) (by omega) (by omega)
      have hb0 := rs_nonneg (f := fun x => cel A m x y) (a := 1) (b := x - 1) (fun k _ _ => by show 0 ≤ cel A m k y; unfold cel; split <;> omega)
      have hc := e_covers_L (J := J) (b := b) (c := c) (x := x) (y := y) h0 h1 hA (by omega) (by omega) (by omega) (by omega) FU 0 (by unfold FU; omega) (by omega)
      rw [rs_0 (by omega)] at hc
      have hc : f_X5_countCovers_L5 FU (Sx I J b c) 16 (iW x) (iW y) (iW 0) (iW 0) = _ := hc
      have hc' : f_X5_countCovers (Sx I J b c) 16 (iW x) (iW y) = some (Sx I J b c, xi (iW (cov A x y))) := by
        simp (disch := first | assumption | omega) only [f_X5_countCovers, li0, li1, li2, li3, li4, li5, li6, li7, li8, li9, li10, li11, li12, li13, li14, li15, li16, li17, li18, li19, li20, li21, li22, li23, li24, li25, li26, li27, li28, li29, li30, li31, li32, li33, li34, li35, li36, li37, li38, li39, li40, li41, li42, li44, li48, li57, li63, li64, li65, li97, li99, li100, li101, li102, li104, li105, li106, li109, li114, li120, li128, li130, li300, li514, li999, li1000, li8192, li9999, li65536, li1000000, li1000001, li1000002, li1000003, li1000004, li1000005, li1000006, li1000007, li1000008, li1000009, li1000010, li1000011, li1000012, li1000013, li1000014, li1000015, li1000016, li1000017, li1000018, li1000019, li2147483647, lj0, lj1, W_add, W_sub, W_mul, W_neg, V_add, V_sub, V_mul, V_neg, W_ite, hc]
      have cb : 0 ≤ cov A x y ∧ cov A x y ≤ 12 := by
        have := cov_bd hA (x := x) (y := y) (nit A).toNat
        unfold cov
        rw [show (((nit A).toNat : Nat) : Int) = nit A by omega] at this
        omega
      rw [← hnext]
      unfold cel
      generalize cov A x y = V at hc' cb
      by_cases q1 : m = 1
      · have qm : m - 1 = 0 := by omega
        by_cases qv : V = 0
        · rw [if_pos (Or.inr (Or.inl ⟨q1, qv⟩))]
          simp (disch := first | assumption | omega) only [f_X5_countCells_b17, f_X5_countCells_b55, f_X5_countCells_b58, ↓rc16, ↓gI16_4, ↓gI16_5, ↓gI16_6, ↓gI16_7, ↓gI16_8, ↓pI16_4, ↓pI16_5, ↓pI16_6, ↓pI16_7, ↓pI16_8, ↓gR16_0, ↓gR16_1, ↓gR16_2, ↓gR16_3, ↓aI17, ↓sI17, ↓ln17, ↓aI18, ↓sZ18, ↓ln18, ↓aI19, ↓sI19, ↓ln19, ↓c_I, ↓c_J, ↓c_Q, ↓c_V, ↓c_It, ↓c_Jt, ↓c_Vt, ↓k_I, ↓k_J, ↓n_I, ↓n_V, li0, li1, li2, li3, li4, li5, li6, li7, li8, li9, li10, li11, li12, li13, li14, li15, li16, li17, li18, li19, li20, li21, li22, li23, li24, li25, li26, li27, li28, li29, li30, li31, li32, li33, li34, li35, li36, li37, li38, li39, li40, li41, li42, li44, li48, li57, li63, li64, li65, li97, li99, li100, li101, li102, li104, li105, li106, li109, li114, li120, li128, li130, li300, li514, li999, li1000, li8192, li9999, li65536, li1000000, li1000001, li1000002, li1000003, li1000004, li1000005, li1000006, li1000007, li1000008, li1000009, li1000010, li1000011, li1000012, li1000013, li1000014, li1000015, li1000016, li1000017, li1000018, li1000019, li2147483647, lj0, lj1, W_add, W_sub, W_mul, W_neg, V_add, V_sub, V_mul, V_neg, W_ite, W_le, W_lt, W_inj, V_le, V_lt, V_inj, W_V, V_W, lgc_ge, lgc_gt, lgc_le, lgc_lt, lgc_eq, ge_iff_le, gt_iff_lt, g1, n1, hc', qm, qv, Int.reduceEq, ↓reduceIte]
        · rw [if_neg (by omega), Int.add_zero]
          simp (disch := first | assumption | omega) only [f_X5_countCells_b17, f_X5_countCells_b55, f_X5_countCells_b58, ↓rc16, ↓gI16_4, ↓gI16_5, ↓gI16_6, ↓gI16_7, ↓gI16_8, ↓pI16_4, ↓pI16_5, ↓pI16_6, ↓pI16_7, ↓pI16_8, ↓gR16_0, ↓gR16_1, ↓gR16_2, ↓gR16_3, ↓aI17, ↓sI17, ↓ln17, ↓aI18, ↓sZ18, ↓ln18, ↓aI19, ↓sI19, ↓ln19, ↓c_I, ↓c_J, ↓c_Q, ↓c_V, ↓c_It, ↓c_Jt, ↓c_Vt, ↓k_I, ↓k_J, ↓n_I, ↓n_V, li0, li1, li2, li3, li4, li5, li6, li7, li8, li9, li10, li11, li12, li13, li14, li15, li16, li17, li18, li19, li20, li21, li22, li23, li24, li25, li26, li27, li28, li29, li30, li31, li32, li33, li34, li35, li36, li37, li38, li39, li40, li41, li42, li44, li48, li57, li63, li64, li65, li97, li99, li100, li101, li102, li104, li105, li106, li109, li114, li120, li128, li130, li300, li514, li999, li1000, li8192, li9999, li65536, li1000000, li1000001, li1000002, li1000003, li1000004, li1000005, li1000006, li1000007, li1000008, li1000009, li1000010, li1000011, li1000012, li1000013, li1000014, li1000015, li1000016, li1000017, li1000018, li1000019, li2147483647, lj0, lj1, W_add, W_sub, W_mul, W_neg, V_add, V_sub, V_mul, V_neg, W_ite, W_le, W_lt, W_inj, V_le, V_lt, V_inj, W_V, V_W, lgc_ge, lgc_gt, lgc_le, lgc_lt, lgc_eq, ge_iff_le, gt_iff_lt, g1, n1, hc', qm, qv, Int.reduceEq, ↓reduceIte]
      · have qm : ¬ (m - 1 = 0) := by omega
        by_cases qv : V ≤ 1
        · rw [if_neg (by omega), Int.add_zero]
          simp (disch := first | assumption | omega) only [f_X5_countCells_b17, f_X5_countCells_b55, f_X5_countCells_b58, ↓rc16, ↓gI16_4, ↓gI16_5, ↓gI16_6, ↓gI16_7, ↓gI16_8, ↓pI16_4, ↓pI16_5, ↓pI16_6, ↓pI16_7, ↓pI16_8, ↓gR16_0, ↓gR16_1, ↓gR16_2, ↓gR16_3, ↓aI17, ↓sI17, ↓ln17, ↓aI18, ↓sZ18, ↓ln18, ↓aI19, ↓sI19, ↓ln19, ↓c_I, ↓c_J, ↓c_Q, ↓c_V, ↓c_It, ↓c_Jt, ↓c_Vt, ↓k_I, ↓k_J, ↓n_I, ↓n_V, li0, li1, li2, li3, li4, li5, li6, li7, li8, li9, li10, li11, li12, li13, li14, li15, li16, li17, li18, li19, li20, li21, li22, li23, li24, li25, li26, li27, li28, li29, li30, li31, li32, li33, li34, li35, li36, li37, li38, li39, li40, li41, li42, li44, li48, li57, li63, li64, li65, li97, li99, li100, li101, li102, li104, li105, li106, li109, li114, li120, li128, li130, li300, li514, li999, li1000, li8192, li9999, li65536, li1000000, li1000001, li1000002, li1000003, li1000004, li1000005, li1000006, li1000007, li1000008, li1000009, li1000010, li1000011, li1000012, li1000013, li1000014, li1000015, li1000016, li1000017, li1000018, li1000019, li2147483647, lj0, lj1, W_add, W_sub, W_mul, W_neg, V_add, V_sub, V_mul, V_neg, W_ite, W_le, W_lt, W_inj, V_le, V_lt, V_inj, W_V, V_W, lgc_ge, lgc_gt, lgc_le, lgc_lt, lgc_eq, ge_iff_le, gt_iff_lt, g1, n1, hc', qm, qv, Int.reduceEq, ↓reduceIte]
        · rw [if_pos (by omega)]
          simp (disch := first | assumption | omega) only [f_X5_countCells_b17, f_X5_countCells_b55, f_X5_countCells_b58, ↓rc16, ↓gI16_4, ↓gI16_5, ↓gI16_6, ↓gI16_7, ↓gI16_8, ↓pI16_4, ↓pI16_5, ↓pI16_6, ↓pI16_7, ↓pI16_8, ↓gR16_0, ↓gR16_1, ↓gR16_2, ↓gR16_3, ↓aI17, ↓sI17, ↓ln17, ↓aI18, ↓sZ18, ↓ln18, ↓aI19, ↓sI19, ↓ln19, ↓c_I, ↓c_J, ↓c_Q, ↓c_V, ↓c_It, ↓c_Jt, ↓c_Vt, ↓k_I, ↓k_J, ↓n_I, ↓n_V, li0, li1, li2, li3, li4, li5, li6, li7, li8, li9, li10, li11, li12, li13, li14, li15, li16, li17, li18, li19, li20, li21, li22, li23, li24, li25, li26, li27, li28, li29, li30, li31, li32, li33, li34, li35, li36, li37, li38, li39, li40, li41, li42, li44, li48, li57, li63, li64, li65, li97, li99, li100, li101, li102, li104, li105, li106, li109, li114, li120, li128, li130, li300, li514, li999, li1000, li8192, li9999, li65536, li1000000, li1000001, li1000002, li1000003, li1000004, li1000005, li1000006, li1000007, li1000008, li1000009, li1000010, li1000011, li1000012, li1000013, li1000014, li1000015, li1000016, li1000017, li1000018, li1000019, li2147483647, lj0, lj1, W_add, W_sub, W_mul, W_neg, V_add, V_sub, V_mul, V_neg, W_ite, W_le, W_lt, W_inj, V_le, V_lt, V_inj, W_V, V_W, lgc_ge, lgc_gt, lgc_le, lgc_lt, lgc_eq, ge_iff_le, gt_iff_lt, g1, n1, hc', qm, qv, Int.reduceEq, ↓reduceIte]
theorem cel_row {m y : Int} {n : Int} (hn : n ≤ 63) : 0 ≤ rs (fun x => cel A m x y) 1 n ∧ rs (fun x => cel A m x y) 1 n ≤ 63 := by
  have hb := rs_le (f := fun x => cel A m x y) (a := 1) (b := n) (M := 1) (n := 63) (fun k _ _ => by show cel A m k y ≤ 1; unfold cel; split <;> omega) (by omega) (by omega)
  have hb0 := rs_nonneg (f := fun x => cel A m x y) (a := 1) (b := n) (fun k _ _ => by show 0 ≤ cel A m k y; unfold cel; split <;> omega)
  omega
theorem cls_swap (hA : okA A) {m : Int} : cls A m = rs (fun y => rs (fun x => cel A m x y) 1 (nt A 0)) 1 (nt A 1) := by
  have hnt := (plB_of hA).2 0 (by omega) (by omega)
  have h := rs_swap (f := fun x y => cel A m x y) (B := nt A 1) (nt A 0).toNat
  rw [show (((nt A 0).toNat : Nat) : Int) = nt A 0 by omega] at h
  exact h
theorem e_cells4 (h0 : LZ I A 20 0) (h1 : LZ I A 28 1) (hA : okA A) {m : Int} (hm : 1 ≤ m ∧ m ≤ 2) : ∀ (fuel : Nat) (y u : Int), nt A 1 - y + 1 < fuel → 1 ≤ y → y ≤ nt A 1 + 1 → u = rs (fun y => rs (fun x => cel A m x y) 1 (nt A 0)) 1 (y - 1) →
    f_X5_countCells_L4 fuel (Sx I J b c) 16 (iW (m - 1)) (iW u) (iW y) = some (Sx I J b c, xi (iW (cls A m))) := by
  have hNn := hA.1
  have hnt := (plB_of hA).2 0 (by omega) (by omega)
  have hnt1 := (plB_of hA).2 1 (by omega) (by omega)
  have g1 : I 19 1 = nt A 1 := h0.1.1.2.2.2.2.2.2.2 1 (by omega) (by omega)
  intro fuel
  induction fuel with
  | zero => intro y u a1; omega
  | succ fuel ih =>
    intro y u a1 a2 a3 hu
    show f_X5_countCells_b4 (f_X5_countCells_L4 fuel) (Sx I J b c) 16 (iW (m - 1)) (iW u) (iW y) = _
    by_cases hk : y = nt A 1 + 1
    · have n0 : nt A 1 < y := by omega
      rw [show y - 1 = nt A 1 by omega, ← cls_swap hA] at hu
      rw [← hu]
      simp (disch := first | assumption | omega) only [f_X5_countCells_b4, ↓rc16, ↓gI16_4, ↓gI16_5, ↓gI16_6, ↓gI16_7, ↓gI16_8, ↓pI16_4, ↓pI16_5, ↓pI16_6, ↓pI16_7, ↓pI16_8, ↓gR16_0, ↓gR16_1, ↓gR16_2, ↓gR16_3, ↓aI17, ↓sI17, ↓ln17, ↓aI18, ↓sZ18, ↓ln18, ↓aI19, ↓sI19, ↓ln19, ↓c_I, ↓c_J, ↓c_Q, ↓c_V, ↓c_It, ↓c_Jt, ↓c_Vt, ↓k_I, ↓k_J, ↓n_I, ↓n_V, li0, li1, li2, li3, li4, li5, li6, li7, li8, li9, li10, li11, li12, li13, li14, li15, li16, li17, li18, li19, li20, li21, li22, li23, li24, li25, li26, li27, li28, li29, li30, li31, li32, li33, li34, li35, li36, li37, li38, li39, li40, li41, li42, li44, li48, li57, li63, li64, li65, li97, li99, li100, li101, li102, li104, li105, li106, li109, li114, li120, li128, li130, li300, li514, li999, li1000, li8192, li9999, li65536, li1000000, li1000001, li1000002, li1000003, li1000004, li1000005, li1000006, li1000007, li1000008, li1000009, li1000010, li1000011, li1000012, li1000013, li1000014, li1000015, li1000016, li1000017, li1000018, li1000019, li2147483647, lj0, lj1, W_add, W_sub, W_mul, W_neg, V_add, V_sub, V_mul, V_neg, W_ite, W_le, W_lt, W_inj, V_le, V_lt, V_inj, W_V, V_W, lgc_ge, lgc_gt, lgc_le, lgc_lt, lgc_eq, ge_iff_le, gt_iff_lt, g1, n0, ↓reduceIte]
    · have n1 : ¬ (nt A 1 < y) := by omega
      have hb := rs_le (f := fun y => rs (fun x => cel A m x y) 1 (nt A 0)) (a := 1) (b := y - 1) (M := 63) (n := 63) (fun k _ _ => (cel_row (A := A) (m := m) (y := k) hnt.2.2).2) (by omega) (by omega)
      have hb0 := rs_nonneg (f := fun y => rs (fun x => cel A m x y) 1 (nt A 0)) (a := 1) (b := y - 1) (fun k _ _ => (cel_row (A := A) (m := m) (y := k) hnt.2.2).1)
      have hc := e_cells17 (J := J) (b := b) (c := c) (k4 := f_X5_countCells_L4 fuel) h0 h1 hA (m := m) (u0 := u) (y := y) hm a2 (by omega) (by omega) (by omega) FU 1 u (by unfold FU; omega) (by omega) (by omega) (by rw [rs_0 (by omega)]; omega)
      have hnext := ih (y + 1) (u + rs (fun x => cel A m x y) 1 (nt A 0)) (by omega) (by omega) (by omega) (by
        rw [show y + 1 - 1 = y by omega, rs_s (f := fun y => rs (fun x => cel A m x y) 1 (nt A 0)) a2, hu])
      rw [← hnext, ← hc]
      simp (disch := first | assumption | omega) only [f_X5_countCells_b4, ↓rc16, ↓gI16_4, ↓gI16_5, ↓gI16_6, ↓gI16_7, ↓gI16_8, ↓pI16_4, ↓pI16_5, ↓pI16_6, ↓pI16_7, ↓pI16_8, ↓gR16_0, ↓gR16_1, ↓gR16_2, ↓gR16_3, ↓aI17, ↓sI17, ↓ln17, ↓aI18, ↓sZ18, ↓ln18, ↓aI19, ↓sI19, ↓ln19, ↓c_I, ↓c_J, ↓c_Q, ↓c_V, ↓c_It, ↓c_Jt, ↓c_Vt, ↓k_I, ↓k_J, ↓n_I, ↓n_V, li0, li1, li2, li3, li4, li5, li6, li7, li8, li9, li10, li11, li12, li13, li14, li15, li16, li17, li18, li19, li20, li21, li22, li23, li24, li25, li26, li27, li28, li29, li30, li31, li32, li33, li34, li35, li36, li37, li38, li39, li40, li41, li42, li44, li48, li57, li63, li64, li65, li97, li99, li100, li101, li102, li104, li105, li106, li109, li114, li120, li128, li130, li300, li514, li999, li1000, li8192, li9999, li65536, li1000000, li1000001, li1000002, li1000003, li1000004, li1000005, li1000006, li1000007, li1000008, li1000009, li1000010, li1000011, li1000012, li1000013, li1000014, li1000015, li1000016, li1000017, li1000018, li1000019, li2147483647, lj0, lj1, W_add, W_sub, W_mul, W_neg, V_add, V_sub, V_mul, V_neg, W_ite, W_le, W_lt, W_inj, V_le, V_lt, V_inj, W_V, V_W, lgc_ge, lgc_gt, lgc_le, lgc_lt, lgc_eq, ge_iff_le, gt_iff_lt, g1, n1, ↓reduceIte]
theorem rs_one {n : Nat} : rs (fun _ => 1) 1 n = n := by
  induction n with
  | zero => exact rs_0 (by omega)
  | succ n ih =>
    have s := rs_s (f := fun _ => 1) (a := 1) (b := (n : Int) + 1) (by omega)
    rw [show (n : Int) + 1 - 1 = n by omega, ih] at s
    rw [show ((n + 1 : Nat) : Int) = (n : Int) + 1 by omega, s]
theorem rs_cst {K : Int} {n : Nat} : rs (fun _ => K) 1 n = n * K := by
  induction n with
  | zero => rw [rs_0 (by omega)]; omega
  | succ n ih =>
    have s := rs_s (f := fun _ => K) (a := 1) (b := (n : Int) + 1) (by omega)
    rw [show (n : Int) + 1 - 1 = n by omega, ih] at s
    rw [show ((n + 1 : Nat) : Int) = (n : Int) + 1 by omega, s, Int.add_mul, Int.one_mul]
theorem cls_0 (hA : okA A) : cls A 0 = nt A 0 * nt A 1 := by
  have hnt := (plB_of hA).2 0 (by omega) (by omega)
  have hnt1 := (plB_of hA).2 1 (by omega) (by omega)
  have e0 : ∀ x y, cel A 0 x y = 1 := fun x y => if_pos (Or.inl rfl)
  have e1 := rs_cst (K := 1) (n := (nt A 1).toNat)
  rw [show (((nt A 1).toNat : Nat) : Int) = nt A 1 by omega, Int.mul_one] at e1
  have e2 := rs_cst (K := nt A 1) (n := (nt A 0).toNat)
  rw [show (((nt A 0).toNat : Nat) : Int) = nt A 0 by omega] at e2
  unfold cls
  simp only [e0]
  rw [e1, e2]
theorem x_cells (h : ES I A) {m : Int} (m0 : -2147483648 ≤ m) (m1 : m ≤ 2147483647) (E2 : String) :
    EAns (f_X7_cells (Sx I J b c) 0 (iW m)) I J b c A "java/lang/IllegalArgumentException" E2 (if 0 ≤ m ∧ m ≤ 2 then cls A m else 0) (if 0 ≤ m ∧ m ≤ 2 then 0 else 1) := by
  have em := e_chkRange (I := I) (J := J) (b := b) (c := c) (v := m) (lo := 0) (hi := 2) m0 m1 (by omega) (by omega) (by omega) (by omega)
  by_cases qm : 0 ≤ m ∧ m ≤ 2
  · rw [if_pos qm] at em
    rw [if_pos qm, if_pos qm]
    obtain ⟨I1, J1, y1, y2, y2', y3, y4, y5, y6⟩ := e_laid2 (J := J) (b := b) (c := c) h
    have hnt0 := (plB_of h.1).2 0 (by omega) (by omega)
    have hnt1 := (plB_of h.1).2 1 (by omega) (by omega)
    have g0 : I1 19 0 = nt A 0 := y5.2 0 (by omega) (by omega)
    have g1 : I1 19 1 = nt A 1 := y5.2 1 (by omega) (by omega)
    refine ⟨I1, J1, ?_, y3, y4, y6⟩
    rw [if_pos rfl]
    by_cases q0 : m = 0
    · have hz := cls_0 h.1
      have mb := mul_bd (a := nt A 0) (b := nt A 1) (A := 63) (B := 63) hnt0.2.1 hnt0.2.2 hnt1.2.1 hnt1.2.2
      subst q0
      rw [hz]
      simp (disch := first | assumption | omega) only [f_X7_cells, f_X5_trackCount, f_X5_trackCount_b18, f_X5_trackCount_b19, ↓rc0, ↓gI0_1, ↓gI0_7, ↓gI0_8, ↓gI0_15, ↓pI0_1, ↓pI0_7, ↓pI0_8, ↓pZ0_15, ↓gR0_0, ↓gR0_2, ↓gR0_3, ↓gR0_4, ↓gR0_5, ↓gR0_6, ↓gR0_9, ↓gR0_10, ↓gR0_11, ↓gR0_12, ↓gR0_13, ↓gR0_14, ↓aI1, ↓ln1, ↓aI14, ↓sZ14, ↓ln14, ↓aR13, ↓aR15, ↓rc16, ↓gI16_4, ↓gI16_5, ↓gI16_6, ↓gI16_7, ↓gI16_8, ↓pI16_4, ↓pI16_5, ↓pI16_6, ↓pI16_7, ↓pI16_8, ↓gR16_0, ↓gR16_1, ↓gR16_2, ↓gR16_3, ↓aI17, ↓sI17, ↓ln17, ↓aI18, ↓sZ18, ↓ln18, ↓aI19, ↓sI19, ↓ln19, ↓c_I, ↓c_J, ↓c_Q, ↓c_V, ↓c_It, ↓c_Jt, ↓c_Vt, ↓k_I, ↓k_J, ↓n_I, ↓n_V, li0, li1, li2, li3, li4, li5, li6, li7, li8, li9, li10, li11, li12, li13, li14, li15, li16, li17, li18, li19, li20, li21, li22, li23, li24, li25, li26, li27, li28, li29, li30, li31, li32, li33, li34, li35, li36, li37, li38, li39, li40, li41, li42, li44, li48, li57, li63, li64, li65, li97, li99, li100, li101, li102, li104, li105, li106, li109, li114, li120, li128, li130, li300, li514, li999, li1000, li8192, li9999, li65536, li1000000, li1000001, li1000002, li1000003, li1000004, li1000005, li1000006, li1000007, li1000008, li1000009, li1000010, li1000011, li1000012, li1000013, li1000014, li1000015, li1000016, li1000017, li1000018, li1000019, li2147483647, lj0, lj1, W_add, W_sub, W_mul, W_neg, V_add, V_sub, V_mul, V_neg, W_ite, W_le, W_lt, W_inj, V_le, V_lt, V_inj, W_V, V_W, lgc_ge, lgc_gt, lgc_le, lgc_lt, lgc_eq, ge_iff_le, gt_iff_lt, em, y1, g0, g1, Int.reduceLT, Int.reduceLE, ↓reduceIte]
    · have hL := e_cells4 (J := J1) (b := b) (c := c) (m := m) y2 y2' h.1 (by omega) FU 1 0 (by unfold FU; omega) (by omega) (by omega) (by rw [rs_0 (by omega)])
      have hL' : f_X5_countCells (Sx I1 J1 b c) 16 (iW (m - 1)) = some (Sx I1 J1 b c, xi (iW (cls A m))) := by
        simp (disch := first | assumption | omega) only [f_X5_countCells, li0, li1, li2, li3, li4, li5, li6, li7, li8, li9, li10, li11, li12, li13, li14, li15, li16, li17, li18, li19, li20, li21, li22, li23, li24, li25, li26, li27, li28, li29, li30, li31, li32, li33, li34, li35, li36, li37, li38, li39, li40, li41, li42, li44, li48, li57, li63, li64, li65, li97, li99, li100, li101, li102, li104, li105, li106, li109, li114, li120, li128, li130, li300, li514, li999, li1000, li8192, li9999, li65536, li1000000, li1000001, li1000002, li1000003, li1000004, li1000005, li1000006, li1000007, li1000008, li1000009, li1000010, li1000011, li1000012, li1000013, li1000014, li1000015, li1000016, li1000017, li1000018, li1000019, li2147483647, lj0, lj1, W_add, W_sub, W_mul, W_neg, V_add, V_sub, V_mul, V_neg, W_ite, hL]
      by_cases q2 : m = 2
      · subst q2
        have hL' : f_X5_countCells (Sx I1 J1 b c) 16 (iW 1) = some (Sx I1 J1 b c, xi (iW (cls A 2))) := hL'
        simp (disch := first | assumption | omega) only [f_X7_cells, f_X7_cells_b46, ↓rc0, ↓gI0_1, ↓gI0_7, ↓gI0_8, ↓gI0_15, ↓pI0_1, ↓pI0_7, ↓pI0_8, ↓pZ0_15, ↓gR0_0, ↓gR0_2, ↓gR0_3, ↓gR0_4, ↓gR0_5, ↓gR0_6, ↓gR0_9, ↓gR0_10, ↓gR0_11, ↓gR0_12, ↓gR0_13, ↓gR0_14, ↓aI1, ↓ln1, ↓aI14, ↓sZ14, ↓ln14, ↓aR13, ↓aR15, ↓rc16, ↓gI16_4, ↓gI16_5, ↓gI16_6, ↓gI16_7, ↓gI16_8, ↓pI16_4, ↓pI16_5, ↓pI16_6, ↓pI16_7, ↓pI16_8, ↓gR16_0, ↓gR16_1, ↓gR16_2, ↓gR16_3, ↓aI17, ↓sI17, ↓ln17, ↓aI18, ↓sZ18, ↓ln18, ↓aI19, ↓sI19, ↓ln19, ↓c_I, ↓c_J, ↓c_Q, ↓c_V, ↓c_It, ↓c_Jt, ↓c_Vt, ↓k_I, ↓k_J, ↓n_I, ↓n_V, li0, li1, li2, li3, li4, li5, li6, li7, li8, li9, li10, li11, li12, li13, li14, li15, li16, li17, li18, li19, li20, li21, li22, li23, li24, li25, li26, li27, li28, li29, li30, li31, li32, li33, li34, li35, li36, li37, li38, li39, li40, li41, li42, li44, li48, li57, li63, li64, li65, li97, li99, li100, li101, li102, li104, li105, li106, li109, li114, li120, li128, li130, li300, li514, li999, li1000, li8192, li9999, li65536, li1000000, li1000001, li1000002, li1000003, li1000004, li1000005, li1000006, li1000007, li1000008, li1000009, li1000010, li1000011, li1000012, li1000013, li1000014, li1000015, li1000016, li1000017, li1000018, li1000019, li2147483647, lj0, lj1, W_add, W_sub, W_mul, W_neg, V_add, V_sub, V_mul, V_neg, W_ite, W_le, W_lt, W_inj, V_le, V_lt, V_inj, W_V, V_W, lgc_ge, lgc_gt, lgc_le, lgc_lt, lgc_eq, ge_iff_le, gt_iff_lt, em, y1, q0, hL', Int.reduceEq, ↓reduceIte]
      · rw [show m - 1 = 0 by omega] at hL'
        simp (disch := first | assumption | omega) only [f_X7_cells, f_X7_cells_b46, ↓rc0, ↓gI0_1, ↓gI0_7, ↓gI0_8, ↓gI0_15, ↓pI0_1, ↓pI0_7, ↓pI0_8, ↓pZ0_15, ↓gR0_0, ↓gR0_2, ↓gR0_3, ↓gR0_4, ↓gR0_5, ↓gR0_6, ↓gR0_9, ↓gR0_10, ↓gR0_11, ↓gR0_12, ↓gR0_13, ↓gR0_14, ↓aI1, ↓ln1, ↓aI14, ↓sZ14, ↓ln14, ↓aR13, ↓aR15, ↓rc16, ↓gI16_4, ↓gI16_5, ↓gI16_6, ↓gI16_7, ↓gI16_8, ↓pI16_4, ↓pI16_5, ↓pI16_6, ↓pI16_7, ↓pI16_8, ↓gR16_0, ↓gR16_1, ↓gR16_2, ↓gR16_3, ↓aI17, ↓sI17, ↓ln17, ↓aI18, ↓sZ18, ↓ln18, ↓aI19, ↓sI19, ↓ln19, ↓c_I, ↓c_J, ↓c_Q, ↓c_V, ↓c_It, ↓c_Jt, ↓c_Vt, ↓k_I, ↓k_J, ↓n_I, ↓n_V, li0, li1, li2, li3, li4, li5, li6, li7, li8, li9, li10, li11, li12, li13, li14, li15, li16, li17, li18, li19, li20, li21, li22, li23, li24, li25, li26, li27, li28, li29, li30, li31, li32, li33, li34, li35, li36, li37, li38, li39, li40, li41, li42, li44, li48, li57, li63, li64, li65, li97, li99, li100, li101, li102, li104, li105, li106, li109, li114, li120, li128, li130, li300, li514, li999, li1000, li8192, li9999, li65536, li1000000, li1000001, li1000002, li1000003, li1000004, li1000005, li1000006, li1000007, li1000008, li1000009, li1000010, li1000011, li1000012, li1000013, li1000014, li1000015, li1000016, li1000017, li1000018, li1000019, li2147483647, lj0, lj1, W_add, W_sub, W_mul, W_neg, V_add, V_sub, V_mul, V_neg, W_ite, W_le, W_lt, W_inj, V_le, V_lt, V_inj, W_V, V_W, lgc_ge, lgc_gt, lgc_le, lgc_lt, lgc_eq, ge_iff_le, gt_iff_lt, em, y1, q0, q2, hL', ↓reduceIte]
  · rw [if_neg qm] at em
    rw [if_neg qm, if_neg qm]
    refine ⟨I, J, ?_, h, EQ.rf, fun _ _ _ => rfl⟩
    rw [if_neg (by decide), if_pos rfl]
    simp (disch := first | assumption | omega) only [f_X7_cells, ↓rc0, ↓gI0_1, ↓gI0_7, ↓gI0_8, ↓gI0_15, ↓pI0_1, ↓pI0_7, ↓pI0_8, ↓pZ0_15, ↓gR0_0, ↓gR0_2, ↓gR0_3, ↓gR0_4, ↓gR0_5, ↓gR0_6, ↓gR0_9, ↓gR0_10, ↓gR0_11, ↓gR0_12, ↓gR0_13, ↓gR0_14, ↓aI1, ↓ln1, ↓aI14, ↓sZ14, ↓ln14, ↓aR13, ↓aR15, ↓c_I, ↓c_J, ↓c_Q, ↓c_V, ↓c_It, ↓c_Jt, ↓c_Vt, ↓k_I, ↓k_J, ↓n_I, ↓n_V, li0, li1, li2, li3, li4, li5, li6, li7, li8, li9, li10, li11, li12, li13, li14, li15, li16, li17, li18, li19, li20, li21, li22, li23, li24, li25, li26, li27, li28, li29, li30, li31, li32, li33, li34, li35, li36, li37, li38, li39, li40, li41, li42, li44, li48, li57, li63, li64, li65, li97, li99, li100, li101, li102, li104, li105, li106, li109, li114, li120, li128, li130, li300, li514, li999, li1000, li8192, li9999, li65536, li1000000, li1000001, li1000002, li1000003, li1000004, li1000005, li1000006, li1000007, li1000008, li1000009, li1000010, li1000011, li1000012, li1000013, li1000014, li1000015, li1000016, li1000017, li1000018, li1000019, li2147483647, lj0, lj1, W_add, W_sub, W_mul, W_neg, V_add, V_sub, V_mul, V_neg, W_ite, em]
end EQu6

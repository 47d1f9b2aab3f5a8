/-! ===== the engine: sums and masks ===== -/
section EQu3
variable {J : CF} {b : Nat} {c : Bool} {A I : CF}
theorem LZ.st {o : Nat} {x s k : Int} (h : LZ I A o x) (s0 : 1 ≤ s) (s1 : s ≤ 5) (k0 : 0 ≤ k) (k1 : k < 65) : I ((o : Int) + 1 + s) k = stf A x s k := by
  have hS := h.2.2.1 k k0 k1
  by_cases e1 : s = 1
  · rw [e1, stf_1, show (o : Int) + 1 + 1 = o + 2 by omega]
    exact hS.1
  · by_cases e2 : s = 2
    · rw [e2, stf_2, show (o : Int) + 1 + 2 = o + 3 by omega]
      exact hS.2.1
    · by_cases e3 : s = 3
      · rw [e3, stf_3, show (o : Int) + 1 + 3 = o + 4 by omega]
        exact hS.2.2.1
      · by_cases e4 : s = 4
        · rw [e4, stf_4, show (o : Int) + 1 + 4 = o + 5 by omega]
          exact hS.2.2.2.1
        · rw [show s = 5 by omega, stf_5, show (o : Int) + 1 + 5 = o + 6 by omega]
          exact hS.2.2.2.2
theorem x_total (h : ES I A) {x s : Int} (x0 : -2147483648 ≤ x) (x1 : x ≤ 2147483647) (s0 : -2147483648 ≤ s) (s1 : s ≤ 2147483647) (E2 : String) :
    EAns (f_X7_total (Sx I J b c) 0 (iW x) (iW s)) I J b c A "java/lang/IllegalArgumentException" E2 (if (0 ≤ x ∧ x ≤ 1) ∧ (1 ≤ s ∧ s ≤ 5) then tot A x (stf A x s) else 0) (if (0 ≤ x ∧ x ≤ 1) ∧ (1 ≤ s ∧ s ≤ 5) then 0 else 1) := by
  have ea := e_chkAxis (I := I) (J := J) (b := b) (c := c) x0 x1
  have es := e_chkRange (I := I) (J := J) (b := b) (c := c) (v := s) (lo := 1) (hi := 5) s0 s1 (by omega) (by omega) (by omega) (by omega)
  by_cases qa : 0 ≤ x ∧ x ≤ 1
  · rw [if_pos qa] at ea
    by_cases qs : 1 ≤ s ∧ s ≤ 5
    · rw [if_pos qs] at es
      have qq : (0 ≤ x ∧ x ≤ 1) ∧ (1 ≤ s ∧ s ≤ 5) := ⟨qa, qs⟩
      rw [if_pos qq, if_pos qq]
      obtain ⟨I1, J1, m1, m2, m3, m4, m5, m6⟩ := e_laid (J := J) (b := b) (c := c) h qa
      have hnt := (plB_of h.1).2 x (by omega) (by omega)
      have el := e_layoutOf (I := I1) (J := J1) (b := b) (c := c) (k := x) (by omega)
      have ez := e_sum (J := J1) (b := b) (c := c) m2.1 (s := s) (f := stf A x s) qs.1 qs.2 (fun k k0 k1 => m2.st qs.1 qs.2 (by omega) (by omega))
      have hrc := fun f => rcL (I := I1) (J := J1) (b := b) (c := c) (k := f) (e_isLx (x := x))
      refine ⟨I1, J1, ?_, m3, m4, m6⟩
      rw [if_pos rfl]
      simp (disch := first | assumption | omega) only [f_X7_total, ↓rc0, ↓gI0_1, ↓gI0_7, ↓gI0_8, ↓gI0_15, ↓pI0_1, ↓pI0_7, ↓pI0_8, ↓pZ0_15, ↓gR0_0, ↓gR0_2, ↓gR0_3, ↓gR0_4, ↓gR0_5, ↓gR0_6, ↓gR0_9, ↓gR0_10, ↓gR0_11, ↓gR0_12, ↓gR0_13, ↓gR0_14, ↓aI1, ↓ln1, ↓aI14, ↓sZ14, ↓ln14, ↓aR13, ↓aR15, ↓c_I, ↓c_J, ↓c_Q, ↓c_V, ↓c_It, ↓c_Jt, ↓c_Vt, ↓k_I, ↓k_J, ↓n_I, ↓n_V, li0, li1, li2, li3, li4, li5, li6, li7, li8, li9, li10, li11, li12, li13, li14, li15, li16, li17, li18, li19, li20, li21, li22, li23, li24, li25, li26, li27, li28, li29, li30, li31, li32, li33, li34, li35, li36, li37, li38, li39, li40, li41, li42, li44, li48, li57, li63, li64, li65, li97, li99, li100, li101, li102, li104, li105, li106, li109, li114, li120, li128, li130, li300, li514, li999, li1000, li8192, li9999, li65536, li1000000, li1000001, li1000002, li1000003, li1000004, li1000005, li1000006, li1000007, li1000008, li1000009, li1000010, li1000011, li1000012, li1000013, li1000014, li1000015, li1000016, li1000017, li1000018, li1000019, li2147483647, lj0, lj1, W_add, W_sub, W_mul, W_neg, V_add, V_sub, V_mul, V_neg, W_ite, ea, es, m1, el, hrc, ez]
    · rw [if_neg qs] at es
      rw [if_neg (fun z => qs z.2), if_neg (fun z => qs z.2)]
      refine ⟨I, J, ?_, h, EQ.rf, fun _ _ _ => rfl⟩
      rw [if_neg (by decide), if_pos rfl]
      simp (disch := first | assumption | omega) only [f_X7_total, ↓rc0, ↓gI0_1, ↓gI0_7, ↓gI0_8, ↓gI0_15, ↓pI0_1, ↓pI0_7, ↓pI0_8, ↓pZ0_15, ↓gR0_0, ↓gR0_2, ↓gR0_3, ↓gR0_4, ↓gR0_5, ↓gR0_6, ↓gR0_9, ↓gR0_10, ↓gR0_11, ↓gR0_12, ↓gR0_13, ↓gR0_14, ↓aI1, ↓ln1, ↓aI14, ↓sZ14, ↓ln14, ↓aR13, ↓aR15, ↓c_I, ↓c_J, ↓c_Q, ↓c_V, ↓c_It, ↓c_Jt, ↓c_Vt, ↓k_I, ↓k_J, ↓n_I, ↓n_V, li0, li1, li2, li3, li4, li5, li6, li7, li8, li9, li10, li11, li12, li13, li14, li15, li16, li17, li18, li19, li20, li21, li22, li23, li24, li25, li26, li27, li28, li29, li30, li31, li32, li33, li34, li35, li36, li37, li38, li39, li40, li41, li42, li44, li48, li57, li63, li64, li65, li97, li99, li100, li101, li102, li104, li105, li106, li109, li114, li120, li128, li130, li300, li514, li999, li1000, li8192, li9999, li65536, li1000000, li1000001, li1000002, li1000003, li1000004, li1000005, li1000006, li1000007, li1000008, li1000009, li1000010, li1000011, li1000012, li1000013, li1000014, li1000015, li1000016, li1000017, li1000018, li1000019, li2147483647, lj0, lj1, W_add, W_sub, W_mul, W_neg, V_add, V_sub, V_mul, V_neg, W_ite, ea, es]
  · rw [if_neg qa] at ea
    rw [if_neg (fun z => qa z.1), if_neg (fun z => qa z.1)]
    refine ⟨I, J, ?_, h, EQ.rf, fun _ _ _ => rfl⟩
    rw [if_neg (by decide), if_pos rfl]
    simp (disch := first | assumption | omega) only [f_X7_total, ↓rc0, ↓gI0_1, ↓gI0_7, ↓gI0_8, ↓gI0_15, ↓pI0_1, ↓pI0_7, ↓pI0_8, ↓pZ0_15, ↓gR0_0, ↓gR0_2, ↓gR0_3, ↓gR0_4, ↓gR0_5, ↓gR0_6, ↓gR0_9, ↓gR0_10, ↓gR0_11, ↓gR0_12, ↓gR0_13, ↓gR0_14, ↓aI1, ↓ln1, ↓aI14, ↓sZ14, ↓ln14, ↓aR13, ↓aR15, ↓c_I, ↓c_J, ↓c_Q, ↓c_V, ↓c_It, ↓c_Jt, ↓c_Vt, ↓k_I, ↓k_J, ↓n_I, ↓n_V, li0, li1, li2, li3, li4, li5, li6, li7, li8, li9, li10, li11, li12, li13, li14, li15, li16, li17, li18, li19, li20, li21, li22, li23, li24, li25, li26, li27, li28, li29, li30, li31, li32, li33, li34, li35, li36, li37, li38, li39, li40, li41, li42, li44, li48, li57, li63, li64, li65, li97, li99, li100, li101, li102, li104, li105, li106, li109, li114, li120, li128, li130, li300, li514, li999, li1000, li8192, li9999, li65536, li1000000, li1000001, li1000002, li1000003, li1000004, li1000005, li1000006, li1000007, li1000008, li1000009, li1000010, li1000011, li1000012, li1000013, li1000014, li1000015, li1000016, li1000017, li1000018, li1000019, li2147483647, lj0, lj1, W_add, W_sub, W_mul, W_neg, V_add, V_sub, V_mul, V_neg, W_ite, ea]
theorem gst_s {R : Int → Prop} {n : Nat} : gst R (n + 1) = cif (R n) (n : Int) (gst R n) := rfl
/-- downwards: the first with R is the last with R -/
theorem e_under_L {u v : Int} (u0 : -2147483648 ≤ u) (u1 : u ≤ 2147483647) (v0 : -2147483648 ≤ v) (v1 : v ≤ 2147483647) (h0 : LZ I A 20 0) (h1 : LZ I A 28 1) (hA : okA A) : ∀ (fuel n : Nat), n < fuel → (n : Int) ≤ nit A →
    f_X7_itemUnder_L14 fuel (Sx I J b c) 0 (iW u) (iW v) (iW ((n : Int) - 1)) = @ite _ (∃ i : Nat, i < n ∧ inb A 0 u i ∧ inb A 1 v i) (Classical.propDecidable _) (some (Sx I J b c, xi (iW (gst (fun i => inb A 0 u i ∧ inb A 1 v i) n)))) (some (Sx I J b false, xt "java/util/NoSuchElementException")) := by
  have hNn := hA.1
  intro fuel
  induction fuel with
  | zero => intro n a1; omega
  | succ fuel ih =>
    intro n a1 a2
    show f_X7_itemUnder_b14 (f_X7_itemUnder_L14 fuel) (Sx I J b c) 0 (iW u) (iW v) (iW ((n : Int) - 1)) = _
    match n with
    | 0 =>
      rw [@if_neg _ (Classical.propDecidable _) (by rintro ⟨i, i0, -⟩; omega)]
      have n0 : ((0 : Nat) : Int) - 1 < 0 := by omega
      simp (disch := first | assumption | omega) only [f_X7_itemUnder_b14, S_dirty, ↓rc0, ↓gI0_1, ↓gI0_7, ↓gI0_8, ↓gI0_15, ↓pI0_1, ↓pI0_7, ↓pI0_8, ↓pZ0_15, ↓gR0_0, ↓gR0_2, ↓gR0_3, ↓gR0_4, ↓gR0_5, ↓gR0_6, ↓gR0_9, ↓gR0_10, ↓gR0_11, ↓gR0_12, ↓gR0_13, ↓gR0_14, ↓aI1, ↓ln1, ↓aI14, ↓sZ14, ↓ln14, ↓aR13, ↓aR15, ↓c_I, ↓c_J, ↓c_Q, ↓c_V, ↓c_It, ↓c_Jt, ↓c_Vt, ↓k_I, ↓k_J, ↓n_I, ↓n_V, li0, li1, li2, li3, li4, li5, li6, li7, li8, li9, li10, li11, li12, li13, li14, li15, li16, li17, li18, li19, li20, li21, li22, li23, li24, li25, li26, li27, li28, li29, li30, li31, li32, li33, li34, li35, li36, li37, li38, li39, li40, li41, li42, li44, li48, li57, li63, li64, li65, li97, li99, li100, li101, li102, li104, li105, li106, li109, li114, li120, li128, li130, li300, li514, li999, li1000, li8192, li9999, li65536, li1000000, li1000001, li1000002, li1000003, li1000004, li1000005, li1000006, li1000007, li1000008, li1000009, li1000010, li1000011, li1000012, li1000013, li1000014, li1000015, li1000016, li1000017, li1000018, li1000019, li2147483647, lj0, lj1, W_add, W_sub, W_mul, W_neg, V_add, V_sub, V_mul, V_neg, W_ite, W_le, W_lt, W_inj, V_le, V_lt, V_inj, W_V, V_W, lgc_ge, lgc_gt, lgc_le, lgc_lt, lgc_eq, ge_iff_le, gt_iff_lt, n0, ↓reduceIte]
    | n + 1 =>
      have hcc : ((n + 1 : Nat) : Int) - 1 = (n : Int) := by omega
      rw [hcc]
      have n1 : ¬ ((n : Int) < 0) := by omega
      have hm : (n : Int) + -1 = (n : Int) - 1 := by omega
      have e1 := e_inBox (J := J) (b := b) (c := c) h0 (i := n) (v := u) (by omega) (by omega) u0 u1
      have e2 := e_inBox (J := J) (b := b) (c := c) h1 (i := n) (v := v) (by omega) (by omega) v0 v1
      have hnext := ih n (by omega) (by omega)
      by_cases q : inb A 0 u n ∧ inb A 1 v n
      · rw [@if_pos _ (Classical.propDecidable _) ⟨n, by omega, q⟩, gst_s, cif_pos q]
        have q1 : bxb A 0 n ≤ u ∧ u < bxb A 0 n + bxs A 0 n := q.1
        have q2 : bxb A 1 n ≤ v ∧ v < bxb A 1 n + bxs A 1 n := q.2
        rw [bb_pos q1] at e1
        rw [bb_pos q2] at e2
        have r20 : ∀ f : Option XR, x_rc (Sx I J b c) 20 0 f = f := fun f => rcL (Or.inl rfl)
        have r28 : ∀ f : Option XR, x_rc (Sx I J b c) 28 0 f = f := fun f => rcL (Or.inr rfl)
        simp (disch := first | assumption | omega) only [f_X7_itemUnder_b14, f_X7_itemUnder_b44, ↓rc0, ↓gI0_1, ↓gI0_7, ↓gI0_8, ↓gI0_15, ↓pI0_1, ↓pI0_7, ↓pI0_8, ↓pZ0_15, ↓gR0_0, ↓gR0_2, ↓gR0_3, ↓gR0_4, ↓gR0_5, ↓gR0_6, ↓gR0_9, ↓gR0_10, ↓gR0_11, ↓gR0_12, ↓gR0_13, ↓gR0_14, ↓aI1, ↓ln1, ↓aI14, ↓sZ14, ↓ln14, ↓aR13, ↓aR15, ↓c_I, ↓c_J, ↓c_Q, ↓c_V, ↓c_It, ↓c_Jt, ↓c_Vt, ↓k_I, ↓k_J, ↓n_I, ↓n_V, li0, li1, li2, li3, li4, li5, li6, li7, li8, li9, li10, li11, li12, li13, li14, li15, li16, li17, li18, li19, li20, li21, li22, li23, li24, li25, li26, li27, li28, li29, li30, li31, li32, li33, li34, li35, li36, li37, li38, li39, li40, li41, li42, li44, li48, li57, li63, li64, li65, li97, li99, li100, li101, li102, li104, li105, li106, li109, li114, li120, li128, li130, li300, li514, li999, li1000, li8192, li9999, li65536, li1000000, li1000001, li1000002, li1000003, li1000004, li1000005, li1000006, li1000007, li1000008, li1000009, li1000010, li1000011, li1000012, li1000013, li1000014, li1000015, li1000016, li1000017, li1000018, li1000019, li2147483647, lj0, lj1, W_add, W_sub, W_mul, W_neg, V_add, V_sub, V_mul, V_neg, W_ite, W_le, W_lt, W_inj, V_le, V_lt, V_inj, W_V, V_W, lgc_ge, lgc_gt, lgc_le, lgc_lt, lgc_eq, ge_iff_le, gt_iff_lt, n1, r20, r28, e1, e2, Int.reduceEq, ↓reduceIte]
      · have hd : ∀ i : Nat, i < n + 1 ∧ inb A 0 u i ∧ inb A 1 v i → i < n ∧ inb A 0 u i ∧ inb A 1 v i := fun i ⟨i0, i1⟩ => by
          by_cases e : i = n
          · subst e
            exact absurd i1 q
          · exact ⟨by omega, i1⟩
        have key : @ite _ (∃ i : Nat, i < n + 1 ∧ inb A 0 u i ∧ inb A 1 v i) (Classical.propDecidable _) (some (Sx I J b c, xi (iW (gst (fun i => inb A 0 u i ∧ inb A 1 v i) (n + 1))))) (some (Sx I J b false, xt "java/util/NoSuchElementException")) = @ite _ (∃ i : Nat, i < n ∧ inb A 0 u i ∧ inb A 1 v i) (Classical.propDecidable _) (some (Sx I J b c, xi (iW (gst (fun i => inb A 0 u i ∧ inb A 1 v i) n)))) (some (Sx I J b false, xt "java/util/NoSuchElementException")) := by
          rw [gst_s, cif_neg q]
          by_cases hx : ∃ i : Nat, i < n ∧ inb A 0 u i ∧ inb A 1 v i
          · obtain ⟨i, i0, i1⟩ := hx
            rw [@if_pos _ (Classical.propDecidable _) ⟨i, by omega, i1⟩, @if_pos _ (Classical.propDecidable _) ⟨i, i0, i1⟩]
          · rw [@if_neg _ (Classical.propDecidable _) hx, @if_neg _ (Classical.propDecidable _) (fun ⟨i, hi⟩ => hx ⟨i, hd i hi⟩)]
        rw [key]
        rw [← hnext]
        have r20 : ∀ f : Option XR, x_rc (Sx I J b c) 20 0 f = f := fun f => rcL (Or.inl rfl)
        have r28 : ∀ f : Option XR, x_rc (Sx I J b c) 28 0 f = f := fun f => rcL (Or.inr rfl)
        by_cases q1 : bxb A 0 n ≤ u ∧ u < bxb A 0 n + bxs A 0 n
        · have q2 : ¬ (bxb A 1 n ≤ v ∧ v < bxb A 1 n + bxs A 1 n) := fun z => q ⟨q1, z⟩
          rw [bb_pos q1] at e1
          rw [bb_neg q2] at e2
          simp (disch := first | assumption | omega) only [f_X7_itemUnder_b14, f_X7_itemUnder_b44, ↓rc0, ↓gI0_1, ↓gI0_7, ↓gI0_8, ↓gI0_15, ↓pI0_1, ↓pI0_7, ↓pI0_8, ↓pZ0_15, ↓gR0_0, ↓gR0_2, ↓gR0_3, ↓gR0_4, ↓gR0_5, ↓gR0_6, ↓gR0_9, ↓gR0_10, ↓gR0_11, ↓gR0_12, ↓gR0_13, ↓gR0_14, ↓aI1, ↓ln1, ↓aI14, ↓sZ14, ↓ln14, ↓aR13, ↓aR15, ↓c_I, ↓c_J, ↓c_Q, ↓c_V, ↓c_It, ↓c_Jt, ↓c_Vt, ↓k_I, ↓k_J, ↓n_I, ↓n_V, li0, li1, li2, li3, li4, li5, li6, li7, li8, li9, li10, li11, li12, li13, li14, li15, li16, li17, li18, li19, li20, li21, li22, li23, li24, li25, li26, li27, li28, li29, li30, li31, li32, li33, li34, li35, li36, li37, li38, li39, li40, li41, li42, li44, li48, li57, li63, li64, li65, li97, li99, li100, li101, li102, li104, li105, li106, li109, li114, li120, li128, li130, li300, li514, li999, li1000, li8192, li9999, li65536, li1000000, li1000001, li1000002, li1000003, li1000004, li1000005, li1000006, li1000007, li1000008, li1000009, li1000010, li1000011, li1000012, li1000013, li1000014, li1000015, li1000016, li1000017, li1000018, li1000019, li2147483647, lj0, lj1, W_add, W_sub, W_mul, W_neg, V_add, V_sub, V_mul, V_neg, W_ite, W_le, W_lt, W_inj, V_le, V_lt, V_inj, W_V, V_W, lgc_ge, lgc_gt, lgc_le, lgc_lt, lgc_eq, ge_iff_le, gt_iff_lt, n1, hm, r20, r28, e1, e2, Int.reduceEq, ↓reduceIte]
        · rw [bb_neg q1] at e1
          simp (disch := first | assumption | omega) only [f_X7_itemUnder_b14, f_X7_itemUnder_b44, ↓rc0, ↓gI0_1, ↓gI0_7, ↓gI0_8, ↓gI0_15, ↓pI0_1, ↓pI0_7, ↓pI0_8, ↓pZ0_15, ↓gR0_0, ↓gR0_2, ↓gR0_3, ↓gR0_4, ↓gR0_5, ↓gR0_6, ↓gR0_9, ↓gR0_10, ↓gR0_11, ↓gR0_12, ↓gR0_13, ↓gR0_14, ↓aI1, ↓ln1, ↓aI14, ↓sZ14, ↓ln14, ↓aR13, ↓aR15, ↓c_I, ↓c_J, ↓c_Q, ↓c_V, ↓c_It, ↓c_Jt, ↓c_Vt, ↓k_I, ↓k_J, ↓n_I, ↓n_V, li0, li1, li2, li3, li4, li5, li6, li7, li8, li9, li10, li11, li12, li13, li14, li15, li16, li17, li18, li19, li20, li21, li22, li23, li24, li25, li26, li27, li28, li29, li30, li31, li32, li33, li34, li35, li36, li37, li38, li39, li40, li41, li42, li44, li48, li57, li63, li64, li65, li97, li99, li100, li101, li102, li104, li105, li106, li109, li114, li120, li128, li130, li300, li514, li999, li1000, li8192, li9999, li65536, li1000000, li1000001, li1000002, li1000003, li1000004, li1000005, li1000006, li1000007, li1000008, li1000009, li1000010, li1000011, li1000012, li1000013, li1000014, li1000015, li1000016, li1000017, li1000018, li1000019, li2147483647, lj0, lj1, W_add, W_sub, W_mul, W_neg, V_add, V_sub, V_mul, V_neg, W_ite, W_le, W_lt, W_inj, V_le, V_lt, V_inj, W_V, V_W, lgc_ge, lgc_gt, lgc_le, lgc_lt, lgc_eq, ge_iff_le, gt_iff_lt, n1, hm, r20, r28, e1, ↓reduceIte]
end EQu3

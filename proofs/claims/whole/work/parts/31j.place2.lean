/-! ===== the engine's Placement: its four steps ===== -/
def pB (A st : CF) (mx : Int) (P : Int → Prop) (Bm Bs : Int) : Prop := ∀ k, 0 ≤ k → k < nit A → P k → st k mx + itf A k mx 3 - 1 ≤ Bm ∧ st k (1 - mx) + itf A k (1 - mx) 3 - 1 ≤ Bs
section PlaceF
variable {J : CF} {b : Nat} {c : Bool} {A : CF}
theorem PW.congr {I : CF} {mx : Int} {P Q : Int → Prop} {st : CF} (h : PW I A mx P st) (hq : ∀ k, 0 ≤ k → k < nit A → (Q k ↔ P k)) : PW I A mx Q st := by
  obtain ⟨hA, hm, hM, g1, g2, hp, ht⟩ := h
  exact ⟨hA, hm, hM, g1, g2, fun k k0 k1 => by rw [hp k k0 k1]; exact bb_congr (hq k k0 k1).symm, fun k k0 k1 hk => ht k k0 k1 ((hq k k0 k1).mp hk)⟩
theorem PW.fr {I I' : CF} {mx : Int} {P : Int → Prop} {st : CF} (h : PW I A mx P st) (h4 : I' 16 4 = I 16 4) (h5 : I' 16 5 = I 16 5) (hf : ∀ a, (8 ≤ a ∧ a ≤ 12) ∨ a = 17 ∨ a = 18 → I' a = I a) : PW I' A mx P st := by
  obtain ⟨hA, hm, hM, g1, g2, hp, ht⟩ := h
  refine ⟨hA, hm, hM.fr (fun a a0 a1 => hf a (by omega)), by rw [h4]; exact g1, by rw [h5]; exact g2, ?_, ?_⟩
  · rw [hf 18 (by omega)]
    exact hp
  · rw [hf 17 (by omega)]
    exact ht
theorem pB.congr {st : CF} {mx Bm Bs : Int} {P Q : Int → Prop} (h : pB A st mx P Bm Bs) (hq : ∀ k, 0 ≤ k → k < nit A → (Q k → P k)) : pB A st mx Q Bm Bs := fun k k0 k1 hk => h k k0 k1 (hq k k0 k1 hk)
theorem pB.mono {st : CF} {mx Bm Bs Bm' Bs' : Int} {P : Int → Prop} (h : pB A st mx P Bm Bs) (h1 : Bm ≤ Bm') (h2 : Bs ≤ Bs') : pB A st mx P Bm' Bs' := fun k k0 k1 hk => by
  have := h k k0 k1 hk
  omega
theorem pB_put {st : CF} {mx Bm Bs i m s : Int} {P Q : Int → Prop} (hm : mx = 0 ∨ mx = 1) (h : pB A st mx P Bm Bs) (h1 : m + itf A i mx 3 - 1 ≤ Bm) (h2 : s + itf A i (1 - mx) 3 - 1 ≤ Bs) (hq : ∀ k, 0 ≤ k → k < nit A → (Q k → P k ∨ k = i)) : pB A (put st i mx m s) mx Q Bm Bs := by
  intro k k0 k1 hk
  unfold put
  by_cases e : k = i
  · subst e
    rw [if_pos rfl, if_pos rfl, if_pos rfl, if_neg (by omega)]
    exact ⟨h1, h2⟩
  · rw [if_neg e, if_neg e]
    exact h k k0 k1 ((hq k k0 k1 hk).resolve_right e)
theorem free_far {st : CF} {mx : Int} {P : Int → Prop} {i m s Bm Bs : Int} (hB : pB A st mx P Bm Bs) (h : Bm < m ∨ Bs < s) : free A st mx P i m s := by
  intro k k0 k1 hk hme
  have := hB k k0 k1 hk
  obtain ⟨h1, h2, h3, h4⟩ := hme
  omega
/-! step 1 -/
theorem e_fixed_L {mx : Int} : ∀ (fuel : Nat) (n : Int) (I : CF), nit A - n < fuel → 0 ≤ n → n ≤ nit A → PW I A mx (fun k => (hs A k mx ∧ hs A k (1 - mx)) ∧ k < n) (pS2 A mx 0) →
    ∃ I', f_X5_placeFixed_L2 fuel (Sx I J b c) 16 (iW n) = some (Sx I' J b c, xv) ∧ PW I' A mx (fun k => (hs A k mx ∧ hs A k (1 - mx)) ∧ k < nit A) (pS2 A mx 0) ∧ ∀ a, a < 17 ∨ 18 < a → I' a = I a := by
  intro fuel
  induction fuel with
  | zero => intro n I a1 a2 a3; omega
  | succ fuel ih =>
    intro n I a1 a2 a3 hW
    show ∃ I', f_X5_placeFixed_b2 (f_X5_placeFixed_L2 fuel) (Sx I J b c) 16 (iW n) = _ ∧ _
    have hW' := hW
    obtain ⟨hA, hm, hM, g1, g2, hp, ht⟩ := hW'
    have hN := hA.1
    have hN2 : I 8 4 = nit A := hM.2.2.2.2.1
    by_cases hk : n = nit A
    · subst hk
      refine ⟨I, ?_, hW, fun _ _ => rfl⟩
      simp (disch := first | assumption | omega) only [f_X5_placeFixed_b2, ↓rc16, ↓gI16_4, ↓gI16_5, ↓gI16_6, ↓gI16_7, ↓gI16_8, ↓pI16_4, ↓pI16_5, ↓pI16_6, ↓pI16_7, ↓pI16_8, ↓gR16_0, ↓gR16_1, ↓gR16_2, ↓gR16_3, ↓aI17, ↓sI17, ↓ln17, ↓aI18, ↓sZ18, ↓ln18, ↓aI19, ↓sI19, ↓ln19, ↓rc8, ↓gI8_4, ↓gI8_5, ↓gI8_6, ↓pI8_4, ↓pI8_5, ↓pZ8_6, ↓gR8_0, ↓gR8_1, ↓gR8_2, ↓gR8_3, ↓aI9, ↓sI9, ↓ln9, ↓aI10, ↓sI10, ↓ln10, ↓aI11, ↓sI11, ↓ln11, ↓aI12, ↓sI12, ↓ln12, ↓c_I, ↓c_J, ↓c_Q, ↓c_V, ↓c_It, ↓c_Jt, ↓c_Vt, ↓k_I, ↓k_J, ↓n_I, ↓n_V, li0, li1, li2, li3, li4, li5, li6, li7, li8, li9, li10, li11, li12, li13, li14, li15, li16, li17, li18, li19, li20, li21, li22, li23, li24, li25, li26, li27, li28, li29, li30, li31, li32, li33, li34, li35, li36, li37, li38, li39, li40, li41, li42, li44, li48, li57, li63, li64, li65, li97, li99, li100, li101, li102, li104, li105, li106, li109, li114, li120, li128, li130, li300, li514, li999, li1000, li8192, li9999, li65536, li1000000, li1000001, li1000002, li1000003, li1000004, li1000005, li1000006, li1000007, li1000008, li1000009, li1000010, li1000011, li1000012, li1000013, li1000014, li1000015, li1000016, li1000017, li1000018, li1000019, li2147483647, lj0, lj1, W_add, W_sub, W_mul, W_neg, V_add, V_sub, V_mul, V_neg, W_ite, W_le, W_lt, W_inj, V_le, V_lt, V_inj, W_V, V_W, lgc_ge, lgc_gt, lgc_le, lgc_lt, lgc_eq, ge_iff_le, gt_iff_lt, hN2, Int.le_refl, ↓reduceIte]
    · have n1 : ¬ (nit A ≤ n) := by omega
      have e1 := e_hasStart (J := J) (b := b) (c := c) hA hM (i := n) (ax := mx) a2 (by omega) (by omega) (by omega)
      have e2 := e_hasStart (J := J) (b := b) (c := c) hA hM (i := n) (ax := 1 - mx) a2 (by omega) (by omega) (by omega)
      by_cases hP : hs A n mx ∧ hs A n (1 - mx)
      · rw [bb_pos hP.1] at e1
        rw [bb_pos hP.2] at e2
        have i1 := e_itemField (J := J) (b := b) (c := c) hM a2 (show n < 12 by omega) (ax := mx) (by omega) (by omega) (f := 2) (by omega) (by omega)
        have i2 := e_itemField (J := J) (b := b) (c := c) hM a2 (show n < 12 by omega) (ax := 1 - mx) (by omega) (by omega) (f := 2) (by omega) (by omega)
        have p1 := e_putAt (I := I) (J := J) (b := b) (c := c) (m := itf A n mx 2) (s := itf A n (1 - mx) 2) hm g1 g2 a2 (show n < 12 by omega)
        have r1 := (hA.2.2.2.2.2 n mx a2 (by omega) (by omega) (by omega)).2.1
        have r2 := (hA.2.2.2.2.2 n (1 - mx) a2 (by omega) (by omega) (by omega)).2.1
        have hh1 : itf A n mx 2 ≠ -1 := hP.1
        have hh2 : itf A n (1 - mx) 2 ≠ -1 := hP.2
        have hput : put (pS2 A mx 0) n mx (itf A n mx 2) (itf A n (1 - mx) 2) = pS2 A mx 0 ∨ True := Or.inr trivial
        have hW2 := pput_W (Q := fun k => (hs A k mx ∧ hs A k (1 - mx)) ∧ k < n + 1) hW a2 (show n < nit A by omega) (show 1 ≤ itf A n mx 2 by omega) (by omega) (show 1 ≤ itf A n (1 - mx) 2 by omega) (by omega) (fun k k0 k1 => by
          constructor
          · rintro ⟨h1, h2⟩
            by_cases e : k = n
            · exact Or.inr e
            · exact Or.inl ⟨h1, by omega⟩
          · rintro (⟨h1, h2⟩ | rfl)
            · exact ⟨h1, by omega⟩
            · exact ⟨hP, by omega⟩)
        have hW3 : PW (pput I n mx (itf A n mx 2) (itf A n (1 - mx) 2)) A mx (fun k => (hs A k mx ∧ hs A k (1 - mx)) ∧ k < n + 1) (pS2 A mx 0) := by
          obtain ⟨x1, x2, x3, x4, x5, x6, x7⟩ := hW2
          refine ⟨x1, x2, x3, x4, x5, x6, fun k k0 k1 hk ax y0 y1 => ?_⟩
          have := x7 k k0 k1 hk ax y0 y1
          have e : put (pS2 A mx 0) n mx (itf A n mx 2) (itf A n (1 - mx) 2) k ax = pS2 A mx 0 k ax := by
            unfold put
            by_cases q : k = n
            · subst q
              rw [if_pos rfl]
              by_cases q2 : ax = mx
              · subst q2
                rw [if_pos rfl]
                rfl
              · rw [if_neg q2, show 1 - mx = ax by omega]
                rfl
            · rw [if_neg q]
          rw [e] at this
          exact this
        obtain ⟨I', k1, k2, k3⟩ := ih (n + 1) _ (by omega) (by omega) (by omega) hW3
        refine ⟨I', ?_, k2, fun a ha => ?_⟩
        · rw [← k1]
          simp (disch := first | assumption | omega) only [f_X5_placeFixed_b2, f_X5_placeFixed_b68, ↓rc16, ↓gI16_4, ↓gI16_5, ↓gI16_6, ↓gI16_7, ↓gI16_8, ↓pI16_4, ↓pI16_5, ↓pI16_6, ↓pI16_7, ↓pI16_8, ↓gR16_0, ↓gR16_1, ↓gR16_2, ↓gR16_3, ↓aI17, ↓sI17, ↓ln17, ↓aI18, ↓sZ18, ↓ln18, ↓aI19, ↓sI19, ↓ln19, ↓rc8, ↓gI8_4, ↓gI8_5, ↓gI8_6, ↓pI8_4, ↓pI8_5, ↓pZ8_6, ↓gR8_0, ↓gR8_1, ↓gR8_2, ↓gR8_3, ↓aI9, ↓sI9, ↓ln9, ↓aI10, ↓sI10, ↓ln10, ↓aI11, ↓sI11, ↓ln11, ↓aI12, ↓sI12, ↓ln12, ↓c_I, ↓c_J, ↓c_Q, ↓c_V, ↓c_It, ↓c_Jt, ↓c_Vt, ↓k_I, ↓k_J, ↓n_I, ↓n_V, li0, li1, li2, li3, li4, li5, li6, li7, li8, li9, li10, li11, li12, li13, li14, li15, li16, li17, li18, li19, li20, li21, li22, li23, li24, li25, li26, li27, li28, li29, li30, li31, li32, li33, li34, li35, li36, li37, li38, li39, li40, li41, li42, li44, li48, li57, li63, li64, li65, li97, li99, li100, li101, li102, li104, li105, li106, li109, li114, li120, li128, li130, li300, li514, li999, li1000, li8192, li9999, li65536, li1000000, li1000001, li1000002, li1000003, li1000004, li1000005, li1000006, li1000007, li1000008, li1000009, li1000010, li1000011, li1000012, li1000013, li1000014, li1000015, li1000016, li1000017, li1000018, li1000019, li2147483647, lj0, lj1, W_add, W_sub, W_mul, W_neg, V_add, V_sub, V_mul, V_neg, W_ite, W_le, W_lt, W_inj, V_le, V_lt, V_inj, W_V, V_W, lgc_ge, lgc_gt, lgc_le, lgc_lt, lgc_eq, ge_iff_le, gt_iff_lt, hN2, n1, e1, e2, i1, i2, p1, g1, g2, Int.reduceEq, ↓reduceIte]
        · rw [k3 a ha]
          unfold pput
          rw [u_obj (by omega), u_obj (by omega), u_obj (by omega)]
      · obtain ⟨I', k1, k2, k3⟩ := ih (n + 1) I (by omega) (by omega) (by omega) (hW.congr fun k k0 k1 => by
          constructor
          · rintro ⟨h1, h2⟩
            refine ⟨h1, ?_⟩
            by_cases e : k = n
            · subst e
              exact absurd h1 hP
            · omega
          · rintro ⟨h1, h2⟩
            exact ⟨h1, by omega⟩)
        refine ⟨I', ?_, k2, k3⟩
        rw [← k1]
        by_cases h1 : hs A n mx
        · have h2 : ¬ hs A n (1 - mx) := fun h => hP ⟨h1, h⟩
          rw [bb_pos h1] at e1
          rw [bb_neg h2] at e2
          simp (disch := first | assumption | omega) only [f_X5_placeFixed_b2, f_X5_placeFixed_b68, ↓rc16, ↓gI16_4, ↓gI16_5, ↓gI16_6, ↓gI16_7, ↓gI16_8, ↓pI16_4, ↓pI16_5, ↓pI16_6, ↓pI16_7, ↓pI16_8, ↓gR16_0, ↓gR16_1, ↓gR16_2, ↓gR16_3, ↓aI17, ↓sI17, ↓ln17, ↓aI18, ↓sZ18, ↓ln18, ↓aI19, ↓sI19, ↓ln19, ↓rc8, ↓gI8_4, ↓gI8_5, ↓gI8_6, ↓pI8_4, ↓pI8_5, ↓pZ8_6, ↓gR8_0, ↓gR8_1, ↓gR8_2, ↓gR8_3, ↓aI9, ↓sI9, ↓ln9, ↓aI10, ↓sI10, ↓ln10, ↓aI11, ↓sI11, ↓ln11, ↓aI12, ↓sI12, ↓ln12, ↓c_I, ↓c_J, ↓c_Q, ↓c_V, ↓c_It, ↓c_Jt, ↓c_Vt, ↓k_I, ↓k_J, ↓n_I, ↓n_V, li0, li1, li2, li3, li4, li5, li6, li7, li8, li9, li10, li11, li12, li13, li14, li15, li16, li17, li18, li19, li20, li21, li22, li23, li24, li25, li26, li27, li28, li29, li30, li31, li32, li33, li34, li35, li36, li37, li38, li39, li40, li41, li42, li44, li48, li57, li63, li64, li65, li97, li99, li100, li101, li102, li104, li105, li106, li109, li114, li120, li128, li130, li300, li514, li999, li1000, li8192, li9999, li65536, li1000000, li1000001, li1000002, li1000003, li1000004, li1000005, li1000006, li1000007, li1000008, li1000009, li1000010, li1000011, li1000012, li1000013, li1000014, li1000015, li1000016, li1000017, li1000018, li1000019, li2147483647, lj0, lj1, W_add, W_sub, W_mul, W_neg, V_add, V_sub, V_mul, V_neg, W_ite, W_le, W_lt, W_inj, V_le, V_lt, V_inj, W_V, V_W, lgc_ge, lgc_gt, lgc_le, lgc_lt, lgc_eq, ge_iff_le, gt_iff_lt, hN2, n1, e1, e2, g1, g2, Int.reduceEq, ↓reduceIte]
        · rw [bb_neg h1] at e1
          simp (disch := first | assumption | omega) only [f_X5_placeFixed_b2, f_X5_placeFixed_b68, ↓rc16, ↓gI16_4, ↓gI16_5, ↓gI16_6, ↓gI16_7, ↓gI16_8, ↓pI16_4, ↓pI16_5, ↓pI16_6, ↓pI16_7, ↓pI16_8, ↓gR16_0, ↓gR16_1, ↓gR16_2, ↓gR16_3, ↓aI17, ↓sI17, ↓ln17, ↓aI18, ↓sZ18, ↓ln18, ↓aI19, ↓sI19, ↓ln19, ↓rc8, ↓gI8_4, ↓gI8_5, ↓gI8_6, ↓pI8_4, ↓pI8_5, ↓pZ8_6, ↓gR8_0, ↓gR8_1, ↓gR8_2, ↓gR8_3, ↓aI9, ↓sI9, ↓ln9, ↓aI10, ↓sI10, ↓ln10, ↓aI11, ↓sI11, ↓ln11, ↓aI12, ↓sI12, ↓ln12, ↓c_I, ↓c_J, ↓c_Q, ↓c_V, ↓c_It, ↓c_Jt, ↓c_Vt, ↓k_I, ↓k_J, ↓n_I, ↓n_V, li0, li1, li2, li3, li4, li5, li6, li7, li8, li9, li10, li11, li12, li13, li14, li15, li16, li17, li18, li19, li20, li21, li22, li23, li24, li25, li26, li27, li28, li29, li30, li31, li32, li33, li34, li35, li36, li37, li38, li39, li40, li41, li42, li44, li48, li57, li63, li64, li65, li97, li99, li100, li101, li102, li104, li105, li106, li109, li114, li120, li128, li130, li300, li514, li999, li1000, li8192, li9999, li65536, li1000000, li1000001, li1000002, li1000003, li1000004, li1000005, li1000006, li1000007, li1000008, li1000009, li1000010, li1000011, li1000012, li1000013, li1000014, li1000015, li1000016, li1000017, li1000018, li1000019, li2147483647, lj0, lj1, W_add, W_sub, W_mul, W_neg, V_add, V_sub, V_mul, V_neg, W_ite, W_le, W_lt, W_inj, V_le, V_lt, V_inj, W_V, V_W, lgc_ge, lgc_gt, lgc_le, lgc_lt, lgc_eq, ge_iff_le, gt_iff_lt, hN2, n1, e1, e2, g1, g2, Int.reduceEq, ↓reduceIte]
/-! step 2 -/
theorem lst_bd {st : CF} {mx : Int} {i : Int} {P : Int → Prop} {Bm Bs : Int} (hB : pB A st mx P Bm Bs) (hA : okA A) (hm : mx = 0 ∨ mx = 1) (h0 : 0 ≤ Bs) : ∀ k : Nat, (k : Int) ≤ nit A → (∀ j : Int, 0 ≤ j → j < k → hs A j mx → P j) → 1 ≤ lst A st mx i k ∧ lst A st mx i k ≤ Bs + 1 := by
  intro k
  induction k with
  | zero => intro _ _; unfold lst; omega
  | succ k ih =>
    intro h1 h2
    have h3 := ih (by omega) (fun j a b => h2 j a (by omega))
    unfold lst
    by_cases q : hs A k mx ∧ ¬ hs A k (1 - mx) ∧ st k mx = itf A i mx 2
    · rw [cif_pos q]
      have h4 := (hB k (by omega) (by omega) (h2 k (by omega) (by omega) q.1)).2
      have h5 := (hA.2.2.2.2.2 k (1 - mx) (by omega) (by omega) (by omega) (by omega)).2.2.1
      omega
    · rw [cif_neg q]
      exact h3
theorem e_sparse_L {I : CF} {mx i : Int} {P : Int → Prop} {st : CF} (hW : PW I A mx P st) (i0 : 0 ≤ i) (i1 : i < nit A) (hP : ∀ j : Int, 0 ≤ j → j < i → hs A j mx → P j) (hb : ∀ k : Nat, (k : Int) ≤ i → 1 ≤ lst A st mx i k ∧ lst A st mx i k ≤ 1000) (hi : hs A i mx) :
    ∀ (fuel : Nat) (k : Nat), i - k < fuel → (k : Int) ≤ i → f_X5_firstSparseSide_L5 fuel (Sx I J b c) 16 (iW i) (iW (itf A i mx 2)) (iW (lst A st mx i k)) (iW k) = some (Sx I J b c, xi (iW (lst A st mx i i.toNat))) := by
  obtain ⟨hA, hm, hM, g1, g2, hp, ht⟩ := hW
  have hN := hA.1
  intro fuel
  induction fuel with
  | zero => intro k a1 a2; omega
  | succ fuel ih =>
    intro k a1 a2
    show f_X5_firstSparseSide_b5 (f_X5_firstSparseSide_L5 fuel) (Sx I J b c) 16 (iW i) (iW (itf A i mx 2)) (iW (lst A st mx i k)) (iW k) = _
    by_cases hk : (k : Int) = i
    · have n0 : i ≤ k := by omega
      rw [show i.toNat = k by omega]
      simp (disch := first | assumption | omega) only [f_X5_firstSparseSide_b5, ↓rc16, ↓gI16_4, ↓gI16_5, ↓gI16_6, ↓gI16_7, ↓gI16_8, ↓pI16_4, ↓pI16_5, ↓pI16_6, ↓pI16_7, ↓pI16_8, ↓gR16_0, ↓gR16_1, ↓gR16_2, ↓gR16_3, ↓aI17, ↓sI17, ↓ln17, ↓aI18, ↓sZ18, ↓ln18, ↓aI19, ↓sI19, ↓ln19, ↓rc8, ↓gI8_4, ↓gI8_5, ↓gI8_6, ↓pI8_4, ↓pI8_5, ↓pZ8_6, ↓gR8_0, ↓gR8_1, ↓gR8_2, ↓gR8_3, ↓aI9, ↓sI9, ↓ln9, ↓aI10, ↓sI10, ↓ln10, ↓aI11, ↓sI11, ↓ln11, ↓aI12, ↓sI12, ↓ln12, ↓c_I, ↓c_J, ↓c_Q, ↓c_V, ↓c_It, ↓c_Jt, ↓c_Vt, ↓k_I, ↓k_J, ↓n_I, ↓n_V, li0, li1, li2, li3, li4, li5, li6, li7, li8, li9, li10, li11, li12, li13, li14, li15, li16, li17, li18, li19, li20, li21, li22, li23, li24, li25, li26, li27, li28, li29, li30, li31, li32, li33, li34, li35, li36, li37, li38, li39, li40, li41, li42, li44, li48, li57, li63, li64, li65, li97, li99, li100, li101, li102, li104, li105, li106, li109, li114, li120, li128, li130, li300, li514, li999, li1000, li8192, li9999, li65536, li1000000, li1000001, li1000002, li1000003, li1000004, li1000005, li1000006, li1000007, li1000008, li1000009, li1000010, li1000011, li1000012, li1000013, li1000014, li1000015, li1000016, li1000017, li1000018, li1000019, li2147483647, lj0, lj1, W_add, W_sub, W_mul, W_neg, V_add, V_sub, V_mul, V_neg, W_ite, W_le, W_lt, W_inj, V_le, V_lt, V_inj, W_V, V_W, lgc_ge, lgc_gt, lgc_le, lgc_lt, lgc_eq, ge_iff_le, gt_iff_lt, n0, ↓reduceIte]
    · have n1 : ¬ (i ≤ k) := by omega
      have hnext := ih (k + 1) (by omega) (by omega)
      have hc : ((k + 1 : Nat) : Int) = (k : Int) + 1 := by omega
      rw [hc] at hnext
      have e1 := e_hasStart (J := J) (b := b) (c := c) hA hM (i := k) (ax := mx) (by omega) (by omega) (by omega) (by omega)
      have e2 := e_hasStart (J := J) (b := b) (c := c) hA hM (i := k) (ax := 1 - mx) (by omega) (by omega) (by omega) (by omega)
      have hb1 := hb k (by omega)
      have hl : lst A st mx i (k + 1) = cif (hs A k mx ∧ ¬ hs A k (1 - mx) ∧ st k mx = itf A i mx 2) (max (lst A st mx i k) (st k (1 - mx) + 1)) (lst A st mx i k) := rfl
      by_cases h1 : hs A k mx
      · rw [bb_pos h1] at e1
        have hPk := hP k (by omega) (by omega) h1
        obtain ⟨t1, t2, t3⟩ := ht k (by omega) (by omega) hPk mx (by omega) (by omega)
        obtain ⟨u1, u2, u3⟩ := ht k (by omega) (by omega) hPk (1 - mx) (by omega) (by omega)
        have f1 := e_firstTrack (I := I) (J := J) (b := b) (c := c) (i := k) (ax := mx) (by omega) (by omega) (by omega) (by omega)
        have f2 := e_firstTrack (I := I) (J := J) (b := b) (c := c) (i := k) (ax := 1 - mx) (by omega) (by omega) (by omega) (by omega)
        rw [t1] at f1
        rw [u1] at f2
        have ri := (hA.2.2.2.2.2 i mx i0 i1 (by omega) (by omega)).2.1
        by_cases h2 : hs A k (1 - mx)
        · rw [bb_pos h2] at e2
          rw [cif_neg (fun h => h.2.1 h2)] at hl
          rw [hl] at hnext
          simp (disch := first | assumption | omega) only [f_X5_firstSparseSide_b5, f_X5_firstSparseSide_b41, f_X5_firstSparseSide_b42, f_X5_firstSparseSide_b80, ↓rc16, ↓gI16_4, ↓gI16_5, ↓gI16_6, ↓gI16_7, ↓gI16_8, ↓pI16_4, ↓pI16_5, ↓pI16_6, ↓pI16_7, ↓pI16_8, ↓gR16_0, ↓gR16_1, ↓gR16_2, ↓gR16_3, ↓aI17, ↓sI17, ↓ln17, ↓aI18, ↓sZ18, ↓ln18, ↓aI19, ↓sI19, ↓ln19, ↓rc8, ↓gI8_4, ↓gI8_5, ↓gI8_6, ↓pI8_4, ↓pI8_5, ↓pZ8_6, ↓gR8_0, ↓gR8_1, ↓gR8_2, ↓gR8_3, ↓aI9, ↓sI9, ↓ln9, ↓aI10, ↓sI10, ↓ln10, ↓aI11, ↓sI11, ↓ln11, ↓aI12, ↓sI12, ↓ln12, ↓c_I, ↓c_J, ↓c_Q, ↓c_V, ↓c_It, ↓c_Jt, ↓c_Vt, ↓k_I, ↓k_J, ↓n_I, ↓n_V, li0, li1, li2, li3, li4, li5, li6, li7, li8, li9, li10, li11, li12, li13, li14, li15, li16, li17, li18, li19, li20, li21, li22, li23, li24, li25, li26, li27, li28, li29, li30, li31, li32, li33, li34, li35, li36, li37, li38, li39, li40, li41, li42, li44, li48, li57, li63, li64, li65, li97, li99, li100, li101, li102, li104, li105, li106, li109, li114, li120, li128, li130, li300, li514, li999, li1000, li8192, li9999, li65536, li1000000, li1000001, li1000002, li1000003, li1000004, li1000005, li1000006, li1000007, li1000008, li1000009, li1000010, li1000011, li1000012, li1000013, li1000014, li1000015, li1000016, li1000017, li1000018, li1000019, li2147483647, lj0, lj1, W_add, W_sub, W_mul, W_neg, V_add, V_sub, V_mul, V_neg, W_ite, W_le, W_lt, W_inj, V_le, V_lt, V_inj, W_V, V_W, lgc_ge, lgc_gt, lgc_le, lgc_lt, lgc_eq, ge_iff_le, gt_iff_lt, n1, e1, e2, g1, g2, Int.reduceEq, ↓reduceIte, hnext]
        · rw [bb_neg h2] at e2
          by_cases h3 : st k mx = itf A i mx 2
          · rw [cif_pos ⟨h1, h2, h3⟩] at hl
            rw [hl] at hnext
            have hmax : (if lst A st mx i k < st k (1 - mx) + 1 then st k (1 - mx) + 1 else lst A st mx i k) = max (lst A st mx i k) (st k (1 - mx) + 1) := by
              split <;> omega
            simp (disch := first | assumption | omega) only [f_X5_firstSparseSide_b5, f_X5_firstSparseSide_b41, f_X5_firstSparseSide_b42, f_X5_firstSparseSide_b80, ↓rc16, ↓gI16_4, ↓gI16_5, ↓gI16_6, ↓gI16_7, ↓gI16_8, ↓pI16_4, ↓pI16_5, ↓pI16_6, ↓pI16_7, ↓pI16_8, ↓gR16_0, ↓gR16_1, ↓gR16_2, ↓gR16_3, ↓aI17, ↓sI17, ↓ln17, ↓aI18, ↓sZ18, ↓ln18, ↓aI19, ↓sI19, ↓ln19, ↓rc8, ↓gI8_4, ↓gI8_5, ↓gI8_6, ↓pI8_4, ↓pI8_5, ↓pZ8_6, ↓gR8_0, ↓gR8_1, ↓gR8_2, ↓gR8_3, ↓aI9, ↓sI9, ↓ln9, ↓aI10, ↓sI10, ↓ln10, ↓aI11, ↓sI11, ↓ln11, ↓aI12, ↓sI12, ↓ln12, ↓c_I, ↓c_J, ↓c_Q, ↓c_V, ↓c_It, ↓c_Jt, ↓c_Vt, ↓k_I, ↓k_J, ↓n_I, ↓n_V, li0, li1, li2, li3, li4, li5, li6, li7, li8, li9, li10, li11, li12, li13, li14, li15, li16, li17, li18, li19, li20, li21, li22, li23, li24, li25, li26, li27, li28, li29, li30, li31, li32, li33, li34, li35, li36, li37, li38, li39, li40, li41, li42, li44, li48, li57, li63, li64, li65, li97, li99, li100, li101, li102, li104, li105, li106, li109, li114, li120, li128, li130, li300, li514, li999, li1000, li8192, li9999, li65536, li1000000, li1000001, li1000002, li1000003, li1000004, li1000005, li1000006, li1000007, li1000008, li1000009, li1000010, li1000011, li1000012, li1000013, li1000014, li1000015, li1000016, li1000017, li1000018, li1000019, li2147483647, lj0, lj1, W_add, W_sub, W_mul, W_neg, V_add, V_sub, V_mul, V_neg, W_ite, W_le, W_lt, W_inj, V_le, V_lt, V_inj, W_V, V_W, lgc_ge, lgc_gt, lgc_le, lgc_lt, lgc_eq, ge_iff_le, gt_iff_lt, n1, e1, e2, g1, g2, f1, f2, h3, hmax, Int.reduceEq, ↓reduceIte, hnext]
          · rw [cif_neg (fun h => h3 h.2.2)] at hl
            rw [hl] at hnext
            simp (disch := first | assumption | omega) only [f_X5_firstSparseSide_b5, f_X5_firstSparseSide_b41, f_X5_firstSparseSide_b42, f_X5_firstSparseSide_b80, ↓rc16, ↓gI16_4, ↓gI16_5, ↓gI16_6, ↓gI16_7, ↓gI16_8, ↓pI16_4, ↓pI16_5, ↓pI16_6, ↓pI16_7, ↓pI16_8, ↓gR16_0, ↓gR16_1, ↓gR16_2, ↓gR16_3, ↓aI17, ↓sI17, ↓ln17, ↓aI18, ↓sZ18, ↓ln18, ↓aI19, ↓sI19, ↓ln19, ↓rc8, ↓gI8_4, ↓gI8_5, ↓gI8_6, ↓pI8_4, ↓pI8_5, ↓pZ8_6, ↓gR8_0, ↓gR8_1, ↓gR8_2, ↓gR8_3, ↓aI9, ↓sI9, ↓ln9, ↓aI10, ↓sI10, ↓ln10, ↓aI11, ↓sI11, ↓ln11, ↓aI12, ↓sI12, ↓ln12, ↓c_I, ↓c_J, ↓c_Q, ↓c_V, ↓c_It, ↓c_Jt, ↓c_Vt, ↓k_I, ↓k_J, ↓n_I, ↓n_V, li0, li1, li2, li3, li4, li5, li6, li7, li8, li9, li10, li11, li12, li13, li14, li15, li16, li17, li18, li19, li20, li21, li22, li23, li24, li25, li26, li27, li28, li29, li30, li31, li32, li33, li34, li35, li36, li37, li38, li39, li40, li41, li42, li44, li48, li57, li63, li64, li65, li97, li99, li100, li101, li102, li104, li105, li106, li109, li114, li120, li128, li130, li300, li514, li999, li1000, li8192, li9999, li65536, li1000000, li1000001, li1000002, li1000003, li1000004, li1000005, li1000006, li1000007, li1000008, li1000009, li1000010, li1000011, li1000012, li1000013, li1000014, li1000015, li1000016, li1000017, li1000018, li1000019, li2147483647, lj0, lj1, W_add, W_sub, W_mul, W_neg, V_add, V_sub, V_mul, V_neg, W_ite, W_le, W_lt, W_inj, V_le, V_lt, V_inj, W_V, V_W, lgc_ge, lgc_gt, lgc_le, lgc_lt, lgc_eq, ge_iff_le, gt_iff_lt, n1, e1, e2, g1, g2, f1, f2, h3, Int.reduceEq, ↓reduceIte, hnext]
      · rw [bb_neg h1] at e1
        rw [cif_neg (fun h => h1 h.1)] at hl
        rw [hl] at hnext
        simp (disch := first | assumption | omega) only [f_X5_firstSparseSide_b5, f_X5_firstSparseSide_b41, f_X5_firstSparseSide_b42, f_X5_firstSparseSide_b80, ↓rc16, ↓gI16_4, ↓gI16_5, ↓gI16_6, ↓gI16_7, ↓gI16_8, ↓pI16_4, ↓pI16_5, ↓pI16_6, ↓pI16_7, ↓pI16_8, ↓gR16_0, ↓gR16_1, ↓gR16_2, ↓gR16_3, ↓aI17, ↓sI17, ↓ln17, ↓aI18, ↓sZ18, ↓ln18, ↓aI19, ↓sI19, ↓ln19, ↓rc8, ↓gI8_4, ↓gI8_5, ↓gI8_6, ↓pI8_4, ↓pI8_5, ↓pZ8_6, ↓gR8_0, ↓gR8_1, ↓gR8_2, ↓gR8_3, ↓aI9, ↓sI9, ↓ln9, ↓aI10, ↓sI10, ↓ln10, ↓aI11, ↓sI11, ↓ln11, ↓aI12, ↓sI12, ↓ln12, ↓c_I, ↓c_J, ↓c_Q, ↓c_V, ↓c_It, ↓c_Jt, ↓c_Vt, ↓k_I, ↓k_J, ↓n_I, ↓n_V, li0, li1, li2, li3, li4, li5, li6, li7, li8, li9, li10, li11, li12, li13, li14, li15, li16, li17, li18, li19, li20, li21, li22, li23, li24, li25, li26, li27, li28, li29, li30, li31, li32, li33, li34, li35, li36, li37, li38, li39, li40, li41, li42, li44, li48, li57, li63, li64, li65, li97, li99, li100, li101, li102, li104, li105, li106, li109, li114, li120, li128, li130, li300, li514, li999, li1000, li8192, li9999, li65536, li1000000, li1000001, li1000002, li1000003, li1000004, li1000005, li1000006, li1000007, li1000008, li1000009, li1000010, li1000011, li1000012, li1000013, li1000014, li1000015, li1000016, li1000017, li1000018, li1000019, li2147483647, lj0, lj1, W_add, W_sub, W_mul, W_neg, V_add, V_sub, V_mul, V_neg, W_ite, W_le, W_lt, W_inj, V_le, V_lt, V_inj, W_V, V_W, lgc_ge, lgc_gt, lgc_le, lgc_lt, lgc_eq, ge_iff_le, gt_iff_lt, n1, e1, e2, g1, g2, Int.reduceEq, ↓reduceIte, hnext]
theorem e_main72 {I : CF} {mx i m : Int} {P : Int → Prop} {st : CF} {Bm Bs : Int} {k2 : HP → Nat → Int32 → Option XR} (hW : PW I A mx P st) (hB : pB A st mx P Bm Bs) (hBs : Bs ≤ 61) (i0 : 0 ≤ i) (i1 : i < nit A) (m0 : 1 ≤ m) (m1 : m ≤ 100) :
    ∀ (fuel : Nat) (s : Int), Bs + 1 - s < fuel → 1 ≤ s → s ≤ Bs + 1 → ∃ y, f_X5_placeWithMainStart_L72 k2 fuel (Sx I J b c) 16 (iW i) (iW m) (iW s) = f_X5_placeWithMainStart_b94 k2 (Sx I J b c) 16 (iW i) (iW m) (iW y) ∧ FO (fun s => s + 1) (fun s => free A st mx P i m s) s y ∧ s ≤ y ∧ y ≤ Bs + 1 := by
  intro fuel
  induction fuel with
  | zero => intro s a1 a2; omega
  | succ fuel ih =>
    intro s a1 a2 a3
    show ∃ y, f_X5_placeWithMainStart_b72 k2 (f_X5_placeWithMainStart_L72 k2 fuel) (Sx I J b c) 16 (iW i) (iW m) (iW s) = _ ∧ _
    have n1 : ¬ (64 ≤ s) := by omega
    have e1 := e_isFree (J := J) (b := b) (c := c) hW (i := i) (m := m) (s := s) i0 i1 (by omega) (by omega) (by omega) (by omega)
    by_cases hf : free A st mx P i m s
    · rw [bb_pos hf] at e1
      refine ⟨s, ?_, FO.here hf, by omega, a3⟩
      simp (disch := first | assumption | omega) only [f_X5_placeWithMainStart_b72, ↓rc16, ↓gI16_4, ↓gI16_5, ↓gI16_6, ↓gI16_7, ↓gI16_8, ↓pI16_4, ↓pI16_5, ↓pI16_6, ↓pI16_7, ↓pI16_8, ↓gR16_0, ↓gR16_1, ↓gR16_2, ↓gR16_3, ↓aI17, ↓sI17, ↓ln17, ↓aI18, ↓sZ18, ↓ln18, ↓aI19, ↓sI19, ↓ln19, ↓rc8, ↓gI8_4, ↓gI8_5, ↓gI8_6, ↓pI8_4, ↓pI8_5, ↓pZ8_6, ↓gR8_0, ↓gR8_1, ↓gR8_2, ↓gR8_3, ↓aI9, ↓sI9, ↓ln9, ↓aI10, ↓sI10, ↓ln10, ↓aI11, ↓sI11, ↓ln11, ↓aI12, ↓sI12, ↓ln12, ↓c_I, ↓c_J, ↓c_Q, ↓c_V, ↓c_It, ↓c_Jt, ↓c_Vt, ↓k_I, ↓k_J, ↓n_I, ↓n_V, li0, li1, li2, li3, li4, li5, li6, li7, li8, li9, li10, li11, li12, li13, li14, li15, li16, li17, li18, li19, li20, li21, li22, li23, li24, li25, li26, li27, li28, li29, li30, li31, li32, li33, li34, li35, li36, li37, li38, li39, li40, li41, li42, li44, li48, li57, li63, li64, li65, li97, li99, li100, li101, li102, li104, li105, li106, li109, li114, li120, li128, li130, li300, li514, li999, li1000, li8192, li9999, li65536, li1000000, li1000001, li1000002, li1000003, li1000004, li1000005, li1000006, li1000007, li1000008, li1000009, li1000010, li1000011, li1000012, li1000013, li1000014, li1000015, li1000016, li1000017, li1000018, li1000019, li2147483647, lj0, lj1, W_add, W_sub, W_mul, W_neg, V_add, V_sub, V_mul, V_neg, W_ite, W_le, W_lt, W_inj, V_le, V_lt, V_inj, W_V, V_W, lgc_ge, lgc_gt, lgc_le, lgc_lt, lgc_eq, ge_iff_le, gt_iff_lt, n1, e1, Int.reduceEq, ↓reduceIte]
    · rw [bb_neg hf] at e1
      have hlt : s ≤ Bs := by
        apply Classical.byContradiction
        intro hh
        exact hf (free_far hB (Or.inr (by omega)))
      obtain ⟨y, k1, k2', k3, k4⟩ := ih (s + 1) (by omega) (by omega) (by omega)
      refine ⟨y, ?_, FO.next hf k2', by omega, k4⟩
      rw [← k1]
      simp (disch := first | assumption | omega) only [f_X5_placeWithMainStart_b72, ↓rc16, ↓gI16_4, ↓gI16_5, ↓gI16_6, ↓gI16_7, ↓gI16_8, ↓pI16_4, ↓pI16_5, ↓pI16_6, ↓pI16_7, ↓pI16_8, ↓gR16_0, ↓gR16_1, ↓gR16_2, ↓gR16_3, ↓aI17, ↓sI17, ↓ln17, ↓aI18, ↓sZ18, ↓ln18, ↓aI19, ↓sI19, ↓ln19, ↓rc8, ↓gI8_4, ↓gI8_5, ↓gI8_6, ↓pI8_4, ↓pI8_5, ↓pZ8_6, ↓gR8_0, ↓gR8_1, ↓gR8_2, ↓gR8_3, ↓aI9, ↓sI9, ↓ln9, ↓aI10, ↓sI10, ↓ln10, ↓aI11, ↓sI11, ↓ln11, ↓aI12, ↓sI12, ↓ln12, ↓c_I, ↓c_J, ↓c_Q, ↓c_V, ↓c_It, ↓c_Jt, ↓c_Vt, ↓k_I, ↓k_J, ↓n_I, ↓n_V, li0, li1, li2, li3, li4, li5, li6, li7, li8, li9, li10, li11, li12, li13, li14, li15, li16, li17, li18, li19, li20, li21, li22, li23, li24, li25, li26, li27, li28, li29, li30, li31, li32, li33, li34, li35, li36, li37, li38, li39, li40, li41, li42, li44, li48, li57, li63, li64, li65, li97, li99, li100, li101, li102, li104, li105, li106, li109, li114, li120, li128, li130, li300, li514, li999, li1000, li8192, li9999, li65536, li1000000, li1000001, li1000002, li1000003, li1000004, li1000005, li1000006, li1000007, li1000008, li1000009, li1000010, li1000011, li1000012, li1000013, li1000014, li1000015, li1000016, li1000017, li1000018, li1000019, li2147483647, lj0, lj1, W_add, W_sub, W_mul, W_neg, V_add, V_sub, V_mul, V_neg, W_ite, W_le, W_lt, W_inj, V_le, V_lt, V_inj, W_V, V_W, lgc_ge, lgc_gt, lgc_le, lgc_lt, lgc_eq, ge_iff_le, gt_iff_lt, n1, e1, ↓reduceIte]
theorem e_main_L {mx : Int} : ∀ (fuel : Nat) (n : Nat) (I : CF), nit A - n < fuel → (n : Int) ≤ nit A → PW I A mx (pP2 A mx n) (pS2 A mx n) → pB A (pS2 A mx n) mx (pP2 A mx n) 15 (15 + 4 * n) →
    ∃ I', f_X5_placeWithMainStart_L2 fuel (Sx I J b c) 16 (iW n) = some (Sx I' J b c, xv) ∧ PW I' A mx (pP2 A mx (nit A)) (pS2 A mx (nit A).toNat) ∧ pB A (pS2 A mx (nit A).toNat) mx (pP2 A mx (nit A)) 15 (15 + 4 * nit A) ∧ ∀ a, a < 17 ∨ 18 < a → I' a = I a := by
  intro fuel
  induction fuel with
  | zero => intro n I a1 a2; omega
  | succ fuel ih =>
    intro n I a1 a2 hW hB
    show ∃ I', f_X5_placeWithMainStart_b2 (f_X5_placeWithMainStart_L2 fuel) (Sx I J b c) 16 (iW n) = _ ∧ _
    have hW' := hW
    obtain ⟨hA, hm, hM, g1, g2, hp, ht⟩ := hW'
    have hN := hA.1
    have hN2 : I 8 4 = nit A := hM.2.2.2.2.1
    have hD : I 8 6 = A 4 2 := hM.2.2.2.2.2.2
    have hA2 := hA.2.2.1
    by_cases hk : (n : Int) = nit A
    · rw [show (nit A).toNat = n by omega, ← hk]
      refine ⟨I, ?_, hW, hB, fun _ _ => rfl⟩
      have n0 : nit A ≤ (n : Int) := by omega
      simp (disch := first | assumption | omega) only [f_X5_placeWithMainStart_b2, ↓rc16, ↓gI16_4, ↓gI16_5, ↓gI16_6, ↓gI16_7, ↓gI16_8, ↓pI16_4, ↓pI16_5, ↓pI16_6, ↓pI16_7, ↓pI16_8, ↓gR16_0, ↓gR16_1, ↓gR16_2, ↓gR16_3, ↓aI17, ↓sI17, ↓ln17, ↓aI18, ↓sZ18, ↓ln18, ↓aI19, ↓sI19, ↓ln19, ↓rc8, ↓gI8_4, ↓gI8_5, ↓gI8_6, ↓pI8_4, ↓pI8_5, ↓pZ8_6, ↓gR8_0, ↓gR8_1, ↓gR8_2, ↓gR8_3, ↓aI9, ↓sI9, ↓ln9, ↓aI10, ↓sI10, ↓ln10, ↓aI11, ↓sI11, ↓ln11, ↓aI12, ↓sI12, ↓ln12, ↓c_I, ↓c_J, ↓c_Q, ↓c_V, ↓c_It, ↓c_Jt, ↓c_Vt, ↓k_I, ↓k_J, ↓n_I, ↓n_V, li0, li1, li2, li3, li4, li5, li6, li7, li8, li9, li10, li11, li12, li13, li14, li15, li16, li17, li18, li19, li20, li21, li22, li23, li24, li25, li26, li27, li28, li29, li30, li31, li32, li33, li34, li35, li36, li37, li38, li39, li40, li41, li42, li44, li48, li57, li63, li64, li65, li97, li99, li100, li101, li102, li104, li105, li106, li109, li114, li120, li128, li130, li300, li514, li999, li1000, li8192, li9999, li65536, li1000000, li1000001, li1000002, li1000003, li1000004, li1000005, li1000006, li1000007, li1000008, li1000009, li1000010, li1000011, li1000012, li1000013, li1000014, li1000015, li1000016, li1000017, li1000018, li1000019, li2147483647, lj0, lj1, W_add, W_sub, W_mul, W_neg, V_add, V_sub, V_mul, V_neg, W_ite, W_le, W_lt, W_inj, V_le, V_lt, V_inj, W_V, V_W, lgc_ge, lgc_gt, lgc_le, lgc_lt, lgc_eq, ge_iff_le, gt_iff_lt, hN2, n0, ↓reduceIte]
    · have n1 : ¬ (nit A ≤ (n : Int)) := by omega
      have hc : ((n + 1 : Nat) : Int) = (n : Int) + 1 := by omega
      have e1 := e_hasStart (J := J) (b := b) (c := c) hA hM (i := n) (ax := mx) (by omega) (by omega) (by omega) (by omega)
      have e2 := e_hasStart (J := J) (b := b) (c := c) hA hM (i := n) (ax := 1 - mx) (by omega) (by omega) (by omega) (by omega)
      by_cases hP : hs A n mx ∧ ¬ hs A n (1 - mx)
      · have i1 := e_itemField (J := J) (b := b) (c := c) hM (show (0 : Int) ≤ n by omega) (show (n : Int) < 12 by omega) (ax := mx) (by omega) (by omega) (f := 2) (by omega) (by omega)
        have r1 := (hA.2.2.2.2.2 n mx (by omega) (by omega) (by omega) (by omega)).2.1
        have r3 := (hA.2.2.2.2.2 n mx (by omega) (by omega) (by omega) (by omega)).2.2.1
        have r4 := (hA.2.2.2.2.2 n (1 - mx) (by omega) (by omega) (by omega) (by omega)).2.2.1
        have hh1 : itf A n mx 2 ≠ -1 := hP.1
        have hbl : ∀ k : Nat, (k : Int) ≤ n → 1 ≤ lst A (pS2 A mx n) mx n k ∧ lst A (pS2 A mx n) mx n k ≤ 15 + 4 * n + 1 := fun k hk => lst_bd hB hA hm (by omega) k (by omega) (fun j j0 j1 h => ⟨h, Or.inr (by omega)⟩)
        have sp := e_sparse_L (J := J) (b := b) (c := c) hW (i := n) (by omega) (by omega) (fun j j0 j1 h => ⟨h, Or.inr j1⟩) (fun k hk => by have := hbl k hk; omega) hP.1 FU 0 (by unfold FU; omega) (by omega)
        have sp : f_X5_firstSparseSide (Sx I J b c) 16 (iW n) (iW (itf A n mx 2)) = _ := sp
        rw [Int.toNat_natCast] at sp
        have hs0 : ∃ s0, s0 = (if A 4 2 = 0 then lst A (pS2 A mx n) mx n n else 1) ∧ 1 ≤ s0 ∧ s0 ≤ 15 + 4 * n + 1 := ⟨_, rfl, by have := hbl n (by omega); split <;> omega⟩
        obtain ⟨s0, es0, s01, s02⟩ := hs0
        obtain ⟨y, z1, z2, z3, z4⟩ := e_main72 (J := J) (b := b) (c := c) (m := itf A n mx 2) (k2 := f_X5_placeWithMainStart_L2 fuel) hW hB (by omega) (i := n) (by omega) (by omega) (by omega) (by omega) FU s0 (by unfold FU; omega) s01 s02
        have hpS : pS2 A mx (n + 1) = put (pS2 A mx n) n mx (itf A n mx 2) y := by
          show cif _ _ _ = _
          rw [cif_pos hP, ← es0, fo_eq z2]
        have hQ : ∀ k, 0 ≤ k → k < nit A → (pP2 A mx ((n + 1 : Nat) : Int) k ↔ pP2 A mx n k ∨ k = n) := by
          intro k k0 k1
          unfold pP2
          constructor
          · rintro ⟨h1, h2 | h2⟩
            · exact Or.inl ⟨h1, Or.inl h2⟩
            · by_cases e : k = n
              · exact Or.inr e
              · exact Or.inl ⟨h1, Or.inr (by omega)⟩
          · rintro (⟨h1, h2 | h2⟩ | rfl)
            · exact ⟨h1, Or.inl h2⟩
            · exact ⟨h1, Or.inr (by omega)⟩
            · exact ⟨hP.1, Or.inr (by omega)⟩
        have hW2 := pput_W (m := itf A n mx 2) (s := y) hW (i := n) (by omega) (by omega) (by omega) (by omega) (by omega) (by omega) hQ
        rw [← hpS] at hW2
        have hB2 : pB A (pS2 A mx (n + 1)) mx (pP2 A mx ((n + 1 : Nat) : Int)) 15 (15 + 4 * ((n + 1 : Nat) : Int)) := by
          rw [hpS]
          exact pB_put hm (hB.mono (Int.le_refl _) (by omega)) (by omega) (by omega) (fun k k0 k1 h => (hQ k k0 k1).mp h)
        have p1 := e_putAt (I := I) (J := J) (b := b) (c := c) (m := itf A n mx 2) (s := y) hm g1 g2 (show (0 : Int) ≤ n by omega) (show (n : Int) < 12 by omega)
        obtain ⟨I', k1, k2, k3, k4⟩ := ih (n + 1) _ (by omega) (by omega) hW2 hB2
        refine ⟨I', ?_, k2, k3, fun a ha => ?_⟩
        · rw [← k1, hc]
          have z1' : f_X5_placeWithMainStart_L72 (f_X5_placeWithMainStart_L2 fuel) FU (Sx I J b c) 16 (iW n) (iW (itf A n mx 2)) (iW s0) = f_X5_placeWithMainStart_L2 fuel (Sx (pput I n mx (itf A n mx 2) y) J b c) 16 (iW (n + 1)) := by
            rw [z1]
            simp (disch := first | assumption | omega) only [f_X5_placeWithMainStart_b94, f_X5_placeWithMainStart_b101, ↓rc16, ↓gI16_4, ↓gI16_5, ↓gI16_6, ↓gI16_7, ↓gI16_8, ↓pI16_4, ↓pI16_5, ↓pI16_6, ↓pI16_7, ↓pI16_8, ↓gR16_0, ↓gR16_1, ↓gR16_2, ↓gR16_3, ↓aI17, ↓sI17, ↓ln17, ↓aI18, ↓sZ18, ↓ln18, ↓aI19, ↓sI19, ↓ln19, ↓rc8, ↓gI8_4, ↓gI8_5, ↓gI8_6, ↓pI8_4, ↓pI8_5, ↓pZ8_6, ↓gR8_0, ↓gR8_1, ↓gR8_2, ↓gR8_3, ↓aI9, ↓sI9, ↓ln9, ↓aI10, ↓sI10, ↓ln10, ↓aI11, ↓sI11, ↓ln11, ↓aI12, ↓sI12, ↓ln12, ↓c_I, ↓c_J, ↓c_Q, ↓c_V, ↓c_It, ↓c_Jt, ↓c_Vt, ↓k_I, ↓k_J, ↓n_I, ↓n_V, li0, li1, li2, li3, li4, li5, li6, li7, li8, li9, li10, li11, li12, li13, li14, li15, li16, li17, li18, li19, li20, li21, li22, li23, li24, li25, li26, li27, li28, li29, li30, li31, li32, li33, li34, li35, li36, li37, li38, li39, li40, li41, li42, li44, li48, li57, li63, li64, li65, li97, li99, li100, li101, li102, li104, li105, li106, li109, li114, li120, li128, li130, li300, li514, li999, li1000, li8192, li9999, li65536, li1000000, li1000001, li1000002, li1000003, li1000004, li1000005, li1000006, li1000007, li1000008, li1000009, li1000010, li1000011, li1000012, li1000013, li1000014, li1000015, li1000016, li1000017, li1000018, li1000019, li2147483647, lj0, lj1, W_add, W_sub, W_mul, W_neg, V_add, V_sub, V_mul, V_neg, W_ite, W_le, W_lt, W_inj, V_le, V_lt, V_inj, W_V, V_W, lgc_ge, lgc_gt, lgc_le, lgc_lt, lgc_eq, ge_iff_le, gt_iff_lt, p1]
          rw [bb_pos hP.1] at e1
          rw [bb_neg hP.2] at e2
          by_cases hd : A 4 2 = 0
          · rw [if_pos hd] at es0
            rw [← es0] at sp
            simp (disch := first | assumption | omega) only [f_X5_placeWithMainStart_b2, f_X5_placeWithMainStart_b71, ↓rc16, ↓gI16_4, ↓gI16_5, ↓gI16_6, ↓gI16_7, ↓gI16_8, ↓pI16_4, ↓pI16_5, ↓pI16_6, ↓pI16_7, ↓pI16_8, ↓gR16_0, ↓gR16_1, ↓gR16_2, ↓gR16_3, ↓aI17, ↓sI17, ↓ln17, ↓aI18, ↓sZ18, ↓ln18, ↓aI19, ↓sI19, ↓ln19, ↓rc8, ↓gI8_4, ↓gI8_5, ↓gI8_6, ↓pI8_4, ↓pI8_5, ↓pZ8_6, ↓gR8_0, ↓gR8_1, ↓gR8_2, ↓gR8_3, ↓aI9, ↓sI9, ↓ln9, ↓aI10, ↓sI10, ↓ln10, ↓aI11, ↓sI11, ↓ln11, ↓aI12, ↓sI12, ↓ln12, ↓c_I, ↓c_J, ↓c_Q, ↓c_V, ↓c_It, ↓c_Jt, ↓c_Vt, ↓k_I, ↓k_J, ↓n_I, ↓n_V, li0, li1, li2, li3, li4, li5, li6, li7, li8, li9, li10, li11, li12, li13, li14, li15, li16, li17, li18, li19, li20, li21, li22, li23, li24, li25, li26, li27, li28, li29, li30, li31, li32, li33, li34, li35, li36, li37, li38, li39, li40, li41, li42, li44, li48, li57, li63, li64, li65, li97, li99, li100, li101, li102, li104, li105, li106, li109, li114, li120, li128, li130, li300, li514, li999, li1000, li8192, li9999, li65536, li1000000, li1000001, li1000002, li1000003, li1000004, li1000005, li1000006, li1000007, li1000008, li1000009, li1000010, li1000011, li1000012, li1000013, li1000014, li1000015, li1000016, li1000017, li1000018, li1000019, li2147483647, lj0, lj1, W_add, W_sub, W_mul, W_neg, V_add, V_sub, V_mul, V_neg, W_ite, W_le, W_lt, W_inj, V_le, V_lt, V_inj, W_V, V_W, lgc_ge, lgc_gt, lgc_le, lgc_lt, lgc_eq, ge_iff_le, gt_iff_lt, hN2, hD, hd, n1, e1, e2, i1, g1, g2, sp, z1', Int.reduceEq, ↓reduceIte]
          · rw [if_neg hd] at es0
            rw [es0] at z1'
            simp (disch := first | assumption | omega) only [f_X5_placeWithMainStart_b2, f_X5_placeWithMainStart_b71, ↓rc16, ↓gI16_4, ↓gI16_5, ↓gI16_6, ↓gI16_7, ↓gI16_8, ↓pI16_4, ↓pI16_5, ↓pI16_6, ↓pI16_7, ↓pI16_8, ↓gR16_0, ↓gR16_1, ↓gR16_2, ↓gR16_3, ↓aI17, ↓sI17, ↓ln17, ↓aI18, ↓sZ18, ↓ln18, ↓aI19, ↓sI19, ↓ln19, ↓rc8, ↓gI8_4, ↓gI8_5, ↓gI8_6, ↓pI8_4, ↓pI8_5, ↓pZ8_6, ↓gR8_0, ↓gR8_1, ↓gR8_2, ↓gR8_3, ↓aI9, ↓sI9, ↓ln9, ↓aI10, ↓sI10, ↓ln10, ↓aI11, ↓sI11, ↓ln11, ↓aI12, ↓sI12, ↓ln12, ↓c_I, ↓c_J, ↓c_Q, ↓c_V, ↓c_It, ↓c_Jt, ↓c_Vt, ↓k_I, ↓k_J, ↓n_I, ↓n_V, li0, li1, li2, li3, li4, li5, li6, li7, li8, li9, li10, li11, li12, li13, li14, li15, li16, li17, li18, li19, li20, li21, li22, li23, li24, li25, li26, li27, li28, li29, li30, li31, li32, li33, li34, li35, li36, li37, li38, li39, li40, li41, li42, li44, li48, li57, li63, li64, li65, li97, li99, li100, li101, li102, li104, li105, li106, li109, li114, li120, li128, li130, li300, li514, li999, li1000, li8192, li9999, li65536, li1000000, li1000001, li1000002, li1000003, li1000004, li1000005, li1000006, li1000007, li1000008, li1000009, li1000010, li1000011, li1000012, li1000013, li1000014, li1000015, li1000016, li1000017, li1000018, li1000019, li2147483647, lj0, lj1, W_add, W_sub, W_mul, W_neg, V_add, V_sub, V_mul, V_neg, W_ite, W_le, W_lt, W_inj, V_le, V_lt, V_inj, W_V, V_W, lgc_ge, lgc_gt, lgc_le, lgc_lt, lgc_eq, ge_iff_le, gt_iff_lt, hN2, hD, hd, n1, e1, e2, i1, g1, g2, z1', Int.reduceEq, ↓reduceIte]
        · rw [k4 a ha]
          unfold pput
          rw [u_obj (by omega), u_obj (by omega), u_obj (by omega)]
      · have hpS : pS2 A mx (n + 1) = pS2 A mx n := cif_neg hP
        have hQ : ∀ k, 0 ≤ k → k < nit A → (pP2 A mx ((n + 1 : Nat) : Int) k ↔ pP2 A mx n k) := by
          intro k k0 k1
          unfold pP2
          constructor
          · rintro ⟨h1, h2 | h2⟩
            · exact ⟨h1, Or.inl h2⟩
            · by_cases e : k = n
              · subst e
                refine ⟨h1, Or.inl ?_⟩
                apply Classical.byContradiction
                intro h3
                exact hP ⟨h1, h3⟩
              · exact ⟨h1, Or.inr (by omega)⟩
          · rintro ⟨h1, h2 | h2⟩
            · exact ⟨h1, Or.inl h2⟩
            · exact ⟨h1, Or.inr (by omega)⟩
        obtain ⟨I', k1, k2, k3, k4⟩ := ih (n + 1) I (by omega) (by omega) (by rw [hpS]; exact hW.congr hQ) (by rw [hpS]; exact (hB.congr fun k k0 k1 h => (hQ k k0 k1).mp h).mono (Int.le_refl _) (by omega))
        refine ⟨I', ?_, k2, k3, k4⟩
        rw [← k1, hc]
        by_cases h1 : hs A n mx
        · have h2 : hs A n (1 - mx) := by
            apply Classical.byContradiction
            intro h3
            exact hP ⟨h1, h3⟩
          rw [bb_pos h1] at e1
          rw [bb_pos h2] at e2
          simp (disch := first | assumption | omega) only [f_X5_placeWithMainStart_b2, f_X5_placeWithMainStart_b101, ↓rc16, ↓gI16_4, ↓gI16_5, ↓gI16_6, ↓gI16_7, ↓gI16_8, ↓pI16_4, ↓pI16_5, ↓pI16_6, ↓pI16_7, ↓pI16_8, ↓gR16_0, ↓gR16_1, ↓gR16_2, ↓gR16_3, ↓aI17, ↓sI17, ↓ln17, ↓aI18, ↓sZ18, ↓ln18, ↓aI19, ↓sI19, ↓ln19, ↓rc8, ↓gI8_4, ↓gI8_5, ↓gI8_6, ↓pI8_4, ↓pI8_5, ↓pZ8_6, ↓gR8_0, ↓gR8_1, ↓gR8_2, ↓gR8_3, ↓aI9, ↓sI9, ↓ln9, ↓aI10, ↓sI10, ↓ln10, ↓aI11, ↓sI11, ↓ln11, ↓aI12, ↓sI12, ↓ln12, ↓c_I, ↓c_J, ↓c_Q, ↓c_V, ↓c_It, ↓c_Jt, ↓c_Vt, ↓k_I, ↓k_J, ↓n_I, ↓n_V, li0, li1, li2, li3, li4, li5, li6, li7, li8, li9, li10, li11, li12, li13, li14, li15, li16, li17, li18, li19, li20, li21, li22, li23, li24, li25, li26, li27, li28, li29, li30, li31, li32, li33, li34, li35, li36, li37, li38, li39, li40, li41, li42, li44, li48, li57, li63, li64, li65, li97, li99, li100, li101, li102, li104, li105, li106, li109, li114, li120, li128, li130, li300, li514, li999, li1000, li8192, li9999, li65536, li1000000, li1000001, li1000002, li1000003, li1000004, li1000005, li1000006, li1000007, li1000008, li1000009, li1000010, li1000011, li1000012, li1000013, li1000014, li1000015, li1000016, li1000017, li1000018, li1000019, li2147483647, lj0, lj1, W_add, W_sub, W_mul, W_neg, V_add, V_sub, V_mul, V_neg, W_ite, W_le, W_lt, W_inj, V_le, V_lt, V_inj, W_V, V_W, lgc_ge, lgc_gt, lgc_le, lgc_lt, lgc_eq, ge_iff_le, gt_iff_lt, hN2, n1, e1, e2, g1, g2, Int.reduceEq, ↓reduceIte]
        · rw [bb_neg h1] at e1
          simp (disch := first | assumption | omega) only [f_X5_placeWithMainStart_b2, f_X5_placeWithMainStart_b101, ↓rc16, ↓gI16_4, ↓gI16_5, ↓gI16_6, ↓gI16_7, ↓gI16_8, ↓pI16_4, ↓pI16_5, ↓pI16_6, ↓pI16_7, ↓pI16_8, ↓gR16_0, ↓gR16_1, ↓gR16_2, ↓gR16_3, ↓aI17, ↓sI17, ↓ln17, ↓aI18, ↓sZ18, ↓ln18, ↓aI19, ↓sI19, ↓ln19, ↓rc8, ↓gI8_4, ↓gI8_5, ↓gI8_6, ↓pI8_4, ↓pI8_5, ↓pZ8_6, ↓gR8_0, ↓gR8_1, ↓gR8_2, ↓gR8_3, ↓aI9, ↓sI9, ↓ln9, ↓aI10, ↓sI10, ↓ln10, ↓aI11, ↓sI11, ↓ln11, ↓aI12, ↓sI12, ↓ln12, ↓c_I, ↓c_J, ↓c_Q, ↓c_V, ↓c_It, ↓c_Jt, ↓c_Vt, ↓k_I, ↓k_J, ↓n_I, ↓n_V, li0, li1, li2, li3, li4, li5, li6, li7, li8, li9, li10, li11, li12, li13, li14, li15, li16, li17, li18, li19, li20, li21, li22, li23, li24, li25, li26, li27, li28, li29, li30, li31, li32, li33, li34, li35, li36, li37, li38, li39, li40, li41, li42, li44, li48, li57, li63, li64, li65, li97, li99, li100, li101, li102, li104, li105, li106, li109, li114, li120, li128, li130, li300, li514, li999, li1000, li8192, li9999, li65536, li1000000, li1000001, li1000002, li1000003, li1000004, li1000005, li1000006, li1000007, li1000008, li1000009, li1000010, li1000011, li1000012, li1000013, li1000014, li1000015, li1000016, li1000017, li1000018, li1000019, li2147483647, lj0, lj1, W_add, W_sub, W_mul, W_neg, V_add, V_sub, V_mul, V_neg, W_ite, W_le, W_lt, W_inj, V_le, V_lt, V_inj, W_V, V_W, lgc_ge, lgc_gt, lgc_le, lgc_lt, lgc_eq, ge_iff_le, gt_iff_lt, hN2, n1, e1, g1, g2, Int.reduceEq, ↓reduceIte]
/-! step 3 -/
theorem sct_bd {st : CF} {mx : Int} {P : Int → Prop} {Bm Bs : Int} (hB : pB A st mx P Bm Bs) (hA : okA A) (hm : mx = 0 ∨ mx = 1) (h0 : 15 ≤ Bs) (hP : ∀ k, 0 ≤ k → k < nit A → hs A k mx → P k) : ∀ n : Nat, (n : Int) ≤ nit A → 1 ≤ sct A st mx n ∧ sct A st mx n ≤ Bs ∧ ∀ k : Int, 0 ≤ k → k < n → itf A k (1 - mx) 3 ≤ sct A st mx n ∨ hs A k (1 - mx) ∨ hs A k mx := by
  intro n
  induction n with
  | zero =>
    intro _
    have := (hA.2.2.2.1 (1 - mx) (by omega) (by omega)).1
    unfold sct
    exact ⟨by omega, by omega, fun k k0 k1 => by omega⟩
  | succ n ih =>
    intro h1
    obtain ⟨a1, a2, a3⟩ := ih (by omega)
    have r := hA.2.2.2.2.2 n (1 - mx) (by omega) (by omega) (by omega) (by omega)
    unfold sct
    by_cases q1 : hs A n mx
    · rw [cif_pos q1]
      have h2 := hB n (by omega) (by omega) (hP n (by omega) (by omega) q1)
      refine ⟨by omega, by omega, fun k k0 k1 => ?_⟩
      by_cases e : k = n
      · subst e
        exact Or.inr (Or.inr q1)
      · have := a3 k k0 (by omega)
        rcases this with h | h | h
        · exact Or.inl (by omega)
        · exact Or.inr (Or.inl h)
        · exact Or.inr (Or.inr h)
    · rw [cif_neg q1]
      by_cases q2 : hs A n (1 - mx)
      · rw [cif_pos q2]
        have h3 := r.2.1
        have h4 := r.2.2.1
        have h5 : itf A n (1 - mx) 2 ≠ -1 := q2
        refine ⟨by omega, by omega, fun k k0 k1 => ?_⟩
        by_cases e : k = n
        · subst e
          exact Or.inr (Or.inl q2)
        · rcases a3 k k0 (by omega) with h | h | h
          · exact Or.inl (by omega)
          · exact Or.inr (Or.inl h)
          · exact Or.inr (Or.inr h)
      · rw [cif_neg q2]
        have h4 := r.2.2.1
        refine ⟨by omega, by omega, fun k k0 k1 => ?_⟩
        by_cases e : k = n
        · subst e
          exact Or.inl (by omega)
        · rcases a3 k k0 (by omega) with h | h | h
          · exact Or.inl (by omega)
          · exact Or.inr (Or.inl h)
          · exact Or.inr (Or.inr h)
theorem e_side_L {I : CF} {mx : Int} {P : Int → Prop} {st : CF} (hW : PW I A mx P st) (hP : ∀ k, 0 ≤ k → k < nit A → (P k ↔ hs A k mx)) (hb : ∀ n : Nat, (n : Int) ≤ nit A → 1 ≤ sct A st mx n ∧ sct A st mx n ≤ 1000) :
    ∀ (fuel : Nat) (k : Nat), nit A - k < fuel → (k : Int) ≤ nit A → f_X5_findSideCount_L18 fuel (Sx I J b c) 16 (iW (sct A st mx k)) (iW k) = some (Sx (uI I 16 6 (sct A st mx (nit A).toNat)) J b c, xv) := by
  obtain ⟨hA, hm, hM, g1, g2, hp, ht⟩ := hW
  have hN := hA.1
  have hN2 : I 8 4 = nit A := hM.2.2.2.2.1
  intro fuel
  induction fuel with
  | zero => intro k a1 a2; omega
  | succ fuel ih =>
    intro k a1 a2
    show f_X5_findSideCount_b18 (f_X5_findSideCount_L18 fuel) (Sx I J b c) 16 (iW (sct A st mx k)) (iW k) = _
    by_cases hk : (k : Int) = nit A
    · have n0 : nit A ≤ (k : Int) := by omega
      rw [show (nit A).toNat = k by omega]
      simp (disch := first | assumption | omega) only [f_X5_findSideCount_b18, ↓rc16, ↓gI16_4, ↓gI16_5, ↓gI16_6, ↓gI16_7, ↓gI16_8, ↓pI16_4, ↓pI16_5, ↓pI16_6, ↓pI16_7, ↓pI16_8, ↓gR16_0, ↓gR16_1, ↓gR16_2, ↓gR16_3, ↓aI17, ↓sI17, ↓ln17, ↓aI18, ↓sZ18, ↓ln18, ↓aI19, ↓sI19, ↓ln19, ↓rc8, ↓gI8_4, ↓gI8_5, ↓gI8_6, ↓pI8_4, ↓pI8_5, ↓pZ8_6, ↓gR8_0, ↓gR8_1, ↓gR8_2, ↓gR8_3, ↓aI9, ↓sI9, ↓ln9, ↓aI10, ↓sI10, ↓ln10, ↓aI11, ↓sI11, ↓ln11, ↓aI12, ↓sI12, ↓ln12, ↓c_I, ↓c_J, ↓c_Q, ↓c_V, ↓c_It, ↓c_Jt, ↓c_Vt, ↓k_I, ↓k_J, ↓n_I, ↓n_V, li0, li1, li2, li3, li4, li5, li6, li7, li8, li9, li10, li11, li12, li13, li14, li15, li16, li17, li18, li19, li20, li21, li22, li23, li24, li25, li26, li27, li28, li29, li30, li31, li32, li33, li34, li35, li36, li37, li38, li39, li40, li41, li42, li44, li48, li57, li63, li64, li65, li97, li99, li100, li101, li102, li104, li105, li106, li109, li114, li120, li128, li130, li300, li514, li999, li1000, li8192, li9999, li65536, li1000000, li1000001, li1000002, li1000003, li1000004, li1000005, li1000006, li1000007, li1000008, li1000009, li1000010, li1000011, li1000012, li1000013, li1000014, li1000015, li1000016, li1000017, li1000018, li1000019, li2147483647, lj0, lj1, W_add, W_sub, W_mul, W_neg, V_add, V_sub, V_mul, V_neg, W_ite, W_le, W_lt, W_inj, V_le, V_lt, V_inj, W_V, V_W, lgc_ge, lgc_gt, lgc_le, lgc_lt, lgc_eq, ge_iff_le, gt_iff_lt, hN2, n0, ↓reduceIte]
    · have n1 : ¬ (nit A ≤ (k : Int)) := by omega
      have hnext := ih (k + 1) (by omega) (by omega)
      have hc : ((k + 1 : Nat) : Int) = (k : Int) + 1 := by omega
      rw [hc] at hnext
      have hl : sct A st mx (k + 1) = max (sct A st mx k) (cif (hs A k mx) (st k (1 - mx)) (cif (hs A k (1 - mx)) (itf A k (1 - mx) 2) 1) + itf A k (1 - mx) 3 - 1) := rfl
      rw [hl] at hnext
      have hb1 := hb k (by omega)
      have r := hA.2.2.2.2.2 k (1 - mx) (by omega) (by omega) (by omega) (by omega)
      have r2 := r.2.1
      have r3 := r.2.2.1
      have i3 := e_itemField (J := J) (b := b) (c := c) hM (show (0 : Int) ≤ k by omega) (show (k : Int) < 12 by omega) (ax := 1 - mx) (by omega) (by omega) (f := 3) (by omega) (by omega)
      have i2 := e_itemField (J := J) (b := b) (c := c) hM (show (0 : Int) ≤ k by omega) (show (k : Int) < 12 by omega) (ax := 1 - mx) (by omega) (by omega) (f := 2) (by omega) (by omega)
      have e1 := e_isPlaced (I := I) (J := J) (b := b) (c := c) (P := P) (i := k) (by omega) (by omega) (hp k (by omega) (by omega))
      have e2 := e_hasStart (J := J) (b := b) (c := c) hA hM (i := k) (ax := 1 - mx) (by omega) (by omega) (by omega) (by omega)
      by_cases h1 : hs A k mx
      · have hPk := (hP k (by omega) (by omega)).mpr h1
        rw [bb_pos hPk] at e1
        rw [cif_pos h1] at hnext
        obtain ⟨u1, u2, u3⟩ := ht k (by omega) (by omega) hPk (1 - mx) (by omega) (by omega)
        have f2 := e_firstTrack (I := I) (J := J) (b := b) (c := c) (i := k) (ax := 1 - mx) (by omega) (by omega) (by omega) (by omega)
        rw [u1] at f2
        have hmax : (if sct A st mx k < st k (1 - mx) + itf A k (1 - mx) 3 - 1 then st k (1 - mx) + itf A k (1 - mx) 3 - 1 else sct A st mx k) = max (sct A st mx k) (st k (1 - mx) + itf A k (1 - mx) 3 - 1) := by
          split <;> omega
        simp (disch := first | assumption | omega) only [f_X5_findSideCount_b18, f_X5_findSideCount_b95, ↓rc16, ↓gI16_4, ↓gI16_5, ↓gI16_6, ↓gI16_7, ↓gI16_8, ↓pI16_4, ↓pI16_5, ↓pI16_6, ↓pI16_7, ↓pI16_8, ↓gR16_0, ↓gR16_1, ↓gR16_2, ↓gR16_3, ↓aI17, ↓sI17, ↓ln17, ↓aI18, ↓sZ18, ↓ln18, ↓aI19, ↓sI19, ↓ln19, ↓rc8, ↓gI8_4, ↓gI8_5, ↓gI8_6, ↓pI8_4, ↓pI8_5, ↓pZ8_6, ↓gR8_0, ↓gR8_1, ↓gR8_2, ↓gR8_3, ↓aI9, ↓sI9, ↓ln9, ↓aI10, ↓sI10, ↓ln10, ↓aI11, ↓sI11, ↓ln11, ↓aI12, ↓sI12, ↓ln12, ↓c_I, ↓c_J, ↓c_Q, ↓c_V, ↓c_It, ↓c_Jt, ↓c_Vt, ↓k_I, ↓k_J, ↓n_I, ↓n_V, li0, li1, li2, li3, li4, li5, li6, li7, li8, li9, li10, li11, li12, li13, li14, li15, li16, li17, li18, li19, li20, li21, li22, li23, li24, li25, li26, li27, li28, li29, li30, li31, li32, li33, li34, li35, li36, li37, li38, li39, li40, li41, li42, li44, li48, li57, li63, li64, li65, li97, li99, li100, li101, li102, li104, li105, li106, li109, li114, li120, li128, li130, li300, li514, li999, li1000, li8192, li9999, li65536, li1000000, li1000001, li1000002, li1000003, li1000004, li1000005, li1000006, li1000007, li1000008, li1000009, li1000010, li1000011, li1000012, li1000013, li1000014, li1000015, li1000016, li1000017, li1000018, li1000019, li2147483647, lj0, lj1, W_add, W_sub, W_mul, W_neg, V_add, V_sub, V_mul, V_neg, W_ite, W_le, W_lt, W_inj, V_le, V_lt, V_inj, W_V, V_W, lgc_ge, lgc_gt, lgc_le, lgc_lt, lgc_eq, ge_iff_le, gt_iff_lt, hN2, n1, e1, i3, f2, g2, hmax, Int.reduceEq, ↓reduceIte, hnext]
      · have hPk : ¬ P k := fun h => h1 ((hP k (by omega) (by omega)).mp h)
        rw [bb_neg hPk] at e1
        rw [cif_neg h1] at hnext
        by_cases h2 : hs A k (1 - mx)
        · rw [bb_pos h2] at e2
          rw [cif_pos h2] at hnext
          have h5 : itf A k (1 - mx) 2 ≠ -1 := h2
          have hmax : (if sct A st mx k < itf A k (1 - mx) 2 + itf A k (1 - mx) 3 - 1 then itf A k (1 - mx) 2 + itf A k (1 - mx) 3 - 1 else sct A st mx k) = max (sct A st mx k) (itf A k (1 - mx) 2 + itf A k (1 - mx) 3 - 1) := by
            split <;> omega
          simp (disch := first | assumption | omega) only [f_X5_findSideCount_b18, f_X5_findSideCount_b95, ↓rc16, ↓gI16_4, ↓gI16_5, ↓gI16_6, ↓gI16_7, ↓gI16_8, ↓pI16_4, ↓pI16_5, ↓pI16_6, ↓pI16_7, ↓pI16_8, ↓gR16_0, ↓gR16_1, ↓gR16_2, ↓gR16_3, ↓aI17, ↓sI17, ↓ln17, ↓aI18, ↓sZ18, ↓ln18, ↓aI19, ↓sI19, ↓ln19, ↓rc8, ↓gI8_4, ↓gI8_5, ↓gI8_6, ↓pI8_4, ↓pI8_5, ↓pZ8_6, ↓gR8_0, ↓gR8_1, ↓gR8_2, ↓gR8_3, ↓aI9, ↓sI9, ↓ln9, ↓aI10, ↓sI10, ↓ln10, ↓aI11, ↓sI11, ↓ln11, ↓aI12, ↓sI12, ↓ln12, ↓c_I, ↓c_J, ↓c_Q, ↓c_V, ↓c_It, ↓c_Jt, ↓c_Vt, ↓k_I, ↓k_J, ↓n_I, ↓n_V, li0, li1, li2, li3, li4, li5, li6, li7, li8, li9, li10, li11, li12, li13, li14, li15, li16, li17, li18, li19, li20, li21, li22, li23, li24, li25, li26, li27, li28, li29, li30, li31, li32, li33, li34, li35, li36, li37, li38, li39, li40, li41, li42, li44, li48, li57, li63, li64, li65, li97, li99, li100, li101, li102, li104, li105, li106, li109, li114, li120, li128, li130, li300, li514, li999, li1000, li8192, li9999, li65536, li1000000, li1000001, li1000002, li1000003, li1000004, li1000005, li1000006, li1000007, li1000008, li1000009, li1000010, li1000011, li1000012, li1000013, li1000014, li1000015, li1000016, li1000017, li1000018, li1000019, li2147483647, lj0, lj1, W_add, W_sub, W_mul, W_neg, V_add, V_sub, V_mul, V_neg, W_ite, W_le, W_lt, W_inj, V_le, V_lt, V_inj, W_V, V_W, lgc_ge, lgc_gt, lgc_le, lgc_lt, lgc_eq, ge_iff_le, gt_iff_lt, hN2, n1, e1, e2, i3, i2, g2, hmax, Int.reduceEq, ↓reduceIte, hnext]
        · rw [bb_neg h2] at e2
          rw [cif_neg h2] at hnext
          have hmax : (if sct A st mx k < 1 + itf A k (1 - mx) 3 - 1 then 1 + itf A k (1 - mx) 3 - 1 else sct A st mx k) = max (sct A st mx k) (1 + itf A k (1 - mx) 3 - 1) := by
            split <;> omega
          simp (disch := first | assumption | omega) only [f_X5_findSideCount_b18, f_X5_findSideCount_b95, ↓rc16, ↓gI16_4, ↓gI16_5, ↓gI16_6, ↓gI16_7, ↓gI16_8, ↓pI16_4, ↓pI16_5, ↓pI16_6, ↓pI16_7, ↓pI16_8, ↓gR16_0, ↓gR16_1, ↓gR16_2, ↓gR16_3, ↓aI17, ↓sI17, ↓ln17, ↓aI18, ↓sZ18, ↓ln18, ↓aI19, ↓sI19, ↓ln19, ↓rc8, ↓gI8_4, ↓gI8_5, ↓gI8_6, ↓pI8_4, ↓pI8_5, ↓pZ8_6, ↓gR8_0, ↓gR8_1, ↓gR8_2, ↓gR8_3, ↓aI9, ↓sI9, ↓ln9, ↓aI10, ↓sI10, ↓ln10, ↓aI11, ↓sI11, ↓ln11, ↓aI12, ↓sI12, ↓ln12, ↓c_I, ↓c_J, ↓c_Q, ↓c_V, ↓c_It, ↓c_Jt, ↓c_Vt, ↓k_I, ↓k_J, ↓n_I, ↓n_V, li0, li1, li2, li3, li4, li5, li6, li7, li8, li9, li10, li11, li12, li13, li14, li15, li16, li17, li18, li19, li20, li21, li22, li23, li24, li25, li26, li27, li28, li29, li30, li31, li32, li33, li34, li35, li36, li37, li38, li39, li40, li41, li42, li44, li48, li57, li63, li64, li65, li97, li99, li100, li101, li102, li104, li105, li106, li109, li114, li120, li128, li130, li300, li514, li999, li1000, li8192, li9999, li65536, li1000000, li1000001, li1000002, li1000003, li1000004, li1000005, li1000006, li1000007, li1000008, li1000009, li1000010, li1000011, li1000012, li1000013, li1000014, li1000015, li1000016, li1000017, li1000018, li1000019, li2147483647, lj0, lj1, W_add, W_sub, W_mul, W_neg, V_add, V_sub, V_mul, V_neg, W_ite, W_le, W_lt, W_inj, V_le, V_lt, V_inj, W_V, V_W, lgc_ge, lgc_gt, lgc_le, lgc_lt, lgc_eq, ge_iff_le, gt_iff_lt, hN2, n1, e1, e2, i3, i2, g2, hmax, ↓reduceIte, hnext]
end PlaceF

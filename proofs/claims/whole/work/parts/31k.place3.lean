/-! ===== the engine's Placement: step 4 and all of it ===== -/
theorem u_self {I : CF} {a k : Int} : uI I a k (I a k) = I := by
  funext x y
  unfold uI
  by_cases q : x = a ∧ y = k
  · rw [if_pos q, q.1, q.2]
  · rw [if_neg q]
theorem u_u {I : CF} {a k v w : Int} : uI (uI I a k v) a k w = uI I a k w := by
  funext x y
  unfold uI
  by_cases q : x = a ∧ y = k
  · rw [if_pos q, if_pos q]
  · rw [if_neg q, if_neg q, if_neg q]
theorem u_comm {I : CF} {a k v d j w : Int} (h : a ≠ d ∨ k ≠ j) : uI (uI I a k v) d j w = uI (uI I d j w) a k v := by
  funext x y
  unfold uI
  by_cases q : x = a ∧ y = k
  · rw [if_pos q, if_pos q, if_neg (by omega)]
  · rw [if_neg q, if_neg q]
def cur (I : CF) (m s : Int) : CF := uI (uI I 16 7 m) 16 8 s
section PlaceG
variable {J : CF} {b : Nat} {c : Bool} {A : CF}
theorem cur_7 {I : CF} {m s : Int} : cur I m s 16 7 = m := by
  unfold cur
  rw [u_ne (by decide), u_eq]
theorem cur_8 {I : CF} {m s : Int} : cur I m s 16 8 = s := u_eq
theorem cur_k {I : CF} {m s k : Int} (h7 : k ≠ 7) (h8 : k ≠ 8) : cur I m s 16 k = I 16 k := by
  unfold cur
  rw [u_ne h8, u_ne h7]
theorem cur_o {I : CF} {m s a : Int} (h : a ≠ 16) : cur I m s a = I a := by
  unfold cur
  rw [u_obj h, u_obj h]
theorem cur_w7 {I : CF} {m s m' : Int} : uI (cur I m s) 16 7 m' = cur I m' s := by
  unfold cur
  rw [u_comm (Or.inr (by decide)), u_u]
theorem cur_w8 {I : CF} {m s s' : Int} : uI (cur I m s) 16 8 s' = cur I m s' := u_u
theorem cur_cur {I : CF} {m s m' s' : Int} : cur (cur I m s) m' s' = cur I m' s' := by
  show uI (uI (cur I m s) 16 7 m') 16 8 s' = _
  rw [cur_w7, cur_w8]
theorem cur_self {I : CF} : cur I (I 16 7) (I 16 8) = I := by
  unfold cur
  rw [u_self, u_self]
theorem PW.cur {I : CF} {mx m s : Int} {P : Int → Prop} {st : CF} (h : PW I A mx P st) : PW (cur I m s) A mx P st := h.fr (cur_k (by decide) (by decide)) (cur_k (by decide) (by decide)) (fun a ha => cur_o (by omega))
theorem e_along_L {I : CF} {mx i s : Int} {P : Int → Prop} {st : CF} {Bm Bs : Int} (hW : PW I A mx P st) (hB : pB A st mx P Bm Bs) (hBm : Bm ≤ 61) (i0 : 0 ≤ i) (i1 : i < nit A) (s0 : 1 ≤ s) (s1 : s ≤ 100) :
    ∀ (fuel : Nat) (m : Int), Bm + 1 - m < fuel → 1 ≤ m → m ≤ Bm + 1 → ∃ y, f_X5_moveAlongMain_L37 fuel (Sx (cur I m s) J b c) 16 (iW i) = some (Sx (cur I y s) J b c, xv) ∧ FO (fun y => (y.1 + 1, y.2)) (fun y => free A st mx P i y.1 y.2) (m, s) (y, s) ∧ m ≤ y ∧ y ≤ Bm + 1 := by
  intro fuel
  induction fuel with
  | zero => intro m a1 a2; omega
  | succ fuel ih =>
    intro m a1 a2 a3
    show ∃ y, f_X5_moveAlongMain_b37 (f_X5_moveAlongMain_L37 fuel) (Sx (cur I m s) J b c) 16 (iW i) = _ ∧ _
    have n1 : ¬ (64 ≤ m) := by omega
    have e1 := e_isFree (J := J) (b := b) (c := c) (hW.cur (m := m) (s := s)) (i := i) (m := m) (s := s) i0 i1 (by omega) (by omega) (by omega) (by omega)
    by_cases hf : free A st mx P i m s
    · rw [bb_pos hf] at e1
      refine ⟨m, ?_, FO.here hf, by omega, a3⟩
      simp (disch := first | assumption | omega) only [f_X5_moveAlongMain_b37, f_X5_moveAlongMain_b75, ↓rc16, ↓gI16_4, ↓gI16_5, ↓gI16_6, ↓gI16_7, ↓gI16_8, ↓pI16_4, ↓pI16_5, ↓pI16_6, ↓pI16_7, ↓pI16_8, ↓gR16_0, ↓gR16_1, ↓gR16_2, ↓gR16_3, ↓aI17, ↓sI17, ↓ln17, ↓aI18, ↓sZ18, ↓ln18, ↓aI19, ↓sI19, ↓ln19, ↓rc8, ↓gI8_4, ↓gI8_5, ↓gI8_6, ↓pI8_4, ↓pI8_5, ↓pZ8_6, ↓gR8_0, ↓gR8_1, ↓gR8_2, ↓gR8_3, ↓aI9, ↓sI9, ↓ln9, ↓aI10, ↓sI10, ↓ln10, ↓aI11, ↓sI11, ↓ln11, ↓aI12, ↓sI12, ↓ln12, ↓c_I, ↓c_J, ↓c_Q, ↓c_V, ↓c_It, ↓c_Jt, ↓c_Vt, ↓k_I, ↓k_J, ↓n_I, ↓n_V, li0, li1, li2, li3, li4, li5, li6, li7, li8, li9, li10, li11, li12, li13, li14, li15, li16, li17, li18, li19, li20, li21, li22, li23, li24, li25, li26, li27, li28, li29, li30, li31, li32, li33, li34, li35, li36, li37, li38, li39, li40, li41, li42, li44, li48, li57, li63, li64, li65, li97, li99, li100, li101, li102, li104, li105, li106, li109, li114, li120, li128, li130, li300, li514, li999, li1000, li8192, li9999, li65536, li1000000, li1000001, li1000002, li1000003, li1000004, li1000005, li1000006, li1000007, li1000008, li1000009, li1000010, li1000011, li1000012, li1000013, li1000014, li1000015, li1000016, li1000017, li1000018, li1000019, li2147483647, lj0, lj1, W_add, W_sub, W_mul, W_neg, V_add, V_sub, V_mul, V_neg, W_ite, W_le, W_lt, W_inj, V_le, V_lt, V_inj, W_V, V_W, lgc_ge, lgc_gt, lgc_le, lgc_lt, lgc_eq, ge_iff_le, gt_iff_lt, cur_7, cur_8, n1, e1, Int.reduceEq, ↓reduceIte]
    · rw [bb_neg hf] at e1
      have hlt : m ≤ Bm := by
        apply Classical.byContradiction
        intro hh
        exact hf (free_far hB (Or.inl (by omega)))
      obtain ⟨y, k1, k2', k3, k4⟩ := ih (m + 1) (by omega) (by omega) (by omega)
      refine ⟨y, ?_, FO.next hf k2', by omega, k4⟩
      rw [← k1]
      simp (disch := first | assumption | omega) only [f_X5_moveAlongMain_b37, f_X5_moveAlongMain_b75, ↓rc16, ↓gI16_4, ↓gI16_5, ↓gI16_6, ↓gI16_7, ↓gI16_8, ↓pI16_4, ↓pI16_5, ↓pI16_6, ↓pI16_7, ↓pI16_8, ↓gR16_0, ↓gR16_1, ↓gR16_2, ↓gR16_3, ↓aI17, ↓sI17, ↓ln17, ↓aI18, ↓sZ18, ↓ln18, ↓aI19, ↓sI19, ↓ln19, ↓rc8, ↓gI8_4, ↓gI8_5, ↓gI8_6, ↓pI8_4, ↓pI8_5, ↓pZ8_6, ↓gR8_0, ↓gR8_1, ↓gR8_2, ↓gR8_3, ↓aI9, ↓sI9, ↓ln9, ↓aI10, ↓sI10, ↓ln10, ↓aI11, ↓sI11, ↓ln11, ↓aI12, ↓sI12, ↓ln12, ↓c_I, ↓c_J, ↓c_Q, ↓c_V, ↓c_It, ↓c_Jt, ↓c_Vt, ↓k_I, ↓k_J, ↓n_I, ↓n_V, li0, li1, li2, li3, li4, li5, li6, li7, li8, li9, li10, li11, li12, li13, li14, li15, li16, li17, li18, li19, li20, li21, li22, li23, li24, li25, li26, li27, li28, li29, li30, li31, li32, li33, li34, li35, li36, li37, li38, li39, li40, li41, li42, li44, li48, li57, li63, li64, li65, li97, li99, li100, li101, li102, li104, li105, li106, li109, li114, li120, li128, li130, li300, li514, li999, li1000, li8192, li9999, li65536, li1000000, li1000001, li1000002, li1000003, li1000004, li1000005, li1000006, li1000007, li1000008, li1000009, li1000010, li1000011, li1000012, li1000013, li1000014, li1000015, li1000016, li1000017, li1000018, li1000019, li2147483647, lj0, lj1, W_add, W_sub, W_mul, W_neg, V_add, V_sub, V_mul, V_neg, W_ite, W_le, W_lt, W_inj, V_le, V_lt, V_inj, W_V, V_W, lgc_ge, lgc_gt, lgc_le, lgc_lt, lgc_eq, ge_iff_le, gt_iff_lt, cur_7, cur_8, cur_w7, n1, e1, ↓reduceIte]
theorem e_along {I : CF} {mx i m s : Int} {P : Int → Prop} {st : CF} {Bm Bs : Int} (hW : PW I A mx P st) (hB : pB A st mx P Bm Bs) (hBm : Bm ≤ 61) (i0 : 0 ≤ i) (i1 : i < nit A) (s0 : 1 ≤ s) (s1 : s ≤ 100) (m0 : 1 ≤ m) (m1 : m ≤ Bm) (hi : hs A i (1 - mx)) :
    ∃ y, f_X5_moveAlongMain (Sx (cur I m s) J b c) 16 (iW i) = some (Sx (cur I y (itf A i (1 - mx) 2)) J b c, xv) ∧ FO (fun y => (y.1 + 1, y.2)) (fun y => free A st mx P i y.1 y.2) (if itf A i (1 - mx) 2 < s then m + 1 else m, itf A i (1 - mx) 2) (y, itf A i (1 - mx) 2) ∧ 1 ≤ y ∧ y ≤ Bm + 1 := by
  have hW' := hW
  obtain ⟨hA, hm, hM, g1, g2, hp, ht⟩ := hW'
  have hN := hA.1
  have r2 := (hA.2.2.2.2.2 i (1 - mx) i0 i1 (by omega) (by omega)).2.1
  have h5 : itf A i (1 - mx) 2 ≠ -1 := hi
  have i2 := e_itemField (J := J) (b := b) (c := c) (hW.cur (m := m) (s := s)).2.2.1 i0 (show i < 12 by omega) (ax := 1 - mx) (by omega) (by omega) (f := 2) (by omega) (by omega)
  have c5 : cur I m s 16 5 = 1 - mx := by rw [cur_k (by decide) (by decide)]; exact g2
  by_cases q : itf A i (1 - mx) 2 < s
  · rw [if_pos q]
    obtain ⟨y, k1, k2, k3, k4⟩ := e_along_L (J := J) (b := b) (c := c) (s := itf A i (1 - mx) 2) hW hB hBm i0 i1 (by omega) (by omega) FU (m + 1) (by unfold FU; omega) (by omega) (by omega)
    refine ⟨y, ?_, k2, by omega, k4⟩
    rw [← k1]
    have n1 : ¬ (s ≤ itf A i (1 - mx) 2) := by omega
    simp (disch := first | assumption | omega) only [f_X5_moveAlongMain, f_X5_moveAlongMain_b32, ↓rc16, ↓gI16_4, ↓gI16_5, ↓gI16_6, ↓gI16_7, ↓gI16_8, ↓pI16_4, ↓pI16_5, ↓pI16_6, ↓pI16_7, ↓pI16_8, ↓gR16_0, ↓gR16_1, ↓gR16_2, ↓gR16_3, ↓aI17, ↓sI17, ↓ln17, ↓aI18, ↓sZ18, ↓ln18, ↓aI19, ↓sI19, ↓ln19, ↓rc8, ↓gI8_4, ↓gI8_5, ↓gI8_6, ↓pI8_4, ↓pI8_5, ↓pZ8_6, ↓gR8_0, ↓gR8_1, ↓gR8_2, ↓gR8_3, ↓aI9, ↓sI9, ↓ln9, ↓aI10, ↓sI10, ↓ln10, ↓aI11, ↓sI11, ↓ln11, ↓aI12, ↓sI12, ↓ln12, ↓c_I, ↓c_J, ↓c_Q, ↓c_V, ↓c_It, ↓c_Jt, ↓c_Vt, ↓k_I, ↓k_J, ↓n_I, ↓n_V, li0, li1, li2, li3, li4, li5, li6, li7, li8, li9, li10, li11, li12, li13, li14, li15, li16, li17, li18, li19, li20, li21, li22, li23, li24, li25, li26, li27, li28, li29, li30, li31, li32, li33, li34, li35, li36, li37, li38, li39, li40, li41, li42, li44, li48, li57, li63, li64, li65, li97, li99, li100, li101, li102, li104, li105, li106, li109, li114, li120, li128, li130, li300, li514, li999, li1000, li8192, li9999, li65536, li1000000, li1000001, li1000002, li1000003, li1000004, li1000005, li1000006, li1000007, li1000008, li1000009, li1000010, li1000011, li1000012, li1000013, li1000014, li1000015, li1000016, li1000017, li1000018, li1000019, li2147483647, lj0, lj1, W_add, W_sub, W_mul, W_neg, V_add, V_sub, V_mul, V_neg, W_ite, W_le, W_lt, W_inj, V_le, V_lt, V_inj, W_V, V_W, lgc_ge, lgc_gt, lgc_le, lgc_lt, lgc_eq, ge_iff_le, gt_iff_lt, c5, i2, cur_7, cur_8, cur_w7, cur_w8, n1, ↓reduceIte]
  · rw [if_neg q]
    obtain ⟨y, k1, k2, k3, k4⟩ := e_along_L (J := J) (b := b) (c := c) (s := itf A i (1 - mx) 2) hW hB hBm i0 i1 (by omega) (by omega) FU m (by unfold FU; omega) (by omega) (by omega)
    refine ⟨y, ?_, k2, by omega, k4⟩
    rw [← k1]
    have n1 : s ≤ itf A i (1 - mx) 2 := by omega
    simp (disch := first | assumption | omega) only [f_X5_moveAlongMain, f_X5_moveAlongMain_b32, ↓rc16, ↓gI16_4, ↓gI16_5, ↓gI16_6, ↓gI16_7, ↓gI16_8, ↓pI16_4, ↓pI16_5, ↓pI16_6, ↓pI16_7, ↓pI16_8, ↓gR16_0, ↓gR16_1, ↓gR16_2, ↓gR16_3, ↓aI17, ↓sI17, ↓ln17, ↓aI18, ↓sZ18, ↓ln18, ↓aI19, ↓sI19, ↓ln19, ↓rc8, ↓gI8_4, ↓gI8_5, ↓gI8_6, ↓pI8_4, ↓pI8_5, ↓pZ8_6, ↓gR8_0, ↓gR8_1, ↓gR8_2, ↓gR8_3, ↓aI9, ↓sI9, ↓ln9, ↓aI10, ↓sI10, ↓ln10, ↓aI11, ↓sI11, ↓ln11, ↓aI12, ↓sI12, ↓ln12, ↓c_I, ↓c_J, ↓c_Q, ↓c_V, ↓c_It, ↓c_Jt, ↓c_Vt, ↓k_I, ↓k_J, ↓n_I, ↓n_V, li0, li1, li2, li3, li4, li5, li6, li7, li8, li9, li10, li11, li12, li13, li14, li15, li16, li17, li18, li19, li20, li21, li22, li23, li24, li25, li26, li27, li28, li29, li30, li31, li32, li33, li34, li35, li36, li37, li38, li39, li40, li41, li42, li44, li48, li57, li63, li64, li65, li97, li99, li100, li101, li102, li104, li105, li106, li109, li114, li120, li128, li130, li300, li514, li999, li1000, li8192, li9999, li65536, li1000000, li1000001, li1000002, li1000003, li1000004, li1000005, li1000006, li1000007, li1000008, li1000009, li1000010, li1000011, li1000012, li1000013, li1000014, li1000015, li1000016, li1000017, li1000018, li1000019, li2147483647, lj0, lj1, W_add, W_sub, W_mul, W_neg, V_add, V_sub, V_mul, V_neg, W_ite, W_le, W_lt, W_inj, V_le, V_lt, V_inj, W_V, V_W, lgc_ge, lgc_gt, lgc_le, lgc_lt, lgc_eq, ge_iff_le, gt_iff_lt, c5, i2, cur_7, cur_8, cur_w7, cur_w8, n1, ↓reduceIte]
theorem e_toFree_L {I : CF} {mx i last : Int} {P : Int → Prop} {st : CF} {Bm Bs : Int} (hW : PW I A mx P st) (hB : pB A st mx P Bm Bs) (hBm : Bm ≤ 61) (i0 : 0 ≤ i) (i1 : i < nit A) (l0 : 1 ≤ last) (l1 : last ≤ 100) :
    ∀ (fuel : Nat) (m s : Int), (Bm + 1 - m) * 200 + (150 - s) < fuel → 1 ≤ m → 1 ≤ s → s ≤ 101 → (m ≤ Bm ∨ (m = Bm + 1 ∧ s ≤ last)) → ∃ y, f_X5_moveToFreePlace_L21 fuel (Sx (cur I m s) J b c) 16 (iW i) (iW last) = some (Sx (cur I y.1 y.2) J b c, xv) ∧ FO (pnx last) (fun y => y.2 ≤ last ∧ free A st mx P i y.1 y.2) (m, s) y ∧ 1 ≤ y.1 ∧ y.1 ≤ Bm + 1 ∧ 1 ≤ y.2 ∧ y.2 ≤ last := by
  intro fuel
  induction fuel with
  | zero => intro m s a1 a2; omega
  | succ fuel ih =>
    intro m s a1 a2 a3 a4 a5
    show ∃ y, f_X5_moveToFreePlace_b21 (f_X5_moveToFreePlace_L21 fuel) (Sx (cur I m s) J b c) 16 (iW i) (iW last) = _ ∧ _
    have n1 : ¬ (64 ≤ m) := by omega
    have e1 := e_isFree (J := J) (b := b) (c := c) (hW.cur (m := m) (s := s)) (i := i) (m := m) (s := s) i0 i1 (by omega) (by omega) (by omega) (by omega)
    have step : ¬ (s ≤ last ∧ free A st mx P i m s) → ∃ y, f_X5_moveToFreePlace_b54 (f_X5_moveToFreePlace_L21 fuel) (Sx (cur I m s) J b c) 16 (iW i) (iW last) = some (Sx (cur I y.1 y.2) J b c, xv) ∧ FO (pnx last) (fun y => y.2 ≤ last ∧ free A st mx P i y.1 y.2) (m, s) y ∧ 1 ≤ y.1 ∧ y.1 ≤ Bm + 1 ∧ 1 ≤ y.2 ∧ y.2 ≤ last := by
      intro hbad
      have hm1 : m ≤ Bm := by
        rcases a5 with h | ⟨h, h'⟩
        · exact h
        · exact absurd ⟨h', free_far hB (Or.inl (by omega))⟩ hbad
      by_cases q : s + 1 ≤ last
      · obtain ⟨y, k1, k2⟩ := ih m (s + 1) (by omega) a2 (by omega) (by omega) (Or.inl hm1)
        refine ⟨y, ?_, FO.next hbad ?_, k2.2⟩
        · rw [← k1]
          simp (disch := first | assumption | omega) only [f_X5_moveToFreePlace_b54, ↓rc16, ↓gI16_4, ↓gI16_5, ↓gI16_6, ↓gI16_7, ↓gI16_8, ↓pI16_4, ↓pI16_5, ↓pI16_6, ↓pI16_7, ↓pI16_8, ↓gR16_0, ↓gR16_1, ↓gR16_2, ↓gR16_3, ↓aI17, ↓sI17, ↓ln17, ↓aI18, ↓sZ18, ↓ln18, ↓aI19, ↓sI19, ↓ln19, ↓rc8, ↓gI8_4, ↓gI8_5, ↓gI8_6, ↓pI8_4, ↓pI8_5, ↓pZ8_6, ↓gR8_0, ↓gR8_1, ↓gR8_2, ↓gR8_3, ↓aI9, ↓sI9, ↓ln9, ↓aI10, ↓sI10, ↓ln10, ↓aI11, ↓sI11, ↓ln11, ↓aI12, ↓sI12, ↓ln12, ↓c_I, ↓c_J, ↓c_Q, ↓c_V, ↓c_It, ↓c_Jt, ↓c_Vt, ↓k_I, ↓k_J, ↓n_I, ↓n_V, li0, li1, li2, li3, li4, li5, li6, li7, li8, li9, li10, li11, li12, li13, li14, li15, li16, li17, li18, li19, li20, li21, li22, li23, li24, li25, li26, li27, li28, li29, li30, li31, li32, li33, li34, li35, li36, li37, li38, li39, li40, li41, li42, li44, li48, li57, li63, li64, li65, li97, li99, li100, li101, li102, li104, li105, li106, li109, li114, li120, li128, li130, li300, li514, li999, li1000, li8192, li9999, li65536, li1000000, li1000001, li1000002, li1000003, li1000004, li1000005, li1000006, li1000007, li1000008, li1000009, li1000010, li1000011, li1000012, li1000013, li1000014, li1000015, li1000016, li1000017, li1000018, li1000019, li2147483647, lj0, lj1, W_add, W_sub, W_mul, W_neg, V_add, V_sub, V_mul, V_neg, W_ite, W_le, W_lt, W_inj, V_le, V_lt, V_inj, W_V, V_W, lgc_ge, lgc_gt, lgc_le, lgc_lt, lgc_eq, ge_iff_le, gt_iff_lt, cur_7, cur_8, cur_w7, cur_w8, q, ↓reduceIte]
        · have : pnx last (m, s) = (m, s + 1) := if_pos q
          rw [this]
          exact k2.1
      · obtain ⟨y, k1, k2⟩ := ih (m + 1) 1 (by omega) (by omega) (by omega) (by omega) (by omega)
        refine ⟨y, ?_, FO.next hbad ?_, k2.2⟩
        · rw [← k1]
          simp (disch := first | assumption | omega) only [f_X5_moveToFreePlace_b54, ↓rc16, ↓gI16_4, ↓gI16_5, ↓gI16_6, ↓gI16_7, ↓gI16_8, ↓pI16_4, ↓pI16_5, ↓pI16_6, ↓pI16_7, ↓pI16_8, ↓gR16_0, ↓gR16_1, ↓gR16_2, ↓gR16_3, ↓aI17, ↓sI17, ↓ln17, ↓aI18, ↓sZ18, ↓ln18, ↓aI19, ↓sI19, ↓ln19, ↓rc8, ↓gI8_4, ↓gI8_5, ↓gI8_6, ↓pI8_4, ↓pI8_5, ↓pZ8_6, ↓gR8_0, ↓gR8_1, ↓gR8_2, ↓gR8_3, ↓aI9, ↓sI9, ↓ln9, ↓aI10, ↓sI10, ↓ln10, ↓aI11, ↓sI11, ↓ln11, ↓aI12, ↓sI12, ↓ln12, ↓c_I, ↓c_J, ↓c_Q, ↓c_V, ↓c_It, ↓c_Jt, ↓c_Vt, ↓k_I, ↓k_J, ↓n_I, ↓n_V, li0, li1, li2, li3, li4, li5, li6, li7, li8, li9, li10, li11, li12, li13, li14, li15, li16, li17, li18, li19, li20, li21, li22, li23, li24, li25, li26, li27, li28, li29, li30, li31, li32, li33, li34, li35, li36, li37, li38, li39, li40, li41, li42, li44, li48, li57, li63, li64, li65, li97, li99, li100, li101, li102, li104, li105, li106, li109, li114, li120, li128, li130, li300, li514, li999, li1000, li8192, li9999, li65536, li1000000, li1000001, li1000002, li1000003, li1000004, li1000005, li1000006, li1000007, li1000008, li1000009, li1000010, li1000011, li1000012, li1000013, li1000014, li1000015, li1000016, li1000017, li1000018, li1000019, li2147483647, lj0, lj1, W_add, W_sub, W_mul, W_neg, V_add, V_sub, V_mul, V_neg, W_ite, W_le, W_lt, W_inj, V_le, V_lt, V_inj, W_V, V_W, lgc_ge, lgc_gt, lgc_le, lgc_lt, lgc_eq, ge_iff_le, gt_iff_lt, cur_7, cur_8, cur_w7, cur_w8, q, ↓reduceIte]
        · have : pnx last (m, s) = (m + 1, 1) := if_neg q
          rw [this]
          exact k2.1
    by_cases hl : last < s
    · obtain ⟨y, k1, k2⟩ := step (fun h => by have := h.1; omega)
      refine ⟨y, ?_, k2⟩
      rw [← k1]
      simp (disch := first | assumption | omega) only [f_X5_moveToFreePlace_b21, ↓rc16, ↓gI16_4, ↓gI16_5, ↓gI16_6, ↓gI16_7, ↓gI16_8, ↓pI16_4, ↓pI16_5, ↓pI16_6, ↓pI16_7, ↓pI16_8, ↓gR16_0, ↓gR16_1, ↓gR16_2, ↓gR16_3, ↓aI17, ↓sI17, ↓ln17, ↓aI18, ↓sZ18, ↓ln18, ↓aI19, ↓sI19, ↓ln19, ↓rc8, ↓gI8_4, ↓gI8_5, ↓gI8_6, ↓pI8_4, ↓pI8_5, ↓pZ8_6, ↓gR8_0, ↓gR8_1, ↓gR8_2, ↓gR8_3, ↓aI9, ↓sI9, ↓ln9, ↓aI10, ↓sI10, ↓ln10, ↓aI11, ↓sI11, ↓ln11, ↓aI12, ↓sI12, ↓ln12, ↓c_I, ↓c_J, ↓c_Q, ↓c_V, ↓c_It, ↓c_Jt, ↓c_Vt, ↓k_I, ↓k_J, ↓n_I, ↓n_V, li0, li1, li2, li3, li4, li5, li6, li7, li8, li9, li10, li11, li12, li13, li14, li15, li16, li17, li18, li19, li20, li21, li22, li23, li24, li25, li26, li27, li28, li29, li30, li31, li32, li33, li34, li35, li36, li37, li38, li39, li40, li41, li42, li44, li48, li57, li63, li64, li65, li97, li99, li100, li101, li102, li104, li105, li106, li109, li114, li120, li128, li130, li300, li514, li999, li1000, li8192, li9999, li65536, li1000000, li1000001, li1000002, li1000003, li1000004, li1000005, li1000006, li1000007, li1000008, li1000009, li1000010, li1000011, li1000012, li1000013, li1000014, li1000015, li1000016, li1000017, li1000018, li1000019, li2147483647, lj0, lj1, W_add, W_sub, W_mul, W_neg, V_add, V_sub, V_mul, V_neg, W_ite, W_le, W_lt, W_inj, V_le, V_lt, V_inj, W_V, V_W, lgc_ge, lgc_gt, lgc_le, lgc_lt, lgc_eq, ge_iff_le, gt_iff_lt, cur_7, cur_8, n1, hl, ↓reduceIte]
    · by_cases hf : free A st mx P i m s
      · rw [bb_pos hf] at e1
        refine ⟨(m, s), ?_, FO.here ⟨by show s ≤ last; omega, hf⟩, a2, by show m ≤ Bm + 1; omega, a3, by show s ≤ last; omega⟩
        simp (disch := first | assumption | omega) only [f_X5_moveToFreePlace_b21, f_X5_moveToFreePlace_b90, ↓rc16, ↓gI16_4, ↓gI16_5, ↓gI16_6, ↓gI16_7, ↓gI16_8, ↓pI16_4, ↓pI16_5, ↓pI16_6, ↓pI16_7, ↓pI16_8, ↓gR16_0, ↓gR16_1, ↓gR16_2, ↓gR16_3, ↓aI17, ↓sI17, ↓ln17, ↓aI18, ↓sZ18, ↓ln18, ↓aI19, ↓sI19, ↓ln19, ↓rc8, ↓gI8_4, ↓gI8_5, ↓gI8_6, ↓pI8_4, ↓pI8_5, ↓pZ8_6, ↓gR8_0, ↓gR8_1, ↓gR8_2, ↓gR8_3, ↓aI9, ↓sI9, ↓ln9, ↓aI10, ↓sI10, ↓ln10, ↓aI11, ↓sI11, ↓ln11, ↓aI12, ↓sI12, ↓ln12, ↓c_I, ↓c_J, ↓c_Q, ↓c_V, ↓c_It, ↓c_Jt, ↓c_Vt, ↓k_I, ↓k_J, ↓n_I, ↓n_V, li0, li1, li2, li3, li4, li5, li6, li7, li8, li9, li10, li11, li12, li13, li14, li15, li16, li17, li18, li19, li20, li21, li22, li23, li24, li25, li26, li27, li28, li29, li30, li31, li32, li33, li34, li35, li36, li37, li38, li39, li40, li41, li42, li44, li48, li57, li63, li64, li65, li97, li99, li100, li101, li102, li104, li105, li106, li109, li114, li120, li128, li130, li300, li514, li999, li1000, li8192, li9999, li65536, li1000000, li1000001, li1000002, li1000003, li1000004, li1000005, li1000006, li1000007, li1000008, li1000009, li1000010, li1000011, li1000012, li1000013, li1000014, li1000015, li1000016, li1000017, li1000018, li1000019, li2147483647, lj0, lj1, W_add, W_sub, W_mul, W_neg, V_add, V_sub, V_mul, V_neg, W_ite, W_le, W_lt, W_inj, V_le, V_lt, V_inj, W_V, V_W, lgc_ge, lgc_gt, lgc_le, lgc_lt, lgc_eq, ge_iff_le, gt_iff_lt, cur_7, cur_8, n1, hl, e1, Int.reduceEq, ↓reduceIte]
      · rw [bb_neg hf] at e1
        obtain ⟨y, k1, k2⟩ := step (fun h => hf h.2)
        refine ⟨y, ?_, k2⟩
        rw [← k1]
        simp (disch := first | assumption | omega) only [f_X5_moveToFreePlace_b21, ↓rc16, ↓gI16_4, ↓gI16_5, ↓gI16_6, ↓gI16_7, ↓gI16_8, ↓pI16_4, ↓pI16_5, ↓pI16_6, ↓pI16_7, ↓pI16_8, ↓gR16_0, ↓gR16_1, ↓gR16_2, ↓gR16_3, ↓aI17, ↓sI17, ↓ln17, ↓aI18, ↓sZ18, ↓ln18, ↓aI19, ↓sI19, ↓ln19, ↓rc8, ↓gI8_4, ↓gI8_5, ↓gI8_6, ↓pI8_4, ↓pI8_5, ↓pZ8_6, ↓gR8_0, ↓gR8_1, ↓gR8_2, ↓gR8_3, ↓aI9, ↓sI9, ↓ln9, ↓aI10, ↓sI10, ↓ln10, ↓aI11, ↓sI11, ↓ln11, ↓aI12, ↓sI12, ↓ln12, ↓c_I, ↓c_J, ↓c_Q, ↓c_V, ↓c_It, ↓c_Jt, ↓c_Vt, ↓k_I, ↓k_J, ↓n_I, ↓n_V, li0, li1, li2, li3, li4, li5, li6, li7, li8, li9, li10, li11, li12, li13, li14, li15, li16, li17, li18, li19, li20, li21, li22, li23, li24, li25, li26, li27, li28, li29, li30, li31, li32, li33, li34, li35, li36, li37, li38, li39, li40, li41, li42, li44, li48, li57, li63, li64, li65, li97, li99, li100, li101, li102, li104, li105, li106, li109, li114, li120, li128, li130, li300, li514, li999, li1000, li8192, li9999, li65536, li1000000, li1000001, li1000002, li1000003, li1000004, li1000005, li1000006, li1000007, li1000008, li1000009, li1000010, li1000011, li1000012, li1000013, li1000014, li1000015, li1000016, li1000017, li1000018, li1000019, li2147483647, lj0, lj1, W_add, W_sub, W_mul, W_neg, V_add, V_sub, V_mul, V_neg, W_ite, W_le, W_lt, W_inj, V_le, V_lt, V_inj, W_V, V_W, lgc_ge, lgc_gt, lgc_le, lgc_lt, lgc_eq, ge_iff_le, gt_iff_lt, cur_7, cur_8, n1, hl, e1, ↓reduceIte]
theorem e_toFree {I : CF} {mx i m s cnt : Int} {P : Int → Prop} {st : CF} {Bm Bs : Int} (hW : PW I A mx P st) (hB : pB A st mx P Bm Bs) (hBm : Bm ≤ 61) (i0 : 0 ≤ i) (i1 : i < nit A) (s0 : 1 ≤ s) (s1 : s ≤ 100) (m0 : 1 ≤ m) (m1 : m ≤ Bm) (hc : I 16 6 = cnt) (hc1 : itf A i (1 - mx) 3 ≤ cnt) (hc2 : cnt ≤ 90) :
    ∃ y, f_X5_moveToFreePlace (Sx (cur I m s) J b c) 16 (iW i) = some (Sx (cur I y.1 y.2) J b c, xv) ∧ FO (pnx (cnt - itf A i (1 - mx) 3 + 1)) (fun y => y.2 ≤ cnt - itf A i (1 - mx) 3 + 1 ∧ free A st mx P i y.1 y.2) (m, s) y ∧ 1 ≤ y.1 ∧ y.1 ≤ Bm + 1 ∧ 1 ≤ y.2 ∧ y.2 ≤ cnt - itf A i (1 - mx) 3 + 1 := by
  have hW' := hW
  obtain ⟨hA, hm, hM, g1, g2, hp, ht⟩ := hW'
  have hN := hA.1
  have r3 := (hA.2.2.2.2.2 i (1 - mx) i0 i1 (by omega) (by omega)).2.2.1
  have i3 := e_itemField (J := J) (b := b) (c := c) (hW.cur (m := m) (s := s)).2.2.1 i0 (show i < 12 by omega) (ax := 1 - mx) (by omega) (by omega) (f := 3) (by omega) (by omega)
  have c5 : cur I m s 16 5 = 1 - mx := by rw [cur_k (by decide) (by decide)]; exact g2
  have c6 : cur I m s 16 6 = cnt := by rw [cur_k (by decide) (by decide)]; exact hc
  obtain ⟨y, k1, k2⟩ := e_toFree_L (J := J) (b := b) (c := c) (last := cnt - itf A i (1 - mx) 3 + 1) hW hB hBm i0 i1 (by omega) (by omega) FU m s (by unfold FU; omega) m0 s0 (by omega) (Or.inl m1)
  refine ⟨y, ?_, k2⟩
  rw [← k1]
  simp (disch := first | assumption | omega) only [f_X5_moveToFreePlace, ↓rc16, ↓gI16_4, ↓gI16_5, ↓gI16_6, ↓gI16_7, ↓gI16_8, ↓pI16_4, ↓pI16_5, ↓pI16_6, ↓pI16_7, ↓pI16_8, ↓gR16_0, ↓gR16_1, ↓gR16_2, ↓gR16_3, ↓aI17, ↓sI17, ↓ln17, ↓aI18, ↓sZ18, ↓ln18, ↓aI19, ↓sI19, ↓ln19, ↓rc8, ↓gI8_4, ↓gI8_5, ↓gI8_6, ↓pI8_4, ↓pI8_5, ↓pZ8_6, ↓gR8_0, ↓gR8_1, ↓gR8_2, ↓gR8_3, ↓aI9, ↓sI9, ↓ln9, ↓aI10, ↓sI10, ↓ln10, ↓aI11, ↓sI11, ↓ln11, ↓aI12, ↓sI12, ↓ln12, ↓c_I, ↓c_J, ↓c_Q, ↓c_V, ↓c_It, ↓c_Jt, ↓c_Vt, ↓k_I, ↓k_J, ↓n_I, ↓n_V, li0, li1, li2, li3, li4, li5, li6, li7, li8, li9, li10, li11, li12, li13, li14, li15, li16, li17, li18, li19, li20, li21, li22, li23, li24, li25, li26, li27, li28, li29, li30, li31, li32, li33, li34, li35, li36, li37, li38, li39, li40, li41, li42, li44, li48, li57, li63, li64, li65, li97, li99, li100, li101, li102, li104, li105, li106, li109, li114, li120, li128, li130, li300, li514, li999, li1000, li8192, li9999, li65536, li1000000, li1000001, li1000002, li1000003, li1000004, li1000005, li1000006, li1000007, li1000008, li1000009, li1000010, li1000011, li1000012, li1000013, li1000014, li1000015, li1000016, li1000017, li1000018, li1000019, li2147483647, lj0, lj1, W_add, W_sub, W_mul, W_neg, V_add, V_sub, V_mul, V_neg, W_ite, W_le, W_lt, W_inj, V_le, V_lt, V_inj, W_V, V_W, lgc_ge, lgc_gt, lgc_le, lgc_lt, lgc_eq, ge_iff_le, gt_iff_lt, c5, c6, i3, ↓reduceIte]
theorem e_cursor_L {mx cnt : Int} {st0 : CF} (hcnt : ∀ i, 0 ≤ i → i < nit A → ¬ hs A i mx → ¬ hs A i (1 - mx) → itf A i (1 - mx) 3 ≤ cnt) (hc1 : 1 ≤ cnt) (hc2 : cnt ≤ 63) : ∀ (fuel : Nat) (n : Nat) (I : CF), nit A - n < fuel → (n : Int) ≤ nit A → PW I A mx (pP4 A mx n) (pS4 A st0 mx cnt n).1 → pB A (pS4 A st0 mx cnt n).1 mx (pP4 A mx n) (15 + 4 * n) 66 → I 16 6 = cnt → I 16 7 = (pS4 A st0 mx cnt n).2.1 → I 16 8 = (pS4 A st0 mx cnt n).2.2 → (1 ≤ I 16 7 ∧ I 16 7 ≤ 15 + 4 * n) → (1 ≤ I 16 8 ∧ I 16 8 ≤ 63) →
    ∃ I', f_X5_placeWithCursor_L12 fuel (Sx I J b c) 16 (iW n) = some (Sx I' J b c, xv) ∧ PW I' A mx (pP4 A mx (nit A)) (pS4 A st0 mx cnt (nit A).toNat).1 ∧ pB A (pS4 A st0 mx cnt (nit A).toNat).1 mx (pP4 A mx (nit A)) (15 + 4 * nit A) 66 ∧ ∀ a, a < 16 ∨ 18 < a → I' a = I a := by
  intro fuel
  induction fuel with
  | zero => intro n I a1 a2; omega
  | succ fuel ih =>
    intro n I a1 a2 hW hB h6 h7 h8 h7b h8b
    show ∃ I', f_X5_placeWithCursor_b12 (f_X5_placeWithCursor_L12 fuel) (Sx I J b c) 16 (iW n) = _ ∧ _
    have hW' := hW
    obtain ⟨hA, hm, hM, g1, g2, hp, ht⟩ := hW'
    have hN := hA.1
    have hN2 : I 8 4 = nit A := hM.2.2.2.2.1
    have hD : I 8 6 = A 4 2 := hM.2.2.2.2.2.2
    have hA2 := hA.2.2.1
    by_cases hk : (n : Int) = nit A
    · rw [show (nit A).toNat = n by omega, ← hk]
      refine ⟨I, ?_, hW, hB, fun _ _ => rfl⟩
      have n0 : nit A ≤ (n : Int) := by omega
      simp (disch := first | assumption | omega) only [f_X5_placeWithCursor_b12, ↓rc16, ↓gI16_4, ↓gI16_5, ↓gI16_6, ↓gI16_7, ↓gI16_8, ↓pI16_4, ↓pI16_5, ↓pI16_6, ↓pI16_7, ↓pI16_8, ↓gR16_0, ↓gR16_1, ↓gR16_2, ↓gR16_3, ↓aI17, ↓sI17, ↓ln17, ↓aI18, ↓sZ18, ↓ln18, ↓aI19, ↓sI19, ↓ln19, ↓rc8, ↓gI8_4, ↓gI8_5, ↓gI8_6, ↓pI8_4, ↓pI8_5, ↓pZ8_6, ↓gR8_0, ↓gR8_1, ↓gR8_2, ↓gR8_3, ↓aI9, ↓sI9, ↓ln9, ↓aI10, ↓sI10, ↓ln10, ↓aI11, ↓sI11, ↓ln11, ↓aI12, ↓sI12, ↓ln12, ↓c_I, ↓c_J, ↓c_Q, ↓c_V, ↓c_It, ↓c_Jt, ↓c_Vt, ↓k_I, ↓k_J, ↓n_I, ↓n_V, li0, li1, li2, li3, li4, li5, li6, li7, li8, li9, li10, li11, li12, li13, li14, li15, li16, li17, li18, li19, li20, li21, li22, li23, li24, li25, li26, li27, li28, li29, li30, li31, li32, li33, li34, li35, li36, li37, li38, li39, li40, li41, li42, li44, li48, li57, li63, li64, li65, li97, li99, li100, li101, li102, li104, li105, li106, li109, li114, li120, li128, li130, li300, li514, li999, li1000, li8192, li9999, li65536, li1000000, li1000001, li1000002, li1000003, li1000004, li1000005, li1000006, li1000007, li1000008, li1000009, li1000010, li1000011, li1000012, li1000013, li1000014, li1000015, li1000016, li1000017, li1000018, li1000019, li2147483647, lj0, lj1, W_add, W_sub, W_mul, W_neg, V_add, V_sub, V_mul, V_neg, W_ite, W_le, W_lt, W_inj, V_le, V_lt, V_inj, W_V, V_W, lgc_ge, lgc_gt, lgc_le, lgc_lt, lgc_eq, ge_iff_le, gt_iff_lt, hN2, n0, ↓reduceIte]
    · have n1 : ¬ (nit A ≤ (n : Int)) := by omega
      have hc : ((n + 1 : Nat) : Int) = (n : Int) + 1 := by omega
      have e1 := e_isPlaced (I := I) (J := J) (b := b) (c := c) (P := pP4 A mx n) (i := n) (by omega) (by omega) (hp n (by omega) (by omega))
      by_cases hP : hs A n mx
      · rw [bb_pos (show pP4 A mx n n from Or.inl hP)] at e1
        have hpS : pS4 A st0 mx cnt (n + 1) = pS4 A st0 mx cnt n := cif_pos hP
        have hQ : ∀ k, 0 ≤ k → k < nit A → (pP4 A mx ((n + 1 : Nat) : Int) k ↔ pP4 A mx n k) := by
          intro k k0 k1
          unfold pP4
          constructor
          · rintro (h1 | h1)
            · exact Or.inl h1
            · by_cases e : k = n
              · subst e
                exact Or.inl hP
              · exact Or.inr (by omega)
          · rintro (h1 | h1)
            · exact Or.inl h1
            · exact Or.inr (by omega)
        obtain ⟨I', k1, k2⟩ := ih (n + 1) I (by omega) (by omega) (by rw [hpS]; exact hW.congr hQ) (by rw [hpS]; exact (hB.congr fun k k0 k1 h => (hQ k k0 k1).mp h).mono (by omega) (Int.le_refl _)) h6 (by rw [hpS]; exact h7) (by rw [hpS]; exact h8) (by omega) (by omega)
        refine ⟨I', ?_, k2⟩
        rw [← k1, hc]
        simp (disch := first | assumption | omega) only [f_X5_placeWithCursor_b12, f_X5_placeWithCursor_b89, ↓rc16, ↓gI16_4, ↓gI16_5, ↓gI16_6, ↓gI16_7, ↓gI16_8, ↓pI16_4, ↓pI16_5, ↓pI16_6, ↓pI16_7, ↓pI16_8, ↓gR16_0, ↓gR16_1, ↓gR16_2, ↓gR16_3, ↓aI17, ↓sI17, ↓ln17, ↓aI18, ↓sZ18, ↓ln18, ↓aI19, ↓sI19, ↓ln19, ↓rc8, ↓gI8_4, ↓gI8_5, ↓gI8_6, ↓pI8_4, ↓pI8_5, ↓pZ8_6, ↓gR8_0, ↓gR8_1, ↓gR8_2, ↓gR8_3, ↓aI9, ↓sI9, ↓ln9, ↓aI10, ↓sI10, ↓ln10, ↓aI11, ↓sI11, ↓ln11, ↓aI12, ↓sI12, ↓ln12, ↓c_I, ↓c_J, ↓c_Q, ↓c_V, ↓c_It, ↓c_Jt, ↓c_Vt, ↓k_I, ↓k_J, ↓n_I, ↓n_V, li0, li1, li2, li3, li4, li5, li6, li7, li8, li9, li10, li11, li12, li13, li14, li15, li16, li17, li18, li19, li20, li21, li22, li23, li24, li25, li26, li27, li28, li29, li30, li31, li32, li33, li34, li35, li36, li37, li38, li39, li40, li41, li42, li44, li48, li57, li63, li64, li65, li97, li99, li100, li101, li102, li104, li105, li106, li109, li114, li120, li128, li130, li300, li514, li999, li1000, li8192, li9999, li65536, li1000000, li1000001, li1000002, li1000003, li1000004, li1000005, li1000006, li1000007, li1000008, li1000009, li1000010, li1000011, li1000012, li1000013, li1000014, li1000015, li1000016, li1000017, li1000018, li1000019, li2147483647, lj0, lj1, W_add, W_sub, W_mul, W_neg, V_add, V_sub, V_mul, V_neg, W_ite, W_le, W_lt, W_inj, V_le, V_lt, V_inj, W_V, V_W, lgc_ge, lgc_gt, lgc_le, lgc_lt, lgc_eq, ge_iff_le, gt_iff_lt, hN2, n1, e1, Int.reduceEq, ↓reduceIte]
      · rw [bb_neg (show ¬ pP4 A mx n n from fun h => h.elim hP (by omega))] at e1
        have r := hA.2.2.2.2.2 n (1 - mx) (by omega) (by omega) (by omega) (by omega)
        have rm := (hA.2.2.2.2.2 n mx (by omega) (by omega) (by omega) (by omega)).2.2.1
        have r2 := r.2.1
        have r3 := r.2.2.1
        have hpS : pS4 A st0 mx cnt (n + 1) = (put (pS4 A st0 mx cnt n).1 n mx (pgo A (pS4 A st0 mx cnt n).1 mx cnt n (pcu A (pS4 A st0 mx cnt n).2)).1 (pgo A (pS4 A st0 mx cnt n).1 mx cnt n (pcu A (pS4 A st0 mx cnt n).2)).2, pgo A (pS4 A st0 mx cnt n).1 mx cnt n (pcu A (pS4 A st0 mx cnt n).2)) := cif_neg hP
        have hx : ∃ x : Int × Int, x = pcu A (pS4 A st0 mx cnt n).2 ∧ 1 ≤ x.1 ∧ x.1 ≤ 15 + 4 * n ∧ 1 ≤ x.2 ∧ x.2 ≤ 63 := by
          refine ⟨_, rfl, ?_⟩
          unfold pcu
          split
          · rw [← h7, ← h8]
            omega
          · show (1 : Int) ≤ 1 ∧ (1 : Int) ≤ 15 + 4 * n ∧ (1 : Int) ≤ 1 ∧ (1 : Int) ≤ 63
            omega
        obtain ⟨x, ex, x1, x2, x3, x4⟩ := hx
        rw [← ex] at hpS
        have hQ : ∀ k, 0 ≤ k → k < nit A → (pP4 A mx ((n + 1 : Nat) : Int) k ↔ pP4 A mx n k ∨ k = n) := by
          intro k k0 k1
          unfold pP4
          constructor
          · rintro (h1 | h1)
            · exact Or.inl (Or.inl h1)
            · by_cases e : k = n
              · exact Or.inr e
              · exact Or.inl (Or.inr (by omega))
          · rintro ((h1 | h1) | rfl)
            · exact Or.inl h1
            · exact Or.inr (by omega)
            · exact Or.inr (by omega)
        -- the move, in both cases
        have mv : ∃ y : Int × Int, y = pgo A (pS4 A st0 mx cnt n).1 mx cnt n x ∧ 1 ≤ y.1 ∧ y.1 ≤ 16 + 4 * n ∧ 1 ≤ y.2 ∧ y.2 ≤ 63 ∧ f_X5_placeWithCursor_b51 (f_X5_placeWithCursor_L12 fuel) (Sx (cur I x.1 x.2) J b c) 16 (iW n) = f_X5_placeWithCursor_b76 (f_X5_placeWithCursor_L12 fuel) (Sx (cur I y.1 y.2) J b c) 16 (iW n) := by
          have e2 := e_hasStart (J := J) (b := b) (c := c) hA (hW.cur (m := x.1) (s := x.2)).2.2.1 (i := n) (ax := 1 - mx) (by omega) (by omega) (by omega) (by omega)
          have c5 : cur I x.1 x.2 16 5 = 1 - mx := by rw [cur_k (by decide) (by decide)]; exact g2
          by_cases h2 : hs A n (1 - mx)
          · rw [bb_pos h2] at e2
            have h5 : itf A n (1 - mx) 2 ≠ -1 := h2
            obtain ⟨y, z1, z2, z3, z4⟩ := e_along (J := J) (b := b) (c := c) (m := x.1) (s := x.2) hW hB (by omega) (i := n) (by omega) (by omega) x3 (by omega) x1 x2 h2
            refine ⟨(y, itf A n (1 - mx) 2), ?_, z3, by show y ≤ 16 + 4 * n; omega, by show 1 ≤ itf A n (1 - mx) 2; omega, by show itf A n (1 - mx) 2 ≤ 63; omega, ?_⟩
            · unfold pgo
              rw [cif_pos h2, fo_eq z2]
            · simp (disch := first | assumption | omega) only [f_X5_placeWithCursor_b51, ↓rc16, ↓gI16_4, ↓gI16_5, ↓gI16_6, ↓gI16_7, ↓gI16_8, ↓pI16_4, ↓pI16_5, ↓pI16_6, ↓pI16_7, ↓pI16_8, ↓gR16_0, ↓gR16_1, ↓gR16_2, ↓gR16_3, ↓aI17, ↓sI17, ↓ln17, ↓aI18, ↓sZ18, ↓ln18, ↓aI19, ↓sI19, ↓ln19, ↓rc8, ↓gI8_4, ↓gI8_5, ↓gI8_6, ↓pI8_4, ↓pI8_5, ↓pZ8_6, ↓gR8_0, ↓gR8_1, ↓gR8_2, ↓gR8_3, ↓aI9, ↓sI9, ↓ln9, ↓aI10, ↓sI10, ↓ln10, ↓aI11, ↓sI11, ↓ln11, ↓aI12, ↓sI12, ↓ln12, ↓c_I, ↓c_J, ↓c_Q, ↓c_V, ↓c_It, ↓c_Jt, ↓c_Vt, ↓k_I, ↓k_J, ↓n_I, ↓n_V, li0, li1, li2, li3, li4, li5, li6, li7, li8, li9, li10, li11, li12, li13, li14, li15, li16, li17, li18, li19, li20, li21, li22, li23, li24, li25, li26, li27, li28, li29, li30, li31, li32, li33, li34, li35, li36, li37, li38, li39, li40, li41, li42, li44, li48, li57, li63, li64, li65, li97, li99, li100, li101, li102, li104, li105, li106, li109, li114, li120, li128, li130, li300, li514, li999, li1000, li8192, li9999, li65536, li1000000, li1000001, li1000002, li1000003, li1000004, li1000005, li1000006, li1000007, li1000008, li1000009, li1000010, li1000011, li1000012, li1000013, li1000014, li1000015, li1000016, li1000017, li1000018, li1000019, li2147483647, lj0, lj1, W_add, W_sub, W_mul, W_neg, V_add, V_sub, V_mul, V_neg, W_ite, W_le, W_lt, W_inj, V_le, V_lt, V_inj, W_V, V_W, lgc_ge, lgc_gt, lgc_le, lgc_lt, lgc_eq, ge_iff_le, gt_iff_lt, c5, e2, z1, Int.reduceEq, ↓reduceIte]
          · rw [bb_neg h2] at e2
            obtain ⟨y, z1, z2, z3, z4, z5, z6⟩ := e_toFree (J := J) (b := b) (c := c) (m := x.1) (s := x.2) hW hB (by omega) (i := n) (by omega) (by omega) x3 (by omega) x1 x2 h6 (hcnt n (by omega) (by omega) hP h2) (by omega)
            refine ⟨y, ?_, z3, by omega, z5, by omega, ?_⟩
            · unfold pgo
              rw [cif_neg h2]
              exact (fo_eq z2).symm
            · simp (disch := first | assumption | omega) only [f_X5_placeWithCursor_b51, ↓rc16, ↓gI16_4, ↓gI16_5, ↓gI16_6, ↓gI16_7, ↓gI16_8, ↓pI16_4, ↓pI16_5, ↓pI16_6, ↓pI16_7, ↓pI16_8, ↓gR16_0, ↓gR16_1, ↓gR16_2, ↓gR16_3, ↓aI17, ↓sI17, ↓ln17, ↓aI18, ↓sZ18, ↓ln18, ↓aI19, ↓sI19, ↓ln19, ↓rc8, ↓gI8_4, ↓gI8_5, ↓gI8_6, ↓pI8_4, ↓pI8_5, ↓pZ8_6, ↓gR8_0, ↓gR8_1, ↓gR8_2, ↓gR8_3, ↓aI9, ↓sI9, ↓ln9, ↓aI10, ↓sI10, ↓ln10, ↓aI11, ↓sI11, ↓ln11, ↓aI12, ↓sI12, ↓ln12, ↓c_I, ↓c_J, ↓c_Q, ↓c_V, ↓c_It, ↓c_Jt, ↓c_Vt, ↓k_I, ↓k_J, ↓n_I, ↓n_V, li0, li1, li2, li3, li4, li5, li6, li7, li8, li9, li10, li11, li12, li13, li14, li15, li16, li17, li18, li19, li20, li21, li22, li23, li24, li25, li26, li27, li28, li29, li30, li31, li32, li33, li34, li35, li36, li37, li38, li39, li40, li41, li42, li44, li48, li57, li63, li64, li65, li97, li99, li100, li101, li102, li104, li105, li106, li109, li114, li120, li128, li130, li300, li514, li999, li1000, li8192, li9999, li65536, li1000000, li1000001, li1000002, li1000003, li1000004, li1000005, li1000006, li1000007, li1000008, li1000009, li1000010, li1000011, li1000012, li1000013, li1000014, li1000015, li1000016, li1000017, li1000018, li1000019, li2147483647, lj0, lj1, W_add, W_sub, W_mul, W_neg, V_add, V_sub, V_mul, V_neg, W_ite, W_le, W_lt, W_inj, V_le, V_lt, V_inj, W_V, V_W, lgc_ge, lgc_gt, lgc_le, lgc_lt, lgc_eq, ge_iff_le, gt_iff_lt, c5, e2, z1, ↓reduceIte]
        obtain ⟨y, ey, y1, y2, y3, y4, hmove⟩ := mv
        rw [← ey] at hpS
        have c4 : cur I y.1 y.2 16 4 = mx := by rw [cur_k (by decide) (by decide)]; exact g1
        have c5 : cur I y.1 y.2 16 5 = 1 - mx := by rw [cur_k (by decide) (by decide)]; exact g2
        have p1 := e_putAt (I := cur I y.1 y.2) (J := J) (b := b) (c := c) (m := y.1) (s := y.2) hm c4 c5 (show (0 : Int) ≤ n by omega) (show (n : Int) < 12 by omega)
        have hW2 := pput_W (m := y.1) (s := y.2) (hW.cur (m := y.1) (s := y.2)) (i := n) (by omega) (by omega) y1 (by omega) y3 (by omega) hQ
        have hp16 : pput (cur I y.1 y.2) n mx y.1 y.2 16 = cur I y.1 y.2 16 := by
          unfold pput
          rw [u_obj (by omega), u_obj (by omega), u_obj (by omega)]
        obtain ⟨I', k1, k2, k3, k4⟩ := ih (n + 1) (pput (cur I y.1 y.2) n mx y.1 y.2) (by omega) (by omega) (by rw [hpS]; exact hW2) (by
            rw [hpS]
            exact pB_put hm (hB.mono (by omega) (Int.le_refl _)) (by omega) (by omega) (fun k k0 k1 h => (hQ k k0 k1).mp h)) (by rw [hp16, cur_k (by decide) (by decide)]; exact h6) (by rw [hp16, cur_7, hpS]) (by rw [hp16, cur_8, hpS]) (by rw [hp16, cur_7]; omega) (by rw [hp16, cur_8]; omega)
        refine ⟨I', ?_, k2, k3, fun a ha => ?_⟩
        · rw [← k1, hc]
          have h76 : f_X5_placeWithCursor_b76 (f_X5_placeWithCursor_L12 fuel) (Sx (cur I y.1 y.2) J b c) 16 (iW n) = f_X5_placeWithCursor_L12 fuel (Sx (pput (cur I y.1 y.2) n mx y.1 y.2) J b c) 16 (iW (n + 1)) := by
            simp (disch := first | assumption | omega) only [f_X5_placeWithCursor_b76, f_X5_placeWithCursor_b89, ↓rc16, ↓gI16_4, ↓gI16_5, ↓gI16_6, ↓gI16_7, ↓gI16_8, ↓pI16_4, ↓pI16_5, ↓pI16_6, ↓pI16_7, ↓pI16_8, ↓gR16_0, ↓gR16_1, ↓gR16_2, ↓gR16_3, ↓aI17, ↓sI17, ↓ln17, ↓aI18, ↓sZ18, ↓ln18, ↓aI19, ↓sI19, ↓ln19, ↓rc8, ↓gI8_4, ↓gI8_5, ↓gI8_6, ↓pI8_4, ↓pI8_5, ↓pZ8_6, ↓gR8_0, ↓gR8_1, ↓gR8_2, ↓gR8_3, ↓aI9, ↓sI9, ↓ln9, ↓aI10, ↓sI10, ↓ln10, ↓aI11, ↓sI11, ↓ln11, ↓aI12, ↓sI12, ↓ln12, ↓c_I, ↓c_J, ↓c_Q, ↓c_V, ↓c_It, ↓c_Jt, ↓c_Vt, ↓k_I, ↓k_J, ↓n_I, ↓n_V, li0, li1, li2, li3, li4, li5, li6, li7, li8, li9, li10, li11, li12, li13, li14, li15, li16, li17, li18, li19, li20, li21, li22, li23, li24, li25, li26, li27, li28, li29, li30, li31, li32, li33, li34, li35, li36, li37, li38, li39, li40, li41, li42, li44, li48, li57, li63, li64, li65, li97, li99, li100, li101, li102, li104, li105, li106, li109, li114, li120, li128, li130, li300, li514, li999, li1000, li8192, li9999, li65536, li1000000, li1000001, li1000002, li1000003, li1000004, li1000005, li1000006, li1000007, li1000008, li1000009, li1000010, li1000011, li1000012, li1000013, li1000014, li1000015, li1000016, li1000017, li1000018, li1000019, li2147483647, lj0, lj1, W_add, W_sub, W_mul, W_neg, V_add, V_sub, V_mul, V_neg, W_ite, W_le, W_lt, W_inj, V_le, V_lt, V_inj, W_V, V_W, lgc_ge, lgc_gt, lgc_le, lgc_lt, lgc_eq, ge_iff_le, gt_iff_lt, cur_7, cur_8, p1]
          rw [h76] at hmove
          by_cases hd : A 4 2 = 0
          · have ex2 : x = (I 16 7, I 16 8) := by
              rw [ex, h7, h8]
              exact if_pos hd
            rw [ex2] at hmove
            have hmove : f_X5_placeWithCursor_b51 (f_X5_placeWithCursor_L12 fuel) (Sx (cur I (I 16 7) (I 16 8)) J b c) 16 (iW n) = _ := hmove
            rw [cur_self] at hmove
            simp (disch := first | assumption | omega) only [f_X5_placeWithCursor_b12, ↓rc16, ↓gI16_4, ↓gI16_5, ↓gI16_6, ↓gI16_7, ↓gI16_8, ↓pI16_4, ↓pI16_5, ↓pI16_6, ↓pI16_7, ↓pI16_8, ↓gR16_0, ↓gR16_1, ↓gR16_2, ↓gR16_3, ↓aI17, ↓sI17, ↓ln17, ↓aI18, ↓sZ18, ↓ln18, ↓aI19, ↓sI19, ↓ln19, ↓rc8, ↓gI8_4, ↓gI8_5, ↓gI8_6, ↓pI8_4, ↓pI8_5, ↓pZ8_6, ↓gR8_0, ↓gR8_1, ↓gR8_2, ↓gR8_3, ↓aI9, ↓sI9, ↓ln9, ↓aI10, ↓sI10, ↓ln10, ↓aI11, ↓sI11, ↓ln11, ↓aI12, ↓sI12, ↓ln12, ↓c_I, ↓c_J, ↓c_Q, ↓c_V, ↓c_It, ↓c_Jt, ↓c_Vt, ↓k_I, ↓k_J, ↓n_I, ↓n_V, li0, li1, li2, li3, li4, li5, li6, li7, li8, li9, li10, li11, li12, li13, li14, li15, li16, li17, li18, li19, li20, li21, li22, li23, li24, li25, li26, li27, li28, li29, li30, li31, li32, li33, li34, li35, li36, li37, li38, li39, li40, li41, li42, li44, li48, li57, li63, li64, li65, li97, li99, li100, li101, li102, li104, li105, li106, li109, li114, li120, li128, li130, li300, li514, li999, li1000, li8192, li9999, li65536, li1000000, li1000001, li1000002, li1000003, li1000004, li1000005, li1000006, li1000007, li1000008, li1000009, li1000010, li1000011, li1000012, li1000013, li1000014, li1000015, li1000016, li1000017, li1000018, li1000019, li2147483647, lj0, lj1, W_add, W_sub, W_mul, W_neg, V_add, V_sub, V_mul, V_neg, W_ite, W_le, W_lt, W_inj, V_le, V_lt, V_inj, W_V, V_W, lgc_ge, lgc_gt, lgc_le, lgc_lt, lgc_eq, ge_iff_le, gt_iff_lt, hN2, hD, hd, n1, e1, hmove, ↓reduceIte]
          · have ex2 : x = (1, 1) := by
              rw [ex]
              exact if_neg hd
            rw [ex2] at hmove
            have hmove : f_X5_placeWithCursor_b51 (f_X5_placeWithCursor_L12 fuel) (Sx (uI (uI I 16 7 1) 16 8 1) J b c) 16 (iW n) = _ := hmove
            simp (disch := first | assumption | omega) only [f_X5_placeWithCursor_b12, ↓rc16, ↓gI16_4, ↓gI16_5, ↓gI16_6, ↓gI16_7, ↓gI16_8, ↓pI16_4, ↓pI16_5, ↓pI16_6, ↓pI16_7, ↓pI16_8, ↓gR16_0, ↓gR16_1, ↓gR16_2, ↓gR16_3, ↓aI17, ↓sI17, ↓ln17, ↓aI18, ↓sZ18, ↓ln18, ↓aI19, ↓sI19, ↓ln19, ↓rc8, ↓gI8_4, ↓gI8_5, ↓gI8_6, ↓pI8_4, ↓pI8_5, ↓pZ8_6, ↓gR8_0, ↓gR8_1, ↓gR8_2, ↓gR8_3, ↓aI9, ↓sI9, ↓ln9, ↓aI10, ↓sI10, ↓ln10, ↓aI11, ↓sI11, ↓ln11, ↓aI12, ↓sI12, ↓ln12, ↓c_I, ↓c_J, ↓c_Q, ↓c_V, ↓c_It, ↓c_Jt, ↓c_Vt, ↓k_I, ↓k_J, ↓n_I, ↓n_V, li0, li1, li2, li3, li4, li5, li6, li7, li8, li9, li10, li11, li12, li13, li14, li15, li16, li17, li18, li19, li20, li21, li22, li23, li24, li25, li26, li27, li28, li29, li30, li31, li32, li33, li34, li35, li36, li37, li38, li39, li40, li41, li42, li44, li48, li57, li63, li64, li65, li97, li99, li100, li101, li102, li104, li105, li106, li109, li114, li120, li128, li130, li300, li514, li999, li1000, li8192, li9999, li65536, li1000000, li1000001, li1000002, li1000003, li1000004, li1000005, li1000006, li1000007, li1000008, li1000009, li1000010, li1000011, li1000012, li1000013, li1000014, li1000015, li1000016, li1000017, li1000018, li1000019, li2147483647, lj0, lj1, W_add, W_sub, W_mul, W_neg, V_add, V_sub, V_mul, V_neg, W_ite, W_le, W_lt, W_inj, V_le, V_lt, V_inj, W_V, V_W, lgc_ge, lgc_gt, lgc_le, lgc_lt, lgc_eq, ge_iff_le, gt_iff_lt, hN2, hD, hd, n1, e1, hmove, ↓reduceIte]
        · rw [k4 a ha]
          unfold pput
          rw [u_obj (by omega), u_obj (by omega), u_obj (by omega), cur_o (by omega)]
end PlaceG

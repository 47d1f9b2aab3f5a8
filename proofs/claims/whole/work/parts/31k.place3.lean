/-! ===== the engine's Placement: step 4 and all of it ===== -/
theorem u_self {I : CF} {a k : Int} : uI I a k (I a k) = I := by
  funext x y
  unfold uI
  by_cases q : x = a ∧ y = k
  · rw [if_pos q, q.1, q.2]
  · rw [if_neg q]
theorem u_u {I : CF} {a k v w : Int} : uI (uI I a k v) a k w = uI I a k w := by
  funext x y
  unfold uI
  by_cases q : x = a ∧ y = k
  · rw [if_pos q, if_pos q]
  · rw [if_neg q, if_neg q, if_neg q]
theorem u_comm {I : CF} {a k v d j w : Int} (h : a ≠ d ∨ k ≠ j) : uI (uI I a k v) d j w = uI (uI I d j w) a k v := by
  funext x y
  unfold uI
  by_cases q : x = a ∧ y = k
  · rw [if_pos q, if_pos q, if_neg (by omega)]
  · rw [if_neg q, if_neg q]
def cur (I : CF) (m s : Int) : CF := uI (uI I 16 7 m) 16 8 s
section PlaceG
variable {J : CF} {b : Nat} {c : Bool} {A : CF}
theorem cur_7 {I : CF} {m s : Int} : cur I m s 16 7 = m := by
  unfold cur
  rw [u_ne (by decide), u_eq]
theorem cur_8 {I : CF} {m s : Int} : cur I m s 16 8 = s := u_eq
theorem cur_k {I : CF} {m s k : Int} (h7 : k ≠ 7) (h8 : k ≠ 8) : cur I m s 16 k = I 16 k := by
  unfold cur
  rw [u_ne h8, u_ne h7]
theorem cur_o {I : CF} {m s a : Int} (h : a ≠ 16) : cur I m s a = I a := by
  unfold cur
  rw [u_obj h, u_obj h]
theorem cur_w7 {I : CF} {m s m' : Int} : uI (cur I m s) 16 7 m' = cur I m' s := by
  unfold cur
  rw [u_comm (Or.inr (by decide)), u_u]
theorem cur_w8 {I : CF} {m s s' : Int} : uI (cur I m s) 16 8 s' = cur I m s' := u_u
theorem cur_cur {I : CF} {m s m' s' : Int} : cur (cur I m s) m' s' = cur I m' s' := by
  show uI (uI (cur I m s) 16 7 m') 16 8 s' = _
  rw [cur_w7, cur_w8]
theorem cur_self {I : CF} : cur I (I 16 7) (I 16 8) = I := by
  unfold cur
  rw [u_self, u_self]
theorem PW.cur {I : CF} {mx m s : Int} {P : Int → Prop} {st : CF} (h : PW I A mx P st) : PW (cur I m s) A mx P st := h.fr (cur_k (by decide) (by decide)) (cur_k (by decide) (by decide)) (fun a ha => cur_o (by omega))
theorem e_along_L {I : CF} {mx i s : Int} {P : Int → Prop} {st : CF} {Bm Bs : Int} (hW : PW I A mx P st) (hB : pB A st mx P Bm Bs) (hBm : Bm ≤ 61) (i0 : 0 ≤ i) (i1 : i < nit A) (s0 : 1 ≤ s) (s1 : s ≤ 100) :
    ∀ (fuel : Nat) (m : Int), Bm + 1 - m < fuel → 1 ≤ m → m ≤ Bm + 1 → ∃ y, f_X5_moveAlongMain_L37 fuel (Sx (cur I m s) J b c) 16 (iW i) = some (Sx (cur I y s) J b c, xv) ∧ FO (fun y => (y.1 + 1, y.2)) (fun y => free A st mx P i y.1 y.2) (m, s) (y, s) ∧ m ≤ y ∧ y ≤ Bm + 1 := by
  intro fuel
  induction fuel with
  | zero => intro m a1 a2; omega
  | succ fuel ih =>
    intro m a1 a2 a3
    show ∃ y, f_X5_moveAlongMain_b37 (f_X5_moveAlongMain_L37 fuel) (Sx (cur I m s) J b c) 16 (iW i) = _ ∧ _
    have n1 : ¬ (64 ≤ m) := by omega
    have e1 := e_isFree (J := J) (b := b) (c := c) (hW.cur (m := m) (s := s)) (i := i) (m := m) (s := s) i0 i1 (by omega) (by omega) (by omega) (by omega)
    by_cases hf : free A st mx P i m s
    · rw [bb_pos hf] at e1
      refine ⟨m, ?_, FO.here hf, by omega, a3⟩
      simp (disch := first | assumption | omega) only [f_X5_moveAlongMain_b37, f_X5_moveAlongMain_b75, ↓rc16, ↓gI16_4, ↓gI16_5, ↓gI16_6, ↓gI16_7, ↓gI16_8, ↓pI16_4, ↓pI16_5, ↓pI16_6, ↓pI16_7, ↓pI16_8, ↓gR16_0, ↓gR16_1, ↓gR16_2, ↓gR16_3, ↓aI17, ↓sI17, ↓ln17, ↓aI18, ↓sZ18, ↓ln18, ↓aI19, ↓sI19, ↓ln19, ↓rc8, ↓gI8_4, ↓gI8_5, ↓gI8_6, ↓pI8_4, ↓pI8_5, ↓pZ8_6, ↓gR8_0, ↓gR8_1, ↓gR8_2, ↓gR8_3, ↓aI9, ↓sI9, ↓ln9, ↓aI10, ↓sI10, ↓ln10, ↓aI11, ↓sI11, ↓ln11, ↓aI12, ↓sI12, ↓ln12, ↓c_I, ↓c_J, ↓c_Q, ↓c_V, ↓c_It, ↓c_Jt, ↓c_Vt, ↓k_I, ↓k_J, ↓n_I, ↓n_V, li0, li1, li2, li3, li4, li5, li6, li7, li8, li9, li10, li11, li12, li13, li14, li15, li16, li17, li18, li19, li20, li21, li22, li23, li24, li25, li26, li27, li28, li29, li30, li31, li32, li33, li34, li35, li36, li37, li38, li39, li40, li41, li42, li44, li48, li57, li63, li64, li65, li97, li99, li100, li101, li102, li104, li105, li106, li109, li114, li120, li128, li130, li300, li514, li999, li1000, li8192, li9999, li65536, li1000000, li1000001, li1000002, li1000003, li1000004, li1000005, li1000006, li1000007, li1000008, li1000009, li1000010, li1000011, li1000012, li1000013, li1000014, li1000015, li1000016, li1000017, li1000018, li1000019, li2147483647, lj0, lj1, W_add, W_sub, W_mul, W_neg, V_add, V_sub, V_mul, V_neg, W_ite, W_le, W_lt, W_inj, V_le, V_lt, V_inj, W_V, V_W, lgc_ge, lgc_gt, lgc_le, lgc_lt, lgc_eq, ge_iff_le, gt_iff_lt, cur_7, cur_8, n1, e1, Int.reduceEq, ↓reduceIte]
    · rw [bb_neg hf] at e1
      have hlt : m ≤ Bm := by
        apply Classical.byContradiction
        intro hh
        exact hf (free_far hB (Or.inl (by omega)))
      obtain ⟨y, k1, k2', k3, k4⟩ := ih (m + 1) (by omega) (by omega) (by omega)
      refine ⟨y, ?_, FO.next hf k2', by omega, k4⟩
      rw [← k1]
      simp (disch := first | assumption | omega) only [f_X5_moveAlongMain_b37, f_X5_moveAlongMain_b75, ↓rc16, ↓gI16_4, ↓gI16_5, ↓gI16_6, ↓gI16_7, ↓gI16_8, ↓pI16_4, ↓pI16_5, ↓pI16_6, ↓pI16_7, ↓pI16_8, ↓gR16_0, ↓gR16_1, ↓gR16_2, ↓gR16_3, ↓aI17, ↓sI17, ↓ln17, ↓aI18, ↓sZ18, ↓ln18, ↓aI19, ↓sI19, ↓ln19, ↓rc8, ↓gI8_4, ↓gI8_5, ↓gI8_6, ↓pI8_4, ↓pI8_5, ↓pZ8_6, ↓gR8_0, ↓gR8_1, ↓gR8_2, ↓gR8_3, ↓aI9, ↓sI9, ↓ln9, ↓aI10, ↓sI10, ↓ln10, ↓aI11, ↓sI11, ↓ln11, ↓aI12, ↓sI12, ↓ln12, ↓c_I, ↓c_J, ↓c_Q, ↓c_V, ↓c_It, ↓c_Jt, ↓c_Vt, ↓k_I, ↓k_J, ↓n_I, ↓n_V, li0, li1, li2, li3, li4, li5, li6, li7, li8, li9, li10, li11, li12, li13, li14, li15, li16, li17, li18, li19, li20, li21, li22, li23, li24, li25, li26, li27, li28, li29, li30, li31, li32, li33, li34, li35, li36, li37, li38, li39, li40, li41, li42, li44, li48, li57, li63, li64, li65, li97, li99, li100, li101, li102, li104, li105, li106, li109, li114, li120, li128, li130, li300, li514, li999, li1000, li8192, li9999, li65536, li1000000, li1000001, li1000002, li1000003, li1000004, li1000005, li1000006, li1000007, li1000008, li1000009, li1000010, li1000011, li1000012, li1000013, li1000014, li1000015, li1000016, li1000017, li1000018, li1000019, li2147483647, lj0, lj1, W_add, W_sub, W_mul, W_neg, V_add, V_sub, V_mul, V_neg, W_ite, W_le, W_lt, W_inj, V_le, V_lt, V_inj, W_V, V_W, lgc_ge, lgc_gt, lgc_le, lgc_lt, lgc_eq, ge_iff_le, gt_iff_lt, cur_7, cur_8, cur_w7, n1, e1, ↓reduceIte]
theorem e_along {I : CF} {mx i m s : Int} {P : Int → Prop} {st : CF} {Bm Bs : Int} (hW : PW I A mx P st) (hB : pB A st mx P Bm Bs) (hBm : Bm ≤ 61) (i0 : 0 ≤ i) (i1 : i < nit A) (s0 : 1 ≤ s) (s1 : s ≤ 100) (m0 : 1 ≤ m) (m1 : m ≤ Bm) (hi : hs A i (1 - mx)) :
    ∃ y, f_X5_moveAlongMain (Sx (cur I m s) J b c) 16 (iW i) = some (Sx (cur I y (itf A i (1 - mx) 2)) J b c, xv) ∧ FO (fun y => (y.1 + 1, y.2)) (fun y => free A st mx P i y.1 y.2) (if itf A i (1 - mx) 2 < s then m + 1 else m, itf A i (1 - mx) 2) (y, itf A i (1 - mx) 2) ∧ 1 ≤ y ∧ y ≤ Bm + 1 := by
  have hW' := hW
  obtain ⟨hA, hm, hM, g1, g2, hp, ht⟩ := hW'
  have hN := hA.1
  have r2 := (hA.2.2.2.2.2 i (1 - mx) i0 i1 (by omega) (by omega)).2.1
  have h5 : itf A i (1 - mx) 2 ≠ -1 := hi
  have i2 := e_itemField (J := J) (b := b) (c := c) (hW.cur (m := m) (s := s)).2.2.1 i0 (show i < 12 by omega) (ax := 1 - mx) (by omega) (by omega) (f := 2) (by omega) (by omega)
  have c5 : cur I m s 16 5 = 1 - mx := by rw [cur_k (by decide) (by decide)]; exact g2
  by_cases q : itf A i (1 - mx) 2 < s
  · rw [if_pos q]
    obtain ⟨y, k1, k2, k3, k4⟩ := e_along_L (J := J) (b := b) (c := c) (s := itf A i (1 - mx) 2) hW hB hBm i0 i1 (by omega) (by omega) FU (m + 1) (by unfold FU; omega) (by omega) (by omega)
    refine ⟨y, ?_, k2, by omega, k4⟩
    rw [← k1]
    have n1 : ¬ (s ≤ itf A i (1 - mx) 2) := by omega
    simp (disch := first | assumption | omega) only [f_X5_moveAlongMain, f_X5_moveAlongMain_b32, ↓rc16, ↓gI16_4, ↓gI16_5, ↓gI16_6, ↓gI16_7, ↓gI16_8, ↓pI16_4, ↓pI16_5, ↓pI16_6, ↓pI16_7, ↓pI16_8, ↓gR16_0, ↓gR16_1, ↓gR16_2, ↓gR16_3, ↓aI17, ↓sI17, ↓ln17, ↓aI18, ↓sZ18, ↓ln18, ↓aI19, ↓sI19, ↓ln19, ↓rc8, ↓gI8_4, ↓gI8_5, ↓gI8_6, ↓pI8_4, ↓pI8_5, ↓pZ8_6, ↓gR8_0, ↓gR8_1, ↓gR8_2, ↓gR8_3, ↓aI9, ↓sI9, ↓ln9, ↓aI10, ↓sI10, ↓ln10, ↓aI11, ↓sI11, ↓ln11, ↓aI12, ↓sI12, ↓ln12, ↓c_I, ↓c_J, ↓c_Q, ↓c_V, ↓c_It, ↓c_Jt, ↓c_Vt, ↓k_I, ↓k_J, ↓n_I, ↓n_V, li0, li1, li2, li3, li4, li5, li6, li7, li8, li9, li10, li11, li12, li13, li14, li15, li16, li17, li18, li19, li20, li21, li22, li23, li24, li25, li26, li27, li28, li29, li30, li31, li32, li33, li34, li35, li36, li37, li38, li39, li40, li41, li42, li44, li48, li57, li63, li64, li65, li97, li99, li100, li101, li102, li104, li105, li106, li109, li114, li120, li128, li130, li300, li514, li999, li1000, li8192, li9999, li65536, li1000000, li1000001, li1000002, li1000003, li1000004, li1000005, li1000006, li1000007, li1000008, li1000009, li1000010, li1000011, li1000012, li1000013, li1000014, li1000015, li1000016, li1000017, li1000018, li1000019, li2147483647, lj0, lj1, W_add, W_sub, W_mul, W_neg, V_add, V_sub, V_mul, V_neg, W_ite, W_le, W_lt, W_inj, V_le, V_lt, V_inj, W_V, V_W, lgc_ge, lgc_gt, lgc_le, lgc_lt, lgc_eq, ge_iff_le, gt_iff_lt, c5, i2, cur_7, cur_8, cur_w7, cur_w8, n1, ↓reduceIte]
  · rw [if_neg q]
    obtain ⟨y, k1, k2, k3, k4⟩ := e_along_L (J := J) (b := b) (c := c) (s := itf A i (1 - mx) 2) hW hB hBm i0 i1 (by omega) (by omega) FU m (by unfold FU; omega) (by omega) (by omega)
    refine ⟨y, ?_, k2, by omega, k4⟩
    rw [← k1]
    have n1 : s ≤ itf A i (1 - mx) 2 := by omega
    simp (disch := first | assumption | omega) only [f_X5_moveAlongMain, f_X5_moveAlongMain_b32, ↓rc16, ↓gI16_4, ↓gI16_5, ↓gI16_6, ↓gI16_7, ↓gI16_8, ↓pI16_4, ↓pI16_5, ↓pI16_6, ↓pI16_7, ↓pI16_8, ↓gR16_0, ↓gR16_1, ↓gR16_2, ↓gR16_3, ↓aI17, ↓sI17, ↓ln17, ↓aI18, ↓sZ18, ↓ln18, ↓aI19, ↓sI19, ↓ln19, ↓rc8, ↓gI8_4, ↓gI8_5, ↓gI8_6, ↓pI8_4, ↓pI8_5, ↓pZ8_6, ↓gR8_0, ↓gR8_1, ↓gR8_2, ↓gR8_3, ↓aI9, ↓sI9, ↓ln9, ↓aI10, ↓sI10, ↓ln10, ↓aI11, ↓sI11, ↓ln11, ↓aI12, ↓sI12, ↓ln12, ↓c_I, ↓c_J, ↓c_Q, ↓c_V, ↓c_It, ↓c_Jt, ↓c_Vt, ↓k_I, ↓k_J, ↓n_I, ↓n_V, li0, li1, li2, li3, li4, li5, li6, li7, li8, li9, li10, li11, li12, li13, li14, li15, li16, li17, li18, li19, li20, li21, li22, li23, li24, li25, li26, li27, li28, li29, li30, li31, li32, li33, li34, li35, li36, li37, li38, li39, li40, li41, li42, li44, li48, li57, li63, li64, li65, li97, li99, li100, li101, li102, li104, li105, li106, li109, li114, li120, li128, li130, li300, li514, li999, li1000, li8192, li9999, li65536, li1000000, li1000001, li1000002, li1000003, li1000004, li1000005, li1000006, li1000007, li1000008, li1000009, li1000010, li1000011, li1000012, li1000013, li1000014, li1000015, li1000016, li1000017, li1000018, li1000019, li2147483647, lj0, lj1, W_add, W_sub, W_mul, W_neg, V_add, V_sub, V_mul, V_neg, W_ite, W_le, W_lt, W_inj, V_le, V_lt, V_inj, W_V, V_W, lgc_ge, lgc_gt, lgc_le, lgc_lt, lgc_eq, ge_iff_le, gt_iff_lt, c5, i2, cur_7, cur_8, cur_w7, cur_w8, n1, ↓reduceIte]
theorem e_toFree_L {I : CF} {mx i last : Int} {P : Int → Prop} {st : CF} {Bm Bs : Int} (hW : PW I A mx P st) (hB : pB A st mx P Bm Bs) (hBm : Bm ≤ 61) (i0 : 0 ≤ i) (i1 : i < nit A) (l0 : 1 ≤ last) (l1 : last ≤ 100) :
    ∀ (fuel : Nat) (m s : Int), (Bm + 1 - m) * 200 + (150 - s) < fuel → 1 ≤ m → 1 ≤ s → s ≤ 101 → (m ≤ Bm ∨ (m = Bm + 1 ∧ s ≤ last)) → ∃ y, f_X5_moveToFreePlace_L21 fuel (Sx (cur I m s) J b c) 16 (iW i) (iW last) = some (Sx (cur I y.1 y.2) J b c, xv) ∧ FO (pnx last) (fun y => y.2 ≤ last ∧ free A st mx P i y.1 y.2) (m, s) y ∧ 1 ≤ y.1 ∧ y.1 ≤ Bm + 1 ∧ 1 ≤ y.2 ∧ y.2 ≤ last := by
  intro fuel
  induction fuel with
  | zero => intro m s a1 a2; omega
  | succ fuel ih =>
    intro m s a1 a2 a3 a4 a5
    show ∃ y, f_X5_moveToFreePlace_b21 (f_X5_moveToFreePlace_L21 fuel) (Sx (cur I m s) J b c) 16 (iW i) (iW last) = _ ∧ _
    have n1 : ¬ (64 ≤ m) := by omega
    have e1 := e_isFree (J := J) (b := b) (c := c) (hW.cur (m := m) (s := s)) (i := i) (m := m) (s := s) i0 i1 (by omega) (by omega) (by omega) (by omega)
    have step : ¬ (s ≤ last ∧ free A st mx P i m s) → ∃ y, f_X5_moveToFreePlace_b54 (f_X5_moveToFreePlace_L21 fuel) (Sx (cur I m s) J b c) 16 (iW i) (iW last) = some (Sx (cur I y.1 y.2) J b c, xv) ∧ FO (pnx last) (fun y => y.2 ≤ last ∧ free A st mx P i y.1 y.2) (m, s) y ∧ 1 ≤ y.1 ∧ y.1 ≤ Bm + 1 ∧ 1 ≤ y.2 ∧ y.2 ≤ last := by
      intro hbad
      have hm1 : m ≤ Bm := by
        rcases a5 with h | ⟨h, h'⟩
        · exact h
        · exact absurd ⟨h', free_far hB (Or.inl (by omega))⟩ hbad
      by_cases q : s + 1 ≤ last
      · obtain ⟨y, k1, k2⟩ := ih m (s + 1) (by omega) a2 (by omega) (by omega) (Or.inl hm1)
        refine ⟨y, ?_, FO.next hbad ?_, k2.2⟩
        · rw [← k1]
          simp (disch := first | assumption | omega) only [f_X5_moveToFreePlace_b54, ↓rc16, ↓gI16_4, ↓gI16_5, ↓gI16_6, ↓gI16_7, ↓gI16_8, ↓pI16_4, ↓pI16_5, ↓pI16_6, ↓pI16_7, ↓pI16_8, ↓gR16_0, ↓gR16_1, ↓gR16_2, ↓gR16_3, ↓aI17, ↓sI17, ↓ln17, ↓aI18, ↓sZ18, ↓ln18, ↓aI19, ↓sI19, ↓ln19, ↓rc8, ↓gI8_4, ↓gI8_5, ↓gI8_6, ↓pI8_4, ↓pI8_5, ↓pZ8_6, ↓gR8_0, ↓gR8_1, ↓gR8_2, ↓gR8_3, ↓aI9, ↓sI9, ↓ln9, ↓aI10, ↓sI10, ↓ln10, ↓aI11, ↓sI11, ↓ln11, ↓aI12, ↓sI12, ↓ln12, ↓c_I, ↓c_J, ↓c_Q, ↓c_V, ↓c_It, ↓c_Jt, ↓c_Vt, ↓k_I, ↓k_J, ↓n_I, ↓n_V, li0, li1, li2, li3, li4, li5, li6, li7, li8, li9, li10, li11, li12, li13, li14, li15, li16, li17, li18, li19, li20, li21, li22, li23, li24, li25, li26, li27, li28, li29, li30, li31, li32, li33, li34, li35, li36, li37, li38, li39, li40, li41, li42, li44, li48, li57, li63, li64, li65, li97, li99, li100, li101, li102, li104, li105, li106, li109, li114, li120, li128, li130, li300, li514, li999, li1000, li8192, li9999, li65536, li1000000, li1000001, li1000002, li1000003, li1000004, li1000005, li1000006, li1000007, li1000008, li1000009, li1000010, li1000011, li1000012, li1000013, li1000014, li1000015, li1000016, li1000017, li1000018, li1000019, li2147483647, lj0, lj1, W_add, W_sub, W_mul, W_neg, V_add, V_sub, V_mul, V_neg, W_ite, W_le, W_lt, W_inj, V_le, V_lt, V_inj, W_V, V_W, lgc_ge, lgc_gt, lgc_le, lgc_lt, lgc_eq, ge_iff_le, gt_iff_lt, cur_7, cur_8, cur_w7, cur_w8, q, ↓reduceIte]
        · have : pnx last (m, s) = (m, s + 1) := if_pos q
          rw [this]
          exact k2.1
      · obtain ⟨y, k1, k2⟩ := ih (m + 1) 1 (by omega) (by omega) (by omega) (by omega) (by omega)
        refine ⟨y, ?_, FO.next hbad ?_, k2.2⟩
        · rw [← k1]
          simp (disch := first | assumption | omega) only [f_X5_moveToFreePlace_b54, ↓rc16, ↓gI16_4, ↓gI16_5, ↓gI16_6, ↓gI16_7, ↓gI16_8, ↓pI16_4, ↓pI16_5, ↓pI16_6, ↓pI16_7, ↓pI16_8, ↓gR16_0, ↓gR16_1, ↓gR16_2, ↓gR16_3, ↓aI17, ↓sI17, ↓ln17, ↓aI18, ↓sZ18, ↓ln18, ↓aI19, ↓sI19, ↓ln19, ↓rc8, ↓gI8_4, ↓gI8_5, ↓gI8_6, ↓pI8_4, ↓pI8_5, ↓pZ8_6, ↓gR8_0, ↓gR8_1, ↓gR8_2, ↓gR8_3, ↓aI9, ↓sI9, ↓ln9, ↓aI10, ↓sI10, ↓ln10, ↓aI11, ↓sI11, ↓ln11, ↓aI12, ↓sI12, ↓ln12, ↓c_I, ↓c_J, ↓c_Q, ↓c_V, ↓c_It, ↓c_Jt, ↓c_Vt, ↓k_I, ↓k_J, ↓n_I, ↓n_V, li0, li1, li2, li3, li4, li5, li6, li7, li8, li9, li10, li11, li12, li13, li14, li15, li16, li17, li18, li19, li20, li21, li22, li23, li24, li25, li26, li27, li28, li29, li30, li31, li32, li33, li34, li35, li36, li37, li38, li39, li40, li41, li42, li44, li48, li57, li63, li64, li65, li97, li99, li100, li101, li102, li104, li105, li106, li109, li114, li120, li128, li130, li300, li514, li999, li1000, li8192, li9999, li65536, li1000000, li1000001, li1000002, li1000003, li1000004, li1000005, li1000006, li1000007, li1000008, li1000009, li1000010, li1000011, li1000012, li1000013, li1000014, li1000015, li1000016, li1000017, li1000018, li1000019, li2147483647, lj0, lj1, W_add, W_sub, W_mul, W_neg, V_add, V_sub, V_mul, V_neg, W_ite, W_le, W_lt, W_inj, V_le, V_lt, V_inj, W_V, V_W, lgc_ge, lgc_gt, lgc_le, lgc_lt, lgc_eq, ge_iff_le, gt_iff_lt, cur_7, cur_8, cur_w7, cur_w8, q, ↓reduceIte]
        · have : pnx last (m, s) = (m + 1, 1) := if_neg q
          rw [this]
          exact k2.1
    by_cases hl : last < s
    · obtain ⟨y, k1, k2⟩ := step (fun h => by have := h.1; omega)
      refine ⟨y, ?_, k2⟩
      rw [← k1]
      simp (disch := first | assumption | omega) only [f_X5_moveToFreePlace_b21, ↓rc16, ↓gI16_4, ↓gI16_5, ↓gI16_6, ↓gI16_7, ↓gI16_8, ↓pI16_4, ↓pI16_5, ↓pI16_6, ↓pI16_7, ↓pI16_8, ↓gR16_0, ↓gR16_1, ↓gR16_2, ↓gR16_3, ↓aI17, ↓sI17, ↓ln17, ↓aI18, ↓sZ18, ↓ln18, ↓aI19, ↓sI19, ↓ln19, ↓rc8, ↓gI8_4, ↓gI8_5, ↓gI8_6, ↓pI8_4, ↓pI8_5, ↓pZ8_6, ↓gR8_0, ↓gR8_1, ↓gR8_2, ↓gR8_3, ↓aI9, ↓sI9, ↓ln9, ↓aI10, ↓sI10, ↓ln10, ↓aI11, ↓sI11, ↓ln11, ↓aI12, ↓sI12, ↓ln12, ↓c_I, ↓c_J, ↓c_Q, ↓c_V, ↓c_It, ↓c_Jt, ↓c_Vt, ↓k_I, ↓k_J, ↓n_I, ↓n_V, li0, li1, li2, li3, li4, li5, li6, li7, li8, li9, li10, li11, li12, li13, li14, li15, li16, li17, li18, li19, li20, li21, li22, li23, li24, li25, li26, li27, li28, li29, li30, li31, li32, li33, li34, li35, li36, li37, li38, li39, li40, li41, li42, li44, li48, li57, li63, li64, li65, li97, li99, li100, li101, li102, li104, li105, li106, li109, li114, li120, li128, li130, li300, li514, li999, li1000, li8192, li9999, li65536, li1000000, li1000001, li1000002, li1000003, li1000004, li1000005, li1000006, li1000007, li1000008, li1000009, li1000010, li1000011, li1000012, li1000013, li1000014, li1000015, li1000016, li1000017, li1000018, li1000019, li2147483647, lj0, lj1, W_add, W_sub, W_mul, W_neg, V_add, V_sub, V_mul, V_neg, W_ite, W_le, W_lt, W_inj, V_le, V_lt, V_inj, W_V, V_W, lgc_ge, lgc_gt, lgc_le, lgc_lt, lgc_eq, ge_iff_le, gt_iff_lt, cur_7, cur_8, n1, hl, ↓reduceIte]
    · by_cases hf : free A st mx P i m s
      · rw [bb_pos hf] at e1
        refine ⟨(m, s), ?_, FO.here ⟨by show s ≤ last; omega, hf⟩, a2, by show m ≤ Bm + 1; omega, a3, by show s ≤ last; omega⟩
        simp (disch := first | assumption | omega) only [f_X5_moveToFreePlace_b21, f_X5_moveToFreePlace_b90, ↓rc16, ↓gI16_4, ↓gI16_5, ↓gI16_6, ↓gI16_7, ↓gI16_8, ↓pI16_4, ↓pI16_5, ↓pI16_6, ↓pI16_7, ↓pI16_8, ↓gR16_0, ↓gR16_1, ↓gR16_2, ↓gR16_3, ↓aI17, ↓sI17, ↓ln17, ↓aI18, ↓sZ18, ↓ln18, ↓aI19, ↓sI19, ↓ln19, ↓rc8, ↓gI8_4, ↓gI8_5, ↓gI8_6, ↓pI8_4, ↓pI8_5, ↓pZ8_6, ↓gR8_0, ↓gR8_1, ↓gR8_2, ↓gR8_3, ↓aI9, ↓sI9, ↓ln9, ↓aI10, ↓sI10, ↓ln10, ↓aI11, ↓sI11, ↓ln11, ↓aI12, ↓sI12, ↓ln12, ↓c_I, ↓c_J, ↓c_Q, ↓c_V, ↓c_It, ↓c_Jt, ↓c_Vt, ↓k_I, ↓k_J, ↓n_I, ↓n_V, li0, li1, li2, li3, li4, li5, li6, li7, li8, li9, li10, li11, li12, li13, li14, li15, li16, li17, li18, li19, li20, li21, li22, li23, li24, li25, li26, li27, li28, li29, li30, li31, li32, li33, li34, li35, li36, li37, li38, li39, li40, li41, li42, li44, li48, li57, li63, li64, li65, li97, li99, li100, li101, li102, li104, li105, li106, li109, li114, li120, li128, li130, li300, li514, li999, li1000, li8192, li9999, li65536, li1000000, li1000001, li1000002, li1000003, li1000004, li1000005, li1000006, li1000007, li1000008, li1000009, li1000010, li1000011, li1000012, li1000013, li1000014, li1000015, li1000016, li1000017, li1000018, li1000019, li2147483647, lj0, lj1, W_add, W_sub, W_mul, W_neg, V_add, V_sub, V_mul, V_neg, W_ite, W_le, W_lt, W_inj, V_le, V_lt, V_inj, W_V, V_W, lgc_ge, lgc_gt, lgc_le, lgc_lt, lgc_eq, ge_iff_le, gt_iff_lt, cur_7, cur_8, n1, hl, e1, Int.reduceEq, ↓reduceIte]
      · rw [bb_neg hf] at e1
        obtain ⟨y, k1, k2⟩ := step (fun h => hf h.2)
        refine ⟨y, ?_, k2⟩
        rw [← k1]
        simp (disch := first | assumption | omega) only [f_X5_moveToFreePlace_b21, ↓rc16, ↓gI16_4, ↓gI16_5, ↓gI16_6, ↓gI16_7, ↓gI16_8, ↓pI16_4, ↓pI16_5, ↓pI16_6, ↓pI16_7, ↓pI16_8, ↓gR16_0, ↓gR16_1, ↓gR16_2, ↓gR16_3, ↓aI17, ↓sI17, ↓ln17, ↓aI18, ↓sZ18, ↓ln18, ↓aI19, ↓sI19, ↓ln19, ↓rc8, ↓gI8_4, ↓gI8_5, ↓gI8_6, ↓pI8_4, ↓pI8_5, ↓pZ8_6, ↓gR8_0, ↓gR8_1, ↓gR8_2, ↓gR8_3, ↓aI9, ↓sI9, ↓ln9, ↓aI10, ↓sI10, ↓ln10, ↓aI11, ↓sI11, ↓ln11, ↓aI12, ↓sI12, ↓ln12, ↓c_I, ↓c_J, ↓c_Q, ↓c_V, ↓c_It, ↓c_Jt, ↓c_Vt, ↓k_I, ↓k_J, ↓n_I, ↓n_V, li0, li1, li2, li3, li4, li5, li6, li7, li8, li9, li10, li11, li12, li13, li14, li15, li16, li17, li18, li19, li20, li21, li22, li23, li24, li25, li26, li27, li28, li29, li30, li31, li32, li33, li34, li35, li36, li37, li38, li39, li40, li41, li42, li44, li48, li57, li63, li64, li65, li97, li99, li100, li101, li102, li104, li105, li106, li109, li114, li120, li128, li130, li300, li514, li999, li1000, li8192, li9999, li65536, li1000000, li1000001, li1000002, li1000003, li1000004, li1000005, li1000006, li1000007, li1000008, li1000009, li1000010, li1000011, li1000012, li1000013, li1000014, li1000015, li1000016, li1000017, li1000018, li1000019, li2147483647, lj0, lj1, W_add, W_sub, W_mul, W_neg, V_add, V_sub, V_mul, V_neg, W_ite, W_le, W_lt, W_inj, V_le, V_lt, V_inj, W_V, V_W, lgc_ge, lgc_gt, lgc_le, lgc_lt, lgc_eq, ge_iff_le, gt_iff_lt, cur_7, cur_8, n1, hl, e1, ↓reduceIte]
theorem e_toFree {I : CF} {mx i m s cnt : Int} {P : Int → Prop} {st : CF} {Bm Bs : Int} (hW : PW I A mx P st) (hB : pB A st mx P Bm Bs) (hBm : Bm ≤ 61) (i0 : 0 ≤ i) (i1 : i < nit A) (s0 : 1 ≤ s) (s1 : s ≤ 100) (m0 : 1 ≤ m) (m1 : m ≤ Bm) (hc : I 16 6 = cnt) (hc1 : itf A i (1 - mx) 3 ≤ cnt) (hc2 : cnt ≤ 90) :
    ∃ y, f_X5_moveToFreePlace (Sx (cur I m s) J b c) 16 (iW i) = some (Sx (cur I y.1 y.2) J b c, xv) ∧ FO (pnx (cnt - itf A i (1 - mx) 3 + 1)) (fun y => y.2 ≤ cnt - itf A i (1 - mx) 3 + 1 ∧ free A st mx P i y.1 y.2) (m, s) y ∧ 1 ≤ y.1 ∧ y.1 ≤ Bm + 1 ∧ 1 ≤ y.2 ∧ y.2 ≤ cnt - itf A i (1 - mx) 3 + 1 := by
  have hW' := hW
  obtain ⟨hA, hm, hM, g1, g2, hp, ht⟩ := hW'
  have hN := hA.1
  have r3 := (hA.2.2.2.2.2 i (1 - mx) i0 i1 (by omega) (by omega)).2.2.1
  have i3 := e_itemField (J := J) (b := b) (c := c) (hW.cur (m := m) (s := s)).2.2.1 i0 (show i < 12 by omega) (ax := 1 - mx) (by omega) (by omega) (f := 3) (by omega) (by omega)
  have c5 : cur I m s 16 5 = 1 - mx := by rw [cur_k (by decide) (by decide)]; exact g2
  have c6 : cur I m s 16 6 = cnt := by rw [cur_k (by decide) (by decide)]; exact hc
  obtain ⟨y, k1, k2⟩ := e_toFree_L (J := J) (b := b) (c := c) (last := cnt - itf A i (1 - mx) 3 + 1) hW hB hBm i0 i1 (by omega) (by omega) FU m s (by unfold FU; omega) m0 s0 (by omega) (Or.inl m1)
  refine ⟨y, ?_, k2⟩
  rw [← k1]
  simp (disch := first | assumption | omega) only [f_X5_moveToFreePlace, ↓rc16, ↓gI16_4, ↓gI16_5, ↓gI16_6, ↓gI16_7, ↓gI16_8, ↓pI16_4, ↓pI16_5, ↓pI16_6, ↓pI16_7, ↓pI16_8, ↓gR16_0, ↓gR16_1, ↓gR16_2, ↓gR16_3, ↓aI17, ↓sI17, ↓ln17, ↓aI18, ↓sZ18, ↓ln18, ↓aI19, ↓sI19, ↓ln19, ↓rc8, ↓gI8_4, ↓gI8_5, ↓gI8_6, ↓pI8_4, ↓pI8_5, ↓pZ8_6, ↓gR8_0, ↓gR8_1, ↓gR8_2, ↓gR8_3, ↓aI9, ↓sI9, ↓ln9, ↓aI10, ↓sI10, ↓ln10, ↓aI11, ↓sI11, ↓ln11, ↓aI12, ↓sI12, ↓ln12, ↓c_I, ↓c_J, ↓c_Q, ↓c_V, ↓c_It, ↓c_Jt, ↓c_Vt, ↓k_I, ↓k_J, ↓n_I, ↓n_V, li0, li1, li2, li3, li4, li5, li6, li7, li8, li9, li10, li11, li12, li13, li14, li15, li16, li17, li18, li19, li20, li21, li22, li23, li24, li25, li26, li27, li28, li29, li30, li31, li32, li33, li34, li35, li36, li37, li38, li39, li40, li41, li42, li44, li48, li57, li63, li64, li65, li97, li99, li100, li101, li102, li104, li105, li106, li109, li114, li120, li128, li130, li300, li514, li999, li1000, li8192, li9999, li65536, li1000000, li1000001, li1000002, li1000003, li1000004, li1000005, li1000006, li1000007, li1000008, li1000009, li1000010, li1000011, li1000012, li1000013, li1000014, li1000015, li1000016, li1000017, li1000018, li1000019, li2147483647, lj0, lj1, W_add, W_sub, W_mul, W_neg, V_add, V_sub, V_mul, V_neg, W_ite, W_le, W_lt, W_inj, V_le, V_lt, V_inj, W_V, V_W, lgc_ge, lgc_gt, lgc_le, lgc_lt, lgc_eq, ge_iff_le, gt_iff_lt, c5, c6, i3, ↓reduceIte]
theorem e_cursor_L {mx cnt : Int} {st0 : CF} (hcnt : ∀ i, 0 ≤ i → i < nit A → ¬ hs A i mx → ¬ hs A i (1 - mx) → itf A i (1 - mx) 3 ≤ cnt) (hc1 : 1 ≤ cnt) (hc2 : cnt ≤ 63) : ∀ (fuel : Nat) (n : Nat) (I : CF), nit A - n < fuel → (n : Int) ≤ nit A → PW I A mx (pP4 A mx n) (pS4 A st0 mx cnt n).1 → pB A (pS4 A st0 mx cnt n).1 mx (pP4 A mx n) (15 + 4 * n) 63 → I 16 6 = cnt → I 16 7 = (pS4 A st0 mx cnt n).2.1 → I 16 8 = (pS4 A st0 mx cnt n).2.2 → (1 ≤ I 16 7 ∧ I 16 7 ≤ 15 + 4 * n) → (1 ≤ I 16 8 ∧ I 16 8 ≤ 63) →
    ∃ I', f_X5_placeWithCursor_L12 fuel (Sx I J b c) 16 (iW n) = some (Sx I' J b c, xv) ∧ PW I' A mx (pP4 A mx (nit A)) (pS4 A st0 mx cnt (nit A).toNat).1 ∧ pB A (pS4 A st0 mx cnt (nit A).toNat).1 mx (pP4 A mx (nit A)) (15 + 4 * nit A) 63 ∧ ∀ a, a < 16 ∨ 18 < a → I' a = I a := by
  intro fuel
  induction fuel with
  | zero => intro n I a1 a2; omega
  | succ fuel ih =>
    intro n I a1 a2 hW hB h6 h7 h8 h7b h8b
    show ∃ I', f_X5_placeWithCursor_b12 (f_X5_placeWithCursor_L12 fuel) (Sx I J b c) 16 (iW n) = _ ∧ _
    have hW' := hW
    obtain ⟨hA, hm, hM, g1, g2, hp, ht⟩ := hW'
    have hN := hA.1
    have hN2 : I 8 4 = nit A := hM.2.2.2.2.1
    have hD : I 8 6 = A 4 2 := hM.2.2.2.2.2.2
    have hA2 := hA.2.2.1
    by_cases hk : (n : Int) = nit A
    · rw [show (nit A).toNat = n by omega, ← hk]
      refine ⟨I, ?_, hW, hB, fun _ _ => rfl⟩
      have n0 : nit A ≤ (n : Int) := by omega
      simp (disch := first | assumption | omega) only [f_X5_placeWithCursor_b12, ↓rc16, ↓gI16_4, ↓gI16_5, ↓gI16_6, ↓gI16_7, ↓gI16_8, ↓pI16_4, ↓pI16_5, ↓pI16_6, ↓pI16_7, ↓pI16_8, ↓gR16_0, ↓gR16_1, ↓gR16_2, ↓gR16_3, ↓aI17, ↓sI17, ↓ln17, ↓aI18, ↓sZ18, ↓ln18, ↓aI19, ↓sI19, ↓ln19, ↓rc8, ↓gI8_4, ↓gI8_5, ↓gI8_6, ↓pI8_4, ↓pI8_5, ↓pZ8_6, ↓gR8_0, ↓gR8_1, ↓gR8_2, ↓gR8_3, ↓aI9, ↓sI9, ↓ln9, ↓aI10, ↓sI10, ↓ln10, ↓aI11, ↓sI11, ↓ln11, ↓aI12, ↓sI12, ↓ln12, ↓c_I, ↓c_J, ↓c_Q, ↓c_V, ↓c_It, ↓c_Jt, ↓c_Vt, ↓k_I, ↓k_J, ↓n_I, ↓n_V, li0, li1, li2, li3, li4, li5, li6, li7, li8, li9, li10, li11, li12, li13, li14, li15, li16, li17, li18, li19, li20, li21, li22, li23, li24, li25, li26, li27, li28, li29, li30, li31, li32, li33, li34, li35, li36, li37, li38, li39, li40, li41, li42, li44, li48, li57, li63, li64, li65, li97, li99, li100, li101, li102, li104, li105, li106, li109, li114, li120, li128, li130, li300, li514, li999, li1000, li8192, li9999, li65536, li1000000, li1000001, li1000002, li1000003, li1000004, li1000005, li1000006, li1000007, li1000008, li1000009, li1000010, li1000011, li1000012, li1000013, li1000014, li1000015, li1000016, li1000017, li1000018, li1000019, li2147483647, lj0, lj1, W_add, W_sub, W_mul, W_neg, V_add, V_sub, V_mul, V_neg, W_ite, W_le, W_lt, W_inj, V_le, V_lt, V_inj, W_V, V_W, lgc_ge, lgc_gt, lgc_le, lgc_lt, lgc_eq, ge_iff_le, gt_iff_lt, hN2, n0, ↓reduceIte]
    · have n1 : ¬ (nit A ≤ (n : Int)) := by omega
      have hc : ((n + 1 : Nat) : Int) = (n : Int) + 1 := by omega
      have e1 := e_isPlaced (I := I) (J := J) (b := b) (c := c) (P := pP4 A mx n) (i := n) (by omega) (by omega) (hp n (by omega) (by omega))
      by_cases hP : hs A n mx
      · rw [bb_pos (show pP4 A mx n n from Or.inl hP)] at e1
        have hpS : pS4 A st0 mx cnt (n + 1) = pS4 A st0 mx cnt n := cif_pos hP
        have hQ : ∀ k, 0 ≤ k → k < nit A → (pP4 A mx ((n + 1 : Nat) : Int) k ↔ pP4 A mx n k) := by
          intro k k0 k1
          unfold pP4
          constructor
          · rintro (h1 | h1)
            · exact Or.inl h1
            · by_cases e : k = n
              · subst e
                exact Or.inl hP
              · exact Or.inr (by omega)
          · rintro (h1 | h1)
            · exact Or.inl h1
            · exact Or.inr (by omega)
        obtain ⟨I', k1, k2⟩ := ih (n + 1) I (by omega) (by omega) (by rw [hpS]; exact hW.congr hQ) (by rw [hpS]; exact (hB.congr fun k k0 k1 h => (hQ k k0 k1).mp h).mono (by omega) (Int.le_refl _)) h6 (by rw [hpS]; exact h7) (by rw [hpS]; exact h8) (by omega) (by omega)
        refine ⟨I', ?_, k2⟩
        rw [← k1, hc]
        simp (disch := first | assumption | omega) only [f_X5_placeWithCursor_b12, f_X5_placeWithCursor_b89, ↓rc16, ↓gI16_4, ↓gI16_5, ↓gI16_6, ↓gI16_7, ↓gI16_8, ↓pI16_4, ↓pI16_5, ↓pI16_6, ↓pI16_7, ↓pI16_8, ↓gR16_0, ↓gR16_1, ↓gR16_2, ↓gR16_3, ↓aI17, ↓sI17, ↓ln17, ↓aI18, ↓sZ18, ↓ln18, ↓aI19, ↓sI19, ↓ln19, ↓rc8, ↓gI8_4, ↓gI8_5, ↓gI8_6, ↓pI8_4, ↓pI8_5, ↓pZ8_6, ↓gR8_0, ↓gR8_1, ↓gR8_2, ↓gR8_3, ↓aI9, ↓sI9, ↓ln9, ↓aI10, ↓sI10, ↓ln10, ↓aI11, ↓sI11, ↓ln11, ↓aI12, ↓sI12, ↓ln12, ↓c_I, ↓c_J, ↓c_Q, ↓c_V, ↓c_It, ↓c_Jt, ↓c_Vt, ↓k_I, ↓k_J, ↓n_I, ↓n_V, li0, li1, li2, li3, li4, li5, li6, li7, li8, li9, li10, li11, li12, li13, li14, li15, li16, li17, li18, li19, li20, li21, li22, li23, li24, li25, li26, li27, li28, li29, li30, li31, li32, li33, li34, li35, li36, li37, li38, li39, li40, li41, li42, li44, li48, li57, li63, li64, li65, li97, li99, li100, li101, li102, li104, li105, li106, li109, li114, li120, li128, li130, li300, li514, li999, li1000, li8192, li9999, li65536, li1000000, li1000001, li1000002, li1000003, li1000004, li1000005, li1000006, li1000007, li1000008, li1000009, li1000010, li1000011, li1000012, li1000013, li1000014, li1000015, li1000016, li1000017, li1000018, li1000019, li2147483647, lj0, lj1, W_add, W_sub, W_mul, W_neg, V_add, V_sub, V_mul, V_neg, W_ite, W_le, W_lt, W_inj, V_le, V_lt, V_inj, W_V, V_W, lgc_ge, lgc_gt, lgc_le, lgc_lt, lgc_eq, ge_iff_le, gt_iff_lt, hN2, n1, e1, Int.reduceEq, ↓reduceIte]
      · rw [bb_neg (show ¬ pP4 A mx n n from fun h => h.elim hP (by omega))] at e1
        have r := hA.2.2.2.2.2 n (1 - mx) (by omega) (by omega) (by omega) (by omega)
        have rm := (hA.2.2.2.2.2 n mx (by omega) (by omega) (by omega) (by omega)).2.2.1
        have r2 := r.2.1
        have r3 := r.2.2.1
        have hpS : pS4 A st0 mx cnt (n + 1) = (put (pS4 A st0 mx cnt n).1 n mx (pgo A (pS4 A st0 mx cnt n).1 mx cnt n (pcu A (pS4 A st0 mx cnt n).2)).1 (pgo A (pS4 A st0 mx cnt n).1 mx cnt n (pcu A (pS4 A st0 mx cnt n).2)).2, pgo A (pS4 A st0 mx cnt n).1 mx cnt n (pcu A (pS4 A st0 mx cnt n).2)) := cif_neg hP
        have hx : ∃ x : Int × Int, x = pcu A (pS4 A st0 mx cnt n).2 ∧ 1 ≤ x.1 ∧ x.1 ≤ 15 + 4 * n ∧ 1 ≤ x.2 ∧ x.2 ≤ 63 := by
          refine ⟨_, rfl, ?_⟩
          unfold pcu
          split
          · rw [← h7, ← h8]
            omega
          · show (1 : Int) ≤ 1 ∧ (1 : Int) ≤ 15 + 4 * n ∧ (1 : Int) ≤ 1 ∧ (1 : Int) ≤ 63
            omega
        obtain ⟨x, ex, x1, x2, x3, x4⟩ := hx
        rw [← ex] at hpS
        have hQ : ∀ k, 0 ≤ k → k < nit A → (pP4 A mx ((n + 1 : Nat) : Int) k ↔ pP4 A mx n k ∨ k = n) := by
          intro k k0 k1
          unfold pP4
          constructor
          · rintro (h1 | h1)
            · exact Or.inl (Or.inl h1)
            · by_cases e : k = n
              · exact Or.inr e
              · exact Or.inl (Or.inr (by omega))
          · rintro ((h1 | h1) | rfl)
            · exact Or.inl h1
            · exact Or.inr (by omega)
            · exact Or.inr (by omega)
        -- the move, in both cases
        have mv : ∃ y : Int × Int, y = pgo A (pS4 A st0 mx cnt n).1 mx cnt n x ∧ 1 ≤ y.1 ∧ y.1 ≤ 16 + 4 * n ∧ 1 ≤ y.2 ∧ y.2 + itf A n (1 - mx) 3 - 1 ≤ 63 ∧ f_X5_placeWithCursor_b51 (f_X5_placeWithCursor_L12 fuel) (Sx (cur I x.1 x.2) J b c) 16 (iW n) = f_X5_placeWithCursor_b76 (f_X5_placeWithCursor_L12 fuel) (Sx (cur I y.1 y.2) J b c) 16 (iW n) := by
          have e2 := e_hasStart (J := J) (b := b) (c := c) hA (hW.cur (m := x.1) (s := x.2)).2.2.1 (i := n) (ax := 1 - mx) (by omega) (by omega) (by omega) (by omega)
          have c5 : cur I x.1 x.2 16 5 = 1 - mx := by rw [cur_k (by decide) (by decide)]; exact g2
          by_cases h2 : hs A n (1 - mx)
          · rw [bb_pos h2] at e2
            have h5 : itf A n (1 - mx) 2 ≠ -1 := h2
            obtain ⟨y, z1, z2, z3, z4⟩ := e_along (J := J) (b := b) (c := c) (m := x.1) (s := x.2) hW hB (by omega) (i := n) (by omega) (by omega) x3 (by omega) x1 x2 h2
            refine ⟨(y, itf A n (1 - mx) 2), ?_, z3, by show y ≤ 16 + 4 * n; omega, by show 1 ≤ itf A n (1 - mx) 2; omega, by show itf A n (1 - mx) 2 + itf A n (1 - mx) 3 - 1 ≤ 63; omega, ?_⟩
            · unfold pgo
              rw [cif_pos h2, fo_eq z2]
            · simp (disch := first | assumption | omega) only [f_X5_placeWithCursor_b51, ↓rc16, ↓gI16_4, ↓gI16_5, ↓gI16_6, ↓gI16_7, ↓gI16_8, ↓pI16_4, ↓pI16_5, ↓pI16_6, ↓pI16_7, ↓pI16_8, ↓gR16_0, ↓gR16_1, ↓gR16_2, ↓gR16_3, ↓aI17, ↓sI17, ↓ln17, ↓aI18, ↓sZ18, ↓ln18, ↓aI19, ↓sI19, ↓ln19, ↓rc8, ↓gI8_4, ↓gI8_5, ↓gI8_6, ↓pI8_4, ↓pI8_5, ↓pZ8_6, ↓gR8_0, ↓gR8_1, ↓gR8_2, ↓gR8_3, ↓aI9, ↓sI9, ↓ln9, ↓aI10, ↓sI10, ↓ln10, ↓aI11, ↓sI11, ↓ln11, ↓aI12, ↓sI12, ↓ln12, ↓c_I, ↓c_J, ↓c_Q, ↓c_V, ↓c_It, ↓c_Jt, ↓c_Vt, ↓k_I, ↓k_J, ↓n_I, ↓n_V, li0, li1, li2, li3, li4, li5, li6, li7, li8, li9, li10, li11, li12, li13, li14, li15, li16, li17, li18, li19, li20, li21, li22, li23, li24, li25, li26, li27, li28, li29, li30, li31, li32, li33, li34, li35, li36, li37, li38, li39, li40, li41, li42, li44, li48, li57, li63, li64, li65, li97, li99, li100, li101, li102, li104, li105, li106, li109, li114, li120, li128, li130, li300, li514, li999, li1000, li8192, li9999, li65536, li1000000, li1000001, li1000002, li1000003, li1000004, li1000005, li1000006, li1000007, li1000008, li1000009, li1000010, li1000011, li1000012, li1000013, li1000014, li1000015, li1000016, li1000017, li1000018, li1000019, li2147483647, lj0, lj1, W_add, W_sub, W_mul, W_neg, V_add, V_sub, V_mul, V_neg, W_ite, W_le, W_lt, W_inj, V_le, V_lt, V_inj, W_V, V_W, lgc_ge, lgc_gt, lgc_le, lgc_lt, lgc_eq, ge_iff_le, gt_iff_lt, c5, e2, z1, Int.reduceEq, ↓reduceIte]
          · rw [bb_neg h2] at e2
            obtain ⟨y, z1, z2, z3, z4, z5, z6⟩ := e_toFree (J := J) (b := b) (c := c) (m := x.1) (s := x.2) hW hB (by omega) (i := n) (by omega) (by omega) x3 (by omega) x1 x2 h6 (hcnt n (by omega) (by omega) hP h2) (by omega)
            refine ⟨y, ?_, z3, by omega, z5, by omega, ?_⟩
            · unfold pgo
              rw [cif_neg h2]
              exact (fo_eq z2).symm
            · simp (disch := first | assumption | omega) only [f_X5_placeWithCursor_b51, ↓rc16, ↓gI16_4, ↓gI16_5, ↓gI16_6, ↓gI16_7, ↓gI16_8, ↓pI16_4, ↓pI16_5, ↓pI16_6, ↓pI16_7, ↓pI16_8, ↓gR16_0, ↓gR16_1, ↓gR16_2, ↓gR16_3, ↓aI17, ↓sI17, ↓ln17, ↓aI18, ↓sZ18, ↓ln18, ↓aI19, ↓sI19, ↓ln19, ↓rc8, ↓gI8_4, ↓gI8_5, ↓gI8_6, ↓pI8_4, ↓pI8_5, ↓pZ8_6, ↓gR8_0, ↓gR8_1, ↓gR8_2, ↓gR8_3, ↓aI9, ↓sI9, ↓ln9, ↓aI10, ↓sI10, ↓ln10, ↓aI11, ↓sI11, ↓ln11, ↓aI12, ↓sI12, ↓ln12, ↓c_I, ↓c_J, ↓c_Q, ↓c_V, ↓c_It, ↓c_Jt, ↓c_Vt, ↓k_I, ↓k_J, ↓n_I, ↓n_V, li0, li1, li2, li3, li4, li5, li6, li7, li8, li9, li10, li11, li12, li13, li14, li15, li16, li17, li18, li19, li20, li21, li22, li23, li24, li25, li26, li27, li28, li29, li30, li31, li32, li33, li34, li35, li36, li37, li38, li39, li40, li41, li42, li44, li48, li57, li63, li64, li65, li97, li99, li100, li101, li102, li104, li105, li106, li109, li114, li120, li128, li130, li300, li514, li999, li1000, li8192, li9999, li65536, li1000000, li1000001, li1000002, li1000003, li1000004, li1000005, li1000006, li1000007, li1000008, li1000009, li1000010, li1000011, li1000012, li1000013, li1000014, li1000015, li1000016, li1000017, li1000018, li1000019, li2147483647, lj0, lj1, W_add, W_sub, W_mul, W_neg, V_add, V_sub, V_mul, V_neg, W_ite, W_le, W_lt, W_inj, V_le, V_lt, V_inj, W_V, V_W, lgc_ge, lgc_gt, lgc_le, lgc_lt, lgc_eq, ge_iff_le, gt_iff_lt, c5, e2, z1, ↓reduceIte]
        obtain ⟨y, ey, y1, y2, y3, y4, hmove⟩ := mv
        rw [← ey] at hpS
        have c4 : cur I y.1 y.2 16 4 = mx := by rw [cur_k (by decide) (by decide)]; exact g1
        have c5 : cur I y.1 y.2 16 5 = 1 - mx := by rw [cur_k (by decide) (by decide)]; exact g2
        have p1 := e_putAt (I := cur I y.1 y.2) (J := J) (b := b) (c := c) (m := y.1) (s := y.2) hm c4 c5 (show (0 : Int) ≤ n by omega) (show (n : Int) < 12 by omega)
        have hW2 := pput_W (m := y.1) (s := y.2) (hW.cur (m := y.1) (s := y.2)) (i := n) (by omega) (by omega) y1 (by omega) y3 (by omega) hQ
        have hp16 : pput (cur I y.1 y.2) n mx y.1 y.2 16 = cur I y.1 y.2 16 := by
          unfold pput
          rw [u_obj (by omega), u_obj (by omega), u_obj (by omega)]
        obtain ⟨I', k1, k2, k3, k4⟩ := ih (n + 1) (pput (cur I y.1 y.2) n mx y.1 y.2) (by omega) (by omega) (by rw [hpS]; exact hW2) (by
            rw [hpS]
            exact pB_put hm (hB.mono (by omega) (Int.le_refl _)) (by omega) (by omega) (fun k k0 k1 h => (hQ k k0 k1).mp h)) (by rw [hp16, cur_k (by decide) (by decide)]; exact h6) (by rw [hp16, cur_7, hpS]) (by rw [hp16, cur_8, hpS]) (by rw [hp16, cur_7]; omega) (by rw [hp16, cur_8]; omega)
        refine ⟨I', ?_, k2, k3, fun a ha => ?_⟩
        · rw [← k1, hc]
          have h76 : f_X5_placeWithCursor_b76 (f_X5_placeWithCursor_L12 fuel) (Sx (cur I y.1 y.2) J b c) 16 (iW n) = f_X5_placeWithCursor_L12 fuel (Sx (pput (cur I y.1 y.2) n mx y.1 y.2) J b c) 16 (iW (n + 1)) := by
            simp (disch := first | assumption | omega) only [f_X5_placeWithCursor_b76, f_X5_placeWithCursor_b89, ↓rc16, ↓gI16_4, ↓gI16_5, ↓gI16_6, ↓gI16_7, ↓gI16_8, ↓pI16_4, ↓pI16_5, ↓pI16_6, ↓pI16_7, ↓pI16_8, ↓gR16_0, ↓gR16_1, ↓gR16_2, ↓gR16_3, ↓aI17, ↓sI17, ↓ln17, ↓aI18, ↓sZ18, ↓ln18, ↓aI19, ↓sI19, ↓ln19, ↓rc8, ↓gI8_4, ↓gI8_5, ↓gI8_6, ↓pI8_4, ↓pI8_5, ↓pZ8_6, ↓gR8_0, ↓gR8_1, ↓gR8_2, ↓gR8_3, ↓aI9, ↓sI9, ↓ln9, ↓aI10, ↓sI10, ↓ln10, ↓aI11, ↓sI11, ↓ln11, ↓aI12, ↓sI12, ↓ln12, ↓c_I, ↓c_J, ↓c_Q, ↓c_V, ↓c_It, ↓c_Jt, ↓c_Vt, ↓k_I, ↓k_J, ↓n_I, ↓n_V, li0, li1, li2, li3, li4, li5, li6, li7, li8, li9, li10, li11, li12, li13, li14, li15, li16, li17, li18, li19, li20, li21, li22, li23, li24, li25, li26, li27, li28, li29, li30, li31, li32, li33, li34, li35, li36, li37, li38, li39, li40, li41, li42, li44, li48, li57, li63, li64, li65, li97, li99, li100, li101, li102, li104, li105, li106, li109, li114, li120, li128, li130, li300, li514, li999, li1000, li8192, li9999, li65536, li1000000, li1000001, li1000002, li1000003, li1000004, li1000005, li1000006, li1000007, li1000008, li1000009, li1000010, li1000011, li1000012, li1000013, li1000014, li1000015, li1000016, li1000017, li1000018, li1000019, li2147483647, lj0, lj1, W_add, W_sub, W_mul, W_neg, V_add, V_sub, V_mul, V_neg, W_ite, W_le, W_lt, W_inj, V_le, V_lt, V_inj, W_V, V_W, lgc_ge, lgc_gt, lgc_le, lgc_lt, lgc_eq, ge_iff_le, gt_iff_lt, cur_7, cur_8, p1]
          rw [h76] at hmove
          by_cases hd : A 4 2 = 0
          · have ex2 : x = (I 16 7, I 16 8) := by
              rw [ex, h7, h8]
              exact if_pos hd
            rw [ex2] at hmove
            have hmove : f_X5_placeWithCursor_b51 (f_X5_placeWithCursor_L12 fuel) (Sx (cur I (I 16 7) (I 16 8)) J b c) 16 (iW n) = _ := hmove
            rw [cur_self] at hmove
            simp (disch := first | assumption | omega) only [f_X5_placeWithCursor_b12, ↓rc16, ↓gI16_4, ↓gI16_5, ↓gI16_6, ↓gI16_7, ↓gI16_8, ↓pI16_4, ↓pI16_5, ↓pI16_6, ↓pI16_7, ↓pI16_8, ↓gR16_0, ↓gR16_1, ↓gR16_2, ↓gR16_3, ↓aI17, ↓sI17, ↓ln17, ↓aI18, ↓sZ18, ↓ln18, ↓aI19, ↓sI19, ↓ln19, ↓rc8, ↓gI8_4, ↓gI8_5, ↓gI8_6, ↓pI8_4, ↓pI8_5, ↓pZ8_6, ↓gR8_0, ↓gR8_1, ↓gR8_2, ↓gR8_3, ↓aI9, ↓sI9, ↓ln9, ↓aI10, ↓sI10, ↓ln10, ↓aI11, ↓sI11, ↓ln11, ↓aI12, ↓sI12, ↓ln12, ↓c_I, ↓c_J, ↓c_Q, ↓c_V, ↓c_It, ↓c_Jt, ↓c_Vt, ↓k_I, ↓k_J, ↓n_I, ↓n_V, li0, li1, li2, li3, li4, li5, li6, li7, li8, li9, li10, li11, li12, li13, li14, li15, li16, li17, li18, li19, li20, li21, li22, li23, li24, li25, li26, li27, li28, li29, li30, li31, li32, li33, li34, li35, li36, li37, li38, li39, li40, li41, li42, li44, li48, li57, li63, li64, li65, li97, li99, li100, li101, li102, li104, li105, li106, li109, li114, li120, li128, li130, li300, li514, li999, li1000, li8192, li9999, li65536, li1000000, li1000001, li1000002, li1000003, li1000004, li1000005, li1000006, li1000007, li1000008, li1000009, li1000010, li1000011, li1000012, li1000013, li1000014, li1000015, li1000016, li1000017, li1000018, li1000019, li2147483647, lj0, lj1, W_add, W_sub, W_mul, W_neg, V_add, V_sub, V_mul, V_neg, W_ite, W_le, W_lt, W_inj, V_le, V_lt, V_inj, W_V, V_W, lgc_ge, lgc_gt, lgc_le, lgc_lt, lgc_eq, ge_iff_le, gt_iff_lt, hN2, hD, hd, n1, e1, hmove, ↓reduceIte]
          · have ex2 : x = (1, 1) := by
              rw [ex]
              exact if_neg hd
            rw [ex2] at hmove
            have hmove : f_X5_placeWithCursor_b51 (f_X5_placeWithCursor_L12 fuel) (Sx (uI (uI I 16 7 1) 16 8 1) J b c) 16 (iW n) = _ := hmove
            simp (disch := first | assumption | omega) only [f_X5_placeWithCursor_b12, ↓rc16, ↓gI16_4, ↓gI16_5, ↓gI16_6, ↓gI16_7, ↓gI16_8, ↓pI16_4, ↓pI16_5, ↓pI16_6, ↓pI16_7, ↓pI16_8, ↓gR16_0, ↓gR16_1, ↓gR16_2, ↓gR16_3, ↓aI17, ↓sI17, ↓ln17, ↓aI18, ↓sZ18, ↓ln18, ↓aI19, ↓sI19, ↓ln19, ↓rc8, ↓gI8_4, ↓gI8_5, ↓gI8_6, ↓pI8_4, ↓pI8_5, ↓pZ8_6, ↓gR8_0, ↓gR8_1, ↓gR8_2, ↓gR8_3, ↓aI9, ↓sI9, ↓ln9, ↓aI10, ↓sI10, ↓ln10, ↓aI11, ↓sI11, ↓ln11, ↓aI12, ↓sI12, ↓ln12, ↓c_I, ↓c_J, ↓c_Q, ↓c_V, ↓c_It, ↓c_Jt, ↓c_Vt, ↓k_I, ↓k_J, ↓n_I, ↓n_V, li0, li1, li2, li3, li4, li5, li6, li7, li8, li9, li10, li11, li12, li13, li14, li15, li16, li17, li18, li19, li20, li21, li22, li23, li24, li25, li26, li27, li28, li29, li30, li31, li32, li33, li34, li35, li36, li37, li38, li39, li40, li41, li42, li44, li48, li57, li63, li64, li65, li97, li99, li100, li101, li102, li104, li105, li106, li109, li114, li120, li128, li130, li300, li514, li999, li1000, li8192, li9999, li65536, li1000000, li1000001, li1000002, li1000003, li1000004, li1000005, li1000006, li1000007, li1000008, li1000009, li1000010, li1000011, li1000012, li1000013, li1000014, li1000015, li1000016, li1000017, li1000018, li1000019, li2147483647, lj0, lj1, W_add, W_sub, W_mul, W_neg, V_add, V_sub, V_mul, V_neg, W_ite, W_le, W_lt, W_inj, V_le, V_lt, V_inj, W_V, V_W, lgc_ge, lgc_gt, lgc_le, lgc_lt, lgc_eq, ge_iff_le, gt_iff_lt, hN2, hD, hd, n1, e1, hmove, ↓reduceIte]
        · rw [k4 a ha]
          unfold pput
          rw [u_obj (by omega), u_obj (by omega), u_obj (by omega), cur_o (by omega)]
/-! all of it -/
theorem e_needed_L {I st : CF} {ax : Int} (hA : okA A) (hM : EM I A) (x0 : 0 ≤ ax) (x1 : ax < 2) (ht : ∀ k : Int, 0 ≤ k → k < nit A → I 17 (k * 2 + ax) = pl A k ax ∧ 1 ≤ pl A k ax ∧ pl A k ax + itf A k ax 3 - 1 ≤ 63) (hb : ∀ n : Nat, (n : Int) ≤ nit A → 0 ≤ ntN A ax n ∧ ntN A ax n ≤ 63) :
    ∀ (fuel : Nat) (k : Nat), nit A - k < fuel → (k : Int) ≤ nit A → f_X5_neededTracks_L11 fuel (Sx I J b c) 16 (iW ax) (iW (ntN A ax k)) (iW k) = some (Sx I J b c, xi (iW (nt A ax))) := by
  have hN := hA.1
  have hN2 : I 8 4 = nit A := hM.2.2.2.2.1
  intro fuel
  induction fuel with
  | zero => intro k a1 a2; omega
  | succ fuel ih =>
    intro k a1 a2
    show f_X5_neededTracks_b11 (f_X5_neededTracks_L11 fuel) (Sx I J b c) 16 (iW ax) (iW (ntN A ax k)) (iW k) = _
    by_cases hk : (k : Int) = nit A
    · have n0 : nit A ≤ (k : Int) := by omega
      unfold nt
      rw [show (nit A).toNat = k by omega]
      simp (disch := first | assumption | omega) only [f_X5_neededTracks_b11, ↓rc16, ↓gI16_4, ↓gI16_5, ↓gI16_6, ↓gI16_7, ↓gI16_8, ↓pI16_4, ↓pI16_5, ↓pI16_6, ↓pI16_7, ↓pI16_8, ↓gR16_0, ↓gR16_1, ↓gR16_2, ↓gR16_3, ↓aI17, ↓sI17, ↓ln17, ↓aI18, ↓sZ18, ↓ln18, ↓aI19, ↓sI19, ↓ln19, ↓rc8, ↓gI8_4, ↓gI8_5, ↓gI8_6, ↓pI8_4, ↓pI8_5, ↓pZ8_6, ↓gR8_0, ↓gR8_1, ↓gR8_2, ↓gR8_3, ↓aI9, ↓sI9, ↓ln9, ↓aI10, ↓sI10, ↓ln10, ↓aI11, ↓sI11, ↓ln11, ↓aI12, ↓sI12, ↓ln12, ↓c_I, ↓c_J, ↓c_Q, ↓c_V, ↓c_It, ↓c_Jt, ↓c_Vt, ↓k_I, ↓k_J, ↓n_I, ↓n_V, li0, li1, li2, li3, li4, li5, li6, li7, li8, li9, li10, li11, li12, li13, li14, li15, li16, li17, li18, li19, li20, li21, li22, li23, li24, li25, li26, li27, li28, li29, li30, li31, li32, li33, li34, li35, li36, li37, li38, li39, li40, li41, li42, li44, li48, li57, li63, li64, li65, li97, li99, li100, li101, li102, li104, li105, li106, li109, li114, li120, li128, li130, li300, li514, li999, li1000, li8192, li9999, li65536, li1000000, li1000001, li1000002, li1000003, li1000004, li1000005, li1000006, li1000007, li1000008, li1000009, li1000010, li1000011, li1000012, li1000013, li1000014, li1000015, li1000016, li1000017, li1000018, li1000019, li2147483647, lj0, lj1, W_add, W_sub, W_mul, W_neg, V_add, V_sub, V_mul, V_neg, W_ite, W_le, W_lt, W_inj, V_le, V_lt, V_inj, W_V, V_W, lgc_ge, lgc_gt, lgc_le, lgc_lt, lgc_eq, ge_iff_le, gt_iff_lt, hN2, n0, ↓reduceIte]
    · have n1 : ¬ (nit A ≤ (k : Int)) := by omega
      have hnext := ih (k + 1) (by omega) (by omega)
      have hc : ((k + 1 : Nat) : Int) = (k : Int) + 1 := by omega
      rw [hc] at hnext
      have hl : ntN A ax (k + 1) = max (ntN A ax k) (pl A k ax + itf A k ax 3 - 1) := rfl
      rw [hl] at hnext
      have hb1 := hb k (by omega)
      obtain ⟨t1, t2, t3⟩ := ht k (by omega) (by omega)
      have r3 := (hA.2.2.2.2.2 k ax (by omega) (by omega) (by omega) (by omega)).2.2.1
      have l1 := e_lastTrack (J := J) (b := b) (c := c) hM (i := k) (ax := ax) (by omega) (by omega) (by omega) (by omega)
      rw [t1] at l1
      have hmax : (if ntN A ax k < pl A k ax + itf A k ax 3 - 1 then pl A k ax + itf A k ax 3 - 1 else ntN A ax k) = max (ntN A ax k) (pl A k ax + itf A k ax 3 - 1) := by
        split <;> omega
      simp (disch := first | assumption | omega) only [f_X5_neededTracks_b11, ↓rc16, ↓gI16_4, ↓gI16_5, ↓gI16_6, ↓gI16_7, ↓gI16_8, ↓pI16_4, ↓pI16_5, ↓pI16_6, ↓pI16_7, ↓pI16_8, ↓gR16_0, ↓gR16_1, ↓gR16_2, ↓gR16_3, ↓aI17, ↓sI17, ↓ln17, ↓aI18, ↓sZ18, ↓ln18, ↓aI19, ↓sI19, ↓ln19, ↓rc8, ↓gI8_4, ↓gI8_5, ↓gI8_6, ↓pI8_4, ↓pI8_5, ↓pZ8_6, ↓gR8_0, ↓gR8_1, ↓gR8_2, ↓gR8_3, ↓aI9, ↓sI9, ↓ln9, ↓aI10, ↓sI10, ↓ln10, ↓aI11, ↓sI11, ↓ln11, ↓aI12, ↓sI12, ↓ln12, ↓c_I, ↓c_J, ↓c_Q, ↓c_V, ↓c_It, ↓c_Jt, ↓c_Vt, ↓k_I, ↓k_J, ↓n_I, ↓n_V, li0, li1, li2, li3, li4, li5, li6, li7, li8, li9, li10, li11, li12, li13, li14, li15, li16, li17, li18, li19, li20, li21, li22, li23, li24, li25, li26, li27, li28, li29, li30, li31, li32, li33, li34, li35, li36, li37, li38, li39, li40, li41, li42, li44, li48, li57, li63, li64, li65, li97, li99, li100, li101, li102, li104, li105, li106, li109, li114, li120, li128, li130, li300, li514, li999, li1000, li8192, li9999, li65536, li1000000, li1000001, li1000002, li1000003, li1000004, li1000005, li1000006, li1000007, li1000008, li1000009, li1000010, li1000011, li1000012, li1000013, li1000014, li1000015, li1000016, li1000017, li1000018, li1000019, li2147483647, lj0, lj1, W_add, W_sub, W_mul, W_neg, V_add, V_sub, V_mul, V_neg, W_ite, W_le, W_lt, W_inj, V_le, V_lt, V_inj, W_V, V_W, lgc_ge, lgc_gt, lgc_le, lgc_lt, lgc_eq, ge_iff_le, gt_iff_lt, hN2, n1, l1, hmax, ↓reduceIte, hnext]
theorem e_needed {I : CF} {ax : Int} (hA : okA A) (hM : EM I A) (x0 : 0 ≤ ax) (x1 : ax < 2) (ht : ∀ k : Int, 0 ≤ k → k < nit A → I 17 (k * 2 + ax) = pl A k ax ∧ 1 ≤ pl A k ax ∧ pl A k ax + itf A k ax 3 - 1 ≤ 63) (hb : ∀ n : Nat, (n : Int) ≤ nit A → 0 ≤ ntN A ax n ∧ ntN A ax n ≤ 63) : f_X5_neededTracks (Sx I J b c) 16 (iW ax) = some (Sx I J b c, xi (iW (nt A ax))) := by
  have e1 := e_explicitCount (J := J) (b := b) (c := c) hM x0 x1
  have hL := e_needed_L (J := J) (b := b) (c := c) (st := I) hA hM x0 x1 ht hb FU 0 (by have := hA.1; unfold FU; omega) (by have := hA.1; omega)
  simp (disch := first | assumption | omega) only [f_X5_neededTracks, ↓rc16, ↓gI16_4, ↓gI16_5, ↓gI16_6, ↓gI16_7, ↓gI16_8, ↓pI16_4, ↓pI16_5, ↓pI16_6, ↓pI16_7, ↓pI16_8, ↓gR16_0, ↓gR16_1, ↓gR16_2, ↓gR16_3, ↓aI17, ↓sI17, ↓ln17, ↓aI18, ↓sZ18, ↓ln18, ↓aI19, ↓sI19, ↓ln19, ↓rc8, ↓gI8_4, ↓gI8_5, ↓gI8_6, ↓pI8_4, ↓pI8_5, ↓pZ8_6, ↓gR8_0, ↓gR8_1, ↓gR8_2, ↓gR8_3, ↓aI9, ↓sI9, ↓ln9, ↓aI10, ↓sI10, ↓ln10, ↓aI11, ↓sI11, ↓ln11, ↓aI12, ↓sI12, ↓ln12, ↓c_I, ↓c_J, ↓c_Q, ↓c_V, ↓c_It, ↓c_Jt, ↓c_Vt, ↓k_I, ↓k_J, ↓n_I, ↓n_V, li0, li1, li2, li3, li4, li5, li6, li7, li8, li9, li10, li11, li12, li13, li14, li15, li16, li17, li18, li19, li20, li21, li22, li23, li24, li25, li26, li27, li28, li29, li30, li31, li32, li33, li34, li35, li36, li37, li38, li39, li40, li41, li42, li44, li48, li57, li63, li64, li65, li97, li99, li100, li101, li102, li104, li105, li106, li109, li114, li120, li128, li130, li300, li514, li999, li1000, li8192, li9999, li65536, li1000000, li1000001, li1000002, li1000003, li1000004, li1000005, li1000006, li1000007, li1000008, li1000009, li1000010, li1000011, li1000012, li1000013, li1000014, li1000015, li1000016, li1000017, li1000018, li1000019, li2147483647, lj0, lj1, W_add, W_sub, W_mul, W_neg, V_add, V_sub, V_mul, V_neg, W_ite, W_le, W_lt, W_inj, V_le, V_lt, V_inj, W_V, V_W, lgc_ge, lgc_gt, lgc_le, lgc_lt, lgc_eq, ge_iff_le, gt_iff_lt, e1]
  exact hL
/-- what placement leaves: the starts and the numbers of tracks -/
def PR (I A : CF) : Prop := (∀ i ax, 0 ≤ i → i < nit A → 0 ≤ ax → ax < 2 → I 17 (i * 2 + ax) = pl A i ax) ∧ ∀ ax, 0 ≤ ax → ax < 2 → I 19 ax = nt A ax
def plB (A : CF) : Prop := (∀ i ax, 0 ≤ i → i < nit A → 0 ≤ ax → ax < 2 → 1 ≤ pl A i ax ∧ pl A i ax + itf A i ax 3 - 1 ≤ nt A ax) ∧ ∀ ax, 0 ≤ ax → ax < 2 → A 1 ax ≤ nt A ax ∧ 0 ≤ nt A ax ∧ nt A ax ≤ 63
theorem e_clear_L : ∀ (fuel : Nat) (k : Int) (I : CF), 12 - k < fuel → 0 ≤ k → k ≤ 12 → (∀ j, 0 ≤ j → j < k → I 18 j = 0) → ∃ I', f_X5_placeAll_L31 fuel (Sx I J b c) 16 (iW k) = f_X5_placeAll_b31 (f_X5_placeAll_L31 0) (Sx I' J b c) 16 (iW 12) ∧ (∀ j, 0 ≤ j → j < 12 → I' 18 j = 0) ∧ ∀ a, a ≠ 18 → I' a = I a := by
  intro fuel
  induction fuel with
  | zero => intro k I a1 a2 a3; omega
  | succ fuel ih =>
    intro k I a1 a2 a3 h
    show ∃ I', f_X5_placeAll_b31 (f_X5_placeAll_L31 fuel) (Sx I J b c) 16 (iW k) = _ ∧ _
    by_cases hk : k = 12
    · subst hk
      refine ⟨I, ?_, h, fun _ _ => rfl⟩
      simp (disch := first | assumption | omega) only [f_X5_placeAll_b31, li0, li1, li2, li3, li4, li5, li6, li7, li8, li9, li10, li11, li12, li13, li14, li15, li16, li17, li18, li19, li20, li21, li22, li23, li24, li25, li26, li27, li28, li29, li30, li31, li32, li33, li34, li35, li36, li37, li38, li39, li40, li41, li42, li44, li48, li57, li63, li64, li65, li97, li99, li100, li101, li102, li104, li105, li106, li109, li114, li120, li128, li130, li300, li514, li999, li1000, li8192, li9999, li65536, li1000000, li1000001, li1000002, li1000003, li1000004, li1000005, li1000006, li1000007, li1000008, li1000009, li1000010, li1000011, li1000012, li1000013, li1000014, li1000015, li1000016, li1000017, li1000018, li1000019, li2147483647, lj0, lj1, W_add, W_sub, W_mul, W_neg, V_add, V_sub, V_mul, V_neg, W_ite, W_le, W_lt, W_inj, V_le, V_lt, V_inj, W_V, V_W, lgc_ge, lgc_gt, lgc_le, lgc_lt, lgc_eq, ge_iff_le, gt_iff_lt, Int.le_refl, ↓reduceIte]
    · have n1 : ¬ (12 ≤ k) := by omega
      obtain ⟨I', k1, k2, k3⟩ := ih (k + 1) (uI I 18 k 0) (by omega) (by omega) (by omega) (fun j j0 j1 => by
        rw [u_at]
        by_cases e : j = k
        · rw [if_pos e]
        · rw [if_neg e]
          exact h j j0 (by omega))
      refine ⟨I', ?_, k2, fun a ha => by rw [k3 a ha, u_obj ha]⟩
      rw [← k1]
      have hz : (0 : Int) = 0 ∨ (0 : Int) = 1 := Or.inl rfl
      have h12 : (12 : Int) ≤ 12 := Int.le_refl _
      conv => lhs; unfold f_X5_placeAll_b31
      simp (disch := first | assumption | omega) only [↓rc16, ↓gI16_4, ↓gI16_5, ↓gI16_6, ↓gI16_7, ↓gI16_8, ↓pI16_4, ↓pI16_5, ↓pI16_6, ↓pI16_7, ↓pI16_8, ↓gR16_0, ↓gR16_1, ↓gR16_2, ↓gR16_3, ↓aI17, ↓sI17, ↓ln17, ↓aI18, ↓sZ18, ↓ln18, ↓aI19, ↓sI19, ↓ln19, ↓c_I, ↓c_J, ↓c_Q, ↓c_V, ↓c_It, ↓c_Jt, ↓c_Vt, ↓k_I, ↓k_J, ↓n_I, ↓n_V, li0, li1, li2, li3, li4, li5, li6, li7, li8, li9, li10, li11, li12, li13, li14, li15, li16, li17, li18, li19, li20, li21, li22, li23, li24, li25, li26, li27, li28, li29, li30, li31, li32, li33, li34, li35, li36, li37, li38, li39, li40, li41, li42, li44, li48, li57, li63, li64, li65, li97, li99, li100, li101, li102, li104, li105, li106, li109, li114, li120, li128, li130, li300, li514, li999, li1000, li8192, li9999, li65536, li1000000, li1000001, li1000002, li1000003, li1000004, li1000005, li1000006, li1000007, li1000008, li1000009, li1000010, li1000011, li1000012, li1000013, li1000014, li1000015, li1000016, li1000017, li1000018, li1000019, li2147483647, lj0, lj1, W_add, W_sub, W_mul, W_neg, V_add, V_sub, V_mul, V_neg, W_ite, W_le, W_lt, W_inj, V_le, V_lt, V_inj, W_V, V_W, lgc_ge, lgc_gt, lgc_le, lgc_lt, lgc_eq, ge_iff_le, gt_iff_lt, n1, ↓reduceIte]
theorem e_counts_L {I0 : CF} (hA : okA A) (hb : ∀ ax, 0 ≤ ax → ax < 2 → ∀ n : Nat, (n : Int) ≤ nit A → 0 ≤ ntN A ax n ∧ ntN A ax n ≤ 63) : ∀ (fuel : Nat) (k : Int) (I : CF), 2 - k < fuel → 0 ≤ k → k ≤ 2 → EM I A → (∀ i ax : Int, 0 ≤ i → i < nit A → 0 ≤ ax → ax < 2 → I 17 (i * 2 + ax) = pl A i ax ∧ 1 ≤ pl A i ax ∧ pl A i ax + itf A i ax 3 - 1 ≤ 63) → (∀ j, 0 ≤ j → j < k → I 19 j = nt A j) → (∀ a, a ≠ 19 → I a = I0 a) →
    ∃ I', f_X5_placeAll_L68 fuel (Sx I J b c) 16 (iW k) = some (Sx I' J b c, xv) ∧ (∀ j, 0 ≤ j → j < 2 → I' 19 j = nt A j) ∧ ∀ a, a ≠ 19 → I' a = I0 a := by
  intro fuel
  induction fuel with
  | zero => intro k I a1 a2 a3; omega
  | succ fuel ih =>
    intro k I a1 a2 a3 hM ht h ho
    show ∃ I', f_X5_placeAll_b68 (f_X5_placeAll_L68 fuel) (Sx I J b c) 16 (iW k) = _ ∧ _
    by_cases hk : k = 2
    · subst hk
      refine ⟨I, ?_, h, ho⟩
      simp (disch := first | assumption | omega) only [f_X5_placeAll_b68, li0, li1, li2, li3, li4, li5, li6, li7, li8, li9, li10, li11, li12, li13, li14, li15, li16, li17, li18, li19, li20, li21, li22, li23, li24, li25, li26, li27, li28, li29, li30, li31, li32, li33, li34, li35, li36, li37, li38, li39, li40, li41, li42, li44, li48, li57, li63, li64, li65, li97, li99, li100, li101, li102, li104, li105, li106, li109, li114, li120, li128, li130, li300, li514, li999, li1000, li8192, li9999, li65536, li1000000, li1000001, li1000002, li1000003, li1000004, li1000005, li1000006, li1000007, li1000008, li1000009, li1000010, li1000011, li1000012, li1000013, li1000014, li1000015, li1000016, li1000017, li1000018, li1000019, li2147483647, lj0, lj1, W_add, W_sub, W_mul, W_neg, V_add, V_sub, V_mul, V_neg, W_ite, W_le, W_lt, W_inj, V_le, V_lt, V_inj, W_V, V_W, lgc_ge, lgc_gt, lgc_le, lgc_lt, lgc_eq, ge_iff_le, gt_iff_lt, Int.le_refl, ↓reduceIte]
    · have n1 : ¬ (2 ≤ k) := by omega
      have e1 := e_needed (J := J) (b := b) (c := c) hA hM a2 (show k < 2 by omega) (fun i i0 i1 => ht i k i0 i1 a2 (by omega)) (hb k a2 (by omega))
      have hbn := hb k a2 (by omega) (nit A).toNat (by have := hA.1; omega)
      have hbn : 0 ≤ nt A k ∧ nt A k ≤ 63 := hbn
      have n2 : nt A k < 64 := by omega
      obtain ⟨I', k1, k2, k3⟩ := ih (k + 1) (uI I 19 k (nt A k)) (by omega) (by omega) (by omega) (hM.fr fun a a0 a1 => u_obj (by omega)) (fun i ax i0 i1 x0 x1 => by rw [u_obj (by decide)]; exact ht i ax i0 i1 x0 x1) (fun j j0 j1 => by
        rw [u_at]
        by_cases e : j = k
        · rw [if_pos e, e]
        · rw [if_neg e]
          exact h j j0 (by omega)) (fun a ha => by rw [u_obj ha]; exact ho a ha)
      refine ⟨I', ?_, k2, k3⟩
      rw [← k1]
      simp (disch := first | assumption | omega) only [f_X5_placeAll_b68, ↓rc16, ↓gI16_4, ↓gI16_5, ↓gI16_6, ↓gI16_7, ↓gI16_8, ↓pI16_4, ↓pI16_5, ↓pI16_6, ↓pI16_7, ↓pI16_8, ↓gR16_0, ↓gR16_1, ↓gR16_2, ↓gR16_3, ↓aI17, ↓sI17, ↓ln17, ↓aI18, ↓sZ18, ↓ln18, ↓aI19, ↓sI19, ↓ln19, ↓c_I, ↓c_J, ↓c_Q, ↓c_V, ↓c_It, ↓c_Jt, ↓c_Vt, ↓k_I, ↓k_J, ↓n_I, ↓n_V, li0, li1, li2, li3, li4, li5, li6, li7, li8, li9, li10, li11, li12, li13, li14, li15, li16, li17, li18, li19, li20, li21, li22, li23, li24, li25, li26, li27, li28, li29, li30, li31, li32, li33, li34, li35, li36, li37, li38, li39, li40, li41, li42, li44, li48, li57, li63, li64, li65, li97, li99, li100, li101, li102, li104, li105, li106, li109, li114, li120, li128, li130, li300, li514, li999, li1000, li8192, li9999, li65536, li1000000, li1000001, li1000002, li1000003, li1000004, li1000005, li1000006, li1000007, li1000008, li1000009, li1000010, li1000011, li1000012, li1000013, li1000014, li1000015, li1000016, li1000017, li1000018, li1000019, li2147483647, lj0, lj1, W_add, W_sub, W_mul, W_neg, V_add, V_sub, V_mul, V_neg, W_ite, W_le, W_lt, W_inj, V_le, V_lt, V_inj, W_V, V_W, lgc_ge, lgc_gt, lgc_le, lgc_lt, lgc_eq, ge_iff_le, gt_iff_lt, n1, e1, n2, ↓reduceIte]
theorem ntN_bd {ax B : Int} (hB : A 1 ax ≤ B) (h0 : 0 ≤ A 1 ax) (ht : ∀ k : Int, 0 ≤ k → k < nit A → pl A k ax + itf A k ax 3 - 1 ≤ B) : ∀ n : Nat, (n : Int) ≤ nit A → A 1 ax ≤ ntN A ax n ∧ ntN A ax n ≤ B ∧ ∀ k : Int, 0 ≤ k → k < n → pl A k ax + itf A k ax 3 - 1 ≤ ntN A ax n := by
  intro n
  induction n with
  | zero => intro _; exact ⟨Int.le_refl _, hB, fun k k0 k1 => by omega⟩
  | succ n ih =>
    intro h1
    obtain ⟨a1, a2, a3⟩ := ih (by omega)
    have := ht n (by omega) (by omega)
    unfold ntN
    refine ⟨by omega, by omega, fun k k0 k1 => ?_⟩
    by_cases e : k = n
    · subst e
      omega
    · have := a3 k k0 (by omega)
      omega
theorem e_placeAll {I : CF} (hA : okA A) (hM : EM I A) : ∃ I', f_X5_placeAll (Sx I J b c) 16 = some (Sx I' J b c, xv) ∧ PR I' A ∧ plB A ∧ ∀ a, a < 16 ∨ 19 < a → I' a = I a := by
  have hN := hA.1
  have hF : I 8 5 = A 4 1 := hM.2.2.2.2.2.1
  have hm : gmx A = 0 ∨ gmx A = 1 := by unfold gmx; split <;> omega
  -- the axes, and nobody placed
  obtain ⟨I1, a1, a2, a3⟩ := e_clear_L (J := J) (b := b) (c := c) FU 0 (uI (uI I 16 4 (gmx A)) 16 5 (1 - gmx A)) (by unfold FU; omega) (by omega) (by omega) (fun j j0 j1 => by omega)
  have hstart : f_X5_placeAll (Sx I J b c) 16 = f_X5_placeAll_b31 (f_X5_placeAll_L31 0) (Sx I1 J b c) 16 (iW 12) := by
    rw [← a1]
    have hA1 := hA.2.1
    unfold gmx
    by_cases q : A 4 1 = 0
    · simp (disch := first | assumption | omega) only [f_X5_placeAll, f_X5_placeAll_b16, ↓rc16, ↓gI16_4, ↓gI16_5, ↓gI16_6, ↓gI16_7, ↓gI16_8, ↓pI16_4, ↓pI16_5, ↓pI16_6, ↓pI16_7, ↓pI16_8, ↓gR16_0, ↓gR16_1, ↓gR16_2, ↓gR16_3, ↓aI17, ↓sI17, ↓ln17, ↓aI18, ↓sZ18, ↓ln18, ↓aI19, ↓sI19, ↓ln19, ↓rc8, ↓gI8_4, ↓gI8_5, ↓gI8_6, ↓pI8_4, ↓pI8_5, ↓pZ8_6, ↓gR8_0, ↓gR8_1, ↓gR8_2, ↓gR8_3, ↓aI9, ↓sI9, ↓ln9, ↓aI10, ↓sI10, ↓ln10, ↓aI11, ↓sI11, ↓ln11, ↓aI12, ↓sI12, ↓ln12, ↓c_I, ↓c_J, ↓c_Q, ↓c_V, ↓c_It, ↓c_Jt, ↓c_Vt, ↓k_I, ↓k_J, ↓n_I, ↓n_V, li0, li1, li2, li3, li4, li5, li6, li7, li8, li9, li10, li11, li12, li13, li14, li15, li16, li17, li18, li19, li20, li21, li22, li23, li24, li25, li26, li27, li28, li29, li30, li31, li32, li33, li34, li35, li36, li37, li38, li39, li40, li41, li42, li44, li48, li57, li63, li64, li65, li97, li99, li100, li101, li102, li104, li105, li106, li109, li114, li120, li128, li130, li300, li514, li999, li1000, li8192, li9999, li65536, li1000000, li1000001, li1000002, li1000003, li1000004, li1000005, li1000006, li1000007, li1000008, li1000009, li1000010, li1000011, li1000012, li1000013, li1000014, li1000015, li1000016, li1000017, li1000018, li1000019, li2147483647, lj0, lj1, W_add, W_sub, W_mul, W_neg, V_add, V_sub, V_mul, V_neg, W_ite, W_le, W_lt, W_inj, V_le, V_lt, V_inj, W_V, V_W, lgc_ge, lgc_gt, lgc_le, lgc_lt, lgc_eq, ge_iff_le, gt_iff_lt, hF, q, u_eq, ↓reduceIte]
    · simp (disch := first | assumption | omega) only [f_X5_placeAll, f_X5_placeAll_b16, ↓rc16, ↓gI16_4, ↓gI16_5, ↓gI16_6, ↓gI16_7, ↓gI16_8, ↓pI16_4, ↓pI16_5, ↓pI16_6, ↓pI16_7, ↓pI16_8, ↓gR16_0, ↓gR16_1, ↓gR16_2, ↓gR16_3, ↓aI17, ↓sI17, ↓ln17, ↓aI18, ↓sZ18, ↓ln18, ↓aI19, ↓sI19, ↓ln19, ↓rc8, ↓gI8_4, ↓gI8_5, ↓gI8_6, ↓pI8_4, ↓pI8_5, ↓pZ8_6, ↓gR8_0, ↓gR8_1, ↓gR8_2, ↓gR8_3, ↓aI9, ↓sI9, ↓ln9, ↓aI10, ↓sI10, ↓ln10, ↓aI11, ↓sI11, ↓ln11, ↓aI12, ↓sI12, ↓ln12, ↓c_I, ↓c_J, ↓c_Q, ↓c_V, ↓c_It, ↓c_Jt, ↓c_Vt, ↓k_I, ↓k_J, ↓n_I, ↓n_V, li0, li1, li2, li3, li4, li5, li6, li7, li8, li9, li10, li11, li12, li13, li14, li15, li16, li17, li18, li19, li20, li21, li22, li23, li24, li25, li26, li27, li28, li29, li30, li31, li32, li33, li34, li35, li36, li37, li38, li39, li40, li41, li42, li44, li48, li57, li63, li64, li65, li97, li99, li100, li101, li102, li104, li105, li106, li109, li114, li120, li128, li130, li300, li514, li999, li1000, li8192, li9999, li65536, li1000000, li1000001, li1000002, li1000003, li1000004, li1000005, li1000006, li1000007, li1000008, li1000009, li1000010, li1000011, li1000012, li1000013, li1000014, li1000015, li1000016, li1000017, li1000018, li1000019, li2147483647, lj0, lj1, W_add, W_sub, W_mul, W_neg, V_add, V_sub, V_mul, V_neg, W_ite, W_le, W_lt, W_inj, V_le, V_lt, V_inj, W_V, V_W, lgc_ge, lgc_gt, lgc_le, lgc_lt, lgc_eq, ge_iff_le, gt_iff_lt, hF, q, u_eq, ↓reduceIte]
  have o1 : ∀ a, a ≠ 16 → a ≠ 18 → I1 a = I a := fun a h h' => by rw [a3 a h', u_obj h, u_obj h]
  have hW1 : PW I1 A (gmx A) (fun k => (hs A k (gmx A) ∧ hs A k (1 - gmx A)) ∧ k < 0) (pS2 A (gmx A) 0) := by
    refine ⟨hA, hm, hM.fr (fun a a0 a1 => o1 a (by omega) (by omega)), ?_, ?_, ?_, ?_⟩
    · rw [a3 16 (by decide), u_ne (by decide), u_eq]
    · rw [a3 16 (by decide), u_eq]
    · intro k k0 k1
      rw [a2 k k0 (by omega), bb_neg]
      intro h
      omega
    · intro k k0 k1 hk
      omega
  obtain ⟨I2, b1, b2, b3⟩ := e_fixed_L (J := J) (b := b) (c := c) FU 0 I1 (by unfold FU; omega) (by omega) hN.1 hW1
  have hW2 : PW I2 A (gmx A) (pP2 A (gmx A) ((0 : Nat) : Int)) (pS2 A (gmx A) 0) := b2.congr fun k k0 k1 => by
    unfold pP2
    constructor
    · rintro ⟨h1, h2 | h2⟩
      · exact ⟨⟨h1, h2⟩, k1⟩
      · omega
    · rintro ⟨⟨h1, h2⟩, h3⟩
      exact ⟨h1, Or.inl h2⟩
  have hB2 : pB A (pS2 A (gmx A) 0) (gmx A) (pP2 A (gmx A) ((0 : Nat) : Int)) 15 (15 + 4 * ((0 : Nat) : Int)) := by
    intro k k0 k1 hk
    have r1 := hA.2.2.2.2.2 k (gmx A) k0 k1 (by omega) (by omega)
    have r2 := hA.2.2.2.2.2 k (1 - gmx A) k0 k1 (by omega) (by omega)
    have r3 := r1.2.1
    have r4 := r1.2.2.1
    have r5 := r2.2.1
    have r6 := r2.2.2.1
    show itf A k (gmx A) 2 + _ - 1 ≤ 15 ∧ itf A k (1 - gmx A) 2 + _ - 1 ≤ _
    omega
  obtain ⟨I3, c1, c2, c3, c4⟩ := e_main_L (J := J) (b := b) (c := c) FU 0 I2 (by unfold FU; omega) (by omega) hW2 hB2
  have c1 : f_X5_placeWithMainStart (Sx I2 J b c) 16 = some (Sx I3 J b c, xv) := c1
  have hP3 : ∀ k, 0 ≤ k → k < nit A → (pP2 A (gmx A) (nit A) k ↔ hs A k (gmx A)) := fun k k0 k1 => ⟨fun h => h.1, fun h => ⟨h, Or.inr k1⟩⟩
  have hsct := sct_bd c3 hA hm (by omega) (fun k k0 k1 h => (hP3 k k0 k1).mpr h)
  have d1 := e_side_L (J := J) (b := b) (c := c) c2 hP3 (fun n hn => by have := hsct n hn; omega) FU 0 (by unfold FU; omega) (by omega)
  have d1 : f_X5_findSideCount_L18 FU (Sx I3 J b c) 16 (iW (max 1 (A 1 (1 - gmx A)))) (iW 0) = some (Sx (uI I3 16 6 (pcnt A)) J b c, xv) := d1
  have hS3 := c2.2.2.2.2.1
  have d2 : f_X5_findSideCount (Sx I3 J b c) 16 = some (Sx (uI I3 16 6 (pcnt A)) J b c, xv) := by
    have e1 := e_explicitCount (J := J) (b := b) (c := c) c2.2.2.1 (ax := 1 - gmx A) (by omega) (by omega)
    have hE := (hA.2.2.2.1 (1 - gmx A) (by omega) (by omega)).1
    have hmax : (if 1 < A 1 (1 - gmx A) then A 1 (1 - gmx A) else 1) = max 1 (A 1 (1 - gmx A)) := by split <;> omega
    simp (disch := first | assumption | omega) only [f_X5_findSideCount, ↓rc16, ↓gI16_4, ↓gI16_5, ↓gI16_6, ↓gI16_7, ↓gI16_8, ↓pI16_4, ↓pI16_5, ↓pI16_6, ↓pI16_7, ↓pI16_8, ↓gR16_0, ↓gR16_1, ↓gR16_2, ↓gR16_3, ↓aI17, ↓sI17, ↓ln17, ↓aI18, ↓sZ18, ↓ln18, ↓aI19, ↓sI19, ↓ln19, ↓rc8, ↓gI8_4, ↓gI8_5, ↓gI8_6, ↓pI8_4, ↓pI8_5, ↓pZ8_6, ↓gR8_0, ↓gR8_1, ↓gR8_2, ↓gR8_3, ↓aI9, ↓sI9, ↓ln9, ↓aI10, ↓sI10, ↓ln10, ↓aI11, ↓sI11, ↓ln11, ↓aI12, ↓sI12, ↓ln12, ↓c_I, ↓c_J, ↓c_Q, ↓c_V, ↓c_It, ↓c_Jt, ↓c_Vt, ↓k_I, ↓k_J, ↓n_I, ↓n_V, li0, li1, li2, li3, li4, li5, li6, li7, li8, li9, li10, li11, li12, li13, li14, li15, li16, li17, li18, li19, li20, li21, li22, li23, li24, li25, li26, li27, li28, li29, li30, li31, li32, li33, li34, li35, li36, li37, li38, li39, li40, li41, li42, li44, li48, li57, li63, li64, li65, li97, li99, li100, li101, li102, li104, li105, li106, li109, li114, li120, li128, li130, li300, li514, li999, li1000, li8192, li9999, li65536, li1000000, li1000001, li1000002, li1000003, li1000004, li1000005, li1000006, li1000007, li1000008, li1000009, li1000010, li1000011, li1000012, li1000013, li1000014, li1000015, li1000016, li1000017, li1000018, li1000019, li2147483647, lj0, lj1, W_add, W_sub, W_mul, W_neg, V_add, V_sub, V_mul, V_neg, W_ite, W_le, W_lt, W_inj, V_le, V_lt, V_inj, W_V, V_W, lgc_ge, lgc_gt, lgc_le, lgc_lt, lgc_eq, ge_iff_le, gt_iff_lt, hS3, e1, hmax]
    exact d1
  have hcnt := hsct (nit A).toNat (by omega)
  have hcnt : 1 ≤ pcnt A ∧ pcnt A ≤ 15 + 4 * nit A ∧ ∀ k : Int, 0 ≤ k → k < (nit A).toNat → itf A k (1 - gmx A) 3 ≤ pcnt A ∨ hs A k (1 - gmx A) ∨ hs A k (gmx A) := hcnt
  -- the cursor
  have hW4 : PW (cur (uI I3 16 6 (pcnt A)) 1 1) A (gmx A) (pP4 A (gmx A) ((0 : Nat) : Int)) (pS4 A (pst2 A) (gmx A) (pcnt A) 0).1 := by
    refine PW.cur ?_
    refine (c2.congr fun k k0 k1 => ?_).fr (u_ne (by decide)) (u_ne (by decide)) (fun a ha => u_obj (by omega))
    rw [hP3 k k0 k1]
    exact ⟨fun h => h.elim (fun h => h) (fun h => by omega), Or.inl⟩
  have hB4 : pB A (pS4 A (pst2 A) (gmx A) (pcnt A) 0).1 (gmx A) (pP4 A (gmx A) ((0 : Nat) : Int)) (15 + 4 * ((0 : Nat) : Int)) 63 := by
    refine (c3.congr fun k k0 k1 h => ?_).mono (by omega) (by omega)
    exact (hP3 k k0 k1).mpr (h.elim (fun h => h) (fun h => by omega))
  obtain ⟨I5, f1, f2, f3, f4⟩ := e_cursor_L (J := J) (b := b) (c := c) (cnt := pcnt A) (st0 := pst2 A) (fun i i0 i1 h1 h2 => by
    rcases hcnt.2.2 i i0 (by omega) with h | h | h
    · exact h
    · exact absurd h h2
    · exact absurd h h1) hcnt.1 (by omega) FU 0 (cur (uI I3 16 6 (pcnt A)) 1 1) (by unfold FU; omega) (by omega) hW4 hB4 (by rw [cur_k (by decide) (by decide), u_eq]) cur_7 cur_8 (by rw [cur_7]; omega) (by rw [cur_8]; omega)
  have f1' : f_X5_placeWithCursor (Sx (uI I3 16 6 (pcnt A)) J b c) 16 = some (Sx I5 J b c, xv) := by
    rw [← f1]
    simp (disch := first | assumption | omega) only [f_X5_placeWithCursor, ↓rc16, ↓gI16_4, ↓gI16_5, ↓gI16_6, ↓gI16_7, ↓gI16_8, ↓pI16_4, ↓pI16_5, ↓pI16_6, ↓pI16_7, ↓pI16_8, ↓gR16_0, ↓gR16_1, ↓gR16_2, ↓gR16_3, ↓aI17, ↓sI17, ↓ln17, ↓aI18, ↓sZ18, ↓ln18, ↓aI19, ↓sI19, ↓ln19, ↓c_I, ↓c_J, ↓c_Q, ↓c_V, ↓c_It, ↓c_Jt, ↓c_Vt, ↓k_I, ↓k_J, ↓n_I, ↓n_V, li0, li1, li2, li3, li4, li5, li6, li7, li8, li9, li10, li11, li12, li13, li14, li15, li16, li17, li18, li19, li20, li21, li22, li23, li24, li25, li26, li27, li28, li29, li30, li31, li32, li33, li34, li35, li36, li37, li38, li39, li40, li41, li42, li44, li48, li57, li63, li64, li65, li97, li99, li100, li101, li102, li104, li105, li106, li109, li114, li120, li128, li130, li300, li514, li999, li1000, li8192, li9999, li65536, li1000000, li1000001, li1000002, li1000003, li1000004, li1000005, li1000006, li1000007, li1000008, li1000009, li1000010, li1000011, li1000012, li1000013, li1000014, li1000015, li1000016, li1000017, li1000018, li1000019, li2147483647, lj0, lj1, W_add, W_sub, W_mul, W_neg, V_add, V_sub, V_mul, V_neg, W_ite, W_le, W_lt, W_inj, V_le, V_lt, V_inj, W_V, V_W, lgc_ge, lgc_gt, lgc_le, lgc_lt, lgc_eq, ge_iff_le, gt_iff_lt]
    rfl
  -- the numbers of tracks
  have hpl : ∀ i ax : Int, 0 ≤ i → i < nit A → 0 ≤ ax → ax < 2 → I5 17 (i * 2 + ax) = pl A i ax ∧ 1 ≤ pl A i ax ∧ pl A i ax + itf A i ax 3 - 1 ≤ 63 := by
    intro i ax i0 i1 x0 x1
    have hi : pP4 A (gmx A) (nit A) i := Or.inr i1
    obtain ⟨t1, t2, t3⟩ := f2.2.2.2.2.2.2 i i0 i1 hi ax x0 x1
    have t4 := f3 i i0 i1 hi
    refine ⟨t1, t2, ?_⟩
    have e : ax = gmx A ∨ ax = 1 - gmx A := by omega
    rcases e with rfl | rfl
    · have := t4.1
      show (pS4 A (pst2 A) (gmx A) (pcnt A) (nit A).toNat).1 i _ + _ - 1 ≤ 63
      omega
    · exact t4.2
  have hbd : ∀ ax, 0 ≤ ax → ax < 2 → ∀ n : Nat, (n : Int) ≤ nit A → A 1 ax ≤ ntN A ax n ∧ ntN A ax n ≤ 63 ∧ ∀ k : Int, 0 ≤ k → k < n → pl A k ax + itf A k ax 3 - 1 ≤ ntN A ax n := fun ax x0 x1 => ntN_bd (by have := (hA.2.2.2.1 ax x0 x1).1; omega) (hA.2.2.2.1 ax x0 x1).1.1 (fun k k0 k1 => (hpl k ax k0 k1 x0 x1).2.2)
  obtain ⟨I6, g1, g2, g3⟩ := e_counts_L (J := J) (b := b) (c := c) (I0 := I5) hA (fun ax x0 x1 n hn => by have := hbd ax x0 x1 n hn; have := (hA.2.2.2.1 ax x0 x1).1; omega) FU 0 I5 (by unfold FU; omega) (by omega) (by omega) f2.2.2.1 hpl (fun j j0 j1 => by omega) (fun _ _ => rfl)
  refine ⟨I6, ?_, ⟨fun i ax i0 i1 x0 x1 => by rw [g3 17 (by decide)]; exact (hpl i ax i0 i1 x0 x1).1, g2⟩, ⟨fun i ax i0 i1 x0 x1 => ⟨(hpl i ax i0 i1 x0 x1).2.1, (hbd ax x0 x1 (nit A).toNat (by omega)).2.2 i i0 (by omega)⟩, fun ax x0 x1 => ?_⟩, fun a ha => ?_⟩
  · rw [hstart, ← g1]
    have b1 : f_X5_placeFixed (Sx I1 J b c) 16 = some (Sx I2 J b c, xv) := b1
    simp (disch := first | assumption | omega) only [f_X5_placeAll_b31, ↓rc16, ↓gI16_4, ↓gI16_5, ↓gI16_6, ↓gI16_7, ↓gI16_8, ↓pI16_4, ↓pI16_5, ↓pI16_6, ↓pI16_7, ↓pI16_8, ↓gR16_0, ↓gR16_1, ↓gR16_2, ↓gR16_3, ↓aI17, ↓sI17, ↓ln17, ↓aI18, ↓sZ18, ↓ln18, ↓aI19, ↓sI19, ↓ln19, ↓c_I, ↓c_J, ↓c_Q, ↓c_V, ↓c_It, ↓c_Jt, ↓c_Vt, ↓k_I, ↓k_J, ↓n_I, ↓n_V, li0, li1, li2, li3, li4, li5, li6, li7, li8, li9, li10, li11, li12, li13, li14, li15, li16, li17, li18, li19, li20, li21, li22, li23, li24, li25, li26, li27, li28, li29, li30, li31, li32, li33, li34, li35, li36, li37, li38, li39, li40, li41, li42, li44, li48, li57, li63, li64, li65, li97, li99, li100, li101, li102, li104, li105, li106, li109, li114, li120, li128, li130, li300, li514, li999, li1000, li8192, li9999, li65536, li1000000, li1000001, li1000002, li1000003, li1000004, li1000005, li1000006, li1000007, li1000008, li1000009, li1000010, li1000011, li1000012, li1000013, li1000014, li1000015, li1000016, li1000017, li1000018, li1000019, li2147483647, lj0, lj1, W_add, W_sub, W_mul, W_neg, V_add, V_sub, V_mul, V_neg, W_ite, W_le, W_lt, W_inj, V_le, V_lt, V_inj, W_V, V_W, lgc_ge, lgc_gt, lgc_le, lgc_lt, lgc_eq, ge_iff_le, gt_iff_lt, Int.le_refl, b1, c1, d2, f1', ↓reduceIte]
  · have h1 := hbd ax x0 x1 (nit A).toNat (by omega)
    have h2 := (hA.2.2.2.1 ax x0 x1).1
    unfold nt
    omega
  · rw [g3 a (by omega), f4 a (by omega), cur_o (by omega), u_obj (by omega), c4 a (by omega), b3 a (by omega), o1 a (by omega) (by omega)]
end PlaceG

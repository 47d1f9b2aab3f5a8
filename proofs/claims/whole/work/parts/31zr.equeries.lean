/-! ===== the engine: its answers ===== -/
def ES (I A : CF) : Prop := okA A ∧ EM I A ∧ I 20 0 = 0 ∧ I 28 0 = 1 ∧ (I 0 15 = 0 ∨ I 0 15 = 1) ∧ (I 0 15 = 1 → LZ I A 20 0 ∧ LZ I A 28 1)
def EQ (I I' : CF) : Prop := (∀ a : Int, (a < 16 ∨ 46 < a) → a ≠ 0 → I' a = I a) ∧ ∀ k, k ≠ 15 → I' 0 k = I 0 k
/-- an answer with value v, or (t not 0) an exception -/
def EAns (f : Option XR) (I J : CF) (b : Nat) (c : Bool) (A : CF) (E1 E2 : String) (v t : Int) : Prop := ∃ I' J', f = (if t = 0 then some (Sx I' J' b c, xi (iW v)) else some (Sx I' J' b false, xt (if t = 1 then E1 else E2))) ∧ ES I' A ∧ EQ I I' ∧ ∀ a, a ≠ 44 → a ≠ 46 → J' a = J a
section EQu
variable {J : CF} {b : Nat} {c : Bool} {A I : CF}
theorem EQ.rf : EQ I I := ⟨fun _ _ _ => rfl, fun _ _ => rfl⟩
theorem e_chkAxis {v : Int} (v0 : -2147483648 ≤ v) (v1 : v ≤ 2147483647) : f_X7_checkAxis (Sx I J b c) (iW v) = if 0 ≤ v ∧ v ≤ 1 then some (Sx I J b c, xv) else some (Sx I J b false, xt "java/lang/IllegalArgumentException") := by
  by_cases q1 : v < 0
  · rw [if_neg (by omega)]
    simp (disch := first | assumption | omega) only [f_X7_checkAxis, f_X7_checkAxis_b9, S_dirty, li0, li1, li2, li3, li4, li5, li6, li7, li8, li9, li10, li11, li12, li13, li14, li15, li16, li17, li18, li19, li20, li21, li22, li23, li24, li25, li26, li27, li28, li29, li30, li31, li32, li33, li34, li35, li36, li37, li38, li39, li40, li41, li42, li44, li48, li57, li63, li64, li65, li97, li99, li100, li101, li102, li104, li105, li106, li109, li114, li120, li128, li130, li300, li514, li999, li1000, li8192, li9999, li65536, li1000000, li1000001, li1000002, li1000003, li1000004, li1000005, li1000006, li1000007, li1000008, li1000009, li1000010, li1000011, li1000012, li1000013, li1000014, li1000015, li1000016, li1000017, li1000018, li1000019, li2147483647, lj0, lj1, W_add, W_sub, W_mul, W_neg, V_add, V_sub, V_mul, V_neg, W_ite, W_le, W_lt, W_inj, V_le, V_lt, V_inj, W_V, V_W, lgc_ge, lgc_gt, lgc_le, lgc_lt, lgc_eq, ge_iff_le, gt_iff_lt, q1, ↓reduceIte]
  · by_cases q2 : v < 2
    · rw [if_pos (by omega)]
      simp (disch := first | assumption | omega) only [f_X7_checkAxis, f_X7_checkAxis_b9, S_dirty, li0, li1, li2, li3, li4, li5, li6, li7, li8, li9, li10, li11, li12, li13, li14, li15, li16, li17, li18, li19, li20, li21, li22, li23, li24, li25, li26, li27, li28, li29, li30, li31, li32, li33, li34, li35, li36, li37, li38, li39, li40, li41, li42, li44, li48, li57, li63, li64, li65, li97, li99, li100, li101, li102, li104, li105, li106, li109, li114, li120, li128, li130, li300, li514, li999, li1000, li8192, li9999, li65536, li1000000, li1000001, li1000002, li1000003, li1000004, li1000005, li1000006, li1000007, li1000008, li1000009, li1000010, li1000011, li1000012, li1000013, li1000014, li1000015, li1000016, li1000017, li1000018, li1000019, li2147483647, lj0, lj1, W_add, W_sub, W_mul, W_neg, V_add, V_sub, V_mul, V_neg, W_ite, W_le, W_lt, W_inj, V_le, V_lt, V_inj, W_V, V_W, lgc_ge, lgc_gt, lgc_le, lgc_lt, lgc_eq, ge_iff_le, gt_iff_lt, q1, q2, ↓reduceIte]
    · rw [if_neg (by omega)]
      simp (disch := first | assumption | omega) only [f_X7_checkAxis, f_X7_checkAxis_b9, S_dirty, li0, li1, li2, li3, li4, li5, li6, li7, li8, li9, li10, li11, li12, li13, li14, li15, li16, li17, li18, li19, li20, li21, li22, li23, li24, li25, li26, li27, li28, li29, li30, li31, li32, li33, li34, li35, li36, li37, li38, li39, li40, li41, li42, li44, li48, li57, li63, li64, li65, li97, li99, li100, li101, li102, li104, li105, li106, li109, li114, li120, li128, li130, li300, li514, li999, li1000, li8192, li9999, li65536, li1000000, li1000001, li1000002, li1000003, li1000004, li1000005, li1000006, li1000007, li1000008, li1000009, li1000010, li1000011, li1000012, li1000013, li1000014, li1000015, li1000016, li1000017, li1000018, li1000019, li2147483647, lj0, lj1, W_add, W_sub, W_mul, W_neg, V_add, V_sub, V_mul, V_neg, W_ite, W_le, W_lt, W_inj, V_le, V_lt, V_inj, W_V, V_W, lgc_ge, lgc_gt, lgc_le, lgc_lt, lgc_eq, ge_iff_le, gt_iff_lt, q1, q2, ↓reduceIte]
theorem e_chkRange {v lo hi : Int} (v0 : -2147483648 ≤ v) (v1 : v ≤ 2147483647) (l0 : -2147483648 ≤ lo) (l1 : lo ≤ 2147483647) (h0 : -2147483648 ≤ hi) (h1 : hi ≤ 2147483647) : f_X7_checkRange (Sx I J b c) (iW v) (iW lo) (iW hi) = if lo ≤ v ∧ v ≤ hi then some (Sx I J b c, xv) else some (Sx I J b false, xt "java/lang/IllegalArgumentException") := by
  by_cases q1 : v < lo
  · rw [if_neg (by omega)]
    simp (disch := first | assumption | omega) only [f_X7_checkRange, f_X7_checkRange_b10, S_dirty, li0, li1, li2, li3, li4, li5, li6, li7, li8, li9, li10, li11, li12, li13, li14, li15, li16, li17, li18, li19, li20, li21, li22, li23, li24, li25, li26, li27, li28, li29, li30, li31, li32, li33, li34, li35, li36, li37, li38, li39, li40, li41, li42, li44, li48, li57, li63, li64, li65, li97, li99, li100, li101, li102, li104, li105, li106, li109, li114, li120, li128, li130, li300, li514, li999, li1000, li8192, li9999, li65536, li1000000, li1000001, li1000002, li1000003, li1000004, li1000005, li1000006, li1000007, li1000008, li1000009, li1000010, li1000011, li1000012, li1000013, li1000014, li1000015, li1000016, li1000017, li1000018, li1000019, li2147483647, lj0, lj1, W_add, W_sub, W_mul, W_neg, V_add, V_sub, V_mul, V_neg, W_ite, W_le, W_lt, W_inj, V_le, V_lt, V_inj, W_V, V_W, lgc_ge, lgc_gt, lgc_le, lgc_lt, lgc_eq, ge_iff_le, gt_iff_lt, q1, ↓reduceIte]
  · by_cases q2 : v ≤ hi
    · rw [if_pos (by omega)]
      simp (disch := first | assumption | omega) only [f_X7_checkRange, f_X7_checkRange_b10, S_dirty, li0, li1, li2, li3, li4, li5, li6, li7, li8, li9, li10, li11, li12, li13, li14, li15, li16, li17, li18, li19, li20, li21, li22, li23, li24, li25, li26, li27, li28, li29, li30, li31, li32, li33, li34, li35, li36, li37, li38, li39, li40, li41, li42, li44, li48, li57, li63, li64, li65, li97, li99, li100, li101, li102, li104, li105, li106, li109, li114, li120, li128, li130, li300, li514, li999, li1000, li8192, li9999, li65536, li1000000, li1000001, li1000002, li1000003, li1000004, li1000005, li1000006, li1000007, li1000008, li1000009, li1000010, li1000011, li1000012, li1000013, li1000014, li1000015, li1000016, li1000017, li1000018, li1000019, li2147483647, lj0, lj1, W_add, W_sub, W_mul, W_neg, V_add, V_sub, V_mul, V_neg, W_ite, W_le, W_lt, W_inj, V_le, V_lt, V_inj, W_V, V_W, lgc_ge, lgc_gt, lgc_le, lgc_lt, lgc_eq, ge_iff_le, gt_iff_lt, q1, q2, ↓reduceIte]
    · rw [if_neg (by omega)]
      simp (disch := first | assumption | omega) only [f_X7_checkRange, f_X7_checkRange_b10, S_dirty, li0, li1, li2, li3, li4, li5, li6, li7, li8, li9, li10, li11, li12, li13, li14, li15, li16, li17, li18, li19, li20, li21, li22, li23, li24, li25, li26, li27, li28, li29, li30, li31, li32, li33, li34, li35, li36, li37, li38, li39, li40, li41, li42, li44, li48, li57, li63, li64, li65, li97, li99, li100, li101, li102, li104, li105, li106, li109, li114, li120, li128, li130, li300, li514, li999, li1000, li8192, li9999, li65536, li1000000, li1000001, li1000002, li1000003, li1000004, li1000005, li1000006, li1000007, li1000008, li1000009, li1000010, li1000011, li1000012, li1000013, li1000014, li1000015, li1000016, li1000017, li1000018, li1000019, li2147483647, lj0, lj1, W_add, W_sub, W_mul, W_neg, V_add, V_sub, V_mul, V_neg, W_ite, W_le, W_lt, W_inj, V_le, V_lt, V_inj, W_V, V_W, lgc_ge, lgc_gt, lgc_le, lgc_lt, lgc_eq, ge_iff_le, gt_iff_lt, q1, q2, ↓reduceIte]
theorem e_chkTrack {x k : Int} (hR : PR I A) (hx : 0 ≤ x ∧ x ≤ 1) (hn : 0 ≤ nt A x ∧ nt A x ≤ 63) (k0 : -2147483648 ≤ k) (k1 : k ≤ 2147483647) : f_X7_checkTrack (Sx I J b c) 0 (iW x) (iW k) = if 1 ≤ k ∧ k ≤ nt A x then some (Sx I J b c, xv) else some (Sx I J b false, xt "java/lang/IndexOutOfBoundsException") := by
  have h19 : I 19 x = nt A x := hR.2 x (by omega) (by omega)
  by_cases q1 : k < 1
  · rw [if_neg (by omega)]
    simp (disch := first | assumption | omega) only [f_X7_checkTrack, f_X7_checkTrack_b17, S_dirty, li0, li1, li2, li3, li4, li5, li6, li7, li8, li9, li10, li11, li12, li13, li14, li15, li16, li17, li18, li19, li20, li21, li22, li23, li24, li25, li26, li27, li28, li29, li30, li31, li32, li33, li34, li35, li36, li37, li38, li39, li40, li41, li42, li44, li48, li57, li63, li64, li65, li97, li99, li100, li101, li102, li104, li105, li106, li109, li114, li120, li128, li130, li300, li514, li999, li1000, li8192, li9999, li65536, li1000000, li1000001, li1000002, li1000003, li1000004, li1000005, li1000006, li1000007, li1000008, li1000009, li1000010, li1000011, li1000012, li1000013, li1000014, li1000015, li1000016, li1000017, li1000018, li1000019, li2147483647, lj0, lj1, W_add, W_sub, W_mul, W_neg, V_add, V_sub, V_mul, V_neg, W_ite, W_le, W_lt, W_inj, V_le, V_lt, V_inj, W_V, V_W, lgc_ge, lgc_gt, lgc_le, lgc_lt, lgc_eq, ge_iff_le, gt_iff_lt, q1, ↓reduceIte]
  · have t0 : ¬ (x < 0) := by omega
    have t1 : ¬ (2 ≤ x) := by omega
    by_cases q2 : k ≤ nt A x
    · rw [if_pos (by omega)]
      simp (disch := first | assumption | omega) only [f_X7_checkTrack, f_X7_checkTrack_b17, f_X5_trackCount, f_X5_trackCount_b18, f_X5_trackCount_b19, S_dirty, ↓rc0, ↓gI0_1, ↓gI0_7, ↓gI0_8, ↓gI0_15, ↓pI0_1, ↓pI0_7, ↓pI0_8, ↓pZ0_15, ↓gR0_0, ↓gR0_2, ↓gR0_3, ↓gR0_4, ↓gR0_5, ↓gR0_6, ↓gR0_9, ↓gR0_10, ↓gR0_11, ↓gR0_12, ↓gR0_13, ↓gR0_14, ↓aI1, ↓ln1, ↓aI14, ↓sZ14, ↓ln14, ↓aR13, ↓aR15, ↓rc16, ↓gI16_4, ↓gI16_5, ↓gI16_6, ↓gI16_7, ↓gI16_8, ↓pI16_4, ↓pI16_5, ↓pI16_6, ↓pI16_7, ↓pI16_8, ↓gR16_0, ↓gR16_1, ↓gR16_2, ↓gR16_3, ↓aI17, ↓sI17, ↓ln17, ↓aI18, ↓sZ18, ↓ln18, ↓aI19, ↓sI19, ↓ln19, ↓c_I, ↓c_J, ↓c_Q, ↓c_V, ↓c_It, ↓c_Jt, ↓c_Vt, ↓k_I, ↓k_J, ↓n_I, ↓n_V, li0, li1, li2, li3, li4, li5, li6, li7, li8, li9, li10, li11, li12, li13, li14, li15, li16, li17, li18, li19, li20, li21, li22, li23, li24, li25, li26, li27, li28, li29, li30, li31, li32, li33, li34, li35, li36, li37, li38, li39, li40, li41, li42, li44, li48, li57, li63, li64, li65, li97, li99, li100, li101, li102, li104, li105, li106, li109, li114, li120, li128, li130, li300, li514, li999, li1000, li8192, li9999, li65536, li1000000, li1000001, li1000002, li1000003, li1000004, li1000005, li1000006, li1000007, li1000008, li1000009, li1000010, li1000011, li1000012, li1000013, li1000014, li1000015, li1000016, li1000017, li1000018, li1000019, li2147483647, lj0, lj1, W_add, W_sub, W_mul, W_neg, V_add, V_sub, V_mul, V_neg, W_ite, W_le, W_lt, W_inj, V_le, V_lt, V_inj, W_V, V_W, lgc_ge, lgc_gt, lgc_le, lgc_lt, lgc_eq, ge_iff_le, gt_iff_lt, q1, t0, t1, h19, q2, ↓reduceIte]
    · rw [if_neg (by omega)]
      simp (disch := first | assumption | omega) only [f_X7_checkTrack, f_X7_checkTrack_b17, f_X5_trackCount, f_X5_trackCount_b18, f_X5_trackCount_b19, S_dirty, ↓rc0, ↓gI0_1, ↓gI0_7, ↓gI0_8, ↓gI0_15, ↓pI0_1, ↓pI0_7, ↓pI0_8, ↓pZ0_15, ↓gR0_0, ↓gR0_2, ↓gR0_3, ↓gR0_4, ↓gR0_5, ↓gR0_6, ↓gR0_9, ↓gR0_10, ↓gR0_11, ↓gR0_12, ↓gR0_13, ↓gR0_14, ↓aI1, ↓ln1, ↓aI14, ↓sZ14, ↓ln14, ↓aR13, ↓aR15, ↓rc16, ↓gI16_4, ↓gI16_5, ↓gI16_6, ↓gI16_7, ↓gI16_8, ↓pI16_4, ↓pI16_5, ↓pI16_6, ↓pI16_7, ↓pI16_8, ↓gR16_0, ↓gR16_1, ↓gR16_2, ↓gR16_3, ↓aI17, ↓sI17, ↓ln17, ↓aI18, ↓sZ18, ↓ln18, ↓aI19, ↓sI19, ↓ln19, ↓c_I, ↓c_J, ↓c_Q, ↓c_V, ↓c_It, ↓c_Jt, ↓c_Vt, ↓k_I, ↓k_J, ↓n_I, ↓n_V, li0, li1, li2, li3, li4, li5, li6, li7, li8, li9, li10, li11, li12, li13, li14, li15, li16, li17, li18, li19, li20, li21, li22, li23, li24, li25, li26, li27, li28, li29, li30, li31, li32, li33, li34, li35, li36, li37, li38, li39, li40, li41, li42, li44, li48, li57, li63, li64, li65, li97, li99, li100, li101, li102, li104, li105, li106, li109, li114, li120, li128, li130, li300, li514, li999, li1000, li8192, li9999, li65536, li1000000, li1000001, li1000002, li1000003, li1000004, li1000005, li1000006, li1000007, li1000008, li1000009, li1000010, li1000011, li1000012, li1000013, li1000014, li1000015, li1000016, li1000017, li1000018, li1000019, li2147483647, lj0, lj1, W_add, W_sub, W_mul, W_neg, V_add, V_sub, V_mul, V_neg, W_ite, W_le, W_lt, W_inj, V_le, V_lt, V_inj, W_V, V_W, lgc_ge, lgc_gt, lgc_le, lgc_lt, lgc_eq, ge_iff_le, gt_iff_lt, q1, t0, t1, h19, q2, ↓reduceIte]
/-- the grid laid out, and what is known of an axis then -/
theorem e_laid (h : ES I A) {x : Int} (hx : 0 ≤ x ∧ x ≤ 1) : ∃ I' J', f_X7_arrange (Sx I J b c) 0 = some (Sx I' J' b c, xv) ∧ LZ I' A (if x = 0 then 20 else 28) x ∧ ES I' A ∧ EQ I I' ∧ PR I' A ∧ ∀ a, a ≠ 44 → a ≠ 46 → J' a = J a := by
  obtain ⟨hA, hM, h20, h28, h01, hz⟩ := h
  obtain ⟨I', J', k1, k2, k3, k4, k5, k6, k7⟩ := e_arrange (J := J) (b := b) (c := c) hA hM h20 h28 h01 hz
  refine ⟨I', J', k1, ?_, ⟨hA, hM.fr (fun a a0 a1 => k5 a (by omega) (by omega)), k2.1.1.2.2.1, k3.1.1.2.2.1, Or.inr k4, fun _ => ⟨k2, k3⟩⟩, ⟨k5, k6⟩, k2.1.1.2.2.2.2.2.2, k7⟩
  by_cases q : x = 0
  · rw [if_pos q, q]
    exact k2
  · rw [if_neg q, show x = 1 by omega]
    exact k3
theorem x_size (h : ES I A) {x k s : Int} (x0 : -2147483648 ≤ x) (x1 : x ≤ 2147483647) (k0 : -2147483648 ≤ k) (k1 : k ≤ 2147483647) (s0 : -2147483648 ≤ s) (s1 : s ≤ 2147483647) :
    EAns (f_X7_size (Sx I J b c) 0 (iW x) (iW k) (iW s)) I J b c A "java/lang/IllegalArgumentException" "java/lang/IndexOutOfBoundsException" (if (0 ≤ x ∧ x ≤ 1) ∧ (1 ≤ s ∧ s ≤ 5) then (if 1 ≤ k ∧ k ≤ nt A x then stf A x s k else 0) else 0) (if (0 ≤ x ∧ x ≤ 1) ∧ (1 ≤ s ∧ s ≤ 5) then (if 1 ≤ k ∧ k ≤ nt A x then 0 else 2) else 1) := by
  have ea := e_chkAxis (I := I) (J := J) (b := b) (c := c) x0 x1
  have es := e_chkRange (I := I) (J := J) (b := b) (c := c) (v := s) (lo := 1) (hi := 5) s0 s1 (by omega) (by omega) (by omega) (by omega)
  by_cases qa : 0 ≤ x ∧ x ≤ 1
  · rw [if_pos qa] at ea
    by_cases qs : 1 ≤ s ∧ s ≤ 5
    · rw [if_pos qs] at es
      have qq : (0 ≤ x ∧ x ≤ 1) ∧ (1 ≤ s ∧ s ≤ 5) := ⟨qa, qs⟩
      rw [if_pos qq, if_pos qq]
      obtain ⟨I1, J1, m1, m2, m3, m4, m5, m6⟩ := e_laid (J := J) (b := b) (c := c) h qa
      have hnt := (plB_of h.1).2 x (by omega) (by omega)
      have et := e_chkTrack (J := J1) (b := b) (c := c) m5 qa (by omega) k0 k1
      have el := e_layoutOf (I := I1) (J := J1) (b := b) (c := c) (k := x) (by omega)
      by_cases qk : 1 ≤ k ∧ k ≤ nt A x
      · rw [if_pos qk] at et
        rw [if_pos qk, if_pos qk]
        have ez := e_trackSize (J := J1) (b := b) (c := c) m2.1 (k := k) (s := s) qk.1 qk.2 qs.1 qs.2
        have hv : cif (col A x k) 0 (I1 (((if x = 0 then 20 else 28 : Nat) : Int) + 1 + s) k) = stf A x s k := by
          by_cases qc : col A x k
          · rw [cif_pos qc, stf_col h.1 qa qs.1 qs.2 qc]
          · rw [cif_neg qc]
            have hS := m2.2.2.1 k (by omega) (by omega)
            generalize ((if x = 0 then 20 else 28 : Nat) : Int) = o at hS ⊢
            by_cases e1 : s = 1
            · rw [e1, stf_1, show o + 1 + 1 = o + 2 by omega]
              exact hS.1
            · by_cases e2 : s = 2
              · rw [e2, stf_2, show o + 1 + 2 = o + 3 by omega]
                exact hS.2.1
              · by_cases e3 : s = 3
                · rw [e3, stf_3, show o + 1 + 3 = o + 4 by omega]
                  exact hS.2.2.1
                · by_cases e4 : s = 4
                  · rw [e4, stf_4, show o + 1 + 4 = o + 5 by omega]
                    exact hS.2.2.2.1
                  · rw [show s = 5 by omega, stf_5, show o + 1 + 5 = o + 6 by omega]
                    exact hS.2.2.2.2
        rw [hv] at ez
        have hrc : ∀ f : Option XR, x_rc (Sx I1 J1 b c) (if x = 0 then 20 else 28) 0 f = f := fun f => by
          by_cases q : x = 0
          · rw [if_pos q]
            exact rcL (Or.inl rfl)
          · rw [if_neg q]
            exact rcL (Or.inr rfl)
        refine ⟨I1, J1, ?_, m3, m4, m6⟩
        rw [if_pos rfl]
        simp (disch := first | assumption | omega) only [f_X7_size, ↓rc0, ↓gI0_1, ↓gI0_7, ↓gI0_8, ↓gI0_15, ↓pI0_1, ↓pI0_7, ↓pI0_8, ↓pZ0_15, ↓gR0_0, ↓gR0_2, ↓gR0_3, ↓gR0_4, ↓gR0_5, ↓gR0_6, ↓gR0_9, ↓gR0_10, ↓gR0_11, ↓gR0_12, ↓gR0_13, ↓gR0_14, ↓aI1, ↓ln1, ↓aI14, ↓sZ14, ↓ln14, ↓aR13, ↓aR15, ↓c_I, ↓c_J, ↓c_Q, ↓c_V, ↓c_It, ↓c_Jt, ↓c_Vt, ↓k_I, ↓k_J, ↓n_I, ↓n_V, li0, li1, li2, li3, li4, li5, li6, li7, li8, li9, li10, li11, li12, li13, li14, li15, li16, li17, li18, li19, li20, li21, li22, li23, li24, li25, li26, li27, li28, li29, li30, li31, li32, li33, li34, li35, li36, li37, li38, li39, li40, li41, li42, li44, li48, li57, li63, li64, li65, li97, li99, li100, li101, li102, li104, li105, li106, li109, li114, li120, li128, li130, li300, li514, li999, li1000, li8192, li9999, li65536, li1000000, li1000001, li1000002, li1000003, li1000004, li1000005, li1000006, li1000007, li1000008, li1000009, li1000010, li1000011, li1000012, li1000013, li1000014, li1000015, li1000016, li1000017, li1000018, li1000019, li2147483647, lj0, lj1, W_add, W_sub, W_mul, W_neg, V_add, V_sub, V_mul, V_neg, W_ite, ea, es, m1, et, el, hrc, ez]
      · rw [if_neg qk] at et
        rw [if_neg qk, if_neg qk]
        refine ⟨I1, J1, ?_, m3, m4, m6⟩
        rw [if_neg (by decide), if_neg (by decide)]
        simp (disch := first | assumption | omega) only [f_X7_size, ↓rc0, ↓gI0_1, ↓gI0_7, ↓gI0_8, ↓gI0_15, ↓pI0_1, ↓pI0_7, ↓pI0_8, ↓pZ0_15, ↓gR0_0, ↓gR0_2, ↓gR0_3, ↓gR0_4, ↓gR0_5, ↓gR0_6, ↓gR0_9, ↓gR0_10, ↓gR0_11, ↓gR0_12, ↓gR0_13, ↓gR0_14, ↓aI1, ↓ln1, ↓aI14, ↓sZ14, ↓ln14, ↓aR13, ↓aR15, ↓c_I, ↓c_J, ↓c_Q, ↓c_V, ↓c_It, ↓c_Jt, ↓c_Vt, ↓k_I, ↓k_J, ↓n_I, ↓n_V, li0, li1, li2, li3, li4, li5, li6, li7, li8, li9, li10, li11, li12, li13, li14, li15, li16, li17, li18, li19, li20, li21, li22, li23, li24, li25, li26, li27, li28, li29, li30, li31, li32, li33, li34, li35, li36, li37, li38, li39, li40, li41, li42, li44, li48, li57, li63, li64, li65, li97, li99, li100, li101, li102, li104, li105, li106, li109, li114, li120, li128, li130, li300, li514, li999, li1000, li8192, li9999, li65536, li1000000, li1000001, li1000002, li1000003, li1000004, li1000005, li1000006, li1000007, li1000008, li1000009, li1000010, li1000011, li1000012, li1000013, li1000014, li1000015, li1000016, li1000017, li1000018, li1000019, li2147483647, lj0, lj1, W_add, W_sub, W_mul, W_neg, V_add, V_sub, V_mul, V_neg, W_ite, ea, es, m1, et]
    · rw [if_neg qs] at es
      rw [if_neg (fun z => qs z.2), if_neg (fun z => qs z.2)]
      refine ⟨I, J, ?_, h, EQ.rf, fun _ _ _ => rfl⟩
      rw [if_neg (by decide), if_pos rfl]
      simp (disch := first | assumption | omega) only [f_X7_size, ↓rc0, ↓gI0_1, ↓gI0_7, ↓gI0_8, ↓gI0_15, ↓pI0_1, ↓pI0_7, ↓pI0_8, ↓pZ0_15, ↓gR0_0, ↓gR0_2, ↓gR0_3, ↓gR0_4, ↓gR0_5, ↓gR0_6, ↓gR0_9, ↓gR0_10, ↓gR0_11, ↓gR0_12, ↓gR0_13, ↓gR0_14, ↓aI1, ↓ln1, ↓aI14, ↓sZ14, ↓ln14, ↓aR13, ↓aR15, ↓c_I, ↓c_J, ↓c_Q, ↓c_V, ↓c_It, ↓c_Jt, ↓c_Vt, ↓k_I, ↓k_J, ↓n_I, ↓n_V, li0, li1, li2, li3, li4, li5, li6, li7, li8, li9, li10, li11, li12, li13, li14, li15, li16, li17, li18, li19, li20, li21, li22, li23, li24, li25, li26, li27, li28, li29, li30, li31, li32, li33, li34, li35, li36, li37, li38, li39, li40, li41, li42, li44, li48, li57, li63, li64, li65, li97, li99, li100, li101, li102, li104, li105, li106, li109, li114, li120, li128, li130, li300, li514, li999, li1000, li8192, li9999, li65536, li1000000, li1000001, li1000002, li1000003, li1000004, li1000005, li1000006, li1000007, li1000008, li1000009, li1000010, li1000011, li1000012, li1000013, li1000014, li1000015, li1000016, li1000017, li1000018, li1000019, li2147483647, lj0, lj1, W_add, W_sub, W_mul, W_neg, V_add, V_sub, V_mul, V_neg, W_ite, ea, es]
  · rw [if_neg qa] at ea
    rw [if_neg (fun z => qa z.1), if_neg (fun z => qa z.1)]
    refine ⟨I, J, ?_, h, EQ.rf, fun _ _ _ => rfl⟩
    rw [if_neg (by decide), if_pos rfl]
    simp (disch := first | assumption | omega) only [f_X7_size, ↓rc0, ↓gI0_1, ↓gI0_7, ↓gI0_8, ↓gI0_15, ↓pI0_1, ↓pI0_7, ↓pI0_8, ↓pZ0_15, ↓gR0_0, ↓gR0_2, ↓gR0_3, ↓gR0_4, ↓gR0_5, ↓gR0_6, ↓gR0_9, ↓gR0_10, ↓gR0_11, ↓gR0_12, ↓gR0_13, ↓gR0_14, ↓aI1, ↓ln1, ↓aI14, ↓sZ14, ↓ln14, ↓aR13, ↓aR15, ↓c_I, ↓c_J, ↓c_Q, ↓c_V, ↓c_It, ↓c_Jt, ↓c_Vt, ↓k_I, ↓k_J, ↓n_I, ↓n_V, li0, li1, li2, li3, li4, li5, li6, li7, li8, li9, li10, li11, li12, li13, li14, li15, li16, li17, li18, li19, li20, li21, li22, li23, li24, li25, li26, li27, li28, li29, li30, li31, li32, li33, li34, li35, li36, li37, li38, li39, li40, li41, li42, li44, li48, li57, li63, li64, li65, li97, li99, li100, li101, li102, li104, li105, li106, li109, li114, li120, li128, li130, li300, li514, li999, li1000, li8192, li9999, li65536, li1000000, li1000001, li1000002, li1000003, li1000004, li1000005, li1000006, li1000007, li1000008, li1000009, li1000010, li1000011, li1000012, li1000013, li1000014, li1000015, li1000016, li1000017, li1000018, li1000019, li2147483647, lj0, lj1, W_add, W_sub, W_mul, W_neg, V_add, V_sub, V_mul, V_neg, W_ite, ea]
end EQu

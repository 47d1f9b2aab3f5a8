/-! ===== the engine's positions, areas and boxes ===== -/
theorem xor_two {x : Int} (x0 : -2147483648 ≤ x) (x1 : x ≤ 2147483647) : (iW 0 ≤ iW x ^^^ iW 2) = (0 ≤ x) := by
  apply propext
  rw [Int32.le_iff_toInt_le]
  have h1 := BitVec.msb_eq_toInt (x := (iW x).toBitVec ^^^ (iW 2).toBitVec)
  have h2 : (iW 2).toBitVec.msb = false := by decide
  have h3 := BitVec.msb_eq_toInt (x := (iW x).toBitVec)
  rw [BitVec.msb_xor, h2, Bool.xor_false, h3] at h1
  have h4 : (iW x).toBitVec.toInt = x := W_toInt x0 x1
  rw [h4] at h1
  have h5 : (iW x ^^^ iW 2).toInt = ((iW x).toBitVec ^^^ (iW 2).toBitVec).toInt := rfl
  rw [h5]
  have h6 : (iW 0).toInt = 0 := by decide
  rw [h6]
  have h7 : (x < 0) ↔ (((iW x).toBitVec ^^^ (iW 2).toBitVec).toInt < 0) := by
    constructor
    · intro h
      rw [decide_eq_true h] at h1
      exact of_decide_eq_true h1.symm
    · intro h
      rw [decide_eq_true h] at h1
      exact of_decide_eq_true h1
  omega
theorem e_floorDiv {h : HP} {x : Int} (x0 : -2000000000 ≤ x) (x1 : x ≤ 2000000000) : f_J9_floorDiv_7cf53 h (iW x) (iW 2) = some (h, xi (iW (x / 2))) := by
  have hx := xor_two (x := x) (by omega) (by omega)
  by_cases q : 0 ≤ x
  · have ht : x.tdiv 2 = x / 2 := td2 q
    simp (disch := first | assumption | omega) only [f_J9_floorDiv_7cf53, f_J9_floorDiv_7cf53_b21, ↓c_I, ↓c_J, ↓c_Q, ↓c_V, ↓c_It, ↓c_Jt, ↓c_Vt, ↓k_I, ↓k_J, ↓n_I, ↓n_V, li0, li1, li2, li3, li4, li5, li6, li7, li8, li9, li10, li11, li12, li13, li14, li15, li16, li17, li18, li19, li20, li21, li22, li23, li24, li25, li26, li27, li28, li29, li30, li31, li32, li33, li34, li35, li36, li37, li38, li39, li40, li41, li42, li44, li48, li57, li63, li64, li65, li97, li99, li100, li101, li102, li104, li105, li106, li109, li114, li120, li128, li130, li300, li514, li999, li1000, li8192, li9999, li65536, li1000000, li1000001, li1000002, li1000003, li1000004, li1000005, li1000006, li1000007, li1000008, li1000009, li1000010, li1000011, li1000012, li1000013, li1000014, li1000015, li1000016, li1000017, li1000018, li1000019, li2147483647, lj0, lj1, W_add, W_sub, W_mul, W_neg, V_add, V_sub, V_mul, V_neg, W_ite, W_le, W_lt, W_inj, V_le, V_lt, V_inj, W_V, V_W, lgc_ge, lgc_gt, lgc_le, lgc_lt, lgc_eq, ge_iff_le, gt_iff_lt, hx, q, W_d, W_div, ht, ↓reduceIte]
  · have ht : x.tdiv 2 = -((-x) / 2) := by
      rw [show x = -(-x) by omega, Int.neg_tdiv, Int.neg_neg, td2 (by omega)]
    by_cases q2 : x.tdiv 2 * 2 = x
    · have hr : x.tdiv 2 = x / 2 := by omega
      simp (disch := first | assumption | omega) only [f_J9_floorDiv_7cf53, f_J9_floorDiv_7cf53_b21, ↓c_I, ↓c_J, ↓c_Q, ↓c_V, ↓c_It, ↓c_Jt, ↓c_Vt, ↓k_I, ↓k_J, ↓n_I, ↓n_V, li0, li1, li2, li3, li4, li5, li6, li7, li8, li9, li10, li11, li12, li13, li14, li15, li16, li17, li18, li19, li20, li21, li22, li23, li24, li25, li26, li27, li28, li29, li30, li31, li32, li33, li34, li35, li36, li37, li38, li39, li40, li41, li42, li44, li48, li57, li63, li64, li65, li97, li99, li100, li101, li102, li104, li105, li106, li109, li114, li120, li128, li130, li300, li514, li999, li1000, li8192, li9999, li65536, li1000000, li1000001, li1000002, li1000003, li1000004, li1000005, li1000006, li1000007, li1000008, li1000009, li1000010, li1000011, li1000012, li1000013, li1000014, li1000015, li1000016, li1000017, li1000018, li1000019, li2147483647, lj0, lj1, W_add, W_sub, W_mul, W_neg, V_add, V_sub, V_mul, V_neg, W_ite, W_le, W_lt, W_inj, V_le, V_lt, V_inj, W_V, V_W, lgc_ge, lgc_gt, lgc_le, lgc_lt, lgc_eq, ge_iff_le, gt_iff_lt, hx, q, W_d, W_div, q2, ↓reduceIte]
      rw [hr]
    · have hr : x.tdiv 2 - 1 = x / 2 := by omega
      simp (disch := first | assumption | omega) only [f_J9_floorDiv_7cf53, f_J9_floorDiv_7cf53_b21, ↓c_I, ↓c_J, ↓c_Q, ↓c_V, ↓c_It, ↓c_Jt, ↓c_Vt, ↓k_I, ↓k_J, ↓n_I, ↓n_V, li0, li1, li2, li3, li4, li5, li6, li7, li8, li9, li10, li11, li12, li13, li14, li15, li16, li17, li18, li19, li20, li21, li22, li23, li24, li25, li26, li27, li28, li29, li30, li31, li32, li33, li34, li35, li36, li37, li38, li39, li40, li41, li42, li44, li48, li57, li63, li64, li65, li97, li99, li100, li101, li102, li104, li105, li106, li109, li114, li120, li128, li130, li300, li514, li999, li1000, li8192, li9999, li65536, li1000000, li1000001, li1000002, li1000003, li1000004, li1000005, li1000006, li1000007, li1000008, li1000009, li1000010, li1000011, li1000012, li1000013, li1000014, li1000015, li1000016, li1000017, li1000018, li1000019, li2147483647, lj0, lj1, W_add, W_sub, W_mul, W_neg, V_add, V_sub, V_mul, V_neg, W_ite, W_le, W_lt, W_inj, V_le, V_lt, V_inj, W_V, V_W, lgc_ge, lgc_gt, lgc_le, lgc_lt, lgc_eq, ge_iff_le, gt_iff_lt, hx, q, W_d, W_div, q2, ↓reduceIte]
      rw [hr]
theorem fsp_bd {A : CF} (hA : okA A) (hP : plB A) {ax : Int} (x0 : 0 ≤ ax) (x1 : ax < 2) : -710000000 ≤ fsp A ax ∧ fsp A ax ≤ 9999 := by
  have h5 := (hA.2.2.2.1 ax x0 x1).2.1
  have h5 : -1 ≤ asz A ax ∧ asz A ax ≤ 9999 := h5
  have ht := tot_bd hA hP x0 x1 (M := 11110000) (by omega) (fun k => (str_bd hA hP x0 x1 k).1)
  unfold fsp
  split <;> omega
theorem ahd3_bd {A : CF} {ax k : Int} (k0 : 1 ≤ k) (k1 : k ≤ 64) : 0 ≤ ahd3 A ax k ∧ ahd3 A ax k ≤ k - 1 := by
  have h01 : ∀ k, 0 ≤ bb (¬ col A ax k) ∧ bb (¬ col A ax k) ≤ 1 := fun k => by
    rcases bb_01 (¬ col A ax k) with h | h <;> omega
  have h1 := rs_nonneg (f := fun k => bb (¬ col A ax k)) (a := 1) (b := k - 1) (fun k _ _ => (h01 k).1)
  have h2 := rs_le (f := fun k => bb (¬ col A ax k)) (a := 1) (b := k - 1) (M := 1) (n := (k - 1).toNat) (fun k _ _ => (h01 k).2) (by omega) (by omega)
  unfold ahd3
  omega
theorem ofs_bd {A : CF} (hA : okA A) (hP : plB A) {ax i : Int} (x0 : 0 ≤ ax) (x1 : ax < 2) (i0 : 0 ≤ i) (i1 : i < shn A ax) : -710000000 ≤ ofs A ax i ∧ ofs A ax i ≤ 1300000 := by
  have hf := fsp_bd hA hP x0 x1
  have hs := shn_bd hP x0 x1
  have hn := hP.2 ax x0 x1
  have dv : ∀ a d : Int, 0 ≤ a → 0 < d → 0 ≤ a / d ∧ a / d ≤ a := fun a d ha hd => ⟨Int.ediv_nonneg ha (by omega), Int.ediv_le_self _ ha⟩
  unfold ofs
  split
  · omega
  · split
    · omega
    · split
      · split
        · omega
        · next h =>
          have m := mul_bd (a := fsp A ax) (b := i) (A := 9999) (B := 63) (by omega) (by omega) (by omega) (by omega)
          have := dv (fsp A ax * i) (shn A ax - 1) m.1 (by omega)
          omega
      · split
        · split
          · omega
          · have m := mul_bd (a := fsp A ax) (b := 2 * i + 1) (A := 9999) (B := 127) (by omega) (by omega) (by omega) (by omega)
            have := dv (fsp A ax * (2 * i + 1)) (2 * shn A ax) m.1 (by omega)
            omega
        · split
          · split
            · omega
            · have m := mul_bd (a := fsp A ax) (b := i + 1) (A := 9999) (B := 64) (by omega) (by omega) (by omega) (by omega)
              have := dv (fsp A ax * (i + 1)) (shn A ax + 1) m.1 (by omega)
              omega
          · omega
theorem ahd3_s {A : CF} {ax k : Int} (k0 : 1 ≤ k) : ahd3 A ax (k + 1) = ahd3 A ax k + bb (¬ col A ax k) := by
  unfold ahd3
  rw [show k + 1 - 1 = k by omega]
  exact rs_s (by omega)
theorem ahd3_lt {A : CF} {ax k : Int} (k0 : 1 ≤ k) (k1 : k ≤ nt A ax) (h : opn A ax k) : ahd3 A ax k < shn A ax := by
  have h01 : ∀ k, 0 ≤ bb (¬ col A ax k) := fun k => by
    rcases bb_01 (¬ col A ax k) with h | h <;> omega
  have key : ∀ n : Nat, ahd3 A ax (k + 1) ≤ rs (fun j => bb (¬ col A ax j)) 1 (k + n) := by
    intro n
    induction n with
    | zero => 
      unfold ahd3
      rw [show k + 1 - 1 = k + ((0 : Nat) : Int) by omega]
      exact Int.le_refl _
    | succ n ih =>
      have := rs_s (f := fun j => bb (¬ col A ax j)) (a := 1) (b := k + ((n + 1 : Nat) : Int)) (by omega)
      rw [show k + ((n + 1 : Nat) : Int) - 1 = k + n by omega] at this
      have := h01 (k + ((n + 1 : Nat) : Int))
      omega
  have h1 := key (nt A ax - k).toNat
  rw [show k + ((nt A ax - k).toNat : Int) = nt A ax by omega, ahd3_s k0, bb_pos h.2] at h1
  unfold shn
  omega
theorem bgn_bd {A : CF} (hA : okA A) (hP : plB A) {ax k : Int} (x0 : 0 ≤ ax) (x1 : ax < 2) (k0 : 1 ≤ k) (k1 : k ≤ nt A ax) (h : opn A ax k) : (0 ≤ rs (str A ax) 1 (k - 1) + gpa A ax * ahd3 A ax k ∧ rs (str A ax) 1 (k - 1) + gpa A ax * ahd3 A ax k ≤ 710000000) ∧ -710000000 ≤ bgn A ax k ∧ bgn A ax k ≤ 720000000 := by
  have hn := hP.2 ax x0 x1
  have h1 := rs_nonneg (f := str A ax) (a := 1) (b := k - 1) (fun j _ _ => (str_bd hA hP x0 x1 j).1.1)
  have h2 := rs_le (f := str A ax) (a := 1) (b := k - 1) (M := 11110000) (n := 63) (fun j _ _ => (str_bd hA hP x0 x1 j).1.2) (by omega) (by omega)
  have h3 := ahd3_bd (A := A) (ax := ax) k0 (show k ≤ 64 by omega)
  have hgp := (hA.2.2.2.1 ax x0 x1).2.2.1
  have m := mul_bd (a := gpa A ax) (b := ahd3 A ax k) (A := 99) (B := 63) hgp.1 hgp.2 (by omega) (by omega)
  have h4 := ofs_bd hA hP x0 x1 h3.1 (ahd3_lt k0 k1 h)
  unfold bgn
  omega
section PosE
variable {J : CF} {b : Nat} {c : Bool} {A : CF} {o : Nat} {ax : Int}
theorem e_off36 {I : CF} (hY : LY I A o ax) (h15 : I o 15 = fsp A ax) {i v : Int} (i0 : 0 ≤ i) (i1 : i < shn A ax) (v0 : 0 ≤ v) (v1 : v ≤ 6) (hv : 3 < v → 0 ≤ fsp A ax) : f_X0_offset_b36 (Sx I J b c) o (iW i) (iW v) = some (Sx I J b c, xi (iW (if v = 2 then fsp A ax else if v = 3 then fsp A ax / 2 else if v = 4 then (if shn A ax ≤ 1 then 0 else fsp A ax * i / (shn A ax - 1)) else if v = 5 then fsp A ax * (2 * i + 1) / (2 * shn A ax) else if v = 6 then fsp A ax * (i + 1) / (shn A ax + 1) else 0))) := by
  obtain ⟨⟨ho, hx, h1, hA, hP, hM, hR⟩, h10, h12, h14, h11, h13, hcl⟩ := hY
  have hf := fsp_bd hA hP (ax := ax) (by omega) (by omega)
  have hs := shn_bd hP (ax := ax) (by omega) (by omega)
  have hn := hP.2 ax (by omega) (by omega)
  have ed := e_floorDiv (h := Sx I J b c) (x := fsp A ax) (by omega) (by omega)
  have w : ∀ n : Int, 0 ≤ n → n ≤ 6 → (iW v = iW n ↔ v = n) := fun n h0 h1 => by rw [W_inj (by omega) (by omega) (by omega) (by omega)]
  unfold f_X0_offset_b36
  by_cases c2 : v = 2
  · rw [if_pos (show iW v = 2 from by rw [c2]; rfl), if_pos c2, gIL_15 ho, h15]
  · rw [if_neg (show ¬ iW v = 2 from fun z => c2 ((w 2 (by omega) (by omega)).mp z)), if_neg c2]
    by_cases c3 : v = 3
    · rw [if_pos (show iW v = 3 from by rw [c3]; rfl), if_pos c3, gIL_15 ho, h15, li2, ed]
      rfl
    · rw [if_neg (show ¬ iW v = 3 from fun z => c3 ((w 3 (by omega) (by omega)).mp z)), if_neg c3]
      by_cases c4 : v = 4
      · have hf0 := hv (by omega)
        rw [if_pos (show iW v = 4 from by rw [c4]; rfl), if_pos c4]
        by_cases hs1 : shn A ax ≤ 1
        · simp (disch := first | assumption | omega) only [f_X0_offset_b111, ↓rcL, ↓gIL_0, ↓gIL_10, ↓gIL_11, ↓gIL_12, ↓gIL_13, ↓gIL_14, ↓gIL_15, ↓pIL_0, ↓pIL_10, ↓pIL_11, ↓pIL_12, ↓pIL_13, ↓pIL_14, ↓pIL_15, ↓gRL_1, ↓gRL_2, ↓gRL_3, ↓gRL_4, ↓gRL_5, ↓gRL_6, ↓gRL_7, ↓gRL_8, ↓gRL_9, ↓aIL1, ↓sZL1, ↓lnL1, ↓aIL2, ↓sIL2, ↓lnL2, ↓aIL3, ↓sIL3, ↓lnL3, ↓aIL4, ↓sIL4, ↓lnL4, ↓aIL5, ↓sIL5, ↓lnL5, ↓aIL6, ↓sIL6, ↓lnL6, ↓aIL7, ↓sIL7, ↓lnL7, ↓c_I, ↓c_J, ↓c_Q, ↓c_V, ↓c_It, ↓c_Jt, ↓c_Vt, ↓k_I, ↓k_J, ↓n_I, ↓n_V, li0, li1, li2, li3, li4, li5, li6, li7, li8, li9, li10, li11, li12, li13, li14, li15, li16, li17, li18, li19, li20, li21, li22, li23, li24, li25, li26, li27, li28, li29, li30, li31, li32, li33, li34, li35, li36, li37, li38, li39, li40, li41, li42, li44, li48, li57, li63, li64, li65, li97, li99, li100, li101, li102, li104, li105, li106, li109, li114, li120, li128, li130, li300, li514, li999, li1000, li8192, li9999, li65536, li1000000, li1000001, li1000002, li1000003, li1000004, li1000005, li1000006, li1000007, li1000008, li1000009, li1000010, li1000011, li1000012, li1000013, li1000014, li1000015, li1000016, li1000017, li1000018, li1000019, li2147483647, lj0, lj1, W_add, W_sub, W_mul, W_neg, V_add, V_sub, V_mul, V_neg, W_ite, W_le, W_lt, W_inj, V_le, V_lt, V_inj, W_V, V_W, lgc_ge, lgc_gt, lgc_le, lgc_lt, lgc_eq, ge_iff_le, gt_iff_lt, h11, hs1, ↓reduceIte]
        · have m := mul_bd (a := fsp A ax) (b := i) (A := 9999) (B := 63) (by omega) (by omega) (by omega) (by omega)
          have ht : (fsp A ax * i).tdiv (shn A ax - 1) = fsp A ax * i / (shn A ax - 1) := Int.tdiv_eq_ediv_of_nonneg m.1
          have hne : shn A ax - 1 ≠ 0 := by omega
          simp (disch := first | assumption | omega) only [f_X0_offset_b111, ↓rcL, ↓gIL_0, ↓gIL_10, ↓gIL_11, ↓gIL_12, ↓gIL_13, ↓gIL_14, ↓gIL_15, ↓pIL_0, ↓pIL_10, ↓pIL_11, ↓pIL_12, ↓pIL_13, ↓pIL_14, ↓pIL_15, ↓gRL_1, ↓gRL_2, ↓gRL_3, ↓gRL_4, ↓gRL_5, ↓gRL_6, ↓gRL_7, ↓gRL_8, ↓gRL_9, ↓aIL1, ↓sZL1, ↓lnL1, ↓aIL2, ↓sIL2, ↓lnL2, ↓aIL3, ↓sIL3, ↓lnL3, ↓aIL4, ↓sIL4, ↓lnL4, ↓aIL5, ↓sIL5, ↓lnL5, ↓aIL6, ↓sIL6, ↓lnL6, ↓aIL7, ↓sIL7, ↓lnL7, ↓c_I, ↓c_J, ↓c_Q, ↓c_V, ↓c_It, ↓c_Jt, ↓c_Vt, ↓k_I, ↓k_J, ↓n_I, ↓n_V, li0, li1, li2, li3, li4, li5, li6, li7, li8, li9, li10, li11, li12, li13, li14, li15, li16, li17, li18, li19, li20, li21, li22, li23, li24, li25, li26, li27, li28, li29, li30, li31, li32, li33, li34, li35, li36, li37, li38, li39, li40, li41, li42, li44, li48, li57, li63, li64, li65, li97, li99, li100, li101, li102, li104, li105, li106, li109, li114, li120, li128, li130, li300, li514, li999, li1000, li8192, li9999, li65536, li1000000, li1000001, li1000002, li1000003, li1000004, li1000005, li1000006, li1000007, li1000008, li1000009, li1000010, li1000011, li1000012, li1000013, li1000014, li1000015, li1000016, li1000017, li1000018, li1000019, li2147483647, lj0, lj1, W_add, W_sub, W_mul, W_neg, V_add, V_sub, V_mul, V_neg, W_ite, W_le, W_lt, W_inj, V_le, V_lt, V_inj, W_V, V_W, lgc_ge, lgc_gt, lgc_le, lgc_lt, lgc_eq, ge_iff_le, gt_iff_lt, h15, h11, hs1, W_d, W_div, ht, ↓reduceIte]
      · rw [if_neg (show ¬ iW v = 4 from fun z => c4 ((w 4 (by omega) (by omega)).mp z)), if_neg c4]
        by_cases c5 : v = 5
        · have hf0 := hv (by omega)
          rw [if_pos (show iW v = 5 from by rw [c5]; rfl), if_pos c5]
          have n0 : ¬ (shn A ax ≤ 0) := by omega
          have m := mul_bd (a := fsp A ax) (b := 2 * i + 1) (A := 9999) (B := 127) (by omega) (by omega) (by omega) (by omega)
          have ht : (fsp A ax * (2 * i + 1)).tdiv (2 * shn A ax) = fsp A ax * (2 * i + 1) / (2 * shn A ax) := Int.tdiv_eq_ediv_of_nonneg m.1
          have hne : 2 * shn A ax ≠ 0 := by omega
          simp (disch := first | assumption | omega) only [f_X0_offset_b140, ↓rcL, ↓gIL_0, ↓gIL_10, ↓gIL_11, ↓gIL_12, ↓gIL_13, ↓gIL_14, ↓gIL_15, ↓pIL_0, ↓pIL_10, ↓pIL_11, ↓pIL_12, ↓pIL_13, ↓pIL_14, ↓pIL_15, ↓gRL_1, ↓gRL_2, ↓gRL_3, ↓gRL_4, ↓gRL_5, ↓gRL_6, ↓gRL_7, ↓gRL_8, ↓gRL_9, ↓aIL1, ↓sZL1, ↓lnL1, ↓aIL2, ↓sIL2, ↓lnL2, ↓aIL3, ↓sIL3, ↓lnL3, ↓aIL4, ↓sIL4, ↓lnL4, ↓aIL5, ↓sIL5, ↓lnL5, ↓aIL6, ↓sIL6, ↓lnL6, ↓aIL7, ↓sIL7, ↓lnL7, ↓c_I, ↓c_J, ↓c_Q, ↓c_V, ↓c_It, ↓c_Jt, ↓c_Vt, ↓k_I, ↓k_J, ↓n_I, ↓n_V, li0, li1, li2, li3, li4, li5, li6, li7, li8, li9, li10, li11, li12, li13, li14, li15, li16, li17, li18, li19, li20, li21, li22, li23, li24, li25, li26, li27, li28, li29, li30, li31, li32, li33, li34, li35, li36, li37, li38, li39, li40, li41, li42, li44, li48, li57, li63, li64, li65, li97, li99, li100, li101, li102, li104, li105, li106, li109, li114, li120, li128, li130, li300, li514, li999, li1000, li8192, li9999, li65536, li1000000, li1000001, li1000002, li1000003, li1000004, li1000005, li1000006, li1000007, li1000008, li1000009, li1000010, li1000011, li1000012, li1000013, li1000014, li1000015, li1000016, li1000017, li1000018, li1000019, li2147483647, lj0, lj1, W_add, W_sub, W_mul, W_neg, V_add, V_sub, V_mul, V_neg, W_ite, W_le, W_lt, W_inj, V_le, V_lt, V_inj, W_V, V_W, lgc_ge, lgc_gt, lgc_le, lgc_lt, lgc_eq, ge_iff_le, gt_iff_lt, h15, h11, n0, W_d, W_div, ht, ↓reduceIte]
        · rw [if_neg (show ¬ iW v = 5 from fun z => c5 ((w 5 (by omega) (by omega)).mp z)), if_neg c5]
          by_cases c6 : v = 6
          · have hf0 := hv (by omega)
            rw [if_pos (show iW v = 6 from by rw [c6]; rfl), if_pos c6]
            have n0 : ¬ (shn A ax ≤ 0) := by omega
            have m := mul_bd (a := fsp A ax) (b := i + 1) (A := 9999) (B := 64) (by omega) (by omega) (by omega) (by omega)
            have ht : (fsp A ax * (i + 1)).tdiv (shn A ax + 1) = fsp A ax * (i + 1) / (shn A ax + 1) := Int.tdiv_eq_ediv_of_nonneg m.1
            have hne : shn A ax + 1 ≠ 0 := by omega
            simp (disch := first | assumption | omega) only [f_X0_offset_b167, ↓rcL, ↓gIL_0, ↓gIL_10, ↓gIL_11, ↓gIL_12, ↓gIL_13, ↓gIL_14, ↓gIL_15, ↓pIL_0, ↓pIL_10, ↓pIL_11, ↓pIL_12, ↓pIL_13, ↓pIL_14, ↓pIL_15, ↓gRL_1, ↓gRL_2, ↓gRL_3, ↓gRL_4, ↓gRL_5, ↓gRL_6, ↓gRL_7, ↓gRL_8, ↓gRL_9, ↓aIL1, ↓sZL1, ↓lnL1, ↓aIL2, ↓sIL2, ↓lnL2, ↓aIL3, ↓sIL3, ↓lnL3, ↓aIL4, ↓sIL4, ↓lnL4, ↓aIL5, ↓sIL5, ↓lnL5, ↓aIL6, ↓sIL6, ↓lnL6, ↓aIL7, ↓sIL7, ↓lnL7, ↓c_I, ↓c_J, ↓c_Q, ↓c_V, ↓c_It, ↓c_Jt, ↓c_Vt, ↓k_I, ↓k_J, ↓n_I, ↓n_V, li0, li1, li2, li3, li4, li5, li6, li7, li8, li9, li10, li11, li12, li13, li14, li15, li16, li17, li18, li19, li20, li21, li22, li23, li24, li25, li26, li27, li28, li29, li30, li31, li32, li33, li34, li35, li36, li37, li38, li39, li40, li41, li42, li44, li48, li57, li63, li64, li65, li97, li99, li100, li101, li102, li104, li105, li106, li109, li114, li120, li128, li130, li300, li514, li999, li1000, li8192, li9999, li65536, li1000000, li1000001, li1000002, li1000003, li1000004, li1000005, li1000006, li1000007, li1000008, li1000009, li1000010, li1000011, li1000012, li1000013, li1000014, li1000015, li1000016, li1000017, li1000018, li1000019, li2147483647, lj0, lj1, W_add, W_sub, W_mul, W_neg, V_add, V_sub, V_mul, V_neg, W_ite, W_le, W_lt, W_inj, V_le, V_lt, V_inj, W_V, V_W, lgc_ge, lgc_gt, lgc_le, lgc_lt, lgc_eq, ge_iff_le, gt_iff_lt, h15, h11, n0, W_d, W_div, ht, ↓reduceIte]
          · rw [if_neg (show ¬ iW v = 6 from fun z => c6 ((w 6 (by omega) (by omega)).mp z)), if_neg c6]
            rfl
theorem e_offset {I : CF} (hY : LY I A o ax) (h15 : I o 15 = fsp A ax) {i : Int} (i0 : 0 ≤ i) (i1 : i < shn A ax) : f_X0_offset (Sx I J b c) o (iW i) = some (Sx I J b c, xi (iW (ofs A ax i))) := by
  have h36 := fun v v0 v1 hv => e_off36 (J := J) (b := b) (c := c) hY h15 (i := i) (v := v) i0 i1 v0 v1 hv
  obtain ⟨⟨ho, hx, h1, hA, hP, hM, hR⟩, h10, h12, h14, h11, h13, hcl⟩ := hY
  have hf := fsp_bd hA hP (ax := ax) (by omega) (by omega)
  have hc := (hA.2.2.2.1 ax (by omega) (by omega)).2.2.2
  have es := e_setting (J := J) (b := b) (c := c) hM (ax := ax) (s := 2) (by omega) (by omega) (by omega) (by omega)
  by_cases hf0 : 0 ≤ fsp A ax
  · have hk := h36 (stg A ax 2) hc.1 hc.2 (fun _ => hf0)
    have hgo : f_X0_offset (Sx I J b c) o (iW i) = f_X0_offset_b36 (Sx I J b c) o (iW i) (iW (stg A ax 2)) := by
      simp (disch := first | assumption | omega) only [f_X0_offset, ↓rcL, ↓gIL_0, ↓gIL_10, ↓gIL_11, ↓gIL_12, ↓gIL_13, ↓gIL_14, ↓gIL_15, ↓pIL_0, ↓pIL_10, ↓pIL_11, ↓pIL_12, ↓pIL_13, ↓pIL_14, ↓pIL_15, ↓gRL_1, ↓gRL_2, ↓gRL_3, ↓gRL_4, ↓gRL_5, ↓gRL_6, ↓gRL_7, ↓gRL_8, ↓gRL_9, ↓aIL1, ↓sZL1, ↓lnL1, ↓aIL2, ↓sIL2, ↓lnL2, ↓aIL3, ↓sIL3, ↓lnL3, ↓aIL4, ↓sIL4, ↓lnL4, ↓aIL5, ↓sIL5, ↓lnL5, ↓aIL6, ↓sIL6, ↓lnL6, ↓aIL7, ↓sIL7, ↓lnL7, ↓rc8, ↓gI8_4, ↓gI8_5, ↓gI8_6, ↓pI8_4, ↓pI8_5, ↓pZ8_6, ↓gR8_0, ↓gR8_1, ↓gR8_2, ↓gR8_3, ↓aI9, ↓sI9, ↓ln9, ↓aI10, ↓sI10, ↓ln10, ↓aI11, ↓sI11, ↓ln11, ↓aI12, ↓sI12, ↓ln12, ↓c_I, ↓c_J, ↓c_Q, ↓c_V, ↓c_It, ↓c_Jt, ↓c_Vt, ↓k_I, ↓k_J, ↓n_I, ↓n_V, li0, li1, li2, li3, li4, li5, li6, li7, li8, li9, li10, li11, li12, li13, li14, li15, li16, li17, li18, li19, li20, li21, li22, li23, li24, li25, li26, li27, li28, li29, li30, li31, li32, li33, li34, li35, li36, li37, li38, li39, li40, li41, li42, li44, li48, li57, li63, li64, li65, li97, li99, li100, li101, li102, li104, li105, li106, li109, li114, li120, li128, li130, li300, li514, li999, li1000, li8192, li9999, li65536, li1000000, li1000001, li1000002, li1000003, li1000004, li1000005, li1000006, li1000007, li1000008, li1000009, li1000010, li1000011, li1000012, li1000013, li1000014, li1000015, li1000016, li1000017, li1000018, li1000019, li2147483647, lj0, lj1, W_add, W_sub, W_mul, W_neg, V_add, V_sub, V_mul, V_neg, W_ite, W_le, W_lt, W_inj, V_le, V_lt, V_inj, W_V, V_W, lgc_ge, lgc_gt, lgc_le, lgc_lt, lgc_eq, ge_iff_le, gt_iff_lt, h1, es, h15, hf0, ↓reduceIte]
    rw [hgo, hk]
    unfold ofs
    congr 4
    repeat' split
    all_goals first | rfl | omega
  · by_cases h3 : stg A ax 2 ≤ 3
    · have hk := h36 (stg A ax 2) hc.1 hc.2 (fun z => by omega)
      have hgo : f_X0_offset (Sx I J b c) o (iW i) = f_X0_offset_b36 (Sx I J b c) o (iW i) (iW (stg A ax 2)) := by
        simp (disch := first | assumption | omega) only [f_X0_offset, ↓rcL, ↓gIL_0, ↓gIL_10, ↓gIL_11, ↓gIL_12, ↓gIL_13, ↓gIL_14, ↓gIL_15, ↓pIL_0, ↓pIL_10, ↓pIL_11, ↓pIL_12, ↓pIL_13, ↓pIL_14, ↓pIL_15, ↓gRL_1, ↓gRL_2, ↓gRL_3, ↓gRL_4, ↓gRL_5, ↓gRL_6, ↓gRL_7, ↓gRL_8, ↓gRL_9, ↓aIL1, ↓sZL1, ↓lnL1, ↓aIL2, ↓sIL2, ↓lnL2, ↓aIL3, ↓sIL3, ↓lnL3, ↓aIL4, ↓sIL4, ↓lnL4, ↓aIL5, ↓sIL5, ↓lnL5, ↓aIL6, ↓sIL6, ↓lnL6, ↓aIL7, ↓sIL7, ↓lnL7, ↓rc8, ↓gI8_4, ↓gI8_5, ↓gI8_6, ↓pI8_4, ↓pI8_5, ↓pZ8_6, ↓gR8_0, ↓gR8_1, ↓gR8_2, ↓gR8_3, ↓aI9, ↓sI9, ↓ln9, ↓aI10, ↓sI10, ↓ln10, ↓aI11, ↓sI11, ↓ln11, ↓aI12, ↓sI12, ↓ln12, ↓c_I, ↓c_J, ↓c_Q, ↓c_V, ↓c_It, ↓c_Jt, ↓c_Vt, ↓k_I, ↓k_J, ↓n_I, ↓n_V, li0, li1, li2, li3, li4, li5, li6, li7, li8, li9, li10, li11, li12, li13, li14, li15, li16, li17, li18, li19, li20, li21, li22, li23, li24, li25, li26, li27, li28, li29, li30, li31, li32, li33, li34, li35, li36, li37, li38, li39, li40, li41, li42, li44, li48, li57, li63, li64, li65, li97, li99, li100, li101, li102, li104, li105, li106, li109, li114, li120, li128, li130, li300, li514, li999, li1000, li8192, li9999, li65536, li1000000, li1000001, li1000002, li1000003, li1000004, li1000005, li1000006, li1000007, li1000008, li1000009, li1000010, li1000011, li1000012, li1000013, li1000014, li1000015, li1000016, li1000017, li1000018, li1000019, li2147483647, lj0, lj1, W_add, W_sub, W_mul, W_neg, V_add, V_sub, V_mul, V_neg, W_ite, W_le, W_lt, W_inj, V_le, V_lt, V_inj, W_V, V_W, lgc_ge, lgc_gt, lgc_le, lgc_lt, lgc_eq, ge_iff_le, gt_iff_lt, h1, es, h15, hf0, h3, ↓reduceIte]
      rw [hgo, hk]
      unfold ofs
      congr 4
      repeat' split
      all_goals first | rfl | omega
    · by_cases h4 : stg A ax 2 = 4
      · have hk := h36 1 (by omega) (by omega) (fun z => by omega)
        have hgo : f_X0_offset (Sx I J b c) o (iW i) = f_X0_offset_b36 (Sx I J b c) o (iW i) (iW 1) := by
          have h3' : ¬ ((4 : Int) ≤ 3) := by omega
          simp (disch := first | assumption | omega) only [f_X0_offset, f_X0_offset_b35, ↓rcL, ↓gIL_0, ↓gIL_10, ↓gIL_11, ↓gIL_12, ↓gIL_13, ↓gIL_14, ↓gIL_15, ↓pIL_0, ↓pIL_10, ↓pIL_11, ↓pIL_12, ↓pIL_13, ↓pIL_14, ↓pIL_15, ↓gRL_1, ↓gRL_2, ↓gRL_3, ↓gRL_4, ↓gRL_5, ↓gRL_6, ↓gRL_7, ↓gRL_8, ↓gRL_9, ↓aIL1, ↓sZL1, ↓lnL1, ↓aIL2, ↓sIL2, ↓lnL2, ↓aIL3, ↓sIL3, ↓lnL3, ↓aIL4, ↓sIL4, ↓lnL4, ↓aIL5, ↓sIL5, ↓lnL5, ↓aIL6, ↓sIL6, ↓lnL6, ↓aIL7, ↓sIL7, ↓lnL7, ↓rc8, ↓gI8_4, ↓gI8_5, ↓gI8_6, ↓pI8_4, ↓pI8_5, ↓pZ8_6, ↓gR8_0, ↓gR8_1, ↓gR8_2, ↓gR8_3, ↓aI9, ↓sI9, ↓ln9, ↓aI10, ↓sI10, ↓ln10, ↓aI11, ↓sI11, ↓ln11, ↓aI12, ↓sI12, ↓ln12, ↓c_I, ↓c_J, ↓c_Q, ↓c_V, ↓c_It, ↓c_Jt, ↓c_Vt, ↓k_I, ↓k_J, ↓n_I, ↓n_V, li0, li1, li2, li3, li4, li5, li6, li7, li8, li9, li10, li11, li12, li13, li14, li15, li16, li17, li18, li19, li20, li21, li22, li23, li24, li25, li26, li27, li28, li29, li30, li31, li32, li33, li34, li35, li36, li37, li38, li39, li40, li41, li42, li44, li48, li57, li63, li64, li65, li97, li99, li100, li101, li102, li104, li105, li106, li109, li114, li120, li128, li130, li300, li514, li999, li1000, li8192, li9999, li65536, li1000000, li1000001, li1000002, li1000003, li1000004, li1000005, li1000006, li1000007, li1000008, li1000009, li1000010, li1000011, li1000012, li1000013, li1000014, li1000015, li1000016, li1000017, li1000018, li1000019, li2147483647, lj0, lj1, W_add, W_sub, W_mul, W_neg, V_add, V_sub, V_mul, V_neg, W_ite, W_le, W_lt, W_inj, V_le, V_lt, V_inj, W_V, V_W, lgc_ge, lgc_gt, lgc_le, lgc_lt, lgc_eq, ge_iff_le, gt_iff_lt, h1, es, h15, hf0, h4, h3', ↓reduceIte]
        rw [hgo, hk]
        unfold ofs
        congr 4
        repeat' split
        all_goals first | rfl | omega
      · have hk := h36 3 (by omega) (by omega) (fun z => by omega)
        have hgo : f_X0_offset (Sx I J b c) o (iW i) = f_X0_offset_b36 (Sx I J b c) o (iW i) (iW 3) := by
          simp (disch := first | assumption | omega) only [f_X0_offset, f_X0_offset_b35, ↓rcL, ↓gIL_0, ↓gIL_10, ↓gIL_11, ↓gIL_12, ↓gIL_13, ↓gIL_14, ↓gIL_15, ↓pIL_0, ↓pIL_10, ↓pIL_11, ↓pIL_12, ↓pIL_13, ↓pIL_14, ↓pIL_15, ↓gRL_1, ↓gRL_2, ↓gRL_3, ↓gRL_4, ↓gRL_5, ↓gRL_6, ↓gRL_7, ↓gRL_8, ↓gRL_9, ↓aIL1, ↓sZL1, ↓lnL1, ↓aIL2, ↓sIL2, ↓lnL2, ↓aIL3, ↓sIL3, ↓lnL3, ↓aIL4, ↓sIL4, ↓lnL4, ↓aIL5, ↓sIL5, ↓lnL5, ↓aIL6, ↓sIL6, ↓lnL6, ↓aIL7, ↓sIL7, ↓lnL7, ↓rc8, ↓gI8_4, ↓gI8_5, ↓gI8_6, ↓pI8_4, ↓pI8_5, ↓pZ8_6, ↓gR8_0, ↓gR8_1, ↓gR8_2, ↓gR8_3, ↓aI9, ↓sI9, ↓ln9, ↓aI10, ↓sI10, ↓ln10, ↓aI11, ↓sI11, ↓ln11, ↓aI12, ↓sI12, ↓ln12, ↓c_I, ↓c_J, ↓c_Q, ↓c_V, ↓c_It, ↓c_Jt, ↓c_Vt, ↓k_I, ↓k_J, ↓n_I, ↓n_V, li0, li1, li2, li3, li4, li5, li6, li7, li8, li9, li10, li11, li12, li13, li14, li15, li16, li17, li18, li19, li20, li21, li22, li23, li24, li25, li26, li27, li28, li29, li30, li31, li32, li33, li34, li35, li36, li37, li38, li39, li40, li41, li42, li44, li48, li57, li63, li64, li65, li97, li99, li100, li101, li102, li104, li105, li106, li109, li114, li120, li128, li130, li300, li514, li999, li1000, li8192, li9999, li65536, li1000000, li1000001, li1000002, li1000003, li1000004, li1000005, li1000006, li1000007, li1000008, li1000009, li1000010, li1000011, li1000012, li1000013, li1000014, li1000015, li1000016, li1000017, li1000018, li1000019, li2147483647, lj0, lj1, W_add, W_sub, W_mul, W_neg, V_add, V_sub, V_mul, V_neg, W_ite, W_le, W_lt, W_inj, V_le, V_lt, V_inj, W_V, V_W, lgc_ge, lgc_gt, lgc_le, lgc_lt, lgc_eq, ge_iff_le, gt_iff_lt, h1, es, h15, hf0, h3, h4, ↓reduceIte]
        rw [hgo, hk]
        unfold ofs
        congr 4
        have : 0 ≤ stg A ax 2 ∧ stg A ax 2 ≤ 6 := hc
        repeat' split
        all_goals first | rfl | omega
theorem isPos.down {k v : Int} (h : isPos A ax (k + 1) v) (hk : ¬ opn A ax k) : isPos A ax k v := by
  rcases h with ⟨j, j0, j1, j2, j3⟩ | ⟨h0, j, j0, j1, j2, j3⟩ | ⟨h0, h1⟩
  · refine Or.inl ⟨j, by omega, j1, fun i i0 i1 => ?_, j3⟩
    by_cases e : i = k
    · rw [e]
      exact hk
    · exact j2 i (by omega) i1
  · have hjk : j ≠ k + 1 := fun e => h0 j (by omega) j1
    have hjk2 : j ≠ k := fun e => hk (e ▸ j1)
    refine Or.inr (Or.inl ⟨fun i i0 => ?_, j, by omega, j1, fun i i0 i1 => j2 i i0 (by omega), j3⟩)
    by_cases e : i = k
    · rw [e]
      exact hk
    · exact h0 i (by omega)
  · exact Or.inr (Or.inr ⟨h0, h1⟩)
def isEnd (A : CF) (ax k v : Int) : Prop := (∃ j, j < k ∧ opn A ax j ∧ (∀ i, j < i → i < k → ¬ opn A ax i) ∧ v = bgn A ax j + str A ax j) ∨ ((∀ j, j < k → ¬ opn A ax j) ∧ v = 0)
theorem isEnd.pos {v : Int} (h : isEnd A ax (nt A ax + 1) v) : isPos A ax (nt A ax + 1) v := by
  rcases h with ⟨j, j0, j1, j2, j3⟩ | ⟨h0, h1⟩
  · exact Or.inr (Or.inl ⟨fun i i0 hi => by have := hi.1; omega, j, by omega, j1, fun i i0 i1 hi => j2 i i0 (by have := hi.1; omega) hi, j3⟩)
  · refine Or.inr (Or.inr ⟨fun j hj => h0 j (by have := hj.1; omega) hj, h1⟩)
theorem e_back_L {I0 : CF} : ∀ (fuel : Nat) (k v : Int) (I : CF), k + 1 < fuel → 0 ≤ k → k ≤ nt A ax → LY I A o ax → (∀ j, 1 ≤ j → j ≤ k → opn A ax j → I (o + 7) j = bgn A ax j) → (∀ j, k < j → j ≤ nt A ax → I (o + 7) j = psn A ax j) → isPos A ax (k + 1) v → (∀ a : Int, a ≠ o + 7 → I a = I0 a) →
    ∃ I', f_X0_findPositions_L116 fuel (Sx I J b c) o (iW v) (iW k) = some (Sx I' J b c, xv) ∧ LY I' A o ax ∧ (∀ j, 1 ≤ j → j ≤ nt A ax → I' (o + 7) j = psn A ax j) ∧ ∀ a : Int, a ≠ o + 7 → I' a = I0 a := by
  intro fuel
  induction fuel with
  | zero => intro k v I a1 a2 a3; omega
  | succ fuel ih =>
    intro k v I a1 a2 a3 hY hO hD hv hIo
    show ∃ I', f_X0_findPositions_b116 (f_X0_findPositions_L116 fuel) (Sx I J b c) o (iW v) (iW k) = _ ∧ _
    have hY' := hY
    obtain ⟨⟨ho, hx, h1, hA, hP, hM, hR⟩, h10, h12, h14, h11, h13, hcl⟩ := hY'
    have hob := isL_bd ho
    have hnt := hP.2 ax (by omega) (by omega)
    by_cases hk : k < 1
    · refine ⟨I, ?_, hY, fun j j0 j1 => hD j (by omega) j1, hIo⟩
      simp (disch := first | assumption | omega) only [f_X0_findPositions_b116, ↓rcL, ↓gIL_0, ↓gIL_10, ↓gIL_11, ↓gIL_12, ↓gIL_13, ↓gIL_14, ↓gIL_15, ↓pIL_0, ↓pIL_10, ↓pIL_11, ↓pIL_12, ↓pIL_13, ↓pIL_14, ↓pIL_15, ↓gRL_1, ↓gRL_2, ↓gRL_3, ↓gRL_4, ↓gRL_5, ↓gRL_6, ↓gRL_7, ↓gRL_8, ↓gRL_9, ↓aIL1, ↓sZL1, ↓lnL1, ↓aIL2, ↓sIL2, ↓lnL2, ↓aIL3, ↓sIL3, ↓lnL3, ↓aIL4, ↓sIL4, ↓lnL4, ↓aIL5, ↓sIL5, ↓lnL5, ↓aIL6, ↓sIL6, ↓lnL6, ↓aIL7, ↓sIL7, ↓lnL7, ↓c_I, ↓c_J, ↓c_Q, ↓c_V, ↓c_It, ↓c_Jt, ↓c_Vt, ↓k_I, ↓k_J, ↓n_I, ↓n_V, li0, li1, li2, li3, li4, li5, li6, li7, li8, li9, li10, li11, li12, li13, li14, li15, li16, li17, li18, li19, li20, li21, li22, li23, li24, li25, li26, li27, li28, li29, li30, li31, li32, li33, li34, li35, li36, li37, li38, li39, li40, li41, li42, li44, li48, li57, li63, li64, li65, li97, li99, li100, li101, li102, li104, li105, li106, li109, li114, li120, li128, li130, li300, li514, li999, li1000, li8192, li9999, li65536, li1000000, li1000001, li1000002, li1000003, li1000004, li1000005, li1000006, li1000007, li1000008, li1000009, li1000010, li1000011, li1000012, li1000013, li1000014, li1000015, li1000016, li1000017, li1000018, li1000019, li2147483647, lj0, lj1, W_add, W_sub, W_mul, W_neg, V_add, V_sub, V_mul, V_neg, W_ite, W_le, W_lt, W_inj, V_le, V_lt, V_inj, W_V, V_W, lgc_ge, lgc_gt, lgc_le, lgc_lt, lgc_eq, ge_iff_le, gt_iff_lt, hk, ↓reduceIte]
    · have e1 := e_isOpen (J := J) (b := b) (c := c) hY (k := k) (by omega) a3
      have hc1 : k + -1 = k - 1 := by omega
      by_cases q : opn A ax k
      · rw [bb_pos q] at e1
        have hb := hO k (by omega) (by omega) q
        have hpk := psn_open q
        obtain ⟨I', k1, k2⟩ := ih (k - 1) (bgn A ax k) I (by omega) (by omega) (by omega) hY (fun j j0 j1 hj => hO j j0 (by omega) hj) (fun j j0 j1 => by
          by_cases e : j = k
          · rw [e, hb, hpk]
          · exact hD j (by omega) j1) (by rw [show k - 1 + 1 = k by omega]; exact Or.inl ⟨k, Int.le_refl _, q, fun i _ _ => by omega, rfl⟩) hIo
        refine ⟨I', ?_, k2⟩
        rw [← k1]
        simp (disch := first | assumption | omega) only [f_X0_findPositions_b116, f_X0_findPositions_b140, ↓rcL, ↓gIL_0, ↓gIL_10, ↓gIL_11, ↓gIL_12, ↓gIL_13, ↓gIL_14, ↓gIL_15, ↓pIL_0, ↓pIL_10, ↓pIL_11, ↓pIL_12, ↓pIL_13, ↓pIL_14, ↓pIL_15, ↓gRL_1, ↓gRL_2, ↓gRL_3, ↓gRL_4, ↓gRL_5, ↓gRL_6, ↓gRL_7, ↓gRL_8, ↓gRL_9, ↓aIL1, ↓sZL1, ↓lnL1, ↓aIL2, ↓sIL2, ↓lnL2, ↓aIL3, ↓sIL3, ↓lnL3, ↓aIL4, ↓sIL4, ↓lnL4, ↓aIL5, ↓sIL5, ↓lnL5, ↓aIL6, ↓sIL6, ↓lnL6, ↓aIL7, ↓sIL7, ↓lnL7, ↓c_I, ↓c_J, ↓c_Q, ↓c_V, ↓c_It, ↓c_Jt, ↓c_Vt, ↓k_I, ↓k_J, ↓n_I, ↓n_V, li0, li1, li2, li3, li4, li5, li6, li7, li8, li9, li10, li11, li12, li13, li14, li15, li16, li17, li18, li19, li20, li21, li22, li23, li24, li25, li26, li27, li28, li29, li30, li31, li32, li33, li34, li35, li36, li37, li38, li39, li40, li41, li42, li44, li48, li57, li63, li64, li65, li97, li99, li100, li101, li102, li104, li105, li106, li109, li114, li120, li128, li130, li300, li514, li999, li1000, li8192, li9999, li65536, li1000000, li1000001, li1000002, li1000003, li1000004, li1000005, li1000006, li1000007, li1000008, li1000009, li1000010, li1000011, li1000012, li1000013, li1000014, li1000015, li1000016, li1000017, li1000018, li1000019, li2147483647, lj0, lj1, W_add, W_sub, W_mul, W_neg, V_add, V_sub, V_mul, V_neg, W_ite, W_le, W_lt, W_inj, V_le, V_lt, V_inj, W_V, V_W, lgc_ge, lgc_gt, lgc_le, lgc_lt, lgc_eq, ge_iff_le, gt_iff_lt, hk, e1, hb, hc1, Int.reduceEq, ↓reduceIte]
      · rw [bb_neg q] at e1
        have hp := hv.down q
        obtain ⟨I', k1, k2⟩ := ih (k - 1) v (uI I (o + 7) k v) (by omega) (by omega) (by omega) (hY.fr (fun j _ _ => by rw [u_obj (by omega)]) (u_obj (by omega)) (fun a ha => u_obj (by omega))) (fun j j0 j1 hj => by rw [u_ne (by omega)]; exact hO j j0 (by omega) hj) (fun j j0 j1 => by
          rw [u_at]
          by_cases e : j = k
          · rw [if_pos e, e, psn_eq hp]
          · rw [if_neg e]
            exact hD j (by omega) j1) (by rw [show k - 1 + 1 = k by omega]; exact hp) (fun a ha => by rw [u_obj ha]; exact hIo a ha)
        refine ⟨I', ?_, k2⟩
        rw [← k1]
        simp (disch := first | assumption | omega) only [f_X0_findPositions_b116, f_X0_findPositions_b140, ↓rcL, ↓gIL_0, ↓gIL_10, ↓gIL_11, ↓gIL_12, ↓gIL_13, ↓gIL_14, ↓gIL_15, ↓pIL_0, ↓pIL_10, ↓pIL_11, ↓pIL_12, ↓pIL_13, ↓pIL_14, ↓pIL_15, ↓gRL_1, ↓gRL_2, ↓gRL_3, ↓gRL_4, ↓gRL_5, ↓gRL_6, ↓gRL_7, ↓gRL_8, ↓gRL_9, ↓aIL1, ↓sZL1, ↓lnL1, ↓aIL2, ↓sIL2, ↓lnL2, ↓aIL3, ↓sIL3, ↓lnL3, ↓aIL4, ↓sIL4, ↓lnL4, ↓aIL5, ↓sIL5, ↓lnL5, ↓aIL6, ↓sIL6, ↓lnL6, ↓aIL7, ↓sIL7, ↓lnL7, ↓c_I, ↓c_J, ↓c_Q, ↓c_V, ↓c_It, ↓c_Jt, ↓c_Vt, ↓k_I, ↓k_J, ↓n_I, ↓n_V, li0, li1, li2, li3, li4, li5, li6, li7, li8, li9, li10, li11, li12, li13, li14, li15, li16, li17, li18, li19, li20, li21, li22, li23, li24, li25, li26, li27, li28, li29, li30, li31, li32, li33, li34, li35, li36, li37, li38, li39, li40, li41, li42, li44, li48, li57, li63, li64, li65, li97, li99, li100, li101, li102, li104, li105, li106, li109, li114, li120, li128, li130, li300, li514, li999, li1000, li8192, li9999, li65536, li1000000, li1000001, li1000002, li1000003, li1000004, li1000005, li1000006, li1000007, li1000008, li1000009, li1000010, li1000011, li1000012, li1000013, li1000014, li1000015, li1000016, li1000017, li1000018, li1000019, li2147483647, lj0, lj1, W_add, W_sub, W_mul, W_neg, V_add, V_sub, V_mul, V_neg, W_ite, W_le, W_lt, W_inj, V_le, V_lt, V_inj, W_V, V_W, lgc_ge, lgc_gt, lgc_le, lgc_lt, lgc_eq, ge_iff_le, gt_iff_lt, hk, e1, u_eq, hc1, ↓reduceIte]
theorem e_pos_L {I0 : CF} : ∀ (fuel : Nat) (k v : Int) (I : CF), nt A ax - k + 1 < fuel → 1 ≤ k → k ≤ nt A ax + 1 → LY I A o ax → I o 15 = fsp A ax → (∀ j, 0 ≤ j → j < 65 → I (o + 6) j = str A ax j) → (∀ j, 1 ≤ j → j < k → opn A ax j → I (o + 7) j = bgn A ax j) → isEnd A ax k v → (∀ a : Int, a ≠ o + 7 → I a = I0 a) →
    ∃ I', f_X0_findPositions_L35 fuel (Sx I J b c) o (iW (rs (str A ax) 1 (k - 1) + gpa A ax * ahd3 A ax k)) (iW (ahd3 A ax k)) (iW v) (iW k) = some (Sx I' J b c, xv) ∧ LY I' A o ax ∧ (∀ j, 1 ≤ j → j ≤ nt A ax → I' (o + 7) j = psn A ax j) ∧ ∀ a : Int, a ≠ o + 7 → I' a = I0 a := by
  intro fuel
  induction fuel with
  | zero => intro k v I a1 a2 a3; omega
  | succ fuel ih =>
    intro k v I a1 a2 a3 hY h15 hS6 hO hv hIo
    show ∃ I', f_X0_findPositions_b35 (f_X0_findPositions_L35 fuel) (Sx I J b c) o _ _ (iW v) (iW k) = _ ∧ _
    have hY' := hY
    obtain ⟨⟨ho, hx, h1, hA, hP, hM, hR⟩, h10, h12, h14, h11, h13, hcl⟩ := hY'
    have hob := isL_bd ho
    have hnt := hP.2 ax (by omega) (by omega)
    by_cases hk : k = nt A ax + 1
    · subst hk
      have n0 : nt A ax < nt A ax + 1 := by omega
      obtain ⟨I', k1, k2⟩ := e_back_L (J := J) (b := b) (c := c) (A := A) (o := o) (ax := ax) (I0 := I0) FU (nt A ax) v I (by unfold FU; omega) (by omega) (by omega) hY (fun j j0 j1 hj => hO j j0 (by omega) hj) (fun j j0 j1 => by omega) hv.pos hIo
      refine ⟨I', ?_, k2⟩
      rw [← k1]
      simp (disch := first | assumption | omega) only [f_X0_findPositions_b35, ↓rcL, ↓gIL_0, ↓gIL_10, ↓gIL_11, ↓gIL_12, ↓gIL_13, ↓gIL_14, ↓gIL_15, ↓pIL_0, ↓pIL_10, ↓pIL_11, ↓pIL_12, ↓pIL_13, ↓pIL_14, ↓pIL_15, ↓gRL_1, ↓gRL_2, ↓gRL_3, ↓gRL_4, ↓gRL_5, ↓gRL_6, ↓gRL_7, ↓gRL_8, ↓gRL_9, ↓aIL1, ↓sZL1, ↓lnL1, ↓aIL2, ↓sIL2, ↓lnL2, ↓aIL3, ↓sIL3, ↓lnL3, ↓aIL4, ↓sIL4, ↓lnL4, ↓aIL5, ↓sIL5, ↓lnL5, ↓aIL6, ↓sIL6, ↓lnL6, ↓aIL7, ↓sIL7, ↓lnL7, ↓c_I, ↓c_J, ↓c_Q, ↓c_V, ↓c_It, ↓c_Jt, ↓c_Vt, ↓k_I, ↓k_J, ↓n_I, ↓n_V, li0, li1, li2, li3, li4, li5, li6, li7, li8, li9, li10, li11, li12, li13, li14, li15, li16, li17, li18, li19, li20, li21, li22, li23, li24, li25, li26, li27, li28, li29, li30, li31, li32, li33, li34, li35, li36, li37, li38, li39, li40, li41, li42, li44, li48, li57, li63, li64, li65, li97, li99, li100, li101, li102, li104, li105, li106, li109, li114, li120, li128, li130, li300, li514, li999, li1000, li8192, li9999, li65536, li1000000, li1000001, li1000002, li1000003, li1000004, li1000005, li1000006, li1000007, li1000008, li1000009, li1000010, li1000011, li1000012, li1000013, li1000014, li1000015, li1000016, li1000017, li1000018, li1000019, li2147483647, lj0, lj1, W_add, W_sub, W_mul, W_neg, V_add, V_sub, V_mul, V_neg, W_ite, W_le, W_lt, W_inj, V_le, V_lt, V_inj, W_V, V_W, lgc_ge, lgc_gt, lgc_le, lgc_lt, lgc_eq, ge_iff_le, gt_iff_lt, h10, n0, ↓reduceIte]
    · have n1 : ¬ (nt A ax < k) := by omega
      have e1 := e_isOpen (J := J) (b := b) (c := c) hY (k := k) a2 (by omega)
      have sb := str_bd hA hP (ax := ax) (by omega) (by omega) k
      have hs := rs_s (f := str A ax) (a := 1) (b := k) a2
      have ha := ahd3_s (A := A) (ax := ax) a2
      have hak := ahd3_bd (A := A) (ax := ax) a2 (show k ≤ 64 by omega)
      have hgp := (hA.2.2.2.1 ax (by omega) (by omega)).2.2.1
      have hgp : 0 ≤ gpa A ax ∧ gpa A ax ≤ 99 := hgp
      by_cases q : opn A ax k
      · rw [bb_pos q] at e1
        rw [bb_pos q.2] at ha
        have hlt := ahd3_lt a2 (show k ≤ nt A ax by omega) q
        have eo := e_offset (J := J) (b := b) (c := c) hY h15 hak.1 hlt
        have bb1 := bgn_bd hA hP (ax := ax) (by omega) (by omega) a2 (by omega) q
        have hg1 : gpa A ax * (ahd3 A ax k + 1) = gpa A ax * ahd3 A ax k + gpa A ax := by rw [Int.mul_add, Int.mul_one]
        have hnew : rs (str A ax) 1 (k + 1 - 1) + gpa A ax * ahd3 A ax (k + 1) = rs (str A ax) 1 (k - 1) + gpa A ax * ahd3 A ax k + (str A ax k + gpa A ax) := by
          rw [show k + 1 - 1 = k by omega, hs, ha, hg1]
          omega
        have hb : rs (str A ax) 1 (k - 1) + gpa A ax * ahd3 A ax k + ofs A ax (ahd3 A ax k) = bgn A ax k := rfl
        have s6 : uI I (o + 7) k (bgn A ax k) (o + 6) k = str A ax k := by rw [u_obj (by omega)]; exact hS6 k (by omega) (by omega)
        have s12 : uI I (o + 7) k (bgn A ax k) o 12 = gpa A ax := by rw [u_obj (by omega)]; exact h12
        obtain ⟨I', k1, k2⟩ := ih (k + 1) (bgn A ax k + str A ax k) (uI I (o + 7) k (bgn A ax k)) (by omega) (by omega) (by omega) (hY.fr (fun j _ _ => by rw [u_obj (by omega)]) (u_obj (by omega)) (fun a ha => u_obj (by omega))) (by rw [u_obj (by omega)]; exact h15) (by rw [u_obj (by omega)]; exact hS6) (fun j j0 j1 hj => by
          rw [u_at]
          by_cases e : j = k
          · rw [if_pos e, e]
          · rw [if_neg e]
            exact hO j j0 (by omega) hj) (Or.inl ⟨k, by omega, q, fun i i0 i1 => by omega, rfl⟩) (fun a ha => by rw [u_obj ha]; exact hIo a ha)
        refine ⟨I', ?_, k2⟩
        rw [← k1, hnew, ha]
        simp (disch := first | assumption | omega) only [f_X0_findPositions_b35, f_X0_findPositions_b101, ↓rcL, ↓gIL_0, ↓gIL_10, ↓gIL_11, ↓gIL_12, ↓gIL_13, ↓gIL_14, ↓gIL_15, ↓pIL_0, ↓pIL_10, ↓pIL_11, ↓pIL_12, ↓pIL_13, ↓pIL_14, ↓pIL_15, ↓gRL_1, ↓gRL_2, ↓gRL_3, ↓gRL_4, ↓gRL_5, ↓gRL_6, ↓gRL_7, ↓gRL_8, ↓gRL_9, ↓aIL1, ↓sZL1, ↓lnL1, ↓aIL2, ↓sIL2, ↓lnL2, ↓aIL3, ↓sIL3, ↓lnL3, ↓aIL4, ↓sIL4, ↓lnL4, ↓aIL5, ↓sIL5, ↓lnL5, ↓aIL6, ↓sIL6, ↓lnL6, ↓aIL7, ↓sIL7, ↓lnL7, ↓c_I, ↓c_J, ↓c_Q, ↓c_V, ↓c_It, ↓c_Jt, ↓c_Vt, ↓k_I, ↓k_J, ↓n_I, ↓n_V, li0, li1, li2, li3, li4, li5, li6, li7, li8, li9, li10, li11, li12, li13, li14, li15, li16, li17, li18, li19, li20, li21, li22, li23, li24, li25, li26, li27, li28, li29, li30, li31, li32, li33, li34, li35, li36, li37, li38, li39, li40, li41, li42, li44, li48, li57, li63, li64, li65, li97, li99, li100, li101, li102, li104, li105, li106, li109, li114, li120, li128, li130, li300, li514, li999, li1000, li8192, li9999, li65536, li1000000, li1000001, li1000002, li1000003, li1000004, li1000005, li1000006, li1000007, li1000008, li1000009, li1000010, li1000011, li1000012, li1000013, li1000014, li1000015, li1000016, li1000017, li1000018, li1000019, li2147483647, lj0, lj1, W_add, W_sub, W_mul, W_neg, V_add, V_sub, V_mul, V_neg, W_ite, W_le, W_lt, W_inj, V_le, V_lt, V_inj, W_V, V_W, lgc_ge, lgc_gt, lgc_le, lgc_lt, lgc_eq, ge_iff_le, gt_iff_lt, h10, n1, e1, eo, hb, u_eq, s6, s12, Int.reduceEq, ↓reduceIte]
      · rw [bb_neg q] at e1
        have hcol : col A ax k := by
          apply Classical.byContradiction
          intro hn
          exact q ⟨⟨a2, by omega⟩, hn⟩
        rw [bb_neg (fun z => z hcol), Int.add_zero] at ha
        have hnew : rs (str A ax) 1 (k + 1 - 1) = rs (str A ax) 1 (k - 1) := by
          rw [show k + 1 - 1 = k by omega, hs, sb.2 q, Int.add_zero]
        obtain ⟨I', k1, k2⟩ := ih (k + 1) v I (by omega) (by omega) (by omega) hY h15 hS6 (fun j j0 j1 hj => by
          by_cases e : j = k
          · exact absurd (e ▸ hj) q
          · exact hO j j0 (by omega) hj) (by
          rcases hv with ⟨j, j0, j1, j2, j3⟩ | ⟨w0, w1⟩
          · refine Or.inl ⟨j, by omega, j1, fun i i0 i1 => ?_, j3⟩
            by_cases e : i = k
            · rw [e]
              exact q
            · exact j2 i i0 (by omega)
          · refine Or.inr ⟨fun j j0 => ?_, w1⟩
            by_cases e : j = k
            · rw [e]
              exact q
            · exact w0 j (by omega)) hIo
        refine ⟨I', ?_, k2⟩
        rw [← k1, hnew, ha]
        simp (disch := first | assumption | omega) only [f_X0_findPositions_b35, f_X0_findPositions_b101, ↓rcL, ↓gIL_0, ↓gIL_10, ↓gIL_11, ↓gIL_12, ↓gIL_13, ↓gIL_14, ↓gIL_15, ↓pIL_0, ↓pIL_10, ↓pIL_11, ↓pIL_12, ↓pIL_13, ↓pIL_14, ↓pIL_15, ↓gRL_1, ↓gRL_2, ↓gRL_3, ↓gRL_4, ↓gRL_5, ↓gRL_6, ↓gRL_7, ↓gRL_8, ↓gRL_9, ↓aIL1, ↓sZL1, ↓lnL1, ↓aIL2, ↓sIL2, ↓lnL2, ↓aIL3, ↓sIL3, ↓lnL3, ↓aIL4, ↓sIL4, ↓lnL4, ↓aIL5, ↓sIL5, ↓lnL5, ↓aIL6, ↓sIL6, ↓lnL6, ↓aIL7, ↓sIL7, ↓lnL7, ↓c_I, ↓c_J, ↓c_Q, ↓c_V, ↓c_It, ↓c_Jt, ↓c_Vt, ↓k_I, ↓k_J, ↓n_I, ↓n_V, li0, li1, li2, li3, li4, li5, li6, li7, li8, li9, li10, li11, li12, li13, li14, li15, li16, li17, li18, li19, li20, li21, li22, li23, li24, li25, li26, li27, li28, li29, li30, li31, li32, li33, li34, li35, li36, li37, li38, li39, li40, li41, li42, li44, li48, li57, li63, li64, li65, li97, li99, li100, li101, li102, li104, li105, li106, li109, li114, li120, li128, li130, li300, li514, li999, li1000, li8192, li9999, li65536, li1000000, li1000001, li1000002, li1000003, li1000004, li1000005, li1000006, li1000007, li1000008, li1000009, li1000010, li1000011, li1000012, li1000013, li1000014, li1000015, li1000016, li1000017, li1000018, li1000019, li2147483647, lj0, lj1, W_add, W_sub, W_mul, W_neg, V_add, V_sub, V_mul, V_neg, W_ite, W_le, W_lt, W_inj, V_le, V_lt, V_inj, W_V, V_W, lgc_ge, lgc_gt, lgc_le, lgc_lt, lgc_eq, ge_iff_le, gt_iff_lt, h10, n1, e1, ↓reduceIte]
theorem e_positions {I : CF} (hY : LY I A o ax) (hS6 : ∀ j, 0 ≤ j → j < 65 → I (o + 6) j = str A ax j) :
    ∃ I', f_X0_findPositions (Sx I J b c) o = some (Sx I' J b c, xv) ∧ LY I' A o ax ∧ I' o 15 = fsp A ax ∧ (∀ j, 1 ≤ j → j ≤ nt A ax → I' (o + 7) j = psn A ax j) ∧ ∀ a : Int, a ≠ o + 7 → a ≠ o → I' a = I a := by
  have hY' := hY
  obtain ⟨⟨ho, hx, h1, hA, hP, hM, hR⟩, h10, h12, h14, h11, h13, hcl⟩ := hY'
  have hob := isL_bd ho
  have hnt := hP.2 ax (by omega) (by omega)
  have hzb := (hA.2.2.2.1 ax (by omega) (by omega)).2.1
  have hzb : -1 ≤ asz A ax ∧ asz A ax ≤ 9999 := hzb
  have ht := tot_bd hA hP (ax := ax) (by omega) (by omega) (M := 11110000) (by omega) (fun k => (str_bd hA hP (ax := ax) (by omega) (by omega) k).1)
  have hY2 : LY (uI I o 15 (fsp A ax)) A o ax := hY.fr (fun k hk hk2 => u_ne (by omega)) (u_obj (by omega)) (fun a ha => u_obj (by omega))
  obtain ⟨I', k1, k2, k3, k4⟩ := e_pos_L (J := J) (b := b) (c := c) (A := A) (o := o) (ax := ax) (I0 := uI I o 15 (fsp A ax)) FU 1 0 (uI I o 15 (fsp A ax)) (by unfold FU; omega) (by omega) (by omega) hY2 u_eq (by rw [u_obj (by omega)]; exact hS6) (fun j j0 j1 => by omega) (Or.inr ⟨fun j j0 hj => by have := hj.1; omega, rfl⟩) (fun _ _ => rfl)
  have ha0 : ahd3 A ax 1 = 0 := rs_0 (by omega)
  rw [rs_0 (by omega), ha0, Int.mul_zero, Int.add_zero] at k1
  refine ⟨I', ?_, k2, by rw [k4 _ (by omega), u_eq], k3, fun a ha ha' => by rw [k4 a ha, u_obj ha']⟩
  rw [← k1]
  by_cases hz : asz A ax = -1
  · have hf : fsp A ax = 0 := if_pos hz
    rw [hf]
    simp (disch := first | assumption | omega) only [f_X0_findPositions, f_X0_findPositions_b23, ↓rcL, ↓gIL_0, ↓gIL_10, ↓gIL_11, ↓gIL_12, ↓gIL_13, ↓gIL_14, ↓gIL_15, ↓pIL_0, ↓pIL_10, ↓pIL_11, ↓pIL_12, ↓pIL_13, ↓pIL_14, ↓pIL_15, ↓gRL_1, ↓gRL_2, ↓gRL_3, ↓gRL_4, ↓gRL_5, ↓gRL_6, ↓gRL_7, ↓gRL_8, ↓gRL_9, ↓aIL1, ↓sZL1, ↓lnL1, ↓aIL2, ↓sIL2, ↓lnL2, ↓aIL3, ↓sIL3, ↓lnL3, ↓aIL4, ↓sIL4, ↓lnL4, ↓aIL5, ↓sIL5, ↓lnL5, ↓aIL6, ↓sIL6, ↓lnL6, ↓aIL7, ↓sIL7, ↓lnL7, ↓c_I, ↓c_J, ↓c_Q, ↓c_V, ↓c_It, ↓c_Jt, ↓c_Vt, ↓k_I, ↓k_J, ↓n_I, ↓n_V, li0, li1, li2, li3, li4, li5, li6, li7, li8, li9, li10, li11, li12, li13, li14, li15, li16, li17, li18, li19, li20, li21, li22, li23, li24, li25, li26, li27, li28, li29, li30, li31, li32, li33, li34, li35, li36, li37, li38, li39, li40, li41, li42, li44, li48, li57, li63, li64, li65, li97, li99, li100, li101, li102, li104, li105, li106, li109, li114, li120, li128, li130, li300, li514, li999, li1000, li8192, li9999, li65536, li1000000, li1000001, li1000002, li1000003, li1000004, li1000005, li1000006, li1000007, li1000008, li1000009, li1000010, li1000011, li1000012, li1000013, li1000014, li1000015, li1000016, li1000017, li1000018, li1000019, li2147483647, lj0, lj1, W_add, W_sub, W_mul, W_neg, V_add, V_sub, V_mul, V_neg, W_ite, W_le, W_lt, W_inj, V_le, V_lt, V_inj, W_V, V_W, lgc_ge, lgc_gt, lgc_le, lgc_lt, lgc_eq, ge_iff_le, gt_iff_lt, h14, hz, ↓reduceIte]
  · have hf : fsp A ax = asz A ax - tot A ax (str A ax) := if_neg hz
    rw [hf]
    have es := e_sum (J := J) (b := b) (c := c) hY (s := 5) (f := str A ax) (by omega) (by omega) (fun j j0 j1 => by
      rw [show (o : Int) + 1 + 5 = o + 6 by omega]
      exact hS6 j (by omega) (by omega))
    simp (disch := first | assumption | omega) only [f_X0_findPositions, f_X0_findPositions_b23, ↓rcL, ↓gIL_0, ↓gIL_10, ↓gIL_11, ↓gIL_12, ↓gIL_13, ↓gIL_14, ↓gIL_15, ↓pIL_0, ↓pIL_10, ↓pIL_11, ↓pIL_12, ↓pIL_13, ↓pIL_14, ↓pIL_15, ↓gRL_1, ↓gRL_2, ↓gRL_3, ↓gRL_4, ↓gRL_5, ↓gRL_6, ↓gRL_7, ↓gRL_8, ↓gRL_9, ↓aIL1, ↓sZL1, ↓lnL1, ↓aIL2, ↓sIL2, ↓lnL2, ↓aIL3, ↓sIL3, ↓lnL3, ↓aIL4, ↓sIL4, ↓lnL4, ↓aIL5, ↓sIL5, ↓lnL5, ↓aIL6, ↓sIL6, ↓lnL6, ↓aIL7, ↓sIL7, ↓lnL7, ↓c_I, ↓c_J, ↓c_Q, ↓c_V, ↓c_It, ↓c_Jt, ↓c_Vt, ↓k_I, ↓k_J, ↓n_I, ↓n_V, li0, li1, li2, li3, li4, li5, li6, li7, li8, li9, li10, li11, li12, li13, li14, li15, li16, li17, li18, li19, li20, li21, li22, li23, li24, li25, li26, li27, li28, li29, li30, li31, li32, li33, li34, li35, li36, li37, li38, li39, li40, li41, li42, li44, li48, li57, li63, li64, li65, li97, li99, li100, li101, li102, li104, li105, li106, li109, li114, li120, li128, li130, li300, li514, li999, li1000, li8192, li9999, li65536, li1000000, li1000001, li1000002, li1000003, li1000004, li1000005, li1000006, li1000007, li1000008, li1000009, li1000010, li1000011, li1000012, li1000013, li1000014, li1000015, li1000016, li1000017, li1000018, li1000019, li2147483647, lj0, lj1, W_add, W_sub, W_mul, W_neg, V_add, V_sub, V_mul, V_neg, W_ite, W_le, W_lt, W_inj, V_le, V_lt, V_inj, W_V, V_W, lgc_ge, lgc_gt, lgc_le, lgc_lt, lgc_eq, ge_iff_le, gt_iff_lt, h14, hz, es, ↓reduceIte]
/-- a layout that has been found -/
def LZ (I A : CF) (o : Nat) (ax : Int) : Prop := LY I A o ax ∧ I o 15 = fsp A ax ∧ (∀ k, 0 ≤ k → k < 65 → I (o + 2) k = bas A ax k ∧ I (o + 3) k = lim A ax k ∧ I (o + 4) k = grw A ax k ∧ I (o + 5) k = shd A ax k ∧ I (o + 6) k = str A ax k) ∧ ∀ k, 1 ≤ k → k ≤ nt A ax → I (o + 7) k = psn A ax k
variable {I : CF}
theorem e_begin (h : LZ I A o ax) {k : Int} (k0 : 1 ≤ k) (k1 : k ≤ nt A ax) : f_X0_trackBegin (Sx I J b c) o (iW k) = some (Sx I J b c, xi (iW (psn A ax k))) := by
  obtain ⟨hY, h15, hS, hp⟩ := h
  obtain ⟨⟨ho, hx, h1, hA, hP, hM, hR⟩, h10, h12, h14, h11, h13, hcl⟩ := hY
  have hnt := hP.2 ax (by omega) (by omega)
  have n1 : ¬ (k < 1) := by omega
  have n2 : ¬ (64 < k) := by omega
  have hk := hp k k0 k1
  simp (disch := first | assumption | omega) only [f_X0_trackBegin, f_X0_trackBegin_b21, ↓rcL, ↓gIL_0, ↓gIL_10, ↓gIL_11, ↓gIL_12, ↓gIL_13, ↓gIL_14, ↓gIL_15, ↓pIL_0, ↓pIL_10, ↓pIL_11, ↓pIL_12, ↓pIL_13, ↓pIL_14, ↓pIL_15, ↓gRL_1, ↓gRL_2, ↓gRL_3, ↓gRL_4, ↓gRL_5, ↓gRL_6, ↓gRL_7, ↓gRL_8, ↓gRL_9, ↓aIL1, ↓sZL1, ↓lnL1, ↓aIL2, ↓sIL2, ↓lnL2, ↓aIL3, ↓sIL3, ↓lnL3, ↓aIL4, ↓sIL4, ↓lnL4, ↓aIL5, ↓sIL5, ↓lnL5, ↓aIL6, ↓sIL6, ↓lnL6, ↓aIL7, ↓sIL7, ↓lnL7, ↓c_I, ↓c_J, ↓c_Q, ↓c_V, ↓c_It, ↓c_Jt, ↓c_Vt, ↓k_I, ↓k_J, ↓n_I, ↓n_V, li0, li1, li2, li3, li4, li5, li6, li7, li8, li9, li10, li11, li12, li13, li14, li15, li16, li17, li18, li19, li20, li21, li22, li23, li24, li25, li26, li27, li28, li29, li30, li31, li32, li33, li34, li35, li36, li37, li38, li39, li40, li41, li42, li44, li48, li57, li63, li64, li65, li97, li99, li100, li101, li102, li104, li105, li106, li109, li114, li120, li128, li130, li300, li514, li999, li1000, li8192, li9999, li65536, li1000000, li1000001, li1000002, li1000003, li1000004, li1000005, li1000006, li1000007, li1000008, li1000009, li1000010, li1000011, li1000012, li1000013, li1000014, li1000015, li1000016, li1000017, li1000018, li1000019, li2147483647, lj0, lj1, W_add, W_sub, W_mul, W_neg, V_add, V_sub, V_mul, V_neg, W_ite, W_le, W_lt, W_inj, V_le, V_lt, V_inj, W_V, V_W, lgc_ge, lgc_gt, lgc_le, lgc_lt, lgc_eq, ge_iff_le, gt_iff_lt, n1, n2, hk, ↓reduceIte]
theorem item_bd (hA : okA A) (hP : plB A) (x0 : 0 ≤ ax) (x1 : ax < 2) {i : Int} (i0 : 0 ≤ i) (i1 : i < nit A) : (1 ≤ pl A i ax ∧ pl A i ax + itf A i ax 3 - 1 ≤ nt A ax ∧ pl A i ax ≤ nt A ax) ∧ opn A ax (pl A i ax) ∧ opn A ax (pl A i ax + itf A i ax 3 - 1) ∧ 1 ≤ pl A i ax + itf A i ax 3 - 1 := by
  have hpb := hP.1 i ax i0 i1 x0 x1
  have hsp := (hA.2.2.2.2.2 i ax i0 i1 x0 x1).2.2.1
  refine ⟨by omega, cvr_in hP x0 x1 i0 i1 ⟨by omega, by omega⟩, cvr_in hP x0 x1 i0 i1 ⟨by omega, by omega⟩, by omega⟩
theorem ars_bd (hA : okA A) (hP : plB A) (x0 : 0 ≤ ax) (x1 : ax < 2) {i : Int} (i0 : 0 ≤ i) (i1 : i < nit A) : -2000000000 ≤ ars A ax i ∧ ars A ax i ≤ 2000000000 := by
  obtain ⟨b1, b2, b3, b4⟩ := item_bd hA hP x0 x1 i0 i1
  have h1 := (bgn_bd hA hP x0 x1 b1.1 b1.2.2 b2).2
  have h2 := (bgn_bd hA hP x0 x1 b4 b1.2.1 b3).2
  have h3 := (str_bd hA hP x0 x1 (pl A i ax + itf A i ax 3 - 1)).1
  unfold ars
  omega
theorem e_areaBegin (h : LZ I A o ax) {i : Int} (i0 : 0 ≤ i) (i1 : i < nit A) : f_X0_areaBegin (Sx I J b c) o (iW i) = some (Sx I J b c, xi (iW (bgn A ax (pl A i ax)))) := by
  have hX := h.1.1
  obtain ⟨ho, hx, h1, hA, hP, hM, hR⟩ := hX
  obtain ⟨b1, b2, b3, b4⟩ := item_bd hA hP (ax := ax) (by omega) (by omega) i0 i1
  have e1 := e_first (J := J) (b := b) (c := c) h.1.1 i0 i1
  have e2 := e_begin (J := J) (b := b) (c := c) h b1.1 b1.2.2
  rw [psn_open b2] at e2
  simp (disch := first | assumption | omega) only [f_X0_areaBegin, ↓rcL, ↓gIL_0, ↓gIL_10, ↓gIL_11, ↓gIL_12, ↓gIL_13, ↓gIL_14, ↓gIL_15, ↓pIL_0, ↓pIL_10, ↓pIL_11, ↓pIL_12, ↓pIL_13, ↓pIL_14, ↓pIL_15, ↓gRL_1, ↓gRL_2, ↓gRL_3, ↓gRL_4, ↓gRL_5, ↓gRL_6, ↓gRL_7, ↓gRL_8, ↓gRL_9, ↓aIL1, ↓sZL1, ↓lnL1, ↓aIL2, ↓sIL2, ↓lnL2, ↓aIL3, ↓sIL3, ↓lnL3, ↓aIL4, ↓sIL4, ↓lnL4, ↓aIL5, ↓sIL5, ↓lnL5, ↓aIL6, ↓sIL6, ↓lnL6, ↓aIL7, ↓sIL7, ↓lnL7, ↓c_I, ↓c_J, ↓c_Q, ↓c_V, ↓c_It, ↓c_Jt, ↓c_Vt, ↓k_I, ↓k_J, ↓n_I, ↓n_V, li0, li1, li2, li3, li4, li5, li6, li7, li8, li9, li10, li11, li12, li13, li14, li15, li16, li17, li18, li19, li20, li21, li22, li23, li24, li25, li26, li27, li28, li29, li30, li31, li32, li33, li34, li35, li36, li37, li38, li39, li40, li41, li42, li44, li48, li57, li63, li64, li65, li97, li99, li100, li101, li102, li104, li105, li106, li109, li114, li120, li128, li130, li300, li514, li999, li1000, li8192, li9999, li65536, li1000000, li1000001, li1000002, li1000003, li1000004, li1000005, li1000006, li1000007, li1000008, li1000009, li1000010, li1000011, li1000012, li1000013, li1000014, li1000015, li1000016, li1000017, li1000018, li1000019, li2147483647, lj0, lj1, W_add, W_sub, W_mul, W_neg, V_add, V_sub, V_mul, V_neg, W_ite, W_le, W_lt, W_inj, V_le, V_lt, V_inj, W_V, V_W, lgc_ge, lgc_gt, lgc_le, lgc_lt, lgc_eq, ge_iff_le, gt_iff_lt, e1, e2]
theorem e_areaSize (h : LZ I A o ax) {i : Int} (i0 : 0 ≤ i) (i1 : i < nit A) : f_X0_areaSize (Sx I J b c) o (iW i) = some (Sx I J b c, xi (iW (ars A ax i))) := by
  have hX := h.1.1
  obtain ⟨ho, hx, h1, hA, hP, hM, hR⟩ := hX
  have hnt := hP.2 ax (by omega) (by omega)
  obtain ⟨b1, b2, b3, b4⟩ := item_bd hA hP (ax := ax) (by omega) (by omega) i0 i1
  have e1 := e_last (J := J) (b := b) (c := c) h.1 i0 i1
  have e2 := e_begin (J := J) (b := b) (c := c) h b4 b1.2.1
  rw [psn_open b3] at e2
  have e3 := e_trackSize (J := J) (b := b) (c := c) h.1 (k := pl A i ax + itf A i ax 3 - 1) (s := 5) b4 b1.2.1 (by omega) (by omega)
  rw [cif_neg b3.2, show (o : Int) + 1 + 5 = o + 6 by omega, (h.2.2.1 _ (by omega) (by omega)).2.2.2.2] at e3
  have e4 := e_areaBegin (J := J) (b := b) (c := c) h i0 i1
  unfold ars
  simp (disch := first | assumption | omega) only [f_X0_areaSize, ↓rcL, ↓gIL_0, ↓gIL_10, ↓gIL_11, ↓gIL_12, ↓gIL_13, ↓gIL_14, ↓gIL_15, ↓pIL_0, ↓pIL_10, ↓pIL_11, ↓pIL_12, ↓pIL_13, ↓pIL_14, ↓pIL_15, ↓gRL_1, ↓gRL_2, ↓gRL_3, ↓gRL_4, ↓gRL_5, ↓gRL_6, ↓gRL_7, ↓gRL_8, ↓gRL_9, ↓aIL1, ↓sZL1, ↓lnL1, ↓aIL2, ↓sIL2, ↓lnL2, ↓aIL3, ↓sIL3, ↓lnL3, ↓aIL4, ↓sIL4, ↓lnL4, ↓aIL5, ↓sIL5, ↓lnL5, ↓aIL6, ↓sIL6, ↓lnL6, ↓aIL7, ↓sIL7, ↓lnL7, ↓c_I, ↓c_J, ↓c_Q, ↓c_V, ↓c_It, ↓c_Jt, ↓c_Vt, ↓k_I, ↓k_J, ↓n_I, ↓n_V, li0, li1, li2, li3, li4, li5, li6, li7, li8, li9, li10, li11, li12, li13, li14, li15, li16, li17, li18, li19, li20, li21, li22, li23, li24, li25, li26, li27, li28, li29, li30, li31, li32, li33, li34, li35, li36, li37, li38, li39, li40, li41, li42, li44, li48, li57, li63, li64, li65, li97, li99, li100, li101, li102, li104, li105, li106, li109, li114, li120, li128, li130, li300, li514, li999, li1000, li8192, li9999, li65536, li1000000, li1000001, li1000002, li1000003, li1000004, li1000005, li1000006, li1000007, li1000008, li1000009, li1000010, li1000011, li1000012, li1000013, li1000014, li1000015, li1000016, li1000017, li1000018, li1000019, li2147483647, lj0, lj1, W_add, W_sub, W_mul, W_neg, V_add, V_sub, V_mul, V_neg, W_ite, W_le, W_lt, W_inj, V_le, V_lt, V_inj, W_V, V_W, lgc_ge, lgc_gt, lgc_le, lgc_lt, lgc_eq, ge_iff_le, gt_iff_lt, e1, e2, e3, e4]
theorem bxs_bd (hA : okA A) (hP : plB A) (x0 : 0 ≤ ax) (x1 : ax < 2) {i : Int} (i0 : 0 ≤ i) (i1 : i < nit A) : -2000000000 ≤ bxs A ax i ∧ bxs A ax i ≤ 2000000000 := by
  have h1 := ars_bd hA hP x0 x1 i0 i1
  have h2 := (hA.2.2.2.2.2 i ax i0 i1 x0 x1).1
  unfold bxs
  split <;> omega
theorem e_boxSize (h : LZ I A o ax) {i : Int} (i0 : 0 ≤ i) (i1 : i < nit A) : f_X0_boxSize (Sx I J b c) o (iW i) = some (Sx I J b c, xi (iW (bxs A ax i))) := by
  have hX := h.1.1
  obtain ⟨ho, hx, h1, hA, hP, hM, hR⟩ := hX
  have ab := ars_bd hA hP (ax := ax) (by omega) (by omega) i0 i1
  have hok := hA.2.2.2.2.2 i ax i0 i1 (by omega) (by omega)
  have hco := hok.1
  have hal := hok.2.2.2
  have e1 := e_areaSize (J := J) (b := b) (c := c) h i0 i1
  have e4 := e_itemF (J := J) (b := b) (c := c) h.1.1 i0 i1 (f := 4) (by omega) (by omega)
  have e3 := e_itemF (J := J) (b := b) (c := c) h.1.1 i0 i1 (f := 1) (by omega) (by omega)
  have e2 := e_itemF (J := J) (b := b) (c := c) h.1.1 i0 i1 (f := 0) (by omega) (by omega)
  unfold bxs
  by_cases q : itf A i ax 4 = 0
  · simp (disch := first | assumption | omega) only [f_X0_boxSize, ↓rcL, ↓gIL_0, ↓gIL_10, ↓gIL_11, ↓gIL_12, ↓gIL_13, ↓gIL_14, ↓gIL_15, ↓pIL_0, ↓pIL_10, ↓pIL_11, ↓pIL_12, ↓pIL_13, ↓pIL_14, ↓pIL_15, ↓gRL_1, ↓gRL_2, ↓gRL_3, ↓gRL_4, ↓gRL_5, ↓gRL_6, ↓gRL_7, ↓gRL_8, ↓gRL_9, ↓aIL1, ↓sZL1, ↓lnL1, ↓aIL2, ↓sIL2, ↓lnL2, ↓aIL3, ↓sIL3, ↓lnL3, ↓aIL4, ↓sIL4, ↓lnL4, ↓aIL5, ↓sIL5, ↓lnL5, ↓aIL6, ↓sIL6, ↓lnL6, ↓aIL7, ↓sIL7, ↓lnL7, ↓c_I, ↓c_J, ↓c_Q, ↓c_V, ↓c_It, ↓c_Jt, ↓c_Vt, ↓k_I, ↓k_J, ↓n_I, ↓n_V, li0, li1, li2, li3, li4, li5, li6, li7, li8, li9, li10, li11, li12, li13, li14, li15, li16, li17, li18, li19, li20, li21, li22, li23, li24, li25, li26, li27, li28, li29, li30, li31, li32, li33, li34, li35, li36, li37, li38, li39, li40, li41, li42, li44, li48, li57, li63, li64, li65, li97, li99, li100, li101, li102, li104, li105, li106, li109, li114, li120, li128, li130, li300, li514, li999, li1000, li8192, li9999, li65536, li1000000, li1000001, li1000002, li1000003, li1000004, li1000005, li1000006, li1000007, li1000008, li1000009, li1000010, li1000011, li1000012, li1000013, li1000014, li1000015, li1000016, li1000017, li1000018, li1000019, li2147483647, lj0, lj1, W_add, W_sub, W_mul, W_neg, V_add, V_sub, V_mul, V_neg, W_ite, W_le, W_lt, W_inj, V_le, V_lt, V_inj, W_V, V_W, lgc_ge, lgc_gt, lgc_le, lgc_lt, lgc_eq, ge_iff_le, gt_iff_lt, e1, e4, q, ↓reduceIte]
  · have hmin : (if itf A i ax 1 < ars A ax i then itf A i ax 1 else ars A ax i) = min (ars A ax i) (itf A i ax 1) := by split <;> omega
    have hmax : (if min (ars A ax i) (itf A i ax 1) < itf A i ax 0 then itf A i ax 0 else min (ars A ax i) (itf A i ax 1)) = max (min (ars A ax i) (itf A i ax 1)) (itf A i ax 0) := by split <;> omega
    simp (disch := first | assumption | omega) only [f_X0_boxSize, ↓rcL, ↓gIL_0, ↓gIL_10, ↓gIL_11, ↓gIL_12, ↓gIL_13, ↓gIL_14, ↓gIL_15, ↓pIL_0, ↓pIL_10, ↓pIL_11, ↓pIL_12, ↓pIL_13, ↓pIL_14, ↓pIL_15, ↓gRL_1, ↓gRL_2, ↓gRL_3, ↓gRL_4, ↓gRL_5, ↓gRL_6, ↓gRL_7, ↓gRL_8, ↓gRL_9, ↓aIL1, ↓sZL1, ↓lnL1, ↓aIL2, ↓sIL2, ↓lnL2, ↓aIL3, ↓sIL3, ↓lnL3, ↓aIL4, ↓sIL4, ↓lnL4, ↓aIL5, ↓sIL5, ↓lnL5, ↓aIL6, ↓sIL6, ↓lnL6, ↓aIL7, ↓sIL7, ↓lnL7, ↓c_I, ↓c_J, ↓c_Q, ↓c_V, ↓c_It, ↓c_Jt, ↓c_Vt, ↓k_I, ↓k_J, ↓n_I, ↓n_V, li0, li1, li2, li3, li4, li5, li6, li7, li8, li9, li10, li11, li12, li13, li14, li15, li16, li17, li18, li19, li20, li21, li22, li23, li24, li25, li26, li27, li28, li29, li30, li31, li32, li33, li34, li35, li36, li37, li38, li39, li40, li41, li42, li44, li48, li57, li63, li64, li65, li97, li99, li100, li101, li102, li104, li105, li106, li109, li114, li120, li128, li130, li300, li514, li999, li1000, li8192, li9999, li65536, li1000000, li1000001, li1000002, li1000003, li1000004, li1000005, li1000006, li1000007, li1000008, li1000009, li1000010, li1000011, li1000012, li1000013, li1000014, li1000015, li1000016, li1000017, li1000018, li1000019, li2147483647, lj0, lj1, W_add, W_sub, W_mul, W_neg, V_add, V_sub, V_mul, V_neg, W_ite, W_le, W_lt, W_inj, V_le, V_lt, V_inj, W_V, V_W, lgc_ge, lgc_gt, lgc_le, lgc_lt, lgc_eq, ge_iff_le, gt_iff_lt, e1, e4, e3, e2, q, hmin, hmax, ↓reduceIte]
end PosE

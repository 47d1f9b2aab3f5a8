/-! ===== the engine's Fractions: without a size; both ===== -/
def jun (J : CF) (x : Int × Int) : CF := uI (uI J 44 4 x.1) 44 5 x.2
theorem jun_4 {J : CF} {x : Int × Int} : jun J x 44 4 = x.1 := by
  unfold jun
  rw [u_ne (by decide), u_eq]
theorem jun_5 {J : CF} {x : Int × Int} : jun J x 44 5 = x.2 := u_eq
theorem jun_o {J : CF} {x : Int × Int} {a : Int} (h : a ≠ 44) : jun J x a = J a := by
  unfold jun
  rw [u_obj h, u_obj h]
theorem jun_w {J : CF} {x : Int × Int} {t u : Int} : uI (uI (jun J x) 44 4 t) 44 5 u = jun J (t, u) := by
  unfold jun
  rw [u_comm (a := 44) (k := 5) (d := 44) (j := 4) (Or.inr (by decide)), u_u, u_u]
theorem jun_self {J : CF} : jun J (J 44 4, J 44 5) = J := by
  unfold jun
  rw [u_self, u_self]
theorem ru_bd {x : Int × Int} {t u M B : Int} (hx : 0 ≤ x.1 ∧ x.1 ≤ M ∧ 1 ≤ x.2 ∧ x.2 ≤ B) (ht : t ≤ M) (hu : u ≤ B) : 0 ≤ (ru x t u).1 ∧ (ru x t u).1 ≤ M ∧ 1 ≤ (ru x t u).2 ∧ (ru x t u).2 ≤ B := by
  unfold ru
  split
  · next h =>
    refine ⟨?_, ht, by show 1 ≤ u; omega, hu⟩
    show 0 ≤ t
    apply Classical.byContradiction
    intro hn
    have h1 : 0 ≤ x.1 * u := Int.mul_nonneg hx.1 (by omega)
    have h2 : t * x.2 < 0 * x.2 := Int.mul_lt_mul_of_pos_right (by omega) (by omega)
    rw [Int.zero_mul] at h2
    omega
  · exact hx
section UnitE
variable {b : Nat} {c : Bool} {A : CF} {o : Nat} {ax : Int}
theorem e_raiseUnit {I J : CF} {x : Int × Int} {t u : Int} (hx : 0 ≤ x.1 ∧ x.1 ≤ 11000 ∧ 1 ≤ x.2 ∧ x.2 ≤ 10000) (t0 : -1000000 ≤ t) (t1 : t ≤ 1000000) (u0 : 0 ≤ u) (u1 : u ≤ 10000) : f_X3_raiseUnit (Sx I (jun J x) b c) 44 (jV t) (jV u) = some (Sx I (jun J (ru x t u)) b c, xv) := by
  obtain ⟨a1, a2, a3, a4⟩ := hx
  have m1 := mul_bds (a := t) (b := x.2) (A := 1000000) (B := 10000) (by omega) (by omega) (by omega) (by omega) (by omega)
  have m2 := mul_bd (a := x.1) (b := u) (A := 11000) (B := 10000) a1 a2 u0 u1
  by_cases q : u ≤ 0
  · have hr : ru x t u = x := if_neg (fun z => by have := z.1; omega)
    rw [hr]
    simp (disch := first | assumption | omega) only [f_X3_raiseUnit, f_X3_raiseUnit_b32, ↓rc44, ↓gJ44_2, ↓gJ44_3, ↓gJ44_4, ↓gJ44_5, ↓pJ44_2, ↓pJ44_3, ↓pJ44_4, ↓pJ44_5, ↓gR44_0, ↓gR44_1, ↓aI45, ↓sZ45, ↓ln45, ↓aJ46, ↓sJ46, ↓c_I, ↓c_J, ↓c_Q, ↓c_V, ↓c_It, ↓c_Jt, ↓c_Vt, ↓k_I, ↓k_J, ↓n_I, ↓n_V, li0, li1, li2, li3, li4, li5, li6, li7, li8, li9, li10, li11, li12, li13, li14, li15, li16, li17, li18, li19, li20, li21, li22, li23, li24, li25, li26, li27, li28, li29, li30, li31, li32, li33, li34, li35, li36, li37, li38, li39, li40, li41, li42, li44, li48, li57, li63, li64, li65, li97, li99, li100, li101, li102, li104, li105, li106, li109, li114, li120, li128, li130, li300, li514, li999, li1000, li8192, li9999, li65536, li1000000, li1000001, li1000002, li1000003, li1000004, li1000005, li1000006, li1000007, li1000008, li1000009, li1000010, li1000011, li1000012, li1000013, li1000014, li1000015, li1000016, li1000017, li1000018, li1000019, li2147483647, lj0, lj1, W_add, W_sub, W_mul, W_neg, V_add, V_sub, V_mul, V_neg, W_ite, W_le, W_lt, W_inj, V_le, V_lt, V_inj, W_V, V_W, lgc_ge, lgc_gt, lgc_le, lgc_lt, lgc_eq, ge_iff_le, gt_iff_lt, q, ↓reduceIte]
  · by_cases q2 : t * x.2 ≤ x.1 * u
    · have hr : ru x t u = x := if_neg (fun z => by have := z.2; omega)
      rw [hr]
      simp (disch := first | assumption | omega) only [f_X3_raiseUnit, f_X3_raiseUnit_b32, ↓rc44, ↓gJ44_2, ↓gJ44_3, ↓gJ44_4, ↓gJ44_5, ↓pJ44_2, ↓pJ44_3, ↓pJ44_4, ↓pJ44_5, ↓gR44_0, ↓gR44_1, ↓aI45, ↓sZ45, ↓ln45, ↓aJ46, ↓sJ46, ↓c_I, ↓c_J, ↓c_Q, ↓c_V, ↓c_It, ↓c_Jt, ↓c_Vt, ↓k_I, ↓k_J, ↓n_I, ↓n_V, li0, li1, li2, li3, li4, li5, li6, li7, li8, li9, li10, li11, li12, li13, li14, li15, li16, li17, li18, li19, li20, li21, li22, li23, li24, li25, li26, li27, li28, li29, li30, li31, li32, li33, li34, li35, li36, li37, li38, li39, li40, li41, li42, li44, li48, li57, li63, li64, li65, li97, li99, li100, li101, li102, li104, li105, li106, li109, li114, li120, li128, li130, li300, li514, li999, li1000, li8192, li9999, li65536, li1000000, li1000001, li1000002, li1000003, li1000004, li1000005, li1000006, li1000007, li1000008, li1000009, li1000010, li1000011, li1000012, li1000013, li1000014, li1000015, li1000016, li1000017, li1000018, li1000019, li2147483647, lj0, lj1, W_add, W_sub, W_mul, W_neg, V_add, V_sub, V_mul, V_neg, W_ite, W_le, W_lt, W_inj, V_le, V_lt, V_inj, W_V, V_W, lgc_ge, lgc_gt, lgc_le, lgc_lt, lgc_eq, ge_iff_le, gt_iff_lt, q, jun_4, jun_5, q2, ↓reduceIte]
    · have hr : ru x t u = (t, u) := if_pos ⟨by omega, by omega⟩
      rw [hr]
      simp (disch := first | assumption | omega) only [f_X3_raiseUnit, f_X3_raiseUnit_b32, ↓rc44, ↓gJ44_2, ↓gJ44_3, ↓gJ44_4, ↓gJ44_5, ↓pJ44_2, ↓pJ44_3, ↓pJ44_4, ↓pJ44_5, ↓gR44_0, ↓gR44_1, ↓aI45, ↓sZ45, ↓ln45, ↓aJ46, ↓sJ46, ↓c_I, ↓c_J, ↓c_Q, ↓c_V, ↓c_It, ↓c_Jt, ↓c_Vt, ↓k_I, ↓k_J, ↓n_I, ↓n_V, li0, li1, li2, li3, li4, li5, li6, li7, li8, li9, li10, li11, li12, li13, li14, li15, li16, li17, li18, li19, li20, li21, li22, li23, li24, li25, li26, li27, li28, li29, li30, li31, li32, li33, li34, li35, li36, li37, li38, li39, li40, li41, li42, li44, li48, li57, li63, li64, li65, li97, li99, li100, li101, li102, li104, li105, li106, li109, li114, li120, li128, li130, li300, li514, li999, li1000, li8192, li9999, li65536, li1000000, li1000001, li1000002, li1000003, li1000004, li1000005, li1000006, li1000007, li1000008, li1000009, li1000010, li1000011, li1000012, li1000013, li1000014, li1000015, li1000016, li1000017, li1000018, li1000019, li2147483647, lj0, lj1, W_add, W_sub, W_mul, W_neg, V_add, V_sub, V_mul, V_neg, W_ite, W_le, W_lt, W_inj, V_le, V_lt, V_inj, W_V, V_W, lgc_ge, lgc_gt, lgc_le, lgc_lt, lgc_eq, ge_iff_le, gt_iff_lt, q, jun_4, jun_5, jun_w, q2, ↓reduceIte]
theorem exc_bd (hA : okA A) (hP : plB A) (x0 : 0 ≤ ax) (x1 : ax < 2) {i : Int} (i0 : 0 ≤ i) (i1 : i < nit A) : (-50000 ≤ exc A ax i ∧ exc A ax i ≤ 999) ∧ 0 ≤ fac A ax i ∧ fac A ax i ≤ 3996 := by
  have hnt := hP.2 ax x0 x1
  have hpb := hP.1 i ax i0 i1 x0 x1
  have hok := hA.2.2.2.2.2 i ax i0 i1 x0 x1
  have hsp := hok.2.2.1
  have hco := hok.1
  have hgp := (hA.2.2.2.1 ax x0 x1).2.2.1
  have m1 := mul_bd (a := gpa A ax) (b := itf A i ax 3 - 1) (A := 99) (B := 3) hgp.1 hgp.2 (by omega) (by omega)
  have h01 : ∀ k, 0 ≤ cif (flx A ax k) 0 (grw A ax k) ∧ cif (flx A ax k) 0 (grw A ax k) ≤ 11000 := fun k => by
    have := (grw_bd hA hP x0 x1 k).1
    by_cases q : flx A ax k
    · rw [cif_pos q]
      omega
    · rw [cif_neg q]
      exact this
  have h02 : ∀ k, pl A i ax ≤ k → 0 ≤ cif (flx A ax k) (tpt A ax k 3) 0 ∧ cif (flx A ax k) (tpt A ax k 3) 0 ≤ 999 := fun k hk => by
    have := (tpt_ok hA x0 x1 (show 1 ≤ k by omega)).2.2.2.1
    by_cases q : flx A ax k
    · rw [cif_pos q]
      exact this
    · rw [cif_neg q]
      omega
  have r1 := rs_nonneg (f := fun k => cif (flx A ax k) 0 (grw A ax k)) (a := pl A i ax) (b := pl A i ax + itf A i ax 3 - 1) (fun k _ _ => (h01 k).1)
  have r2 := rs_le (f := fun k => cif (flx A ax k) 0 (grw A ax k)) (a := pl A i ax) (b := pl A i ax + itf A i ax 3 - 1) (M := 11000) (n := 4) (fun k _ _ => (h01 k).2) (by omega) (by omega)
  have r3 := rs_nonneg (f := fun k => cif (flx A ax k) (tpt A ax k 3) 0) (a := pl A i ax) (b := pl A i ax + itf A i ax 3 - 1) (fun k k0 _ => (h02 k k0).1)
  have r4 := rs_le (f := fun k => cif (flx A ax k) (tpt A ax k 3) 0) (a := pl A i ax) (b := pl A i ax + itf A i ax 3 - 1) (M := 999) (n := 4) (fun k k0 _ => (h02 k k0).2) (by omega) (by omega)
  unfold exc fac
  omega
theorem un1_bd (hA : okA A) (hP : plB A) (x0 : 0 ≤ ax) (x1 : ax < 2) : ∀ n : Nat, 0 ≤ (un1 A ax n).1 ∧ (un1 A ax n).1 ≤ 11000 ∧ 1 ≤ (un1 A ax n).2 ∧ (un1 A ax n).2 ≤ 10000 := by
  intro n
  induction n with
  | zero =>
    show (0 : Int) ≤ 0 ∧ (0 : Int) ≤ 11000 ∧ (1 : Int) ≤ 1 ∧ (1 : Int) ≤ 10000
    omega
  | succ n ih =>
    unfold un1
    have g := (grw_bd hA hP x0 x1 ((n : Int) + 1)).1
    have t := (tpt_ok hA x0 x1 (show 1 ≤ (n : Int) + 1 by omega)).2.2.2.1
    by_cases q : flx A ax ((n : Int) + 1)
    · rw [cif_pos q]
      exact ru_bd ih (by omega) (by omega)
    · rw [cif_neg q]
      exact ih
theorem un2_bd (hA : okA A) (hP : plB A) (x0 : 0 ≤ ax) (x1 : ax < 2) : ∀ n : Nat, (n : Int) ≤ nit A → 0 ≤ (un2 A ax n).1 ∧ (un2 A ax n).1 ≤ 11000 ∧ 1 ≤ (un2 A ax n).2 ∧ (un2 A ax n).2 ≤ 10000 := by
  intro n
  induction n with
  | zero => intro _; exact un1_bd hA hP x0 x1 _
  | succ n ih =>
    intro h
    have e := exc_bd hA hP x0 x1 (i := n) (by omega) (by omega)
    exact ru_bd (ih (by omega)) (by omega) (by omega)
theorem unt_bd (hA : okA A) (hP : plB A) (x0 : 0 ≤ ax) (x1 : ax < 2) : 0 ≤ (unt A ax).1 ∧ (unt A ax).1 ≤ 11000 ∧ 1 ≤ (unt A ax).2 ∧ (unt A ax).2 ≤ 10000 := un2_bd hA hP x0 x1 _ (by have := hA.1; omega)
theorem shu_bd (hA : okA A) (hP : plB A) (x0 : 0 ≤ ax) (x1 : ax < 2) (k : Int) : (0 ≤ shu A ax k ∧ shu A ax k ≤ 11100000) ∧ (¬ opn A ax k → shu A ax k = 0) ∧ (1 ≤ k → -11100000 ≤ (tpt A ax k 3 * (unt A ax).1 + (unt A ax).2 - 1).tdiv (unt A ax).2 ∧ (tpt A ax k 3 * (unt A ax).1 + (unt A ax).2 - 1).tdiv (unt A ax).2 ≤ 11100000) := by
  have g := grw_bd hA hP x0 x1 k
  have u := unt_bd hA hP x0 x1
  have h3 : 1 ≤ k → -11100000 ≤ (tpt A ax k 3 * (unt A ax).1 + (unt A ax).2 - 1).tdiv (unt A ax).2 ∧ (tpt A ax k 3 * (unt A ax).1 + (unt A ax).2 - 1).tdiv (unt A ax).2 ≤ 11100000 := by
    intro hk
    have t := (tpt_ok hA x0 x1 hk).2.2.2.1
    have m := mul_bd (a := tpt A ax k 3) (b := (unt A ax).1) (A := 999) (B := 11000) t.1 t.2 u.1 u.2.1
    exact tdiv_range (M := 11100000) (by omega) (by omega) (by omega)
  unfold shu
  by_cases q : flx A ax k
  · rw [cif_pos q]
    have := h3 q.1.1.1
    exact ⟨by omega, fun z => absurd q.1 z, h3⟩
  · rw [cif_neg q]
    exact ⟨by omega, g.2, h3⟩
theorem e_unit93 {I J : CF} {k55 : HP → Nat → Nat → Int32 → Option XR} (h : FX I A o ax) (hact : ∀ k, 1 ≤ k → k ≤ nt A ax → I 45 k = bb (flx A ax k)) {i : Int} (i0 : 0 ≤ i) (i1 : i < nit A) {x : Int × Int} (hxb : 0 ≤ x.1 ∧ x.1 ≤ 11000 ∧ 1 ≤ x.2 ∧ x.2 ≤ 10000) : ∀ (fuel : Nat) (k : Int), pl A i ax + itf A i ax 3 - k < fuel → pl A i ax ≤ k → k ≤ pl A i ax + itf A i ax 3 →
    f_X3_findUnit_L93 k55 fuel (Sx I (jun J x) b c) 44 o (iW i) (iW (itf A i ax 1 - gpa A ax * (itf A i ax 3 - 1) - rs (fun k => cif (flx A ax k) 0 (grw A ax k)) (pl A i ax) (k - 1))) (iW (rs (fun k => cif (flx A ax k) (tpt A ax k 3) 0) (pl A i ax) (k - 1))) (iW (pl A i ax + itf A i ax 3 - 1)) (iW k) = k55 (Sx I (jun J (ru x (exc A ax i) (fac A ax i))) b c) 44 o (iW (i + 1)) := by
  have hX := h.1.1
  obtain ⟨ho, hx, h1, hA, hP, hM, hR⟩ := hX
  have hob := isL_bd ho
  have hnt := hP.2 ax (by omega) (by omega)
  have hpb := hP.1 i ax i0 i1 (by omega) (by omega)
  have hsp := (hA.2.2.2.2.2 i ax i0 i1 (by omega) (by omega)).2.2.1
  have eb := exc_bd hA hP (ax := ax) (by omega) (by omega) i0 i1
  intro fuel
  induction fuel with
  | zero => intro k a1 a2 a3; omega
  | succ fuel ih =>
    intro k a1 a2 a3
    show f_X3_findUnit_b93 k55 (f_X3_findUnit_L93 k55 fuel) (Sx I (jun J x) b c) 44 o (iW i) _ _ _ (iW k) = _
    by_cases hk : pl A i ax + itf A i ax 3 - 1 < k
    · have e : k - 1 = pl A i ax + itf A i ax 3 - 1 := by omega
      rw [e]
      have er := e_raiseUnit (I := I) (J := J) (b := b) (c := c) (t := exc A ax i) (u := fac A ax i) hxb (by omega) (by omega) (by omega) (by omega)
      have er' : f_X3_raiseUnit (Sx I (jun J x) b c) 44 (iW (itf A i ax 1 - gpa A ax * (itf A i ax 3 - 1) - rs (fun k => cif (flx A ax k) 0 (grw A ax k)) (pl A i ax) (pl A i ax + itf A i ax 3 - 1))).toInt64 (iW (rs (fun k => cif (flx A ax k) (tpt A ax k 3) 0) (pl A i ax) (pl A i ax + itf A i ax 3 - 1))).toInt64 = some (Sx I (jun J (ru x (exc A ax i) (fac A ax i))) b c, xv) := by
        have w1 : (iW (exc A ax i)).toInt64 = jV (exc A ax i) := W_V (by omega) (by omega)
        have w2 : (iW (fac A ax i)).toInt64 = jV (fac A ax i) := W_V (by omega) (by omega)
        rw [← w1, ← w2] at er
        exact er
      have n0 : pl A i ax + itf A i ax 3 - 1 < k := hk
      unfold f_X3_findUnit_b93
      rw [if_pos (show iW (pl A i ax + itf A i ax 3 - 1) < iW k by rw [W_lt (by omega) (by omega) (by omega) (by omega)]; exact n0), rc44, er', c_V, li1, W_add]
    · have ak := hact k (by omega) (by omega)
      have gk := h.2 k (by omega) (by omega)
      have hnext := ih (k + 1) (by omega) (by omega) (by omega)
      have r1 := rs_s (f := fun k => cif (flx A ax k) 0 (grw A ax k)) (a := pl A i ax) (b := k) a2
      have r2 := rs_s (f := fun k => cif (flx A ax k) (tpt A ax k 3) 0) (a := pl A i ax) (b := k) a2
      rw [show k + 1 - 1 = k by omega, r1, r2] at hnext
      by_cases q : flx A ax k
      · rw [bb_pos q] at ak
        rw [cif_pos q, cif_pos q, Int.add_zero] at hnext
        have e3 := e_part (J := jun J x) (b := b) (c := c) h.1.1 (k := k) (p := 3) (by omega) (by omega) (by omega) (by omega)
        simp (disch := first | assumption | omega) only [f_X3_findUnit_b93, f_X3_findUnit_b135, ↓rcL, ↓gIL_0, ↓gIL_10, ↓gIL_11, ↓gIL_12, ↓gIL_13, ↓gIL_14, ↓gIL_15, ↓pIL_0, ↓pIL_10, ↓pIL_11, ↓pIL_12, ↓pIL_13, ↓pIL_14, ↓pIL_15, ↓gRL_1, ↓gRL_2, ↓gRL_3, ↓gRL_4, ↓gRL_5, ↓gRL_6, ↓gRL_7, ↓gRL_8, ↓gRL_9, ↓aIL1, ↓sZL1, ↓lnL1, ↓aIL2, ↓sIL2, ↓lnL2, ↓aIL3, ↓sIL3, ↓lnL3, ↓aIL4, ↓sIL4, ↓lnL4, ↓aIL5, ↓sIL5, ↓lnL5, ↓aIL6, ↓sIL6, ↓lnL6, ↓aIL7, ↓sIL7, ↓lnL7, ↓rc44, ↓gJ44_2, ↓gJ44_3, ↓gJ44_4, ↓gJ44_5, ↓pJ44_2, ↓pJ44_3, ↓pJ44_4, ↓pJ44_5, ↓gR44_0, ↓gR44_1, ↓aI45, ↓sZ45, ↓ln45, ↓aJ46, ↓sJ46, ↓c_I, ↓c_J, ↓c_Q, ↓c_V, ↓c_It, ↓c_Jt, ↓c_Vt, ↓k_I, ↓k_J, ↓n_I, ↓n_V, li0, li1, li2, li3, li4, li5, li6, li7, li8, li9, li10, li11, li12, li13, li14, li15, li16, li17, li18, li19, li20, li21, li22, li23, li24, li25, li26, li27, li28, li29, li30, li31, li32, li33, li34, li35, li36, li37, li38, li39, li40, li41, li42, li44, li48, li57, li63, li64, li65, li97, li99, li100, li101, li102, li104, li105, li106, li109, li114, li120, li128, li130, li300, li514, li999, li1000, li8192, li9999, li65536, li1000000, li1000001, li1000002, li1000003, li1000004, li1000005, li1000006, li1000007, li1000008, li1000009, li1000010, li1000011, li1000012, li1000013, li1000014, li1000015, li1000016, li1000017, li1000018, li1000019, li2147483647, lj0, lj1, W_add, W_sub, W_mul, W_neg, V_add, V_sub, V_mul, V_neg, W_ite, W_le, W_lt, W_inj, V_le, V_lt, V_inj, W_V, V_W, lgc_ge, lgc_gt, lgc_le, lgc_lt, lgc_eq, ge_iff_le, gt_iff_lt, hk, ak, e3, Int.reduceEq, ↓reduceIte]
        exact hnext
      · rw [bb_neg q] at ak
        rw [cif_neg q, cif_neg q, Int.add_zero] at hnext
        have hsub : itf A i ax 1 - gpa A ax * (itf A i ax 3 - 1) - rs (fun k => cif (flx A ax k) 0 (grw A ax k)) (pl A i ax) (k - 1) - grw A ax k = itf A i ax 1 - gpa A ax * (itf A i ax 3 - 1) - (rs (fun k => cif (flx A ax k) 0 (grw A ax k)) (pl A i ax) (k - 1) + grw A ax k) := by omega
        simp (disch := first | assumption | omega) only [f_X3_findUnit_b93, f_X3_findUnit_b135, ↓rcL, ↓gIL_0, ↓gIL_10, ↓gIL_11, ↓gIL_12, ↓gIL_13, ↓gIL_14, ↓gIL_15, ↓pIL_0, ↓pIL_10, ↓pIL_11, ↓pIL_12, ↓pIL_13, ↓pIL_14, ↓pIL_15, ↓gRL_1, ↓gRL_2, ↓gRL_3, ↓gRL_4, ↓gRL_5, ↓gRL_6, ↓gRL_7, ↓gRL_8, ↓gRL_9, ↓aIL1, ↓sZL1, ↓lnL1, ↓aIL2, ↓sIL2, ↓lnL2, ↓aIL3, ↓sIL3, ↓lnL3, ↓aIL4, ↓sIL4, ↓lnL4, ↓aIL5, ↓sIL5, ↓lnL5, ↓aIL6, ↓sIL6, ↓lnL6, ↓aIL7, ↓sIL7, ↓lnL7, ↓rc44, ↓gJ44_2, ↓gJ44_3, ↓gJ44_4, ↓gJ44_5, ↓pJ44_2, ↓pJ44_3, ↓pJ44_4, ↓pJ44_5, ↓gR44_0, ↓gR44_1, ↓aI45, ↓sZ45, ↓ln45, ↓aJ46, ↓sJ46, ↓c_I, ↓c_J, ↓c_Q, ↓c_V, ↓c_It, ↓c_Jt, ↓c_Vt, ↓k_I, ↓k_J, ↓n_I, ↓n_V, li0, li1, li2, li3, li4, li5, li6, li7, li8, li9, li10, li11, li12, li13, li14, li15, li16, li17, li18, li19, li20, li21, li22, li23, li24, li25, li26, li27, li28, li29, li30, li31, li32, li33, li34, li35, li36, li37, li38, li39, li40, li41, li42, li44, li48, li57, li63, li64, li65, li97, li99, li100, li101, li102, li104, li105, li106, li109, li114, li120, li128, li130, li300, li514, li999, li1000, li8192, li9999, li65536, li1000000, li1000001, li1000002, li1000003, li1000004, li1000005, li1000006, li1000007, li1000008, li1000009, li1000010, li1000011, li1000012, li1000013, li1000014, li1000015, li1000016, li1000017, li1000018, li1000019, li2147483647, lj0, lj1, W_add, W_sub, W_mul, W_neg, V_add, V_sub, V_mul, V_neg, W_ite, W_le, W_lt, W_inj, V_le, V_lt, V_inj, W_V, V_W, lgc_ge, lgc_gt, lgc_le, lgc_lt, lgc_eq, ge_iff_le, gt_iff_lt, hk, ak, gk, hsub, ↓reduceIte]
        exact hnext
theorem e_unit55 {I J : CF} (h : FX I A o ax) (hact : ∀ k, 1 ≤ k → k ≤ nt A ax → I 45 k = bb (flx A ax k)) : ∀ (fuel n : Nat), nit A - n < fuel → (n : Int) ≤ nit A → f_X3_findUnit_L55 fuel (Sx I (jun J (un2 A ax n)) b c) 44 o (iW n) = some (Sx I (jun J (unt A ax)) b c, xv) := by
  have hX := h.1.1
  obtain ⟨ho, hx, h1, hA, hP, hM, hR⟩ := hX
  have hN := hA.1
  intro fuel
  induction fuel with
  | zero => intro n a1 a2; omega
  | succ fuel ih =>
    intro n a1 a2
    show f_X3_findUnit_b55 (f_X3_findUnit_L55 fuel) (Sx I (jun J (un2 A ax n)) b c) 44 o (iW n) = _
    have e0 := e_itemCount (J := jun J (un2 A ax n)) (b := b) (c := c) h.1.1
    by_cases hk : (n : Int) = nit A
    · have n0 : nit A ≤ (n : Int) := by omega
      unfold unt
      rw [show (nit A).toNat = n by omega]
      simp (disch := first | assumption | omega) only [f_X3_findUnit_b55, ↓rcL, ↓gIL_0, ↓gIL_10, ↓gIL_11, ↓gIL_12, ↓gIL_13, ↓gIL_14, ↓gIL_15, ↓pIL_0, ↓pIL_10, ↓pIL_11, ↓pIL_12, ↓pIL_13, ↓pIL_14, ↓pIL_15, ↓gRL_1, ↓gRL_2, ↓gRL_3, ↓gRL_4, ↓gRL_5, ↓gRL_6, ↓gRL_7, ↓gRL_8, ↓gRL_9, ↓aIL1, ↓sZL1, ↓lnL1, ↓aIL2, ↓sIL2, ↓lnL2, ↓aIL3, ↓sIL3, ↓lnL3, ↓aIL4, ↓sIL4, ↓lnL4, ↓aIL5, ↓sIL5, ↓lnL5, ↓aIL6, ↓sIL6, ↓lnL6, ↓aIL7, ↓sIL7, ↓lnL7, ↓rc44, ↓gJ44_2, ↓gJ44_3, ↓gJ44_4, ↓gJ44_5, ↓pJ44_2, ↓pJ44_3, ↓pJ44_4, ↓pJ44_5, ↓gR44_0, ↓gR44_1, ↓aI45, ↓sZ45, ↓ln45, ↓aJ46, ↓sJ46, ↓c_I, ↓c_J, ↓c_Q, ↓c_V, ↓c_It, ↓c_Jt, ↓c_Vt, ↓k_I, ↓k_J, ↓n_I, ↓n_V, li0, li1, li2, li3, li4, li5, li6, li7, li8, li9, li10, li11, li12, li13, li14, li15, li16, li17, li18, li19, li20, li21, li22, li23, li24, li25, li26, li27, li28, li29, li30, li31, li32, li33, li34, li35, li36, li37, li38, li39, li40, li41, li42, li44, li48, li57, li63, li64, li65, li97, li99, li100, li101, li102, li104, li105, li106, li109, li114, li120, li128, li130, li300, li514, li999, li1000, li8192, li9999, li65536, li1000000, li1000001, li1000002, li1000003, li1000004, li1000005, li1000006, li1000007, li1000008, li1000009, li1000010, li1000011, li1000012, li1000013, li1000014, li1000015, li1000016, li1000017, li1000018, li1000019, li2147483647, lj0, lj1, W_add, W_sub, W_mul, W_neg, V_add, V_sub, V_mul, V_neg, W_ite, W_le, W_lt, W_inj, V_le, V_lt, V_inj, W_V, V_W, lgc_ge, lgc_gt, lgc_le, lgc_lt, lgc_eq, ge_iff_le, gt_iff_lt, e0, n0, ↓reduceIte]
    · have n1 : ¬ (nit A ≤ (n : Int)) := by omega
      have hc : ((n + 1 : Nat) : Int) = (n : Int) + 1 := by omega
      have hnext := ih (n + 1) (by omega) (by omega)
      rw [hc] at hnext
      have hub := un2_bd hA hP (ax := ax) (by omega) (by omega) n a2
      have e1 := e_itemF (J := jun J (un2 A ax n)) (b := b) (c := c) h.1.1 (i := n) (f := 1) (by omega) (by omega) (by omega) (by omega)
      have e2 := e_guttersWithin (J := jun J (un2 A ax n)) (b := b) (c := c) h.1 (i := n) (by omega) (by omega)
      have e3 := e_last (J := jun J (un2 A ax n)) (b := b) (c := c) h.1 (i := n) (by omega) (by omega)
      have e4 := e_first (J := jun J (un2 A ax n)) (b := b) (c := c) h.1.1 (i := n) (by omega) (by omega)
      have hsp := (hA.2.2.2.2.2 n ax (by omega) (by omega) (by omega) (by omega)).2.2.1
      have hL := e_unit93 (J := J) (b := b) (c := c) (k55 := f_X3_findUnit_L55 fuel) h hact (i := n) (by omega) (by omega) hub FU (pl A n ax) (by unfold FU; omega) (by omega) (by omega)
      rw [rs_0 (by omega), rs_0 (by omega), Int.sub_zero] at hL
      simp (disch := first | assumption | omega) only [f_X3_findUnit_b55, ↓rcL, ↓gIL_0, ↓gIL_10, ↓gIL_11, ↓gIL_12, ↓gIL_13, ↓gIL_14, ↓gIL_15, ↓pIL_0, ↓pIL_10, ↓pIL_11, ↓pIL_12, ↓pIL_13, ↓pIL_14, ↓pIL_15, ↓gRL_1, ↓gRL_2, ↓gRL_3, ↓gRL_4, ↓gRL_5, ↓gRL_6, ↓gRL_7, ↓gRL_8, ↓gRL_9, ↓aIL1, ↓sZL1, ↓lnL1, ↓aIL2, ↓sIL2, ↓lnL2, ↓aIL3, ↓sIL3, ↓lnL3, ↓aIL4, ↓sIL4, ↓lnL4, ↓aIL5, ↓sIL5, ↓lnL5, ↓aIL6, ↓sIL6, ↓lnL6, ↓aIL7, ↓sIL7, ↓lnL7, ↓rc44, ↓gJ44_2, ↓gJ44_3, ↓gJ44_4, ↓gJ44_5, ↓pJ44_2, ↓pJ44_3, ↓pJ44_4, ↓pJ44_5, ↓gR44_0, ↓gR44_1, ↓aI45, ↓sZ45, ↓ln45, ↓aJ46, ↓sJ46, ↓c_I, ↓c_J, ↓c_Q, ↓c_V, ↓c_It, ↓c_Jt, ↓c_Vt, ↓k_I, ↓k_J, ↓n_I, ↓n_V, li0, li1, li2, li3, li4, li5, li6, li7, li8, li9, li10, li11, li12, li13, li14, li15, li16, li17, li18, li19, li20, li21, li22, li23, li24, li25, li26, li27, li28, li29, li30, li31, li32, li33, li34, li35, li36, li37, li38, li39, li40, li41, li42, li44, li48, li57, li63, li64, li65, li97, li99, li100, li101, li102, li104, li105, li106, li109, li114, li120, li128, li130, li300, li514, li999, li1000, li8192, li9999, li65536, li1000000, li1000001, li1000002, li1000003, li1000004, li1000005, li1000006, li1000007, li1000008, li1000009, li1000010, li1000011, li1000012, li1000013, li1000014, li1000015, li1000016, li1000017, li1000018, li1000019, li2147483647, lj0, lj1, W_add, W_sub, W_mul, W_neg, V_add, V_sub, V_mul, V_neg, W_ite, W_le, W_lt, W_inj, V_le, V_lt, V_inj, W_V, V_W, lgc_ge, lgc_gt, lgc_le, lgc_lt, lgc_eq, ge_iff_le, gt_iff_lt, e0, n1, e1, e2, e3, e4, hL, ↓reduceIte]
      exact hnext
theorem e_unit12 {I J : CF} (h : FX I A o ax) (hact : ∀ k, 1 ≤ k → k ≤ nt A ax → I 45 k = bb (flx A ax k)) : ∀ (fuel n : Nat), nt A ax - n + 1 < fuel → (n : Int) ≤ nt A ax → f_X3_findUnit_L12 fuel (Sx I (jun J (un1 A ax n)) b c) 44 o (iW (n + 1)) = some (Sx I (jun J (unt A ax)) b c, xv) := by
  have hX := h.1.1
  obtain ⟨ho, hx, h1, hA, hP, hM, hR⟩ := hX
  have hnt := hP.2 ax (by omega) (by omega)
  have h10 := h.1.2.1
  intro fuel
  induction fuel with
  | zero => intro n a1 a2; omega
  | succ fuel ih =>
    intro n a1 a2
    show f_X3_findUnit_b12 (f_X3_findUnit_L12 fuel) (Sx I (jun J (un1 A ax n)) b c) 44 o (iW (n + 1)) = _
    by_cases hk : (n : Int) = nt A ax
    · have n0 : nt A ax < (n : Int) + 1 := by omega
      have hL := e_unit55 (J := J) (b := b) (c := c) h hact FU 0 (by have := hA.1; unfold FU; omega) (by have := hA.1; omega)
      have hL : f_X3_findUnit_L55 FU (Sx I (jun J (un1 A ax (nt A ax).toNat)) b c) 44 o (iW 0) = _ := hL
      rw [show (nt A ax).toNat = n by omega] at hL
      simp (disch := first | assumption | omega) only [f_X3_findUnit_b12, ↓rcL, ↓gIL_0, ↓gIL_10, ↓gIL_11, ↓gIL_12, ↓gIL_13, ↓gIL_14, ↓gIL_15, ↓pIL_0, ↓pIL_10, ↓pIL_11, ↓pIL_12, ↓pIL_13, ↓pIL_14, ↓pIL_15, ↓gRL_1, ↓gRL_2, ↓gRL_3, ↓gRL_4, ↓gRL_5, ↓gRL_6, ↓gRL_7, ↓gRL_8, ↓gRL_9, ↓aIL1, ↓sZL1, ↓lnL1, ↓aIL2, ↓sIL2, ↓lnL2, ↓aIL3, ↓sIL3, ↓lnL3, ↓aIL4, ↓sIL4, ↓lnL4, ↓aIL5, ↓sIL5, ↓lnL5, ↓aIL6, ↓sIL6, ↓lnL6, ↓aIL7, ↓sIL7, ↓lnL7, ↓rc44, ↓gJ44_2, ↓gJ44_3, ↓gJ44_4, ↓gJ44_5, ↓pJ44_2, ↓pJ44_3, ↓pJ44_4, ↓pJ44_5, ↓gR44_0, ↓gR44_1, ↓aI45, ↓sZ45, ↓ln45, ↓aJ46, ↓sJ46, ↓c_I, ↓c_J, ↓c_Q, ↓c_V, ↓c_It, ↓c_Jt, ↓c_Vt, ↓k_I, ↓k_J, ↓n_I, ↓n_V, li0, li1, li2, li3, li4, li5, li6, li7, li8, li9, li10, li11, li12, li13, li14, li15, li16, li17, li18, li19, li20, li21, li22, li23, li24, li25, li26, li27, li28, li29, li30, li31, li32, li33, li34, li35, li36, li37, li38, li39, li40, li41, li42, li44, li48, li57, li63, li64, li65, li97, li99, li100, li101, li102, li104, li105, li106, li109, li114, li120, li128, li130, li300, li514, li999, li1000, li8192, li9999, li65536, li1000000, li1000001, li1000002, li1000003, li1000004, li1000005, li1000006, li1000007, li1000008, li1000009, li1000010, li1000011, li1000012, li1000013, li1000014, li1000015, li1000016, li1000017, li1000018, li1000019, li2147483647, lj0, lj1, W_add, W_sub, W_mul, W_neg, V_add, V_sub, V_mul, V_neg, W_ite, W_le, W_lt, W_inj, V_le, V_lt, V_inj, W_V, V_W, lgc_ge, lgc_gt, lgc_le, lgc_lt, lgc_eq, ge_iff_le, gt_iff_lt, h10, n0, hL, ↓reduceIte]
    · have n1 : ¬ (nt A ax < (n : Int) + 1) := by omega
      have hc : ((n + 1 : Nat) : Int) = (n : Int) + 1 := by omega
      have hnext := ih (n + 1) (by omega) (by omega)
      rw [hc] at hnext
      have hub := un1_bd hA hP (ax := ax) (by omega) (by omega) n
      have ak := hact ((n : Int) + 1) (by omega) (by omega)
      have gk := h.2 ((n : Int) + 1) (by omega) (by omega)
      have gb := (grw_bd hA hP (ax := ax) (by omega) (by omega) ((n : Int) + 1)).1
      have tb := (tpt_ok hA (ax := ax) (k := (n : Int) + 1) (by omega) (by omega) (by omega)).2.2.2.1
      have hu : un1 A ax (n + 1) = cif (flx A ax (n + 1)) (ru (un1 A ax n) (grw A ax (n + 1)) (tpt A ax (n + 1) 3)) (un1 A ax n) := rfl
      by_cases q : flx A ax ((n : Int) + 1)
      · rw [bb_pos q] at ak
        rw [cif_pos q] at hu
        rw [hu] at hnext
        have e3 := e_part (J := jun J (un1 A ax n)) (b := b) (c := c) h.1.1 (k := (n : Int) + 1) (p := 3) (by omega) (by omega) (by omega) (by omega)
        have er := e_raiseUnit (I := I) (J := J) (b := b) (c := c) (t := grw A ax (n + 1)) (u := tpt A ax (n + 1) 3) hub (by omega) (by omega) (by omega) (by omega)
        simp (disch := first | assumption | omega) only [f_X3_findUnit_b12, f_X3_findUnit_b47, ↓rcL, ↓gIL_0, ↓gIL_10, ↓gIL_11, ↓gIL_12, ↓gIL_13, ↓gIL_14, ↓gIL_15, ↓pIL_0, ↓pIL_10, ↓pIL_11, ↓pIL_12, ↓pIL_13, ↓pIL_14, ↓pIL_15, ↓gRL_1, ↓gRL_2, ↓gRL_3, ↓gRL_4, ↓gRL_5, ↓gRL_6, ↓gRL_7, ↓gRL_8, ↓gRL_9, ↓aIL1, ↓sZL1, ↓lnL1, ↓aIL2, ↓sIL2, ↓lnL2, ↓aIL3, ↓sIL3, ↓lnL3, ↓aIL4, ↓sIL4, ↓lnL4, ↓aIL5, ↓sIL5, ↓lnL5, ↓aIL6, ↓sIL6, ↓lnL6, ↓aIL7, ↓sIL7, ↓lnL7, ↓rc44, ↓gJ44_2, ↓gJ44_3, ↓gJ44_4, ↓gJ44_5, ↓pJ44_2, ↓pJ44_3, ↓pJ44_4, ↓pJ44_5, ↓gR44_0, ↓gR44_1, ↓aI45, ↓sZ45, ↓ln45, ↓aJ46, ↓sJ46, ↓c_I, ↓c_J, ↓c_Q, ↓c_V, ↓c_It, ↓c_Jt, ↓c_Vt, ↓k_I, ↓k_J, ↓n_I, ↓n_V, li0, li1, li2, li3, li4, li5, li6, li7, li8, li9, li10, li11, li12, li13, li14, li15, li16, li17, li18, li19, li20, li21, li22, li23, li24, li25, li26, li27, li28, li29, li30, li31, li32, li33, li34, li35, li36, li37, li38, li39, li40, li41, li42, li44, li48, li57, li63, li64, li65, li97, li99, li100, li101, li102, li104, li105, li106, li109, li114, li120, li128, li130, li300, li514, li999, li1000, li8192, li9999, li65536, li1000000, li1000001, li1000002, li1000003, li1000004, li1000005, li1000006, li1000007, li1000008, li1000009, li1000010, li1000011, li1000012, li1000013, li1000014, li1000015, li1000016, li1000017, li1000018, li1000019, li2147483647, lj0, lj1, W_add, W_sub, W_mul, W_neg, V_add, V_sub, V_mul, V_neg, W_ite, W_le, W_lt, W_inj, V_le, V_lt, V_inj, W_V, V_W, lgc_ge, lgc_gt, lgc_le, lgc_lt, lgc_eq, ge_iff_le, gt_iff_lt, h10, n1, ak, gk, e3, er, Int.reduceEq, ↓reduceIte]
        exact hnext
      · rw [bb_neg q] at ak
        rw [cif_neg q] at hu
        rw [hu] at hnext
        simp (disch := first | assumption | omega) only [f_X3_findUnit_b12, f_X3_findUnit_b47, ↓rcL, ↓gIL_0, ↓gIL_10, ↓gIL_11, ↓gIL_12, ↓gIL_13, ↓gIL_14, ↓gIL_15, ↓pIL_0, ↓pIL_10, ↓pIL_11, ↓pIL_12, ↓pIL_13, ↓pIL_14, ↓pIL_15, ↓gRL_1, ↓gRL_2, ↓gRL_3, ↓gRL_4, ↓gRL_5, ↓gRL_6, ↓gRL_7, ↓gRL_8, ↓gRL_9, ↓aIL1, ↓sZL1, ↓lnL1, ↓aIL2, ↓sIL2, ↓lnL2, ↓aIL3, ↓sIL3, ↓lnL3, ↓aIL4, ↓sIL4, ↓lnL4, ↓aIL5, ↓sIL5, ↓lnL5, ↓aIL6, ↓sIL6, ↓lnL6, ↓aIL7, ↓sIL7, ↓lnL7, ↓rc44, ↓gJ44_2, ↓gJ44_3, ↓gJ44_4, ↓gJ44_5, ↓pJ44_2, ↓pJ44_3, ↓pJ44_4, ↓pJ44_5, ↓gR44_0, ↓gR44_1, ↓aI45, ↓sZ45, ↓ln45, ↓aJ46, ↓sJ46, ↓c_I, ↓c_J, ↓c_Q, ↓c_V, ↓c_It, ↓c_Jt, ↓c_Vt, ↓k_I, ↓k_J, ↓n_I, ↓n_V, li0, li1, li2, li3, li4, li5, li6, li7, li8, li9, li10, li11, li12, li13, li14, li15, li16, li17, li18, li19, li20, li21, li22, li23, li24, li25, li26, li27, li28, li29, li30, li31, li32, li33, li34, li35, li36, li37, li38, li39, li40, li41, li42, li44, li48, li57, li63, li64, li65, li97, li99, li100, li101, li102, li104, li105, li106, li109, li114, li120, li128, li130, li300, li514, li999, li1000, li8192, li9999, li65536, li1000000, li1000001, li1000002, li1000003, li1000004, li1000005, li1000006, li1000007, li1000008, li1000009, li1000010, li1000011, li1000012, li1000013, li1000014, li1000015, li1000016, li1000017, li1000018, li1000019, li2147483647, lj0, lj1, W_add, W_sub, W_mul, W_neg, V_add, V_sub, V_mul, V_neg, W_ite, W_le, W_lt, W_inj, V_le, V_lt, V_inj, W_V, V_W, lgc_ge, lgc_gt, lgc_le, lgc_lt, lgc_eq, ge_iff_le, gt_iff_lt, h10, n1, ak, ↓reduceIte]
        exact hnext
theorem e_unit {I J : CF} (h : FX I A o ax) (hact : ∀ k, 1 ≤ k → k ≤ nt A ax → I 45 k = bb (flx A ax k)) : f_X3_findUnit (Sx I J b c) 44 o = some (Sx I (jun J (unt A ax)) b c, xv) := by
  have hnt := h.1.1.2.2.2.2.1.2 ax (by have := h.1.1.2.1; omega) (by have := h.1.1.2.1; omega)
  have hL := e_unit12 (J := J) (b := b) (c := c) h hact FU 0 (by unfold FU; omega) (by omega)
  have hL : f_X3_findUnit_L12 FU (Sx I (uI (uI J 44 4 0) 44 5 1) b c) 44 o (iW 1) = _ := hL
  have ho := h.1.1.1
  simp (disch := first | assumption | omega) only [f_X3_findUnit, ↓rcL, ↓gIL_0, ↓gIL_10, ↓gIL_11, ↓gIL_12, ↓gIL_13, ↓gIL_14, ↓gIL_15, ↓pIL_0, ↓pIL_10, ↓pIL_11, ↓pIL_12, ↓pIL_13, ↓pIL_14, ↓pIL_15, ↓gRL_1, ↓gRL_2, ↓gRL_3, ↓gRL_4, ↓gRL_5, ↓gRL_6, ↓gRL_7, ↓gRL_8, ↓gRL_9, ↓aIL1, ↓sZL1, ↓lnL1, ↓aIL2, ↓sIL2, ↓lnL2, ↓aIL3, ↓sIL3, ↓lnL3, ↓aIL4, ↓sIL4, ↓lnL4, ↓aIL5, ↓sIL5, ↓lnL5, ↓aIL6, ↓sIL6, ↓lnL6, ↓aIL7, ↓sIL7, ↓lnL7, ↓rc44, ↓gJ44_2, ↓gJ44_3, ↓gJ44_4, ↓gJ44_5, ↓pJ44_2, ↓pJ44_3, ↓pJ44_4, ↓pJ44_5, ↓gR44_0, ↓gR44_1, ↓aI45, ↓sZ45, ↓ln45, ↓aJ46, ↓sJ46, ↓c_I, ↓c_J, ↓c_Q, ↓c_V, ↓c_It, ↓c_Jt, ↓c_Vt, ↓k_I, ↓k_J, ↓n_I, ↓n_V, li0, li1, li2, li3, li4, li5, li6, li7, li8, li9, li10, li11, li12, li13, li14, li15, li16, li17, li18, li19, li20, li21, li22, li23, li24, li25, li26, li27, li28, li29, li30, li31, li32, li33, li34, li35, li36, li37, li38, li39, li40, li41, li42, li44, li48, li57, li63, li64, li65, li97, li99, li100, li101, li102, li104, li105, li106, li109, li114, li120, li128, li130, li300, li514, li999, li1000, li8192, li9999, li65536, li1000000, li1000001, li1000002, li1000003, li1000004, li1000005, li1000006, li1000007, li1000008, li1000009, li1000010, li1000011, li1000012, li1000013, li1000014, li1000015, li1000016, li1000017, li1000018, li1000019, li2147483647, lj0, lj1, W_add, W_sub, W_mul, W_neg, V_add, V_sub, V_mul, V_neg, W_ite, W_le, W_lt, W_inj, V_le, V_lt, V_inj, W_V, V_W, lgc_ge, lgc_gt, lgc_le, lgc_lt, lgc_eq, ge_iff_le, gt_iff_lt]
  exact hL
theorem e_byUnit_L {J : CF} (h4 : J 44 4 = (unt A ax).1) (h5 : J 44 5 = (unt A ax).2) {I0 : CF} : ∀ (fuel : Nat) (k : Int) (I : CF), nt A ax - k + 1 < fuel → 1 ≤ k → k ≤ nt A ax + 1 → FX I A o ax → (∀ k, 1 ≤ k → k ≤ nt A ax → I 45 k = bb (flx A ax k)) → (∀ j, 0 ≤ j → j < 65 → I (o + 5) j = if j < k then shu A ax j else grw A ax j) → (∀ a : Int, a ≠ o + 5 → I a = I0 a) →
    ∃ I', f_X3_shareByUnit_L12 fuel (Sx I J b c) 44 o (iW k) = some (Sx I' J b c, xv) ∧ (∀ j, 0 ≤ j → j < 65 → I' (o + 5) j = shu A ax j) ∧ ∀ a : Int, a ≠ o + 5 → I' a = I0 a := by
  intro fuel
  induction fuel with
  | zero => intro k I a1 a2 a3; omega
  | succ fuel ih =>
    intro k I a1 a2 a3 h hact hI hIo
    show ∃ I', f_X3_shareByUnit_b12 (f_X3_shareByUnit_L12 fuel) (Sx I J b c) 44 o (iW k) = _ ∧ _
    have hX := h.1.1
    obtain ⟨ho, hx, h1, hA, hP, hM, hR⟩ := hX
    have hob := isL_bd ho
    have hnt := hP.2 ax (by omega) (by omega)
    have h10 := h.1.2.1
    have ub := unt_bd hA hP (ax := ax) (by omega) (by omega)
    by_cases hk : k = nt A ax + 1
    · have n0 : nt A ax < k := by omega
      refine ⟨I, ?_, fun j j0 j1 => ?_, hIo⟩
      · simp (disch := first | assumption | omega) only [f_X3_shareByUnit_b12, ↓rcL, ↓gIL_0, ↓gIL_10, ↓gIL_11, ↓gIL_12, ↓gIL_13, ↓gIL_14, ↓gIL_15, ↓pIL_0, ↓pIL_10, ↓pIL_11, ↓pIL_12, ↓pIL_13, ↓pIL_14, ↓pIL_15, ↓gRL_1, ↓gRL_2, ↓gRL_3, ↓gRL_4, ↓gRL_5, ↓gRL_6, ↓gRL_7, ↓gRL_8, ↓gRL_9, ↓aIL1, ↓sZL1, ↓lnL1, ↓aIL2, ↓sIL2, ↓lnL2, ↓aIL3, ↓sIL3, ↓lnL3, ↓aIL4, ↓sIL4, ↓lnL4, ↓aIL5, ↓sIL5, ↓lnL5, ↓aIL6, ↓sIL6, ↓lnL6, ↓aIL7, ↓sIL7, ↓lnL7, ↓rc44, ↓gJ44_2, ↓gJ44_3, ↓gJ44_4, ↓gJ44_5, ↓pJ44_2, ↓pJ44_3, ↓pJ44_4, ↓pJ44_5, ↓gR44_0, ↓gR44_1, ↓aI45, ↓sZ45, ↓ln45, ↓aJ46, ↓sJ46, ↓c_I, ↓c_J, ↓c_Q, ↓c_V, ↓c_It, ↓c_Jt, ↓c_Vt, ↓k_I, ↓k_J, ↓n_I, ↓n_V, li0, li1, li2, li3, li4, li5, li6, li7, li8, li9, li10, li11, li12, li13, li14, li15, li16, li17, li18, li19, li20, li21, li22, li23, li24, li25, li26, li27, li28, li29, li30, li31, li32, li33, li34, li35, li36, li37, li38, li39, li40, li41, li42, li44, li48, li57, li63, li64, li65, li97, li99, li100, li101, li102, li104, li105, li106, li109, li114, li120, li128, li130, li300, li514, li999, li1000, li8192, li9999, li65536, li1000000, li1000001, li1000002, li1000003, li1000004, li1000005, li1000006, li1000007, li1000008, li1000009, li1000010, li1000011, li1000012, li1000013, li1000014, li1000015, li1000016, li1000017, li1000018, li1000019, li2147483647, lj0, lj1, W_add, W_sub, W_mul, W_neg, V_add, V_sub, V_mul, V_neg, W_ite, W_le, W_lt, W_inj, V_le, V_lt, V_inj, W_V, V_W, lgc_ge, lgc_gt, lgc_le, lgc_lt, lgc_eq, ge_iff_le, gt_iff_lt, h10, n0, ↓reduceIte]
      · rw [hI j j0 j1]
        by_cases e : j < k
        · rw [if_pos e]
        · rw [if_neg e]
          exact (cif_neg (fun z => by have := z.1.1; omega)).symm
    · have n1 : ¬ (nt A ax < k) := by omega
      have ak := hact k (by omega) (by omega)
      have gk := h.2 k (by omega) (by omega)
      have gb := (grw_bd hA hP (ax := ax) (by omega) (by omega) k).1
      have tb := (tpt_ok hA (ax := ax) (k := k) (by omega) (by omega) (by omega)).2.2.2.1
      by_cases q : flx A ax k
      · rw [bb_pos q] at ak
        have e3 := e_part (J := J) (b := b) (c := c) h.1.1 (k := k) (p := 3) (by omega) (by omega) (by omega) (by omega)
        have sb := (shu_bd hA hP (ax := ax) (by omega) (by omega) k).2.2 a2
        have m := mul_bd (a := tpt A ax k 3) (b := (unt A ax).1) (A := 999) (B := 11000) tb.1 tb.2 ub.1 ub.2.1
        have hne : (unt A ax).2 ≠ 0 := by omega
        obtain ⟨I', k1, k2⟩ := ih (k + 1) (uI I (o + 5) k (max (grw A ax k) ((tpt A ax k 3 * (unt A ax).1 + (unt A ax).2 - 1).tdiv (unt A ax).2))) (by omega) (by omega) (by omega) (h.fr fun a ha ha' => u_obj ha') (by rw [u_obj (by omega)]; exact hact) (fun j j0 j1 => by
          rw [u_at]
          by_cases e : j = k
          · rw [if_pos e, if_pos (by omega), e]
            exact (cif_pos q).symm
          · rw [if_neg e, hI j j0 j1]
            by_cases e2 : j < k
            · rw [if_pos e2, if_pos (by omega)]
            · rw [if_neg e2, if_neg (by omega)]) (fun a ha => by rw [u_obj ha]; exact hIo a ha)
        refine ⟨I', ?_, k2⟩
        rw [← k1]
        have hmax : (if grw A ax k < (tpt A ax k 3 * (unt A ax).1 + (unt A ax).2 - 1).tdiv (unt A ax).2 then (tpt A ax k 3 * (unt A ax).1 + (unt A ax).2 - 1).tdiv (unt A ax).2 else grw A ax k) = max (grw A ax k) ((tpt A ax k 3 * (unt A ax).1 + (unt A ax).2 - 1).tdiv (unt A ax).2) := by split <;> omega
        simp (disch := first | assumption | omega) only [f_X3_shareByUnit_b12, f_X3_shareByUnit_b75, ↓rcL, ↓gIL_0, ↓gIL_10, ↓gIL_11, ↓gIL_12, ↓gIL_13, ↓gIL_14, ↓gIL_15, ↓pIL_0, ↓pIL_10, ↓pIL_11, ↓pIL_12, ↓pIL_13, ↓pIL_14, ↓pIL_15, ↓gRL_1, ↓gRL_2, ↓gRL_3, ↓gRL_4, ↓gRL_5, ↓gRL_6, ↓gRL_7, ↓gRL_8, ↓gRL_9, ↓aIL1, ↓sZL1, ↓lnL1, ↓aIL2, ↓sIL2, ↓lnL2, ↓aIL3, ↓sIL3, ↓lnL3, ↓aIL4, ↓sIL4, ↓lnL4, ↓aIL5, ↓sIL5, ↓lnL5, ↓aIL6, ↓sIL6, ↓lnL6, ↓aIL7, ↓sIL7, ↓lnL7, ↓rc44, ↓gJ44_2, ↓gJ44_3, ↓gJ44_4, ↓gJ44_5, ↓pJ44_2, ↓pJ44_3, ↓pJ44_4, ↓pJ44_5, ↓gR44_0, ↓gR44_1, ↓aI45, ↓sZ45, ↓ln45, ↓aJ46, ↓sJ46, ↓c_I, ↓c_J, ↓c_Q, ↓c_V, ↓c_It, ↓c_Jt, ↓c_Vt, ↓k_I, ↓k_J, ↓n_I, ↓n_V, li0, li1, li2, li3, li4, li5, li6, li7, li8, li9, li10, li11, li12, li13, li14, li15, li16, li17, li18, li19, li20, li21, li22, li23, li24, li25, li26, li27, li28, li29, li30, li31, li32, li33, li34, li35, li36, li37, li38, li39, li40, li41, li42, li44, li48, li57, li63, li64, li65, li97, li99, li100, li101, li102, li104, li105, li106, li109, li114, li120, li128, li130, li300, li514, li999, li1000, li8192, li9999, li65536, li1000000, li1000001, li1000002, li1000003, li1000004, li1000005, li1000006, li1000007, li1000008, li1000009, li1000010, li1000011, li1000012, li1000013, li1000014, li1000015, li1000016, li1000017, li1000018, li1000019, li2147483647, lj0, lj1, W_add, W_sub, W_mul, W_neg, V_add, V_sub, V_mul, V_neg, W_ite, W_le, W_lt, W_inj, V_le, V_lt, V_inj, W_V, V_W, lgc_ge, lgc_gt, lgc_le, lgc_lt, lgc_eq, ge_iff_le, gt_iff_lt, h10, n1, ak, gk, e3, h4, h5, V_d, V_div, hmax, Int.reduceEq, ↓reduceIte]
      · rw [bb_neg q] at ak
        obtain ⟨I', k1, k2⟩ := ih (k + 1) I (by omega) (by omega) (by omega) h hact (fun j j0 j1 => by
          rw [hI j j0 j1]
          by_cases e : j = k
          · rw [if_neg (by omega), if_pos (by omega), e]
            exact (cif_neg q).symm
          · by_cases e2 : j < k
            · rw [if_pos e2, if_pos (by omega)]
            · rw [if_neg e2, if_neg (by omega)]) hIo
        refine ⟨I', ?_, k2⟩
        rw [← k1]
        simp (disch := first | assumption | omega) only [f_X3_shareByUnit_b12, f_X3_shareByUnit_b75, ↓rcL, ↓gIL_0, ↓gIL_10, ↓gIL_11, ↓gIL_12, ↓gIL_13, ↓gIL_14, ↓gIL_15, ↓pIL_0, ↓pIL_10, ↓pIL_11, ↓pIL_12, ↓pIL_13, ↓pIL_14, ↓pIL_15, ↓gRL_1, ↓gRL_2, ↓gRL_3, ↓gRL_4, ↓gRL_5, ↓gRL_6, ↓gRL_7, ↓gRL_8, ↓gRL_9, ↓aIL1, ↓sZL1, ↓lnL1, ↓aIL2, ↓sIL2, ↓lnL2, ↓aIL3, ↓sIL3, ↓lnL3, ↓aIL4, ↓sIL4, ↓lnL4, ↓aIL5, ↓sIL5, ↓lnL5, ↓aIL6, ↓sIL6, ↓lnL6, ↓aIL7, ↓sIL7, ↓lnL7, ↓rc44, ↓gJ44_2, ↓gJ44_3, ↓gJ44_4, ↓gJ44_5, ↓pJ44_2, ↓pJ44_3, ↓pJ44_4, ↓pJ44_5, ↓gR44_0, ↓gR44_1, ↓aI45, ↓sZ45, ↓ln45, ↓aJ46, ↓sJ46, ↓c_I, ↓c_J, ↓c_Q, ↓c_V, ↓c_It, ↓c_Jt, ↓c_Vt, ↓k_I, ↓k_J, ↓n_I, ↓n_V, li0, li1, li2, li3, li4, li5, li6, li7, li8, li9, li10, li11, li12, li13, li14, li15, li16, li17, li18, li19, li20, li21, li22, li23, li24, li25, li26, li27, li28, li29, li30, li31, li32, li33, li34, li35, li36, li37, li38, li39, li40, li41, li42, li44, li48, li57, li63, li64, li65, li97, li99, li100, li101, li102, li104, li105, li106, li109, li114, li120, li128, li130, li300, li514, li999, li1000, li8192, li9999, li65536, li1000000, li1000001, li1000002, li1000003, li1000004, li1000005, li1000006, li1000007, li1000008, li1000009, li1000010, li1000011, li1000012, li1000013, li1000014, li1000015, li1000016, li1000017, li1000018, li1000019, li2147483647, lj0, lj1, W_add, W_sub, W_mul, W_neg, V_add, V_sub, V_mul, V_neg, W_ite, W_le, W_lt, W_inj, V_le, V_lt, V_inj, W_V, V_W, lgc_ge, lgc_gt, lgc_le, lgc_lt, lgc_eq, ge_iff_le, gt_iff_lt, h10, n1, ak, ↓reduceIte]
theorem e_byUnit {I J : CF} (h4 : J 44 4 = (unt A ax).1) (h5 : J 44 5 = (unt A ax).2) (h : FX I A o ax) (hact : ∀ k, 1 ≤ k → k ≤ nt A ax → I 45 k = bb (flx A ax k)) (hI : ∀ j, 0 ≤ j → j < 65 → I (o + 5) j = grw A ax j) : ∃ I', f_X3_shareByUnit (Sx I J b c) 44 o = some (Sx I' J b c, xv) ∧ (∀ j, 0 ≤ j → j < 65 → I' (o + 5) j = shu A ax j) ∧ ∀ a : Int, a ≠ o + 5 → I' a = I a := by
  have hX := h.1.1
  obtain ⟨ho, hx, h1, hA, hP, hM, hR⟩ := hX
  have hnt := hP.2 ax (by omega) (by omega)
  have ub := unt_bd hA hP (ax := ax) (by omega) (by omega)
  obtain ⟨I', k1, k2⟩ := e_byUnit_L (b := b) (c := c) (o := o) h4 h5 (I0 := I) FU 1 I (by unfold FU; omega) (by omega) (by omega) h hact (fun j j0 j1 => by
    rw [hI j j0 j1]
    by_cases e : j < 1
    · rw [if_pos e]
      exact (cif_neg (fun z => by have := z.1.1; omega)).symm
    · rw [if_neg e]) (fun _ _ => rfl)
  refine ⟨I', ?_, k2⟩
  rw [← k1]
  have n1 : 0 < (unt A ax).2 := by omega
  simp (disch := first | assumption | omega) only [f_X3_shareByUnit, ↓rcL, ↓gIL_0, ↓gIL_10, ↓gIL_11, ↓gIL_12, ↓gIL_13, ↓gIL_14, ↓gIL_15, ↓pIL_0, ↓pIL_10, ↓pIL_11, ↓pIL_12, ↓pIL_13, ↓pIL_14, ↓pIL_15, ↓gRL_1, ↓gRL_2, ↓gRL_3, ↓gRL_4, ↓gRL_5, ↓gRL_6, ↓gRL_7, ↓gRL_8, ↓gRL_9, ↓aIL1, ↓sZL1, ↓lnL1, ↓aIL2, ↓sIL2, ↓lnL2, ↓aIL3, ↓sIL3, ↓lnL3, ↓aIL4, ↓sIL4, ↓lnL4, ↓aIL5, ↓sIL5, ↓lnL5, ↓aIL6, ↓sIL6, ↓lnL6, ↓aIL7, ↓sIL7, ↓lnL7, ↓rc44, ↓gJ44_2, ↓gJ44_3, ↓gJ44_4, ↓gJ44_5, ↓pJ44_2, ↓pJ44_3, ↓pJ44_4, ↓pJ44_5, ↓gR44_0, ↓gR44_1, ↓aI45, ↓sZ45, ↓ln45, ↓aJ46, ↓sJ46, ↓c_I, ↓c_J, ↓c_Q, ↓c_V, ↓c_It, ↓c_Jt, ↓c_Vt, ↓k_I, ↓k_J, ↓n_I, ↓n_V, li0, li1, li2, li3, li4, li5, li6, li7, li8, li9, li10, li11, li12, li13, li14, li15, li16, li17, li18, li19, li20, li21, li22, li23, li24, li25, li26, li27, li28, li29, li30, li31, li32, li33, li34, li35, li36, li37, li38, li39, li40, li41, li42, li44, li48, li57, li63, li64, li65, li97, li99, li100, li101, li102, li104, li105, li106, li109, li114, li120, li128, li130, li300, li514, li999, li1000, li8192, li9999, li65536, li1000000, li1000001, li1000002, li1000003, li1000004, li1000005, li1000006, li1000007, li1000008, li1000009, li1000010, li1000011, li1000012, li1000013, li1000014, li1000015, li1000016, li1000017, li1000018, li1000019, li2147483647, lj0, lj1, W_add, W_sub, W_mul, W_neg, V_add, V_sub, V_mul, V_neg, W_ite, W_le, W_lt, W_inj, V_le, V_lt, V_inj, W_V, V_W, lgc_ge, lgc_gt, lgc_le, lgc_lt, lgc_eq, ge_iff_le, gt_iff_lt, h5, n1, ↓reduceIte]
end UnitE

/-! ===== THE PURE LEVEL: states as cells of integers; rows that turn reads and writes into reads and writes of the cells ===== -/
def iW (z : Int) : Int32 := Int32.ofInt z
def jV (z : Int) : Int64 := Int64.ofInt z
abbrev CF : Type := Int → Int → Int
def RW (b a k : Nat) : Option Nat := if a = 2 ∧ k = 0 then some b else cR wc412.2.2.1 a k
def Sx (I J : CF) (b : Nat) (c : Bool) : HP := (fun a k => iW (I (a : Int) (k : Int)), fun a k => jV (J (a : Int) (k : Int)), RW b, SHL, c)
def uI (I : CF) (a k v : Int) : CF := fun x y => if x = a ∧ y = k then v else I x y
def cpf (I : CF) (s sp d dp n : Int) : CF := fun x y => if x = d ∧ dp ≤ y ∧ y < dp + n then I s (sp + (y - dp)) else I x y
def Ret (r : Option XR) (Q : HP → XO → Prop) : Prop := ∃ h o, r = some (h, o) ∧ Q h o
theorem Ret_some {h : HP} {o : XO} {Q : HP → XO → Prop} : Ret (some (h, o)) Q ↔ Q h o := by
  constructor
  · rintro ⟨h', o', e, q⟩
    cases e
    exact q
  · intro q
    exact ⟨h, o, rfl, q⟩
theorem Ret.mono {r : Option XR} {Q Q' : HP → XO → Prop} (h : Ret r Q) (hq : ∀ h o, Q h o → Q' h o) : Ret r Q' := by
  obtain ⟨a, b, c, d⟩ := h
  exact ⟨a, b, c, hq _ _ d⟩
/-! numbers -/
theorem W_inj {a b : Int} (a0 : -2147483648 ≤ a) (a1 : a ≤ 2147483647) (b0 : -2147483648 ≤ b) (b1 : b ≤ 2147483647) : (iW a = iW b) = (a = b) := by
  apply propext
  constructor
  · intro h
    have h2 := congrArg Int32.toInt h
    unfold iW at h2
    rwa [Int32.toInt_ofInt_of_le (by omega) (by omega), Int32.toInt_ofInt_of_le (by omega) (by omega)] at h2
  · rintro rfl
    rfl
theorem W_toInt {a : Int} (a0 : -2147483648 ≤ a) (a1 : a ≤ 2147483647) : (iW a).toInt = a := Int32.toInt_ofInt_of_le (by omega) (by omega)
theorem W_of (x : Int32) : x = iW x.toInt := (Int32.ofInt_toInt x).symm
theorem W_le {a b : Int} (a0 : -2147483648 ≤ a) (a1 : a ≤ 2147483647) (b0 : -2147483648 ≤ b) (b1 : b ≤ 2147483647) : (iW a ≤ iW b) = (a ≤ b) := by
  rw [Int32.le_iff_toInt_le, W_toInt a0 a1, W_toInt b0 b1]
theorem W_lt {a b : Int} (a0 : -2147483648 ≤ a) (a1 : a ≤ 2147483647) (b0 : -2147483648 ≤ b) (b1 : b ≤ 2147483647) : (iW a < iW b) = (a < b) := by
  rw [Int32.lt_iff_toInt_lt, W_toInt a0 a1, W_toInt b0 b1]
theorem W_add (a b : Int) : iW a + iW b = iW (a + b) := (Int32.ofInt_add a b).symm
theorem W_sub (a b : Int) : iW a - iW b = iW (a - b) := (Int32.ofInt_sub a b).symm
theorem W_mul (a b : Int) : iW a * iW b = iW (a * b) := (Int32.ofInt_mul a b).symm
theorem W_neg (a : Int) : -iW a = iW (-a) := (Int32.ofInt_neg a).symm
theorem W_ite (p : Prop) [Decidable p] (a b : Int) : (if p then iW a else iW b) = iW (if p then a else b) := by
  split <;> rfl
theorem W_clamp {a : Int} (a0 : 0 ≤ a) (a1 : a ≤ 2147483647) : (iW a).toNatClampNeg = a.toNat := by
  have h := W_toInt (a := a) (by omega) a1
  show (iW a).toInt.toNat = _
  rw [h]
theorem W_ofNat (n : Nat) : Int32.ofNat n = iW n := rfl
theorem V_inj {a b : Int} (a0 : -9223372036854775808 ≤ a) (a1 : a ≤ 9223372036854775807) (b0 : -9223372036854775808 ≤ b) (b1 : b ≤ 9223372036854775807) : (jV a = jV b) = (a = b) := by
  apply propext
  constructor
  · intro h
    have h2 := congrArg Int64.toInt h
    unfold jV at h2
    rwa [Int64.toInt_ofInt_of_le (by omega) (by omega), Int64.toInt_ofInt_of_le (by omega) (by omega)] at h2
  · rintro rfl
    rfl
theorem V_toInt {a : Int} (a0 : -9223372036854775808 ≤ a) (a1 : a ≤ 9223372036854775807) : (jV a).toInt = a := Int64.toInt_ofInt_of_le (by omega) (by omega)
theorem V_of (x : Int64) : x = jV x.toInt := (Int64.ofInt_toInt x).symm
theorem V_le {a b : Int} (a0 : -9223372036854775808 ≤ a) (a1 : a ≤ 9223372036854775807) (b0 : -9223372036854775808 ≤ b) (b1 : b ≤ 9223372036854775807) : (jV a ≤ jV b) = (a ≤ b) := by
  rw [Int64.le_iff_toInt_le, V_toInt a0 a1, V_toInt b0 b1]
theorem V_lt {a b : Int} (a0 : -9223372036854775808 ≤ a) (a1 : a ≤ 9223372036854775807) (b0 : -9223372036854775808 ≤ b) (b1 : b ≤ 9223372036854775807) : (jV a < jV b) = (a < b) := by
  rw [Int64.lt_iff_toInt_lt, V_toInt a0 a1, V_toInt b0 b1]
theorem V_add (a b : Int) : jV a + jV b = jV (a + b) := (Int64.ofInt_add a b).symm
theorem V_sub (a b : Int) : jV a - jV b = jV (a - b) := (Int64.ofInt_sub a b).symm
theorem V_mul (a b : Int) : jV a * jV b = jV (a * b) := (Int64.ofInt_mul a b).symm
theorem V_neg (a : Int) : -jV a = jV (-a) := (Int64.ofInt_neg a).symm
theorem W_V {a : Int} (a0 : -2147483648 ≤ a) (a1 : a ≤ 2147483647) : (iW a).toInt64 = jV a := by
  apply Int64.toInt_inj.mp
  rw [Int32.toInt_toInt64, W_toInt a0 a1, V_toInt (by omega) (by omega)]
theorem V_W {a : Int} (a0 : -2147483648 ≤ a) (a1 : a ≤ 2147483647) : (jV a).toInt32 = iW a := by
  apply Int32.toInt_inj.mp
  rw [Int64.toInt_toInt32, V_toInt (by omega) (by omega), W_toInt a0 a1]
  exact Int.bmod_eq_of_le (by omega) (by omega)
theorem tdiv_range {a b : Int} {M : Int} (hM : 0 ≤ M) (a0 : -M ≤ a) (a1 : a ≤ M) : -M ≤ a.tdiv b ∧ a.tdiv b ≤ M := by
  have h1 : (a.tdiv b).natAbs ≤ a.natAbs := by
    rw [Int.natAbs_tdiv]
    exact Nat.div_le_self _ _
  omega
theorem V_div {a b : Int} (a0 : -9223372036854775807 ≤ a) (a1 : a ≤ 9223372036854775807) (b0 : -9223372036854775808 ≤ b) (b1 : b ≤ 9223372036854775807) : jV a / jV b = jV (a.tdiv b) := by
  apply Int64.toInt_inj.mp
  have h := tdiv_range (b := b) (M := 9223372036854775807) (by omega) a0 a1
  rw [Int64.toInt_div, V_toInt (by omega) (by omega), V_toInt b0 b1, V_toInt (by omega) (by omega)]
  exact Int.bmod_eq_of_le (by omega) (by omega)
theorem V_mod {a b : Int} (a0 : -9223372036854775807 ≤ a) (a1 : a ≤ 9223372036854775807) (b0 : -9223372036854775808 ≤ b) (b1 : b ≤ 9223372036854775807) : jV a % jV b = jV (a.tmod b) := by
  apply Int64.toInt_inj.mp
  have h : (a.tmod b).natAbs ≤ a.natAbs := by
    rw [Int.natAbs_tmod]
    exact Nat.mod_le _ _
  rw [Int64.toInt_mod, V_toInt (by omega) (by omega), V_toInt b0 b1, V_toInt (by omega) (by omega)]
theorem W_div {a b : Int} (a0 : -2147483647 ≤ a) (a1 : a ≤ 2147483647) (b0 : -2147483648 ≤ b) (b1 : b ≤ 2147483647) : iW a / iW b = iW (a.tdiv b) := by
  apply Int32.toInt_inj.mp
  have h := tdiv_range (b := b) (M := 2147483647) (by omega) a0 a1
  rw [Int32.toInt_div, W_toInt (by omega) (by omega), W_toInt b0 b1, W_toInt (by omega) (by omega)]
  exact Int.bmod_eq_of_le (by omega) (by omega)
theorem W_mod {a b : Int} (a0 : -2147483647 ≤ a) (a1 : a ≤ 2147483647) (b0 : -2147483648 ≤ b) (b1 : b ≤ 2147483647) : iW a % iW b = iW (a.tmod b) := by
  apply Int32.toInt_inj.mp
  have h : (a.tmod b).natAbs ≤ a.natAbs := by
    rw [Int.natAbs_tmod]
    exact Nat.mod_le _ _
  rw [Int32.toInt_mod, W_toInt (by omega) (by omega), W_toInt b0 b1, W_toInt (by omega) (by omega)]
theorem W_d {y : Int} {k : Option XR} (h0 : y ≠ 0) (a0 : -2147483648 ≤ y) (a1 : y ≤ 2147483647) : x_dI (iW y) k = k := by
  unfold x_dI
  rw [if_neg]
  intro h
  have h2 : iW y = iW 0 := h
  rw [W_inj a0 a1 (by omega) (by omega)] at h2
  exact h0 h2
theorem V_d {y : Int} {k : Option XR} (h0 : y ≠ 0) (a0 : -9223372036854775808 ≤ y) (a1 : y ≤ 9223372036854775807) : x_dJ (jV y) k = k := by
  unfold x_dJ
  rw [if_neg]
  intro h
  have h2 : jV y = jV 0 := h
  rw [V_inj a0 a1 (by omega) (by omega)] at h2
  exact h0 h2
theorem W_bool {v : Int} (hv : v = 0 ∨ v = 1) : iW v = 0 ∨ iW v = 1 := by
  rcases hv with rfl | rfl
  · exact Or.inl rfl
  · exact Or.inr rfl
/-! reads and writes -/
section RowsS
variable {I J : CF} {b : Nat} {c : Bool}
theorem g_I {a ci k : Nat} {f : Int32 → Option XR} (h : SHL[a]? = some (ci, 0)) : x_gI (Sx I J b c) a ci k f = f (iW (I a k)) := if_pos h
theorem g_J {a ci k : Nat} {f : Int64 → Option XR} (h : SHL[a]? = some (ci, 0)) : x_gJ (Sx I J b c) a ci k f = f (jV (J a k)) := if_pos h
theorem g_R {a ci k v : Nat} {f : Nat → Option XR} (h : SHL[a]? = some (ci, 0)) (hv : RW b a k = some v) : x_gR (Sx I J b c) a ci k f = f v := by
  unfold x_gR
  rw [if_pos (show (h_sh (Sx I J b c))[a]? = _ from h)]
  show (match RW b a k with | some b => f b | none => none) = _
  rw [hv]
theorem S_wI {a k : Nat} {v : Int} : h_wI (Sx I J b c) a k (iW v) = Sx (uI I a k v) J b c := by
  unfold h_wI Sx uI
  refine Prod.ext ?_ rfl
  funext x y
  show (if x = a ∧ y = k then iW v else iW (I x y)) = iW (if (x : Int) = a ∧ (y : Int) = k then v else I x y)
  by_cases hq : x = a ∧ y = k
  · rw [if_pos hq, if_pos (by omega)]
  · rw [if_neg hq, if_neg (by omega)]
theorem S_wJ {a k : Nat} {v : Int} : h_wJ (Sx I J b c) a k (jV v) = Sx I (uI J a k v) b c := by
  unfold h_wJ Sx uI
  refine Prod.ext rfl (Prod.ext ?_ rfl)
  funext x y
  show (if x = a ∧ y = k then jV v else jV (J x y)) = jV (if (x : Int) = a ∧ (y : Int) = k then v else J x y)
  by_cases hq : x = a ∧ y = k
  · rw [if_pos hq, if_pos (by omega)]
  · rw [if_neg hq, if_neg (by omega)]
theorem p_I {a ci k : Nat} {v : Int} {f : HP → Option XR} (h : SHL[a]? = some (ci, 0)) : x_pI (Sx I J b c) a ci k (iW v) f = f (Sx (uI I a k v) J b c) := by
  rw [← S_wI]
  exact if_pos h
theorem p_Z {a ci k : Nat} {v : Int} {f : HP → Option XR} (h : SHL[a]? = some (ci, 0)) (hv : v = 0 ∨ v = 1) : x_pZ (Sx I J b c) a ci k (iW v) f = f (Sx (uI I a k v) J b c) := by
  rw [← S_wI]
  exact if_pos ⟨h, W_bool hv⟩
theorem p_J {a ci k : Nat} {v : Int} {f : HP → Option XR} (h : SHL[a]? = some (ci, 0)) : x_pJ (Sx I J b c) a ci k (jV v) f = f (Sx I (uI J a k v) b c) := by
  rw [← S_wJ]
  exact if_pos h
theorem p_R {v : Nat} {f : HP → Option XR} : x_pR (Sx I J b c) 2 6 0 v f = f (Sx I J v c) := by
  unfold x_pR
  rw [if_pos (show (h_sh (Sx I J b c))[2]? = some (6, 0) from rfl)]
  have h : h_wR (Sx I J b c) 2 0 (some v) = Sx I J v c := by
    unfold h_wR Sx
    refine Prod.ext rfl (Prod.ext rfl (Prod.ext ?_ rfl))
    funext x y
    show (if x = 2 ∧ y = 0 then some v else RW b x y) = RW v x y
    unfold RW
    by_cases hq : x = 2 ∧ y = 0
    · rw [if_pos hq, if_pos hq]
    · rw [if_neg hq, if_neg hq, if_neg hq]
  rw [h]
theorem i_x {a kd n : Nat} {z : Int} (h : SHL[a]? = some (kd, n)) (h0 : 0 ≤ z) (h1 : z < n) (hn : n ≤ 1000) : x_ix (Sx I J b c) a kd (iW z) = true := by
  unfold x_ix
  rw [show (h_sh (Sx I J b c))[a]? = some (kd, n) from h]
  show ((kd == kd) && (decide (0 ≤ (iW z).toInt) && decide ((iW z).toInt < n))) = true
  rw [W_toInt (by omega) (by omega)]
  simp [h0, h1]
theorem a_I {a kd n : Nat} {z : Int} {f : Int32 → Option XR} (h : SHL[a]? = some (kd, n)) (hn : n ≤ 1000) (h0 : 0 ≤ z) (h1 : z < n) : x_aI (Sx I J b c) kd a (iW z) f = f (iW (I a z)) := by
  unfold x_aI
  rw [if_pos (i_x h h0 h1 hn), W_clamp h0 (by omega)]
  show f (iW (I a (z.toNat : Int))) = _
  rw [Int.toNat_of_nonneg h0]
theorem a_J {a n : Nat} {z : Int} {f : Int64 → Option XR} (h : SHL[a]? = some (103, n)) (hn : n ≤ 1000) (h0 : 0 ≤ z) (h1 : z < n) : x_aJ (Sx I J b c) a (iW z) f = f (jV (J a z)) := by
  unfold x_aJ
  rw [if_pos (i_x h h0 h1 hn), W_clamp h0 (by omega)]
  show f (jV (J a (z.toNat : Int))) = _
  rw [Int.toNat_of_nonneg h0]
theorem a_R {a kd n v : Nat} {z : Int} {f : Nat → Option XR} (h : SHL[a]? = some (kd, n)) (hn : n ≤ 1000) (h0 : 0 ≤ z) (h1 : z < n) (hv : RW b a z.toNat = some v) : x_aR (Sx I J b c) kd a (iW z) f = f v := by
  unfold x_aR
  rw [if_pos (i_x h h0 h1 hn), W_clamp h0 (by omega)]
  show (match RW b a z.toNat with | some b => f b | none => none) = _
  rw [hv]
theorem s_I {a n : Nat} {z v : Int} {f : HP → Option XR} (h : SHL[a]? = some (100, n)) (hn : n ≤ 1000) (h0 : 0 ≤ z) (h1 : z < n) : x_sI (Sx I J b c) a (iW z) (iW v) f = f (Sx (uI I a z v) J b c) := by
  unfold x_sI
  rw [if_pos (i_x h h0 h1 hn), W_clamp h0 (by omega), S_wI, Int.toNat_of_nonneg h0]
theorem s_Z {a n : Nat} {z v : Int} {f : HP → Option XR} (h : SHL[a]? = some (102, n)) (hn : n ≤ 1000) (h0 : 0 ≤ z) (h1 : z < n) (hv : v = 0 ∨ v = 1) : x_sZ (Sx I J b c) a (iW z) (iW v) f = f (Sx (uI I a z v) J b c) := by
  unfold x_sZ
  rw [if_pos ⟨i_x h h0 h1 hn, W_bool hv⟩, W_clamp h0 (by omega), S_wI, Int.toNat_of_nonneg h0]
theorem s_J {a n : Nat} {z v : Int} {f : HP → Option XR} (h : SHL[a]? = some (103, n)) (hn : n ≤ 1000) (h0 : 0 ≤ z) (h1 : z < n) : x_sJ (Sx I J b c) a (iW z) (jV v) f = f (Sx I (uI J a z v) b c) := by
  unfold x_sJ
  rw [if_pos (i_x h h0 h1 hn), W_clamp h0 (by omega), S_wJ, Int.toNat_of_nonneg h0]
theorem S_cp {s d : Nat} {sp dp n : Nat} : h_cp (Sx I J b c) s sp d dp n = Sx (cpf I s sp d dp n) J b c := by
  unfold h_cp Sx cpf
  refine Prod.ext ?_ rfl
  funext x y
  show (if x = d ∧ dp ≤ y ∧ y < dp + n then iW (I s ((sp + (y - dp) : Nat) : Int)) else iW (I x y)) = iW (if (x : Int) = d ∧ (dp : Int) ≤ y ∧ (y : Int) < dp + n then I s (sp + (y - dp)) else I x y)
  by_cases hq : x = d ∧ dp ≤ y ∧ y < dp + n
  · rw [if_pos hq, if_pos (by omega), show ((sp + (y - dp) : Nat) : Int) = (sp : Int) + ((y : Int) - dp) by omega]
  · rw [if_neg hq, if_neg (by omega)]
theorem c_p {s d n0 n1 : Nat} {sp dp n : Int} {f : HP → Option XR} (hs : SHL[s]? = some (100, n0)) (hd : SHL[d]? = some (100, n1)) (h0 : n0 ≤ 1000) (h1 : n1 ≤ 1000) (g0 : 0 ≤ sp) (g1 : 0 ≤ dp) (g2 : 0 ≤ n) (g3 : sp + n ≤ n0) (g4 : dp + n ≤ n1) : x_cp (Sx I J b c) s (iW sp) d (iW dp) (iW n) f = f (Sx (cpf I s sp d dp n) J b c) := by
  unfold x_cp
  have h : x_cpok (Sx I J b c) s d (iW sp) (iW dp) (iW n) = true := by
    unfold x_cpok
    rw [show (h_sh (Sx I J b c))[s]? = some (100, n0) from hs, show (h_sh (Sx I J b c))[d]? = some (100, n1) from hd]
    simp only [W_toInt (a := sp) (by omega) (by omega), W_toInt (a := dp) (by omega) (by omega), W_toInt (a := n) (by omega) (by omega)]
    simp [g0, g1, g2, g3, g4]
  rw [if_pos h, W_clamp g0 (by omega), W_clamp g1 (by omega), W_clamp g2 (by omega), S_cp, Int.toNat_of_nonneg g0, Int.toNat_of_nonneg g1, Int.toNat_of_nonneg g2]
theorem l_n {a kd n : Nat} {f : Int32 → Option XR} (h : SHL[a]? = some (kd, n)) (hk : 100 ≤ kd) : x_ln (Sx I J b c) a f = f (iW n) := by
  unfold x_ln
  rw [show (h_sh (Sx I J b c))[a]? = some (kd, n) from h]
  show (if 100 ≤ kd then f (Int32.ofNat n) else none) = _
  rw [if_pos hk]
  rfl
theorem r_c {a ci : Nat} {k : Option XR} (h : SHL[a]? = some (ci, 0)) : x_rc (Sx I J b c) a ci k = k := if_pos h
theorem r_Z {v : Int} {h : HP} (hv : v = 0 ∨ v = 1) : x_rZ h (iW v) = some (h, xi (iW v)) := by
  unfold x_rZ
  exact if_pos (W_bool hv)
end RowsS
theorem c_I {h : HP} {v : Int32} {f : HP → Int32 → Option XR} : x_cI (some (h, xi v)) f = f h v := Eq.symm (Eq.symm rfl)
theorem c_J {h : HP} {v : Int64} {f : HP → Int64 → Option XR} : x_cJ (some (h, xj v)) f = f h v := Eq.symm (Eq.symm rfl)
theorem c_Q {h : HP} {v : Nat} {f : HP → Nat → Option XR} : x_cQ (some (h, xq v)) f = f h v := Eq.symm (Eq.symm rfl)
theorem c_V {h : HP} {f : HP → Option XR} : x_cV (some (h, xv)) f = f h := Eq.symm (Eq.symm rfl)
theorem c_It {h : HP} {E : String} {f : HP → Int32 → Option XR} : x_cI (some (h, xt E)) f = some (h, xt E) := Eq.symm (Eq.symm rfl)
theorem c_Jt {h : HP} {E : String} {f : HP → Int64 → Option XR} : x_cJ (some (h, xt E)) f = some (h, xt E) := Eq.symm (Eq.symm rfl)
theorem c_Vt {h : HP} {E : String} {f : HP → Option XR} : x_cV (some (h, xt E)) f = some (h, xt E) := Eq.symm (Eq.symm rfl)
theorem n_I {h : HP} {v : Int32} {f : HP → Int32 → Option XR} : x_nI (some (h, xi v)) f = f h v := Eq.symm (Eq.symm rfl)
theorem n_V {h : HP} {f : HP → Option XR} : x_nV (some (h, xv)) f = f h := Eq.symm (Eq.symm rfl)
theorem k_I {v : Int32} {f : Int32 → Option XR} : x_lI v f = f v := Eq.symm (Eq.symm rfl)
theorem k_J {v : Int64} {f : Int64 → Option XR} : x_lJ v f = f v := Eq.symm (Eq.symm rfl)
theorem fits_C {v : Int} (h0 : 0 ≤ v) (h1 : v < 65536) : fits .char (.int (iW v)) = true := by
  show (decide (0 ≤ iW v) && decide (iW v ≤ 65535)) = true
  have a : (0 : Int32) ≤ iW v := by
    rw [Int32.le_iff_toInt_le, W_toInt (by omega) (by omega)]
    exact h0
  have b : iW v ≤ (65535 : Int32) := by
    rw [Int32.le_iff_toInt_le, W_toInt (by omega) (by omega)]
    show v ≤ 65535
    omega
  simp only [a, b, decide_true, Bool.and_self]
theorem r_C {v : Int} {h : HP} (h0 : 0 ≤ v) (h1 : v < 65536) : x_rC h (iW v) = some (h, xi (iW v)) := by
  unfold x_rC
  refine if_pos ?_
  exact fits_C h0 h1
theorem S_dirty {I J : CF} {b : Nat} {c : Bool} : h_dirty (Sx I J b c) = Sx I J b false := Eq.symm (Eq.symm rfl)
/-! the cells after a write -/
theorem u_eq {I : CF} {a k v : Int} : uI I a k v a k = v := if_pos ⟨rfl, rfl⟩
theorem u_obj {I : CF} {a k v x : Int} (h : x ≠ a) : uI I a k v x = I x := by
  funext y
  exact if_neg (fun q => h q.1)
theorem u_at {I : CF} {a k v y : Int} : uI I a k v a y = if y = k then v else I a y := by
  unfold uI
  by_cases h : y = k
  · rw [if_pos ⟨rfl, h⟩, if_pos h]
  · rw [if_neg (fun q => h q.2), if_neg h]
theorem u_ne {I : CF} {a k v y : Int} (h : y ≠ k) : uI I a k v a y = I a y := if_neg (fun q => h q.2)
theorem cp_obj {I : CF} {s sp d dp n x : Int} (h : x ≠ d) : cpf I s sp d dp n x = I x := by
  funext y
  exact if_neg (fun q => h q.1)
theorem cp_in {I : CF} {s sp d dp n y : Int} (h0 : dp ≤ y) (h1 : y < dp + n) : cpf I s sp d dp n d y = I s (sp + (y - dp)) := if_pos ⟨rfl, h0, h1⟩
theorem cp_out {I : CF} {s sp d dp n y : Int} (h : ¬ (dp ≤ y ∧ y < dp + n)) : cpf I s sp d dp n d y = I d y := if_neg (fun q => h q.2)
theorem lgc_ge (x y : Int64) : (iW 0 ≤ lg_cmp x y) = (y ≤ x) := propext (lg_cmp_ge x y)
theorem lgc_gt (x y : Int64) : (iW 0 < lg_cmp x y) = (y < x) := propext (lg_cmp_gt x y)
theorem lgc_le (x y : Int64) : (lg_cmp x y ≤ iW 0) = (x ≤ y) := propext (lg_cmp_le x y)
theorem lgc_lt (x y : Int64) : (lg_cmp x y < iW 0) = (x < y) := propext (lg_cmp_lt x y)
theorem lgc_eq (x y : Int64) : (lg_cmp x y = iW 0) = (x = y) := propext (lg_cmp_eq x y)

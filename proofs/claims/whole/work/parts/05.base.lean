/-! ===== THE HEAP AS FUNCTIONS: ints, longs, references by (object, place); the shapes; whether nothing but the world has been made ===== -/
abbrev HP : Type := (Nat → Nat → Int32) × (Nat → Nat → Int64) × (Nat → Nat → Option Nat) × List (Nat × Nat) × Bool
/-- how a method ends: the exception's class or none, the value or none -/
abbrev XO : Type := Option String × Option Value
abbrev XR : Type := HP × XO
abbrev h_sh (h : HP) : List (Nat × Nat) := h.2.2.2.1
def xv : XO := (none, none)
def xi (v : Int32) : XO := (none, some (.int v))
def xj (v : Int64) : XO := (none, some (.long v))
def xq (a : Nat) : XO := (none, some (.ref a))
def xt (E : String) : XO := (some E, none)
def h_wI (h : HP) (a k : Nat) (v : Int32) : HP := (fun x y => if x = a ∧ y = k then v else h.1 x y, h.2)
def h_wJ (h : HP) (a k : Nat) (v : Int64) : HP := (h.1, fun x y => if x = a ∧ y = k then v else h.2.1 x y, h.2.2)
def h_wR (h : HP) (a k : Nat) (v : Option Nat) : HP := (h.1, h.2.1, fun x y => if x = a ∧ y = k then v else h.2.2.1 x y, h.2.2.2)
def h_dirty (h : HP) : HP := (h.1, h.2.1, h.2.2.1, h.2.2.2.1, false)
def h_new (h : HP) (kd n : Nat) : HP := (fun x y => if x = (h_sh h).length then 0 else h.1 x y, fun x y => if x = (h_sh h).length then 0 else h.2.1 x y, fun x y => if x = (h_sh h).length then none else h.2.2.1 x y, h_sh h ++ [(kd, n)], h.2.2.2.2)
/-! what the instructions ask of the heap; kinds: an object of class ci is (ci, 0), an array of the type x_at t is (100 + t, its length) -/
def x_gI (h : HP) (a ci k : Nat) (f : Int32 → Option XR) : Option XR := if (h_sh h)[a]? = some (ci, 0) then f (h.1 a k) else none
def x_gJ (h : HP) (a ci k : Nat) (f : Int64 → Option XR) : Option XR := if (h_sh h)[a]? = some (ci, 0) then f (h.2.1 a k) else none
def x_gR (h : HP) (a ci k : Nat) (f : Nat → Option XR) : Option XR := if (h_sh h)[a]? = some (ci, 0) then (match h.2.2.1 a k with | some b => f b | none => none) else none
def x_pI (h : HP) (a ci k : Nat) (v : Int32) (f : HP → Option XR) : Option XR := if (h_sh h)[a]? = some (ci, 0) then f (h_wI h a k v) else none
def x_pZ (h : HP) (a ci k : Nat) (v : Int32) (f : HP → Option XR) : Option XR := if (h_sh h)[a]? = some (ci, 0) ∧ (v = 0 ∨ v = 1) then f (h_wI h a k v) else none
def x_pJ (h : HP) (a ci k : Nat) (v : Int64) (f : HP → Option XR) : Option XR := if (h_sh h)[a]? = some (ci, 0) then f (h_wJ h a k v) else none
def x_pR (h : HP) (a ci k : Nat) (v : Nat) (f : HP → Option XR) : Option XR := if (h_sh h)[a]? = some (ci, 0) then f (h_wR h a k (some v)) else none
def x_ix (h : HP) (a kd : Nat) (i : Int32) : Bool := match (h_sh h)[a]? with | some (q, n) => q == kd && (decide (0 ≤ i.toInt) && decide (i.toInt < n)) | none => false
def x_aI (h : HP) (kd a : Nat) (i : Int32) (f : Int32 → Option XR) : Option XR := if x_ix h a kd i = true then f (h.1 a i.toNatClampNeg) else none
def x_aJ (h : HP) (a : Nat) (i : Int32) (f : Int64 → Option XR) : Option XR := if x_ix h a 103 i = true then f (h.2.1 a i.toNatClampNeg) else none
def x_aR (h : HP) (kd a : Nat) (i : Int32) (f : Nat → Option XR) : Option XR := if x_ix h a kd i = true then (match h.2.2.1 a i.toNatClampNeg with | some b => f b | none => none) else none
def x_sI (h : HP) (a : Nat) (i v : Int32) (f : HP → Option XR) : Option XR := if x_ix h a 100 i = true then f (h_wI h a i.toNatClampNeg v) else none
def x_sZ (h : HP) (a : Nat) (i v : Int32) (f : HP → Option XR) : Option XR := if x_ix h a 102 i = true ∧ (v = 0 ∨ v = 1) then f (h_wI h a i.toNatClampNeg v) else none
def x_sC (h : HP) (a : Nat) (i v : Int32) (f : HP → Option XR) : Option XR := if x_ix h a 101 i = true ∧ fits .char (.int v) = true then f (h_wI h a i.toNatClampNeg v) else none
def x_sJ (h : HP) (a : Nat) (i : Int32) (v : Int64) (f : HP → Option XR) : Option XR := if x_ix h a 103 i = true then f (h_wJ h a i.toNatClampNeg v) else none
def x_sR (h : HP) (a : Nat) (i : Int32) (ci v : Nat) (f : HP → Option XR) : Option XR := if x_ix h a 104 i = true ∧ (h_sh h)[v]? = some (ci, 0) then f (h_wR h a i.toNatClampNeg (some v)) else none
def h_cp (h : HP) (src sp dst dp n : Nat) : HP := (fun x y => if x = dst ∧ dp ≤ y ∧ y < dp + n then h.1 src (sp + (y - dp)) else h.1 x y, h.2)
def x_cpok (h : HP) (src dst : Nat) (sp dp n : Int32) : Bool := match (h_sh h)[src]?, (h_sh h)[dst]? with
  | some (k0, n0), some (k1, n1) => (k0 == 100 && k1 == 100) && (decide (0 ≤ sp.toInt) && decide (0 ≤ dp.toInt) && decide (0 ≤ n.toInt) && decide (sp.toInt + n.toInt ≤ n0) && decide (dp.toInt + n.toInt ≤ n1))
  | _, _ => false
def x_cp (h : HP) (src : Nat) (sp : Int32) (dst : Nat) (dp n : Int32) (f : HP → Option XR) : Option XR := if x_cpok h src dst sp dp n = true then f (h_cp h src sp.toNatClampNeg dst dp.toNatClampNeg n.toNatClampNeg) else none
def x_ln (h : HP) (a : Nat) (f : Int32 → Option XR) : Option XR := match (h_sh h)[a]? with | some (kd, n) => if 100 ≤ kd then f (Int32.ofNat n) else none | none => none
def x_dI (y : Int32) (k : Option XR) : Option XR := if y = 0 then none else k
def x_dJ (y : Int64) (k : Option XR) : Option XR := if y = 0 then none else k
def x_no (h : HP) (ci : Nat) (f : HP → Nat → Option XR) : Option XR := if h.2.2.2.2 = true ∧ (h_sh h).length < 1000 then f (h_new h ci 0) (h_sh h).length else none
def x_na (h : HP) (t : Nat) (n : Int32) (f : HP → Nat → Option XR) : Option XR := if h.2.2.2.2 = true ∧ (h_sh h).length < 1000 ∧ 0 ≤ n.toInt ∧ n.toInt ≤ 400 then f (h_new h (100 + t) n.toNatClampNeg) (h_sh h).length else none
def x_rc (h : HP) (a ci : Nat) (k : Option XR) : Option XR := if (h_sh h)[a]? = some (ci, 0) then k else none
def x_rZ (h : HP) (v : Int32) : Option XR := if v = 0 ∨ v = 1 then some (h, xi v) else none
def x_rC (h : HP) (v : Int32) : Option XR := if fits .char (.int v) = true then some (h, xi v) else none
def x_cI (r : Option XR) (f : HP → Int32 → Option XR) : Option XR := match r with | some (h, (none, some (.int v))) => f h v | some (h, (some E, _)) => some (h, (some E, none)) | _ => none
def x_cJ (r : Option XR) (f : HP → Int64 → Option XR) : Option XR := match r with | some (h, (none, some (.long v))) => f h v | some (h, (some E, _)) => some (h, (some E, none)) | _ => none
def x_cQ (r : Option XR) (f : HP → Nat → Option XR) : Option XR := match r with | some (h, (none, some (.ref v))) => f h v | some (h, (some E, _)) => some (h, (some E, none)) | _ => none
def x_cV (r : Option XR) (f : HP → Option XR) : Option XR := match r with | some (h, (none, none)) => f h | some (h, (some E, _)) => some (h, (some E, none)) | _ => none
/-! what a callee's end gives -/
theorem x_cI_el {r : Option XR} {f : HP → Int32 → Option XR} {z : XR} (h : x_cI r f = some z) : (∃ h' v, r = some (h', (none, some (.int v))) ∧ f h' v = some z) ∨ ∃ h' E w, r = some (h', (some E, w)) ∧ z = (h', (some E, none)) := by
  unfold x_cI at h
  split at h
  · exact Or.inl ⟨_, _, rfl, h⟩
  · exact Or.inr ⟨_, _, _, rfl, (Option.some.inj h).symm⟩
  · cases h
theorem x_cJ_el {r : Option XR} {f : HP → Int64 → Option XR} {z : XR} (h : x_cJ r f = some z) : (∃ h' v, r = some (h', (none, some (.long v))) ∧ f h' v = some z) ∨ ∃ h' E w, r = some (h', (some E, w)) ∧ z = (h', (some E, none)) := by
  unfold x_cJ at h
  split at h
  · exact Or.inl ⟨_, _, rfl, h⟩
  · exact Or.inr ⟨_, _, _, rfl, (Option.some.inj h).symm⟩
  · cases h
theorem x_cQ_el {r : Option XR} {f : HP → Nat → Option XR} {z : XR} (h : x_cQ r f = some z) : (∃ h' v, r = some (h', (none, some (.ref v))) ∧ f h' v = some z) ∨ ∃ h' E w, r = some (h', (some E, w)) ∧ z = (h', (some E, none)) := by
  unfold x_cQ at h
  split at h
  · exact Or.inl ⟨_, _, rfl, h⟩
  · exact Or.inr ⟨_, _, _, rfl, (Option.some.inj h).symm⟩
  · cases h
theorem x_cV_el {r : Option XR} {f : HP → Option XR} {z : XR} (h : x_cV r f = some z) : (∃ h', r = some (h', (none, none)) ∧ f h' = some z) ∨ ∃ h' E w, r = some (h', (some E, w)) ∧ z = (h', (some E, none)) := by
  unfold x_cV at h
  split at h
  · exact Or.inl ⟨_, rfl, h⟩
  · exact Or.inr ⟨_, _, _, rfl, (Option.some.inj h).symm⟩
  · cases h
theorem x_if {c : Prop} [Decidable c] {α : Type} {a : Option α} {r : α} (h : (if c then a else none) = some r) : c ∧ a = some r := by
  by_cases q : c
  · rw [if_pos q] at h
    exact ⟨q, h⟩
  · rw [if_neg q] at h
    cases h
theorem x_pos {c : Prop} [Decidable c] {α : Type} {a b : Option α} {r : α} (q : c) (h : (if c then a else b) = some r) : a = some r := by rwa [if_pos q] at h
theorem x_neg {c : Prop} [Decidable c] {α : Type} {a b : Option α} {r : α} (q : ¬ c) (h : (if c then a else b) = some r) : b = some r := by rwa [if_neg q] at h
theorem x_ix_el {h : HP} {a kd : Nat} {i : Int32} (q : x_ix h a kd i = true) : ∃ n, (h_sh h)[a]? = some (kd, n) ∧ vp_in i n := by
  unfold x_ix at q
  split at q
  · next q1 n1 e =>
    simp only [Bool.and_eq_true, beq_iff_eq, decide_eq_true_eq] at q
    obtain ⟨rfl, h1, h2⟩ := q
    exact ⟨n1, e, vp_in_iff.mpr ⟨h1, h2⟩⟩
  · cases q
/-! ===== the machine's heap behind it ===== -/
/-- where the world begins; the classes' numbers and the places of their fields; the array classes; what lies before the world (0 the script, from 1 on the texts); the script -/
abbrev XE : Type := Nat × (Nat → ClassId) × (Nat → Nat → Nat) × (Nat → ClassId) × (Nat → Nat) × Nat × (Nat → Int32)
def xa (E : XE) (k : Nat) : Nat := if k < 1000000 then E.1 + k else E.2.2.2.2.1 (k - 1000000)
def xw (E : XE) (v : Value) : Value := match v with
  | .ref a => .ref (xa E a)
  | v => v
def x_A (E : XE) : Nat → Prop := fun q => E.1 ≤ q
def x_at (t : Nat) : FieldType := match t with
  | 0 => .int
  | 1 => .char
  | 2 => .boolean
  | 3 => .long
  | 4 => .object "GridEngine$Model"
  | 5 => .array .int
  | _ => .array (.array .int)
def x_tys (E : XE) : List (ClassId × FieldType) := [(E.2.2.2.1 0, x_at 0), (E.2.2.2.1 1, x_at 1), (E.2.2.2.1 2, x_at 2), (E.2.2.2.1 3, x_at 3), (E.2.2.2.1 4, x_at 4), (E.2.2.2.1 5, x_at 5), (E.2.2.2.1 6, x_at 6)]
def x_ty (ci : Nat) : Nat → FieldType := match ci with
  | 0 => tyX0
  | 1 => tyX1
  | 2 => tyX2
  | 3 => tyX3
  | 4 => tyX4
  | 5 => tyX5
  | 6 => tyX6
  | 7 => tyX7
  | _ => tyX8
def x_fv (E : XE) (h : HP) (a : Nat) (ty : FieldType) (k : Nat) : Value := match ty with
  | .long => .long (h.2.1 a k)
  | .object _ => va_rf ((h.2.2.1 a k).map (xa E))
  | .array _ => va_rf ((h.2.2.1 a k).map (xa E))
  | _ => .int (h.1 a k)
def x_cell (E : XE) (h : HP) (a kd n : Nat) (H : Heap) : Prop :=
  (∃ r : vw_C, vwCl[kd]? = some r ∧ t_OB (E.1 + a) (E.2.1 kd) r.2.2 (E.2.2.1 kd) H (fun k => x_fv E h a (x_ty kd k) k)) ∨
  (∃ t, kd = 100 + t ∧ t < 7 ∧ n < 2 ^ 31 ∧ H[E.1 + a]? = some (arrV (E.2.2.2.1 t) n (fun j => x_fv E h a (x_at t) j)))
def x_Rep (E : XE) (h : HP) (H : Heap) : Prop :=
  (∀ a kd n, (h_sh h)[a]? = some (kd, n) → x_cell E h a kd n H) ∧ E.1 + (h_sh h).length ≤ H.size ∧ (h_sh h).length ≤ 1000 ∧ (h.2.2.2.2 = true → H.size = E.1 + (h_sh h).length)
theorem xa_lt {E : XE} {k : Nat} (h : k < 1000000) : xa E k = E.1 + k := if_pos h
theorem x_lt {E : XE} {h : HP} {H : Heap} (hR : x_Rep E h H) {a : Nat} {q : Nat × Nat} (e : (h_sh h)[a]? = some q) : a < (h_sh h).length ∧ xa E a = E.1 + a := by
  have h1 : a < (h_sh h).length := (List.getElem?_eq_some_iff.mp e).1
  exact ⟨h1, xa_lt (by have := hR.2.2.1; omega)⟩
theorem x_obj {E : XE} {h : HP} {H : Heap} (hR : x_Rep E h H) {a ci : Nat} {n : Nat} {r : vw_C} (e : (h_sh h)[a]? = some (ci, n)) (hc : vwCl[ci]? = some r) : t_OB (xa E a) (E.2.1 ci) r.2.2 (E.2.2.1 ci) H (fun k => x_fv E h a (x_ty ci k) k) := by
  rw [(x_lt hR e).2]
  rcases hR.1 a ci n e with ⟨r', h1, h2⟩ | ⟨t, h1, h2, -⟩
  · cases h1.symm.trans hc
    exact h2
  · have : ci < 9 := (List.getElem?_eq_some_iff.mp hc).1
    omega
theorem x_arr {E : XE} {h : HP} {H : Heap} (hR : x_Rep E h H) {a t : Nat} {n : Nat} (e : (h_sh h)[a]? = some (100 + t, n)) : t < 7 ∧ n < 2 ^ 31 ∧ H[xa E a]? = some (arrV (E.2.2.2.1 t) n (fun j => x_fv E h a (x_at t) j)) := by
  rw [(x_lt hR e).2]
  rcases hR.1 a (100 + t) n e with ⟨r', h1, h2⟩ | ⟨t', h1, h2, h3, h4⟩
  · have h0 : 100 + t < 9 := (List.getElem?_eq_some_iff.mp h1).1
    omega
  · have : t' = t := by omega
    subst this
    exact ⟨h2, h3, h4⟩
/-- one cell written -/
theorem x_Rep.put {E : XE} {h h' : HP} {H H1 : Heap} (hR : x_Rep E h H) {a : Nat} {kd n : Nat} (e : (h_sh h)[a]? = some (kd, n)) (hsh : h_sh h' = h_sh h) (hcl : h'.2.2.2.2 = h.2.2.2.2) (hoff : ∀ b, b ≠ a → ∀ ty k, x_fv E h' b ty k = x_fv E h b ty k)
    (hcell : x_cell E h' a kd n H1) (hz : H1.size = H.size) (ho : ∀ q, q ≠ xa E a → H1[q]? = H[q]?) : x_Rep E h' H1 := by
  refine ⟨fun b kd' n' eb => ?_, by rw [hsh, hz]; exact hR.2.1, by rw [hsh]; exact hR.2.2.1, fun hc => by rw [hsh, hz]; exact hR.2.2.2 (hcl ▸ hc)⟩
  rw [hsh] at eb
  by_cases hb : b = a
  · subst hb
    cases eb.symm.trans e
    exact hcell
  · have hq : H1[E.1 + b]? = H[E.1 + b]? := ho _ (by rw [(x_lt hR e).2]; omega)
    rcases hR.1 b kd' n' eb with ⟨r, h1, h2⟩ | ⟨t, h1, h2, h3, h4⟩
    · refine Or.inl ⟨r, h1, ?_⟩
      have hf : (fun k => x_fv E h' b (x_ty kd' k) k) = fun k => x_fv E h b (x_ty kd' k) k := funext fun k => hoff b hb _ _
      rw [hf]
      exact h2.kept hq
    · refine Or.inr ⟨t, h1, h2, h3, ?_⟩
      have hf : (fun j => x_fv E h' b (x_at t) j) = fun j => x_fv E h b (x_at t) j := funext fun k => hoff b hb _ _
      rw [hf, hq]
      exact h4
theorem x_fv_offI {E : XE} {h : HP} {a k : Nat} {v : Int32} {b : Nat} (hb : b ≠ a) (ty : FieldType) (j : Nat) : x_fv E (h_wI h a k v) b ty j = x_fv E h b ty j := by
  cases ty <;> simp [x_fv, h_wI, hb]
theorem x_fv_offJ {E : XE} {h : HP} {a k : Nat} {v : Int64} {b : Nat} (hb : b ≠ a) (ty : FieldType) (j : Nat) : x_fv E (h_wJ h a k v) b ty j = x_fv E h b ty j := by
  cases ty <;> simp [x_fv, h_wJ, hb]
theorem x_fv_offR {E : XE} {h : HP} {a k : Nat} {v : Option Nat} {b : Nat} (hb : b ≠ a) (ty : FieldType) (j : Nat) : x_fv E (h_wR h a k v) b ty j = x_fv E h b ty j := by
  cases ty <;> simp [x_fv, h_wR, hb]
def x_isI (ty : FieldType) : Bool := match ty with
  | .int => true
  | .char => true
  | .boolean => true
  | _ => false
def x_isR (ty : FieldType) : Bool := match ty with
  | .object _ => true
  | .array _ => true
  | _ => false
theorem x_fvI {E : XE} {h : HP} {a k : Nat} {ty : FieldType} (hi : x_isI ty = true) : x_fv E h a ty k = .int (h.1 a k) := by
  cases ty <;> first | rfl | cases hi
theorem x_fvR {E : XE} {h : HP} {a k : Nat} {ty : FieldType} (hi : x_isR ty = true) : x_fv E h a ty k = va_rf ((h.2.2.1 a k).map (xa E)) := by
  cases ty <;> first | rfl | cases hi
theorem x_fv_upI {E : XE} {h : HP} {a k : Nat} {v : Int32} {f : Nat → FieldType} (hi : x_isI (f k) = true) (j : Nat) : x_fv E (h_wI h a k v) a (f j) j = updV (fun j => x_fv E h a (f j) j) k (.int v) j := by
  by_cases hj : j = k
  · subst hj
    rw [x_fvI hi]
    simp [updV, h_wI]
  · simp only [updV, if_neg hj]
    cases f j <;> simp [x_fv, h_wI, hj]
theorem x_fv_upJ {E : XE} {h : HP} {a k : Nat} {v : Int64} {f : Nat → FieldType} (hi : f k = .long) (j : Nat) : x_fv E (h_wJ h a k v) a (f j) j = updV (fun j => x_fv E h a (f j) j) k (.long v) j := by
  by_cases hj : j = k
  · subst hj
    rw [hi]
    simp [updV, h_wJ, x_fv]
  · simp only [updV, if_neg hj]
    cases f j <;> simp [x_fv, h_wJ, hj]
theorem x_fv_upR {E : XE} {h : HP} {a k : Nat} {v : Option Nat} {f : Nat → FieldType} (hi : x_isR (f k) = true) (j : Nat) : x_fv E (h_wR h a k v) a (f j) j = updV (fun j => x_fv E h a (f j) j) k (va_rf (v.map (xa E))) j := by
  by_cases hj : j = k
  · subst hj
    rw [x_fvR hi]
    simp [updV, h_wR]
  · simp only [updV, if_neg hj]
    cases f j <;> simp [x_fv, h_wR, hj]

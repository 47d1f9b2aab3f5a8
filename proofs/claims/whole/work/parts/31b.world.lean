/-! ===== THE PURE LEVEL: the constructors, step by step, on pictures that are lists ===== -/
abbrev CH : Type := List (Nat × Nat × Int32) × List (Nat × Nat × Int64) × List (Nat × Nat × Nat) × List (Nat × Nat)
def cI : List (Nat × Nat × Int32) → Nat → Nat → Int32
  | [], _, _ => 0
  | e :: r, x, y => if x = e.1 ∧ y = e.2.1 then e.2.2 else cI r x y
def cJ : List (Nat × Nat × Int64) → Nat → Nat → Int64
  | [], _, _ => 0
  | e :: r, x, y => if x = e.1 ∧ y = e.2.1 then e.2.2 else cJ r x y
def cR : List (Nat × Nat × Nat) → Nat → Nat → Option Nat
  | [], _, _ => none
  | e :: r, x, y => if x = e.1 ∧ y = e.2.1 then some e.2.2 else cR r x y
def den (c : CH) : HP := (cI c.1, cJ c.2.1, cR c.2.2.1, c.2.2.2, true)
def c_new (c : CH) (kd n : Nat) : CH := (c.1, c.2.1, c.2.2.1, c.2.2.2 ++ [(kd, n)])
def c_wI (c : CH) (a k : Nat) (v : Int32) : CH := ((a, k, v) :: c.1, c.2)
def c_wJ (c : CH) (a k : Nat) (v : Int64) : CH := (c.1, (a, k, v) :: c.2.1, c.2.2)
def c_wR (c : CH) (a k b : Nat) : CH := (c.1, c.2.1, (a, k, b) :: c.2.2.1, c.2.2.2)
def c_ok (c : CH) : Bool := (c.1.all fun e => decide (e.1 < c.2.2.2.length)) && (c.2.1.all fun e => decide (e.1 < c.2.2.2.length)) && (c.2.2.1.all fun e => decide (e.1 < c.2.2.2.length))
theorem cI_big {l : List (Nat × Nat × Int32)} {n y : Nat} (h : ∀ e ∈ l, e.1 < n) : cI l n y = 0 := by
  induction l with
  | nil => rfl
  | cons e r ih =>
    have h1 := h e List.mem_cons_self
    show (if _ then _ else _) = _
    rw [if_neg (by omega)]
    exact ih fun x hx => h x (List.mem_cons_of_mem _ hx)
theorem cJ_big {l : List (Nat × Nat × Int64)} {n y : Nat} (h : ∀ e ∈ l, e.1 < n) : cJ l n y = 0 := by
  induction l with
  | nil => rfl
  | cons e r ih =>
    have h1 := h e List.mem_cons_self
    show (if _ then _ else _) = _
    rw [if_neg (by omega)]
    exact ih fun x hx => h x (List.mem_cons_of_mem _ hx)
theorem cR_big {l : List (Nat × Nat × Nat)} {n y : Nat} (h : ∀ e ∈ l, e.1 < n) : cR l n y = none := by
  induction l with
  | nil => rfl
  | cons e r ih =>
    have h1 := h e List.mem_cons_self
    show (if _ then _ else _) = _
    rw [if_neg (by omega)]
    exact ih fun x hx => h x (List.mem_cons_of_mem _ hx)
theorem den_new {c : CH} (h : c_ok c = true) (kd n : Nat) : h_new (den c) kd n = den (c_new c kd n) := by
  unfold c_ok at h
  simp only [Bool.and_eq_true, List.all_eq_true, decide_eq_true_eq] at h
  obtain ⟨⟨h1, h2⟩, h3⟩ := h
  have e1 : (fun x y => if x = c.2.2.2.length then (0 : Int32) else cI c.1 x y) = cI c.1 := by
    funext x y
    split
    · next q => rw [q, cI_big h1]
    · rfl
  have e2 : (fun x y => if x = c.2.2.2.length then (0 : Int64) else cJ c.2.1 x y) = cJ c.2.1 := by
    funext x y
    split
    · next q => rw [q, cJ_big h2]
    · rfl
  have e3 : (fun x y => if x = c.2.2.2.length then (none : Option Nat) else cR c.2.2.1 x y) = cR c.2.2.1 := by
    funext x y
    split
    · next q => rw [q, cR_big h3]
    · rfl
  show (_, _, _, _, _) = (_, _, _, _, _)
  exact congr (congrArg Prod.mk e1) (congr (congrArg Prod.mk e2) (congr (congrArg Prod.mk e3) rfl))
theorem den_wI (c : CH) (a k : Nat) (v : Int32) : h_wI (den c) a k v = den (c_wI c a k v) := rfl
theorem den_wJ (c : CH) (a k : Nat) (v : Int64) : h_wJ (den c) a k v = den (c_wJ c a k v) := rfl
theorem den_wR (c : CH) (a k b : Nat) : h_wR (den c) a k (some b) = den (c_wR c a k b) := rfl
/-! the steps -/
theorem st_no {c c' : CH} {ci m : Nat} {f : HP → Nat → Option XR} (e : c' = c_new c ci 0) (ho : c_ok c = true) (hm : c.2.2.2.length = m) (h : m < 1000) : x_no (den c) ci f = f (den c') m := by
  subst e; subst hm
  unfold x_no
  rw [if_pos ⟨rfl, h⟩, den_new ho]
  rfl
theorem st_na {c c' : CH} {t n m : Nat} {v : Int32} {f : HP → Nat → Option XR} (e : c' = c_new c (100 + t) n) (ho : c_ok c = true) (hm : c.2.2.2.length = m) (h : m < 1000) (h0 : 0 ≤ v.toInt ∧ v.toInt ≤ 400) (hv : v.toNatClampNeg = n) : x_na (den c) t v f = f (den c') m := by
  subst e; subst hm; subst hv
  unfold x_na
  rw [if_pos ⟨rfl, h, h0.1, h0.2⟩, den_new ho]
  rfl
theorem st_nm {c c' : CH} {n m : Nat} {v : Int32} {f : HP → Nat → Option XR} (e : c' = c_new c 104 n) (ho : c_ok c = true) (hm : c.2.2.2.length = m) (h : m < 1000) (h0 : 0 ≤ v.toInt ∧ v.toInt ≤ 400) (hv : v.toNatClampNeg = n) : x_nm (den c) v f = f (den c') m := by
  subst e; subst hm; subst hv
  unfold x_nm
  rw [if_pos ⟨rfl, h, h0.1, h0.2⟩, den_new ho]
  rfl
theorem st_pI {c c' : CH} {a ci k : Nat} {v : Int32} {f : HP → Option XR} (e : c' = c_wI c a k v) (h : c.2.2.2[a]? = some (ci, 0)) : x_pI (den c) a ci k v f = f (den c') := by
  subst e
  exact if_pos h
theorem st_pZ {c c' : CH} {a ci k : Nat} {v : Int32} {f : HP → Option XR} (e : c' = c_wI c a k v) (h : c.2.2.2[a]? = some (ci, 0)) (hv : v = 0 ∨ v = 1) : x_pZ (den c) a ci k v f = f (den c') := by
  subst e
  exact if_pos ⟨h, hv⟩
theorem st_pJ {c c' : CH} {a ci k : Nat} {v : Int64} {f : HP → Option XR} (e : c' = c_wJ c a k v) (h : c.2.2.2[a]? = some (ci, 0)) : x_pJ (den c) a ci k v f = f (den c') := by
  subst e
  exact if_pos h
theorem st_pR {c c' : CH} {a ci k b : Nat} {f : HP → Option XR} (e : c' = c_wR c a k b) (h : c.2.2.2[a]? = some (ci, 0)) : x_pR (den c) a ci k b f = f (den c') := by
  subst e
  exact if_pos h
theorem st_gR {c : CH} {a ci k b : Nat} {f : Nat → Option XR} (h : c.2.2.2[a]? = some (ci, 0)) (hb : cR c.2.2.1 a k = some b) : x_gR (den c) a ci k f = f b := by
  refine (if_pos (show (h_sh (den c))[a]? = some (ci, 0) from h)).trans ?_
  show (match cR c.2.2.1 a k with | some b => f b | none => none) = _
  rw [hb]
theorem st_aR {c : CH} {a kd n b : Nat} {i : Int32} {f : Nat → Option XR} (h : c.2.2.2[a]? = some (kd, n)) (hi : 0 ≤ i.toInt ∧ i.toInt < n) (hb : cR c.2.2.1 a i.toNatClampNeg = some b) : x_aR (den c) kd a i f = f b := by
  have hx : x_ix (den c) a kd i = true := by
    unfold x_ix
    show (match c.2.2.2[a]? with | some (q, n) => q == kd && (decide (0 ≤ i.toInt) && decide (i.toInt < n)) | none => false) = true
    rw [h]
    simp [hi]
  unfold x_aR
  rw [if_pos hx]
  show (match cR c.2.2.1 a i.toNatClampNeg with | some b => f b | none => none) = _
  rw [hb]
theorem st_sI {c c' : CH} {a n k : Nat} {i v : Int32} {f : HP → Option XR} (e : c' = c_wI c a k v) (h : c.2.2.2[a]? = some (100, n)) (hi : 0 ≤ i.toInt ∧ i.toInt < n) (hk : i.toNatClampNeg = k) : x_sI (den c) a i v f = f (den c') := by
  subst e; subst hk
  have hx : x_ix (den c) a 100 i = true := by
    unfold x_ix
    show (match c.2.2.2[a]? with | some (q, n) => q == 100 && (decide (0 ≤ i.toInt) && decide (i.toInt < n)) | none => false) = true
    rw [h]
    simp [hi]
  exact if_pos hx
theorem st_sR {c c' : CH} {a n k ci b : Nat} {i : Int32} {f : HP → Option XR} (e : c' = c_wR c a k b) (h : c.2.2.2[a]? = some (104, n)) (hi : 0 ≤ i.toInt ∧ i.toInt < n) (hk : i.toNatClampNeg = k) (hb : c.2.2.2[b]? = some (ci, 0)) : x_sR (den c) a i ci b f = f (den c') := by
  subst e; subst hk
  have hx : x_ix (den c) a 104 i = true := by
    unfold x_ix
    show (match c.2.2.2[a]? with | some (q, n) => q == 104 && (decide (0 ≤ i.toInt) && decide (i.toInt < n)) | none => false) = true
    rw [h]
    simp [hi]
  exact if_pos ⟨hx, hb⟩
theorem st_rc {c : CH} {a ci : Nat} {k : Option XR} (h : c.2.2.2[a]? = some (ci, 0)) : x_rc (den c) a ci k = k := if_pos h
theorem st_cV {r : Option XR} {h : HP} {f : HP → Option XR} (e : r = some (h, xv)) : x_cV r f = f h := by rw [e]; rfl
/-! arrays of arrays -/
def c_f2 (c : CH) (a k : Nat) : Nat → CH
  | 0 => c
  | i + 1 => c_wR (c_new (c_f2 c a k i) 100 k) a i (c_f2 c a k i).2.2.2.length
def c_m2 (c : CH) (n k : Nat) : CH := c_f2 (c_new c 105 n) c.2.2.2.length k n
def c_f3 (c : CH) (a k j : Nat) : Nat → CH
  | 0 => c
  | i + 1 => c_wR (c_m2 (c_f3 c a k j i) k j) a i (c_f3 c a k j i).2.2.2.length
def c_m3 (c : CH) (n k j : Nat) : CH := c_f3 (c_new c 106 n) c.2.2.2.length k j n
theorem c_okn {c : CH} (h : c_ok c = true) (kd n : Nat) : c_ok (c_new c kd n) = true := by
  unfold c_ok c_new at *
  simp only [Bool.and_eq_true, List.all_eq_true, decide_eq_true_eq, List.length_append, List.length_singleton] at *
  exact ⟨⟨fun e he => by have := h.1.1 e he; omega, fun e he => by have := h.1.2 e he; omega⟩, fun e he => by have := h.2 e he; omega⟩
theorem c_okR {c : CH} (h : c_ok c = true) {a : Nat} (ha : a < c.2.2.2.length) (k b : Nat) : c_ok (c_wR c a k b) = true := by
  unfold c_ok c_wR at *
  simp only [Bool.and_eq_true, List.all_eq_true, decide_eq_true_eq, List.mem_cons] at *
  refine ⟨h.1, fun e he => ?_⟩
  rcases he with rfl | he
  · exact ha
  · exact h.2 e he
theorem c_f2_ok {c : CH} (h : c_ok c = true) {a : Nat} (ha : a < c.2.2.2.length) (k : Nat) : ∀ i, c_ok (c_f2 c a k i) = true ∧ c.2.2.2.length ≤ (c_f2 c a k i).2.2.2.length ∧ den (c_f2 c a k i) = h_f2 (den c) a k i
  | 0 => ⟨h, Nat.le_refl _, rfl⟩
  | i + 1 => by
    obtain ⟨h1, h2, h3⟩ := c_f2_ok h ha k i
    have h4 : (c_new (c_f2 c a k i) 100 k).2.2.2.length = (c_f2 c a k i).2.2.2.length + 1 := by simp [c_new]
    refine ⟨c_okR (c_okn h1 _ _) (by omega) _ _, by show _ ≤ (c_new (c_f2 c a k i) 100 k).2.2.2.length; omega, ?_⟩
    show den (c_wR (c_new (c_f2 c a k i) 100 k) a i (c_f2 c a k i).2.2.2.length) = h_wR (h_new (h_f2 (den c) a k i) 100 k) a i (some (h_sh (h_f2 (den c) a k i)).length)
    rw [← h3, den_new h1, ← den_wR]
    rfl
theorem c_m2_ok {c : CH} (h : c_ok c = true) (n k : Nat) : c_ok (c_m2 c n k) = true ∧ c.2.2.2.length + 1 ≤ (c_m2 c n k).2.2.2.length ∧ den (c_m2 c n k) = h_m2 (den c) n k := by
  have h4 : (c_new c 105 n).2.2.2.length = c.2.2.2.length + 1 := by simp [c_new]
  obtain ⟨h1, h2, h3⟩ := c_f2_ok (c_okn h 105 n) (a := c.2.2.2.length) (by omega) k n
  refine ⟨h1, by show _ ≤ (c_f2 (c_new c 105 n) c.2.2.2.length k n).2.2.2.length; omega, ?_⟩
  show den (c_f2 (c_new c 105 n) c.2.2.2.length k n) = h_f2 (h_new (den c) 105 n) (h_sh (den c)).length k n
  rw [h3, den_new h]
  rfl
theorem c_f3_ok {c : CH} (h : c_ok c = true) {a : Nat} (ha : a < c.2.2.2.length) (k j : Nat) : ∀ i, c_ok (c_f3 c a k j i) = true ∧ c.2.2.2.length ≤ (c_f3 c a k j i).2.2.2.length ∧ den (c_f3 c a k j i) = h_f3 (den c) a k j i
  | 0 => ⟨h, Nat.le_refl _, rfl⟩
  | i + 1 => by
    obtain ⟨h1, h2, h3⟩ := c_f3_ok h ha k j i
    obtain ⟨g1, g2, g3⟩ := c_m2_ok h1 k j
    refine ⟨c_okR g1 (by omega) _ _, by show _ ≤ (c_m2 (c_f3 c a k j i) k j).2.2.2.length; omega, ?_⟩
    show den (c_wR (c_m2 (c_f3 c a k j i) k j) a i (c_f3 c a k j i).2.2.2.length) = h_wR (h_m2 (h_f3 (den c) a k j i) k j) a i (some (h_sh (h_f3 (den c) a k j i)).length)
    rw [← h3, ← g3, ← den_wR]
    rfl
theorem st_m2 {c c' : CH} {n k m : Nat} {v w : Int32} {f : HP → Nat → Option XR} (e : c' = c_m2 c n k) (ho : c_ok c = true) (hm : c.2.2.2.length = m) (h : m + 1 + n ≤ 1000) (h0 : 0 ≤ v.toInt ∧ 0 ≤ w.toInt) (hv : v.toNatClampNeg = n) (hw : w.toNatClampNeg = k) (h4 : n ≤ 400 ∧ k ≤ 400) : x_m2 (den c) v w f = f (den c') m := by
  subst e; subst hm; subst hv; subst hw
  unfold x_m2
  rw [if_pos ⟨rfl, h, h4.1, h4.2, h0.1, h0.2⟩, ← (c_m2_ok ho _ _).2.2]
  rfl
theorem st_m3 {c c' : CH} {n k j m : Nat} {v w u : Int32} {f : HP → Nat → Option XR} (e : c' = c_m3 c n k j) (ho : c_ok c = true) (hm : c.2.2.2.length = m) (h : m + 1 + n * (1 + k) ≤ 1000) (h0 : 0 ≤ v.toInt ∧ 0 ≤ w.toInt ∧ 0 ≤ u.toInt) (hv : v.toNatClampNeg = n) (hw : w.toNatClampNeg = k) (hu : u.toNatClampNeg = j) (h4 : n ≤ 400 ∧ k ≤ 400 ∧ j ≤ 400) : x_m3 (den c) v w u f = f (den c') m := by
  subst e; subst hm; subst hv; subst hw; subst hu
  unfold x_m3
  have hl : (c_new c 106 v.toNatClampNeg).2.2.2.length = c.2.2.2.length + 1 := by simp [c_new]
  have h9 : den (c_m3 c v.toNatClampNeg w.toNatClampNeg u.toNatClampNeg) = h_m3 (den c) v.toNatClampNeg w.toNatClampNeg u.toNatClampNeg := by
    show den (c_f3 (c_new c 106 _) c.2.2.2.length _ _ _) = h_f3 (h_new (den c) 106 _) (h_sh (den c)).length _ _ _
    rw [(c_f3_ok (c_okn ho 106 _) (a := c.2.2.2.length) (by omega) _ _ _).2.2, den_new ho]
    rfl
  rw [if_pos ⟨rfl, h, h4.1, h4.2.1, h4.2.2, h0.1, h0.2.1, h0.2.2⟩, ← h9]
  rfl
theorem st_lI {v : Int32} {f : Int32 → Option XR} : x_lI v f = f v := rfl
theorem st_nV {r : Option XR} {h : HP} {f : HP → Option XR} (e : r = some (h, xv)) : x_nV r f = f h := by rw [e]; rfl
def hp0 : HP := (fun _ _ => 0, fun _ _ => 0, fun _ _ => none, [], true)
abbrev wc0 : CH := ([], [], [], [])
theorem hp0_den : hp0 = den wc0 := rfl
def wc1 : CH := c_new wc0 7 0
def wc2 : CH := c_new wc1 101 120
def wc3 : CH := c_wR wc2 0 0 1
def wc4 : CH := c_wI wc3 0 1 (0)
def wc5 : CH := c_new wc4 6 0
def wc6 : CH := c_new wc5 101 0
def wc7 : CH := c_wR wc6 2 0 3
def wc8 : CH := c_wI wc7 2 1 (0)
def wc9 : CH := c_wI wc8 2 2 (0)
def wc10 : CH := c_wI wc9 2 3 (0)
def wc11 : CH := c_wI wc10 2 4 (0)
def wc12 : CH := c_wI wc11 2 5 (0)
def wc13 : CH := c_wI wc12 2 6 (0)
def wc14 : CH := c_new wc13 100 65
def wc15 : CH := c_wR wc14 2 7 4
def wc16 : CH := c_new wc15 100 5
def wc17 : CH := c_wR wc16 2 8 5
def wc18 : CH := c_wI wc17 2 9 (0)
def wc19 : CH := c_new wc18 100 4
def wc20 : CH := c_wR wc19 2 10 6
def wc21 : CH := c_new wc20 100 4
def wc22 : CH := c_wR wc21 2 11 7
set_option maxRecDepth 100000 in
theorem ws_X7_1 : f_X6_init (den wc5) 2 = some (den wc22, xv) := by
  unfold f_X6_init
  refine (st_na (c' := wc6) (m := 3) (n := 0) rfl (by decide +kernel) (by decide +kernel) (by decide) (by decide) (by decide)).trans ?_
  refine (st_pR (c' := wc7) rfl (by decide +kernel)).trans ?_
  refine (st_pI (c' := wc8) rfl (by decide +kernel)).trans ?_
  refine (st_pI (c' := wc9) rfl (by decide +kernel)).trans ?_
  refine (st_pI (c' := wc10) rfl (by decide +kernel)).trans ?_
  refine (st_pI (c' := wc11) rfl (by decide +kernel)).trans ?_
  refine (st_pZ (c' := wc12) rfl (by decide +kernel) (by decide)).trans ?_
  refine (st_pI (c' := wc13) rfl (by decide +kernel)).trans ?_
  refine (st_na (c' := wc14) (m := 4) (n := 65) rfl (by decide +kernel) (by decide +kernel) (by decide) (by decide) (by decide)).trans ?_
  refine (st_pR (c' := wc15) rfl (by decide +kernel)).trans ?_
  refine (st_na (c' := wc16) (m := 5) (n := 5) rfl (by decide +kernel) (by decide +kernel) (by decide) (by decide) (by decide)).trans ?_
  refine (st_pR (c' := wc17) rfl (by decide +kernel)).trans ?_
  refine (st_pI (c' := wc18) rfl (by decide +kernel)).trans ?_
  refine (st_na (c' := wc19) (m := 6) (n := 4) rfl (by decide +kernel) (by decide +kernel) (by decide) (by decide) (by decide)).trans ?_
  refine (st_pR (c' := wc20) rfl (by decide +kernel)).trans ?_
  refine (st_na (c' := wc21) (m := 7) (n := 4) rfl (by decide +kernel) (by decide +kernel) (by decide) (by decide) (by decide)).trans ?_
  refine (st_pR (c' := wc22) rfl (by decide +kernel)).trans ?_
  rfl
def wc23 : CH := c_wR wc22 0 2 2
def wc24 : CH := c_new wc23 4 0
def wc25 : CH := c_new wc24 100 130
def wc26 : CH := c_wR wc25 8 0 9
def wc27 : CH := c_new wc26 100 2
def wc28 : CH := c_wR wc27 8 1 10
def wc29 : CH := c_new wc28 100 6
def wc30 : CH := c_wR wc29 8 2 11
def wc31 : CH := c_new wc30 100 120
def wc32 : CH := c_wR wc31 8 3 12
def wc33 : CH := c_wI wc32 8 4 (0)
def wc34 : CH := c_wI wc33 8 5 (0)
def wc35 : CH := c_wI wc34 8 6 (0)
theorem sl_X4_init_53 (n : Nat) : f_X4_init_L53 (n + 1) = f_X4_init_b53 (f_X4_init_L53 n) := rfl
def wc36 : CH := c_wI wc35 9 60 (1)
def wc37 : CH := c_wI wc36 9 62 (3)
def wc38 : CH := c_wI wc37 11 0 (-1)
def wc39 : CH := c_wI wc38 9 125 (1)
def wc40 : CH := c_wI wc39 9 127 (3)
def wc41 : CH := c_wI wc40 11 3 (-1)
set_option maxRecDepth 100000 in
theorem ws_X7_2 : f_X4_init (den wc24) 8 = some (den wc41, xv) := by
  unfold f_X4_init
  refine (st_na (c' := wc25) (m := 9) (n := 130) rfl (by decide +kernel) (by decide +kernel) (by decide) (by decide) (by decide)).trans ?_
  refine (st_pR (c' := wc26) rfl (by decide +kernel)).trans ?_
  refine (st_na (c' := wc27) (m := 10) (n := 2) rfl (by decide +kernel) (by decide +kernel) (by decide) (by decide) (by decide)).trans ?_
  refine (st_pR (c' := wc28) rfl (by decide +kernel)).trans ?_
  refine (st_na (c' := wc29) (m := 11) (n := 6) rfl (by decide +kernel) (by decide +kernel) (by decide) (by decide) (by decide)).trans ?_
  refine (st_pR (c' := wc30) rfl (by decide +kernel)).trans ?_
  refine (st_na (c' := wc31) (m := 12) (n := 120) rfl (by decide +kernel) (by decide +kernel) (by decide) (by decide) (by decide)).trans ?_
  refine (st_pR (c' := wc32) rfl (by decide +kernel)).trans ?_
  refine (st_pI (c' := wc33) rfl (by decide +kernel)).trans ?_
  refine (st_pI (c' := wc34) rfl (by decide +kernel)).trans ?_
  refine (st_pZ (c' := wc35) rfl (by decide +kernel) (by decide)).trans ?_
  rw [show FU = 99999 + 1 from rfl, sl_X4_init_53]
  refine (if_neg (by decide)).trans ?_
  refine st_lI.trans ?_
  refine (st_gR (b := 9) (by decide +kernel) (by decide +kernel)).trans ?_
  refine (st_sI (c' := wc36) (n := 130) (k := 60) rfl (by decide +kernel) (by decide) (by decide)).trans ?_
  refine (st_gR (b := 9) (by decide +kernel) (by decide +kernel)).trans ?_
  refine (st_sI (c' := wc37) (n := 130) (k := 62) rfl (by decide +kernel) (by decide) (by decide)).trans ?_
  refine (st_gR (b := 11) (by decide +kernel) (by decide +kernel)).trans ?_
  refine (st_sI (c' := wc38) (n := 6) (k := 0) rfl (by decide +kernel) (by decide) (by decide)).trans ?_
  rw [show f_X4_init_L53 99999 = f_X4_init_b53 (f_X4_init_L53 99998) from sl_X4_init_53 99998]
  refine (if_neg (by decide)).trans ?_
  refine st_lI.trans ?_
  refine (st_gR (b := 9) (by decide +kernel) (by decide +kernel)).trans ?_
  refine (st_sI (c' := wc39) (n := 130) (k := 125) rfl (by decide +kernel) (by decide) (by decide)).trans ?_
  refine (st_gR (b := 9) (by decide +kernel) (by decide +kernel)).trans ?_
  refine (st_sI (c' := wc40) (n := 130) (k := 127) rfl (by decide +kernel) (by decide) (by decide)).trans ?_
  refine (st_gR (b := 11) (by decide +kernel) (by decide +kernel)).trans ?_
  refine (st_sI (c' := wc41) (n := 6) (k := 3) rfl (by decide +kernel) (by decide) (by decide)).trans ?_
  rw [show f_X4_init_L53 99998 = f_X4_init_b53 (f_X4_init_L53 99997) from sl_X4_init_53 99997]
  refine (if_pos (by decide)).trans ?_
  rfl
def wc42 : CH := c_wR wc41 0 3 8
def wc43 : CH := c_new wc42 104 3
def wc44 : CH := c_wR wc43 0 4 13
def wc45 : CH := c_new wc44 102 3
def wc46 : CH := c_wR wc45 0 5 14
def wc47 : CH := c_new wc46 104 8
def wc48 : CH := c_wR wc47 0 6 15
def wc49 : CH := c_wI wc48 0 7 (0)
def wc50 : CH := c_wI wc49 0 8 (0)
def wc51 : CH := c_new wc50 5 0
def wc52 : CH := c_new wc51 100 24
def wc53 : CH := c_wR wc52 16 1 17
def wc54 : CH := c_new wc53 102 12
def wc55 : CH := c_wR wc54 16 2 18
def wc56 : CH := c_new wc55 100 2
def wc57 : CH := c_wR wc56 16 3 19
def wc58 : CH := c_wI wc57 16 4 (1)
def wc59 : CH := c_wI wc58 16 5 (0)
def wc60 : CH := c_wI wc59 16 6 (1)
def wc61 : CH := c_wI wc60 16 7 (1)
def wc62 : CH := c_wI wc61 16 8 (1)
def wc63 : CH := c_wR wc62 16 0 8
set_option maxRecDepth 100000 in
theorem ws_X7_3 : f_X5_init (den wc51) 16 8 = some (den wc63, xv) := by
  unfold f_X5_init
  refine (st_na (c' := wc52) (m := 17) (n := 24) rfl (by decide +kernel) (by decide +kernel) (by decide) (by decide) (by decide)).trans ?_
  refine (st_pR (c' := wc53) rfl (by decide +kernel)).trans ?_
  refine (st_na (c' := wc54) (m := 18) (n := 12) rfl (by decide +kernel) (by decide +kernel) (by decide) (by decide) (by decide)).trans ?_
  refine (st_pR (c' := wc55) rfl (by decide +kernel)).trans ?_
  refine (st_na (c' := wc56) (m := 19) (n := 2) rfl (by decide +kernel) (by decide +kernel) (by decide) (by decide) (by decide)).trans ?_
  refine (st_pR (c' := wc57) rfl (by decide +kernel)).trans ?_
  refine (st_pI (c' := wc58) rfl (by decide +kernel)).trans ?_
  refine (st_pI (c' := wc59) rfl (by decide +kernel)).trans ?_
  refine (st_pI (c' := wc60) rfl (by decide +kernel)).trans ?_
  refine (st_pI (c' := wc61) rfl (by decide +kernel)).trans ?_
  refine (st_pI (c' := wc62) rfl (by decide +kernel)).trans ?_
  refine (st_pR (c' := wc63) rfl (by decide +kernel)).trans ?_
  rfl
def wc64 : CH := c_wR wc63 0 9 16
def wc65 : CH := c_new wc64 0 0
def wc66 : CH := c_new wc65 102 65
def wc67 : CH := c_wR wc66 20 3 21
def wc68 : CH := c_new wc67 100 65
def wc69 : CH := c_wR wc68 20 4 22
def wc70 : CH := c_new wc69 100 65
def wc71 : CH := c_wR wc70 20 5 23
def wc72 : CH := c_new wc71 100 65
def wc73 : CH := c_wR wc72 20 6 24
def wc74 : CH := c_new wc73 100 65
def wc75 : CH := c_wR wc74 20 7 25
def wc76 : CH := c_new wc75 100 65
def wc77 : CH := c_wR wc76 20 8 26
def wc78 : CH := c_new wc77 100 65
def wc79 : CH := c_wR wc78 20 9 27
def wc80 : CH := c_wI wc79 20 10 (0)
def wc81 : CH := c_wI wc80 20 11 (0)
def wc82 : CH := c_wI wc81 20 12 (0)
def wc83 : CH := c_wI wc82 20 13 (0)
def wc84 : CH := c_wI wc83 20 14 (-1)
def wc85 : CH := c_wI wc84 20 15 (0)
def wc86 : CH := c_wI wc85 20 0 (0)
def wc87 : CH := c_wR wc86 20 1 8
def wc88 : CH := c_wR wc87 20 2 16
set_option maxRecDepth 100000 in
theorem ws_X7_4 : f_X0_init (den wc65) 20 0 8 16 = some (den wc88, xv) := by
  unfold f_X0_init
  refine (st_na (c' := wc66) (m := 21) (n := 65) rfl (by decide +kernel) (by decide +kernel) (by decide) (by decide) (by decide)).trans ?_
  refine (st_pR (c' := wc67) rfl (by decide +kernel)).trans ?_
  refine (st_na (c' := wc68) (m := 22) (n := 65) rfl (by decide +kernel) (by decide +kernel) (by decide) (by decide) (by decide)).trans ?_
  refine (st_pR (c' := wc69) rfl (by decide +kernel)).trans ?_
  refine (st_na (c' := wc70) (m := 23) (n := 65) rfl (by decide +kernel) (by decide +kernel) (by decide) (by decide) (by decide)).trans ?_
  refine (st_pR (c' := wc71) rfl (by decide +kernel)).trans ?_
  refine (st_na (c' := wc72) (m := 24) (n := 65) rfl (by decide +kernel) (by decide +kernel) (by decide) (by decide) (by decide)).trans ?_
  refine (st_pR (c' := wc73) rfl (by decide +kernel)).trans ?_
  refine (st_na (c' := wc74) (m := 25) (n := 65) rfl (by decide +kernel) (by decide +kernel) (by decide) (by decide) (by decide)).trans ?_
  refine (st_pR (c' := wc75) rfl (by decide +kernel)).trans ?_
  refine (st_na (c' := wc76) (m := 26) (n := 65) rfl (by decide +kernel) (by decide +kernel) (by decide) (by decide) (by decide)).trans ?_
  refine (st_pR (c' := wc77) rfl (by decide +kernel)).trans ?_
  refine (st_na (c' := wc78) (m := 27) (n := 65) rfl (by decide +kernel) (by decide +kernel) (by decide) (by decide) (by decide)).trans ?_
  refine (st_pR (c' := wc79) rfl (by decide +kernel)).trans ?_
  refine (st_pI (c' := wc80) rfl (by decide +kernel)).trans ?_
  refine (st_pI (c' := wc81) rfl (by decide +kernel)).trans ?_
  refine (st_pI (c' := wc82) rfl (by decide +kernel)).trans ?_
  refine (st_pI (c' := wc83) rfl (by decide +kernel)).trans ?_
  refine (st_pI (c' := wc84) rfl (by decide +kernel)).trans ?_
  refine (st_pI (c' := wc85) rfl (by decide +kernel)).trans ?_
  refine (st_pI (c' := wc86) rfl (by decide +kernel)).trans ?_
  refine (st_pR (c' := wc87) rfl (by decide +kernel)).trans ?_
  refine (st_pR (c' := wc88) rfl (by decide +kernel)).trans ?_
  rfl
def wc89 : CH := c_wR wc88 0 10 20
def wc90 : CH := c_new wc89 0 0
def wc91 : CH := c_new wc90 102 65
def wc92 : CH := c_wR wc91 28 3 29
def wc93 : CH := c_new wc92 100 65
def wc94 : CH := c_wR wc93 28 4 30
def wc95 : CH := c_new wc94 100 65
def wc96 : CH := c_wR wc95 28 5 31
def wc97 : CH := c_new wc96 100 65
def wc98 : CH := c_wR wc97 28 6 32
def wc99 : CH := c_new wc98 100 65
def wc100 : CH := c_wR wc99 28 7 33
def wc101 : CH := c_new wc100 100 65
def wc102 : CH := c_wR wc101 28 8 34
def wc103 : CH := c_new wc102 100 65
def wc104 : CH := c_wR wc103 28 9 35
def wc105 : CH := c_wI wc104 28 10 (0)
def wc106 : CH := c_wI wc105 28 11 (0)
def wc107 : CH := c_wI wc106 28 12 (0)
def wc108 : CH := c_wI wc107 28 13 (0)
def wc109 : CH := c_wI wc108 28 14 (-1)
def wc110 : CH := c_wI wc109 28 15 (0)
def wc111 : CH := c_wI wc110 28 0 (1)
def wc112 : CH := c_wR wc111 28 1 8
def wc113 : CH := c_wR wc112 28 2 16
set_option maxRecDepth 100000 in
theorem ws_X7_5 : f_X0_init (den wc90) 28 1 8 16 = some (den wc113, xv) := by
  unfold f_X0_init
  refine (st_na (c' := wc91) (m := 29) (n := 65) rfl (by decide +kernel) (by decide +kernel) (by decide) (by decide) (by decide)).trans ?_
  refine (st_pR (c' := wc92) rfl (by decide +kernel)).trans ?_
  refine (st_na (c' := wc93) (m := 30) (n := 65) rfl (by decide +kernel) (by decide +kernel) (by decide) (by decide) (by decide)).trans ?_
  refine (st_pR (c' := wc94) rfl (by decide +kernel)).trans ?_
  refine (st_na (c' := wc95) (m := 31) (n := 65) rfl (by decide +kernel) (by decide +kernel) (by decide) (by decide) (by decide)).trans ?_
  refine (st_pR (c' := wc96) rfl (by decide +kernel)).trans ?_
  refine (st_na (c' := wc97) (m := 32) (n := 65) rfl (by decide +kernel) (by decide +kernel) (by decide) (by decide) (by decide)).trans ?_
  refine (st_pR (c' := wc98) rfl (by decide +kernel)).trans ?_
  refine (st_na (c' := wc99) (m := 33) (n := 65) rfl (by decide +kernel) (by decide +kernel) (by decide) (by decide) (by decide)).trans ?_
  refine (st_pR (c' := wc100) rfl (by decide +kernel)).trans ?_
  refine (st_na (c' := wc101) (m := 34) (n := 65) rfl (by decide +kernel) (by decide +kernel) (by decide) (by decide) (by decide)).trans ?_
  refine (st_pR (c' := wc102) rfl (by decide +kernel)).trans ?_
  refine (st_na (c' := wc103) (m := 35) (n := 65) rfl (by decide +kernel) (by decide +kernel) (by decide) (by decide) (by decide)).trans ?_
  refine (st_pR (c' := wc104) rfl (by decide +kernel)).trans ?_
  refine (st_pI (c' := wc105) rfl (by decide +kernel)).trans ?_
  refine (st_pI (c' := wc106) rfl (by decide +kernel)).trans ?_
  refine (st_pI (c' := wc107) rfl (by decide +kernel)).trans ?_
  refine (st_pI (c' := wc108) rfl (by decide +kernel)).trans ?_
  refine (st_pI (c' := wc109) rfl (by decide +kernel)).trans ?_
  refine (st_pI (c' := wc110) rfl (by decide +kernel)).trans ?_
  refine (st_pI (c' := wc111) rfl (by decide +kernel)).trans ?_
  refine (st_pR (c' := wc112) rfl (by decide +kernel)).trans ?_
  refine (st_pR (c' := wc113) rfl (by decide +kernel)).trans ?_
  rfl
def wc114 : CH := c_wR wc113 0 11 28
def wc115 : CH := c_new wc114 2 0
def wc116 : CH := c_new wc115 100 64
def wc117 : CH := c_wR wc116 36 0 37
def wc118 : CH := c_new wc117 100 64
def wc119 : CH := c_wR wc118 36 1 38
def wc120 : CH := c_new wc119 100 64
def wc121 : CH := c_wR wc120 36 2 39
def wc122 : CH := c_new wc121 100 64
def wc123 : CH := c_wR wc122 36 3 40
def wc124 : CH := c_wI wc123 36 4 (0)
set_option maxRecDepth 100000 in
theorem ws_X7_6 : f_X2_init (den wc115) 36 = some (den wc124, xv) := by
  unfold f_X2_init
  refine (st_na (c' := wc116) (m := 37) (n := 64) rfl (by decide +kernel) (by decide +kernel) (by decide) (by decide) (by decide)).trans ?_
  refine (st_pR (c' := wc117) rfl (by decide +kernel)).trans ?_
  refine (st_na (c' := wc118) (m := 38) (n := 64) rfl (by decide +kernel) (by decide +kernel) (by decide) (by decide) (by decide)).trans ?_
  refine (st_pR (c' := wc119) rfl (by decide +kernel)).trans ?_
  refine (st_na (c' := wc120) (m := 39) (n := 64) rfl (by decide +kernel) (by decide +kernel) (by decide) (by decide) (by decide)).trans ?_
  refine (st_pR (c' := wc121) rfl (by decide +kernel)).trans ?_
  refine (st_na (c' := wc122) (m := 40) (n := 64) rfl (by decide +kernel) (by decide +kernel) (by decide) (by decide) (by decide)).trans ?_
  refine (st_pR (c' := wc123) rfl (by decide +kernel)).trans ?_
  refine (st_pI (c' := wc124) rfl (by decide +kernel)).trans ?_
  rfl
def wc125 : CH := c_wR wc124 0 12 36
def wc126 : CH := c_new wc125 1 0
def wc127 : CH := c_new wc126 100 65
def wc128 : CH := c_wR wc127 41 1 42
def wc129 : CH := c_new wc128 100 12
def wc130 : CH := c_wR wc129 41 2 43
def wc131 : CH := c_wR wc130 41 0 36
set_option maxRecDepth 100000 in
theorem ws_X7_7 : f_X1_init (den wc126) 41 36 = some (den wc131, xv) := by
  unfold f_X1_init
  refine (st_na (c' := wc127) (m := 42) (n := 65) rfl (by decide +kernel) (by decide +kernel) (by decide) (by decide) (by decide)).trans ?_
  refine (st_pR (c' := wc128) rfl (by decide +kernel)).trans ?_
  refine (st_na (c' := wc129) (m := 43) (n := 12) rfl (by decide +kernel) (by decide +kernel) (by decide) (by decide) (by decide)).trans ?_
  refine (st_pR (c' := wc130) rfl (by decide +kernel)).trans ?_
  refine (st_pR (c' := wc131) rfl (by decide +kernel)).trans ?_
  rfl
def wc132 : CH := c_wR wc131 0 13 41
def wc133 : CH := c_new wc132 3 0
def wc134 : CH := c_new wc133 102 65
def wc135 : CH := c_wR wc134 44 0 45
def wc136 : CH := c_new wc135 103 65
def wc137 : CH := c_wR wc136 44 1 46
def wc138 : CH := c_wJ wc137 44 2 (0)
def wc139 : CH := c_wJ wc138 44 3 (0)
def wc140 : CH := c_wJ wc139 44 4 (0)
def wc141 : CH := c_wJ wc140 44 5 (1)
set_option maxRecDepth 100000 in
theorem ws_X7_8 : f_X3_init (den wc133) 44 = some (den wc141, xv) := by
  unfold f_X3_init
  refine (st_na (c' := wc134) (m := 45) (n := 65) rfl (by decide +kernel) (by decide +kernel) (by decide) (by decide) (by decide)).trans ?_
  refine (st_pR (c' := wc135) rfl (by decide +kernel)).trans ?_
  refine (st_na (c' := wc136) (m := 46) (n := 65) rfl (by decide +kernel) (by decide +kernel) (by decide) (by decide) (by decide)).trans ?_
  refine (st_pR (c' := wc137) rfl (by decide +kernel)).trans ?_
  refine (st_pJ (c' := wc138) rfl (by decide +kernel)).trans ?_
  refine (st_pJ (c' := wc139) rfl (by decide +kernel)).trans ?_
  refine (st_pJ (c' := wc140) rfl (by decide +kernel)).trans ?_
  refine (st_pJ (c' := wc141) rfl (by decide +kernel)).trans ?_
  rfl
def wc142 : CH := c_wR wc141 0 14 44
def wc143 : CH := c_wI wc142 0 15 (0)
def wc144 : CH := c_new wc143 4 0
def wc145 : CH := c_new wc144 100 130
def wc146 : CH := c_wR wc145 47 0 48
def wc147 : CH := c_new wc146 100 2
def wc148 : CH := c_wR wc147 47 1 49
def wc149 : CH := c_new wc148 100 6
def wc150 : CH := c_wR wc149 47 2 50
def wc151 : CH := c_new wc150 100 120
def wc152 : CH := c_wR wc151 47 3 51
def wc153 : CH := c_wI wc152 47 4 (0)
def wc154 : CH := c_wI wc153 47 5 (0)
def wc155 : CH := c_wI wc154 47 6 (0)
def wc156 : CH := c_wI wc155 48 60 (1)
def wc157 : CH := c_wI wc156 48 62 (3)
def wc158 : CH := c_wI wc157 50 0 (-1)
def wc159 : CH := c_wI wc158 48 125 (1)
def wc160 : CH := c_wI wc159 48 127 (3)
def wc161 : CH := c_wI wc160 50 3 (-1)
set_option maxRecDepth 100000 in
theorem ws_X7_9 : f_X4_init (den wc144) 47 = some (den wc161, xv) := by
  unfold f_X4_init
  refine (st_na (c' := wc145) (m := 48) (n := 130) rfl (by decide +kernel) (by decide +kernel) (by decide) (by decide) (by decide)).trans ?_
  refine (st_pR (c' := wc146) rfl (by decide +kernel)).trans ?_
  refine (st_na (c' := wc147) (m := 49) (n := 2) rfl (by decide +kernel) (by decide +kernel) (by decide) (by decide) (by decide)).trans ?_
  refine (st_pR (c' := wc148) rfl (by decide +kernel)).trans ?_
  refine (st_na (c' := wc149) (m := 50) (n := 6) rfl (by decide +kernel) (by decide +kernel) (by decide) (by decide) (by decide)).trans ?_
  refine (st_pR (c' := wc150) rfl (by decide +kernel)).trans ?_
  refine (st_na (c' := wc151) (m := 51) (n := 120) rfl (by decide +kernel) (by decide +kernel) (by decide) (by decide) (by decide)).trans ?_
  refine (st_pR (c' := wc152) rfl (by decide +kernel)).trans ?_
  refine (st_pI (c' := wc153) rfl (by decide +kernel)).trans ?_
  refine (st_pI (c' := wc154) rfl (by decide +kernel)).trans ?_
  refine (st_pZ (c' := wc155) rfl (by decide +kernel) (by decide)).trans ?_
  rw [show FU = 99999 + 1 from rfl, sl_X4_init_53]
  refine (if_neg (by decide)).trans ?_
  refine st_lI.trans ?_
  refine (st_gR (b := 48) (by decide +kernel) (by decide +kernel)).trans ?_
  refine (st_sI (c' := wc156) (n := 130) (k := 60) rfl (by decide +kernel) (by decide) (by decide)).trans ?_
  refine (st_gR (b := 48) (by decide +kernel) (by decide +kernel)).trans ?_
  refine (st_sI (c' := wc157) (n := 130) (k := 62) rfl (by decide +kernel) (by decide) (by decide)).trans ?_
  refine (st_gR (b := 50) (by decide +kernel) (by decide +kernel)).trans ?_
  refine (st_sI (c' := wc158) (n := 6) (k := 0) rfl (by decide +kernel) (by decide) (by decide)).trans ?_
  rw [show f_X4_init_L53 99999 = f_X4_init_b53 (f_X4_init_L53 99998) from sl_X4_init_53 99998]
  refine (if_neg (by decide)).trans ?_
  refine st_lI.trans ?_
  refine (st_gR (b := 48) (by decide +kernel) (by decide +kernel)).trans ?_
  refine (st_sI (c' := wc159) (n := 130) (k := 125) rfl (by decide +kernel) (by decide) (by decide)).trans ?_
  refine (st_gR (b := 48) (by decide +kernel) (by decide +kernel)).trans ?_
  refine (st_sI (c' := wc160) (n := 130) (k := 127) rfl (by decide +kernel) (by decide) (by decide)).trans ?_
  refine (st_gR (b := 50) (by decide +kernel) (by decide +kernel)).trans ?_
  refine (st_sI (c' := wc161) (n := 6) (k := 3) rfl (by decide +kernel) (by decide) (by decide)).trans ?_
  rw [show f_X4_init_L53 99998 = f_X4_init_b53 (f_X4_init_L53 99997) from sl_X4_init_53 99997]
  refine (if_pos (by decide)).trans ?_
  rfl
def wc162 : CH := c_wR wc161 13 0 47
def wc163 : CH := c_new wc162 4 0
def wc164 : CH := c_new wc163 100 130
def wc165 : CH := c_wR wc164 52 0 53
def wc166 : CH := c_new wc165 100 2
def wc167 : CH := c_wR wc166 52 1 54
def wc168 : CH := c_new wc167 100 6
def wc169 : CH := c_wR wc168 52 2 55
def wc170 : CH := c_new wc169 100 120
def wc171 : CH := c_wR wc170 52 3 56
def wc172 : CH := c_wI wc171 52 4 (0)
def wc173 : CH := c_wI wc172 52 5 (0)
def wc174 : CH := c_wI wc173 52 6 (0)
def wc175 : CH := c_wI wc174 53 60 (1)
def wc176 : CH := c_wI wc175 53 62 (3)
def wc177 : CH := c_wI wc176 55 0 (-1)
def wc178 : CH := c_wI wc177 53 125 (1)
def wc179 : CH := c_wI wc178 53 127 (3)
def wc180 : CH := c_wI wc179 55 3 (-1)
set_option maxRecDepth 100000 in
theorem ws_X7_10 : f_X4_init (den wc163) 52 = some (den wc180, xv) := by
  unfold f_X4_init
  refine (st_na (c' := wc164) (m := 53) (n := 130) rfl (by decide +kernel) (by decide +kernel) (by decide) (by decide) (by decide)).trans ?_
  refine (st_pR (c' := wc165) rfl (by decide +kernel)).trans ?_
  refine (st_na (c' := wc166) (m := 54) (n := 2) rfl (by decide +kernel) (by decide +kernel) (by decide) (by decide) (by decide)).trans ?_
  refine (st_pR (c' := wc167) rfl (by decide +kernel)).trans ?_
  refine (st_na (c' := wc168) (m := 55) (n := 6) rfl (by decide +kernel) (by decide +kernel) (by decide) (by decide) (by decide)).trans ?_
  refine (st_pR (c' := wc169) rfl (by decide +kernel)).trans ?_
  refine (st_na (c' := wc170) (m := 56) (n := 120) rfl (by decide +kernel) (by decide +kernel) (by decide) (by decide) (by decide)).trans ?_
  refine (st_pR (c' := wc171) rfl (by decide +kernel)).trans ?_
  refine (st_pI (c' := wc172) rfl (by decide +kernel)).trans ?_
  refine (st_pI (c' := wc173) rfl (by decide +kernel)).trans ?_
  refine (st_pZ (c' := wc174) rfl (by decide +kernel) (by decide)).trans ?_
  rw [show FU = 99999 + 1 from rfl, sl_X4_init_53]
  refine (if_neg (by decide)).trans ?_
  refine st_lI.trans ?_
  refine (st_gR (b := 53) (by decide +kernel) (by decide +kernel)).trans ?_
  refine (st_sI (c' := wc175) (n := 130) (k := 60) rfl (by decide +kernel) (by decide) (by decide)).trans ?_
  refine (st_gR (b := 53) (by decide +kernel) (by decide +kernel)).trans ?_
  refine (st_sI (c' := wc176) (n := 130) (k := 62) rfl (by decide +kernel) (by decide) (by decide)).trans ?_
  refine (st_gR (b := 55) (by decide +kernel) (by decide +kernel)).trans ?_
  refine (st_sI (c' := wc177) (n := 6) (k := 0) rfl (by decide +kernel) (by decide) (by decide)).trans ?_
  rw [show f_X4_init_L53 99999 = f_X4_init_b53 (f_X4_init_L53 99998) from sl_X4_init_53 99998]
  refine (if_neg (by decide)).trans ?_
  refine st_lI.trans ?_
  refine (st_gR (b := 53) (by decide +kernel) (by decide +kernel)).trans ?_
  refine (st_sI (c' := wc178) (n := 130) (k := 125) rfl (by decide +kernel) (by decide) (by decide)).trans ?_
  refine (st_gR (b := 53) (by decide +kernel) (by decide +kernel)).trans ?_
  refine (st_sI (c' := wc179) (n := 130) (k := 127) rfl (by decide +kernel) (by decide) (by decide)).trans ?_
  refine (st_gR (b := 55) (by decide +kernel) (by decide +kernel)).trans ?_
  refine (st_sI (c' := wc180) (n := 6) (k := 3) rfl (by decide +kernel) (by decide) (by decide)).trans ?_
  rw [show f_X4_init_L53 99998 = f_X4_init_b53 (f_X4_init_L53 99997) from sl_X4_init_53 99997]
  refine (if_pos (by decide)).trans ?_
  rfl
def wc181 : CH := c_wR wc180 13 1 52
def wc182 : CH := c_new wc181 4 0
def wc183 : CH := c_new wc182 100 130
def wc184 : CH := c_wR wc183 57 0 58
def wc185 : CH := c_new wc184 100 2
def wc186 : CH := c_wR wc185 57 1 59
def wc187 : CH := c_new wc186 100 6
def wc188 : CH := c_wR wc187 57 2 60
def wc189 : CH := c_new wc188 100 120
def wc190 : CH := c_wR wc189 57 3 61
def wc191 : CH := c_wI wc190 57 4 (0)
def wc192 : CH := c_wI wc191 57 5 (0)
def wc193 : CH := c_wI wc192 57 6 (0)
def wc194 : CH := c_wI wc193 58 60 (1)
def wc195 : CH := c_wI wc194 58 62 (3)
def wc196 : CH := c_wI wc195 60 0 (-1)
def wc197 : CH := c_wI wc196 58 125 (1)
def wc198 : CH := c_wI wc197 58 127 (3)
def wc199 : CH := c_wI wc198 60 3 (-1)
set_option maxRecDepth 100000 in
theorem ws_X7_11 : f_X4_init (den wc182) 57 = some (den wc199, xv) := by
  unfold f_X4_init
  refine (st_na (c' := wc183) (m := 58) (n := 130) rfl (by decide +kernel) (by decide +kernel) (by decide) (by decide) (by decide)).trans ?_
  refine (st_pR (c' := wc184) rfl (by decide +kernel)).trans ?_
  refine (st_na (c' := wc185) (m := 59) (n := 2) rfl (by decide +kernel) (by decide +kernel) (by decide) (by decide) (by decide)).trans ?_
  refine (st_pR (c' := wc186) rfl (by decide +kernel)).trans ?_
  refine (st_na (c' := wc187) (m := 60) (n := 6) rfl (by decide +kernel) (by decide +kernel) (by decide) (by decide) (by decide)).trans ?_
  refine (st_pR (c' := wc188) rfl (by decide +kernel)).trans ?_
  refine (st_na (c' := wc189) (m := 61) (n := 120) rfl (by decide +kernel) (by decide +kernel) (by decide) (by decide) (by decide)).trans ?_
  refine (st_pR (c' := wc190) rfl (by decide +kernel)).trans ?_
  refine (st_pI (c' := wc191) rfl (by decide +kernel)).trans ?_
  refine (st_pI (c' := wc192) rfl (by decide +kernel)).trans ?_
  refine (st_pZ (c' := wc193) rfl (by decide +kernel) (by decide)).trans ?_
  rw [show FU = 99999 + 1 from rfl, sl_X4_init_53]
  refine (if_neg (by decide)).trans ?_
  refine st_lI.trans ?_
  refine (st_gR (b := 58) (by decide +kernel) (by decide +kernel)).trans ?_
  refine (st_sI (c' := wc194) (n := 130) (k := 60) rfl (by decide +kernel) (by decide) (by decide)).trans ?_
  refine (st_gR (b := 58) (by decide +kernel) (by decide +kernel)).trans ?_
  refine (st_sI (c' := wc195) (n := 130) (k := 62) rfl (by decide +kernel) (by decide) (by decide)).trans ?_
  refine (st_gR (b := 60) (by decide +kernel) (by decide +kernel)).trans ?_
  refine (st_sI (c' := wc196) (n := 6) (k := 0) rfl (by decide +kernel) (by decide) (by decide)).trans ?_
  rw [show f_X4_init_L53 99999 = f_X4_init_b53 (f_X4_init_L53 99998) from sl_X4_init_53 99998]
  refine (if_neg (by decide)).trans ?_
  refine st_lI.trans ?_
  refine (st_gR (b := 58) (by decide +kernel) (by decide +kernel)).trans ?_
  refine (st_sI (c' := wc197) (n := 130) (k := 125) rfl (by decide +kernel) (by decide) (by decide)).trans ?_
  refine (st_gR (b := 58) (by decide +kernel) (by decide +kernel)).trans ?_
  refine (st_sI (c' := wc198) (n := 130) (k := 127) rfl (by decide +kernel) (by decide) (by decide)).trans ?_
  refine (st_gR (b := 60) (by decide +kernel) (by decide +kernel)).trans ?_
  refine (st_sI (c' := wc199) (n := 6) (k := 3) rfl (by decide +kernel) (by decide) (by decide)).trans ?_
  rw [show f_X4_init_L53 99998 = f_X4_init_b53 (f_X4_init_L53 99997) from sl_X4_init_53 99997]
  refine (if_pos (by decide)).trans ?_
  rfl
def wc200 : CH := c_wR wc199 13 2 57
def wc201 : CH := c_new wc200 4 0
def wc202 : CH := c_new wc201 100 130
def wc203 : CH := c_wR wc202 62 0 63
def wc204 : CH := c_new wc203 100 2
def wc205 : CH := c_wR wc204 62 1 64
def wc206 : CH := c_new wc205 100 6
def wc207 : CH := c_wR wc206 62 2 65
def wc208 : CH := c_new wc207 100 120
def wc209 : CH := c_wR wc208 62 3 66
def wc210 : CH := c_wI wc209 62 4 (0)
def wc211 : CH := c_wI wc210 62 5 (0)
def wc212 : CH := c_wI wc211 62 6 (0)
def wc213 : CH := c_wI wc212 63 60 (1)
def wc214 : CH := c_wI wc213 63 62 (3)
def wc215 : CH := c_wI wc214 65 0 (-1)
def wc216 : CH := c_wI wc215 63 125 (1)
def wc217 : CH := c_wI wc216 63 127 (3)
def wc218 : CH := c_wI wc217 65 3 (-1)
set_option maxRecDepth 100000 in
theorem ws_X7_12 : f_X4_init (den wc201) 62 = some (den wc218, xv) := by
  unfold f_X4_init
  refine (st_na (c' := wc202) (m := 63) (n := 130) rfl (by decide +kernel) (by decide +kernel) (by decide) (by decide) (by decide)).trans ?_
  refine (st_pR (c' := wc203) rfl (by decide +kernel)).trans ?_
  refine (st_na (c' := wc204) (m := 64) (n := 2) rfl (by decide +kernel) (by decide +kernel) (by decide) (by decide) (by decide)).trans ?_
  refine (st_pR (c' := wc205) rfl (by decide +kernel)).trans ?_
  refine (st_na (c' := wc206) (m := 65) (n := 6) rfl (by decide +kernel) (by decide +kernel) (by decide) (by decide) (by decide)).trans ?_
  refine (st_pR (c' := wc207) rfl (by decide +kernel)).trans ?_
  refine (st_na (c' := wc208) (m := 66) (n := 120) rfl (by decide +kernel) (by decide +kernel) (by decide) (by decide) (by decide)).trans ?_
  refine (st_pR (c' := wc209) rfl (by decide +kernel)).trans ?_
  refine (st_pI (c' := wc210) rfl (by decide +kernel)).trans ?_
  refine (st_pI (c' := wc211) rfl (by decide +kernel)).trans ?_
  refine (st_pZ (c' := wc212) rfl (by decide +kernel) (by decide)).trans ?_
  rw [show FU = 99999 + 1 from rfl, sl_X4_init_53]
  refine (if_neg (by decide)).trans ?_
  refine st_lI.trans ?_
  refine (st_gR (b := 63) (by decide +kernel) (by decide +kernel)).trans ?_
  refine (st_sI (c' := wc213) (n := 130) (k := 60) rfl (by decide +kernel) (by decide) (by decide)).trans ?_
  refine (st_gR (b := 63) (by decide +kernel) (by decide +kernel)).trans ?_
  refine (st_sI (c' := wc214) (n := 130) (k := 62) rfl (by decide +kernel) (by decide) (by decide)).trans ?_
  refine (st_gR (b := 65) (by decide +kernel) (by decide +kernel)).trans ?_
  refine (st_sI (c' := wc215) (n := 6) (k := 0) rfl (by decide +kernel) (by decide) (by decide)).trans ?_
  rw [show f_X4_init_L53 99999 = f_X4_init_b53 (f_X4_init_L53 99998) from sl_X4_init_53 99998]
  refine (if_neg (by decide)).trans ?_
  refine st_lI.trans ?_
  refine (st_gR (b := 63) (by decide +kernel) (by decide +kernel)).trans ?_
  refine (st_sI (c' := wc216) (n := 130) (k := 125) rfl (by decide +kernel) (by decide) (by decide)).trans ?_
  refine (st_gR (b := 63) (by decide +kernel) (by decide +kernel)).trans ?_
  refine (st_sI (c' := wc217) (n := 130) (k := 127) rfl (by decide +kernel) (by decide) (by decide)).trans ?_
  refine (st_gR (b := 65) (by decide +kernel) (by decide +kernel)).trans ?_
  refine (st_sI (c' := wc218) (n := 6) (k := 3) rfl (by decide +kernel) (by decide) (by decide)).trans ?_
  rw [show f_X4_init_L53 99998 = f_X4_init_b53 (f_X4_init_L53 99997) from sl_X4_init_53 99997]
  refine (if_pos (by decide)).trans ?_
  rfl
def wc219 : CH := c_wR wc218 15 0 62
def wc220 : CH := c_new wc219 4 0
def wc221 : CH := c_new wc220 100 130
def wc222 : CH := c_wR wc221 67 0 68
def wc223 : CH := c_new wc222 100 2
def wc224 : CH := c_wR wc223 67 1 69
def wc225 : CH := c_new wc224 100 6
def wc226 : CH := c_wR wc225 67 2 70
def wc227 : CH := c_new wc226 100 120
def wc228 : CH := c_wR wc227 67 3 71
def wc229 : CH := c_wI wc228 67 4 (0)
def wc230 : CH := c_wI wc229 67 5 (0)
def wc231 : CH := c_wI wc230 67 6 (0)
def wc232 : CH := c_wI wc231 68 60 (1)
def wc233 : CH := c_wI wc232 68 62 (3)
def wc234 : CH := c_wI wc233 70 0 (-1)
def wc235 : CH := c_wI wc234 68 125 (1)
def wc236 : CH := c_wI wc235 68 127 (3)
def wc237 : CH := c_wI wc236 70 3 (-1)
set_option maxRecDepth 100000 in
theorem ws_X7_13 : f_X4_init (den wc220) 67 = some (den wc237, xv) := by
  unfold f_X4_init
  refine (st_na (c' := wc221) (m := 68) (n := 130) rfl (by decide +kernel) (by decide +kernel) (by decide) (by decide) (by decide)).trans ?_
  refine (st_pR (c' := wc222) rfl (by decide +kernel)).trans ?_
  refine (st_na (c' := wc223) (m := 69) (n := 2) rfl (by decide +kernel) (by decide +kernel) (by decide) (by decide) (by decide)).trans ?_
  refine (st_pR (c' := wc224) rfl (by decide +kernel)).trans ?_
  refine (st_na (c' := wc225) (m := 70) (n := 6) rfl (by decide +kernel) (by decide +kernel) (by decide) (by decide) (by decide)).trans ?_
  refine (st_pR (c' := wc226) rfl (by decide +kernel)).trans ?_
  refine (st_na (c' := wc227) (m := 71) (n := 120) rfl (by decide +kernel) (by decide +kernel) (by decide) (by decide) (by decide)).trans ?_
  refine (st_pR (c' := wc228) rfl (by decide +kernel)).trans ?_
  refine (st_pI (c' := wc229) rfl (by decide +kernel)).trans ?_
  refine (st_pI (c' := wc230) rfl (by decide +kernel)).trans ?_
  refine (st_pZ (c' := wc231) rfl (by decide +kernel) (by decide)).trans ?_
  rw [show FU = 99999 + 1 from rfl, sl_X4_init_53]
  refine (if_neg (by decide)).trans ?_
  refine st_lI.trans ?_
  refine (st_gR (b := 68) (by decide +kernel) (by decide +kernel)).trans ?_
  refine (st_sI (c' := wc232) (n := 130) (k := 60) rfl (by decide +kernel) (by decide) (by decide)).trans ?_
  refine (st_gR (b := 68) (by decide +kernel) (by decide +kernel)).trans ?_
  refine (st_sI (c' := wc233) (n := 130) (k := 62) rfl (by decide +kernel) (by decide) (by decide)).trans ?_
  refine (st_gR (b := 70) (by decide +kernel) (by decide +kernel)).trans ?_
  refine (st_sI (c' := wc234) (n := 6) (k := 0) rfl (by decide +kernel) (by decide) (by decide)).trans ?_
  rw [show f_X4_init_L53 99999 = f_X4_init_b53 (f_X4_init_L53 99998) from sl_X4_init_53 99998]
  refine (if_neg (by decide)).trans ?_
  refine st_lI.trans ?_
  refine (st_gR (b := 68) (by decide +kernel) (by decide +kernel)).trans ?_
  refine (st_sI (c' := wc235) (n := 130) (k := 125) rfl (by decide +kernel) (by decide) (by decide)).trans ?_
  refine (st_gR (b := 68) (by decide +kernel) (by decide +kernel)).trans ?_
  refine (st_sI (c' := wc236) (n := 130) (k := 127) rfl (by decide +kernel) (by decide) (by decide)).trans ?_
  refine (st_gR (b := 70) (by decide +kernel) (by decide +kernel)).trans ?_
  refine (st_sI (c' := wc237) (n := 6) (k := 3) rfl (by decide +kernel) (by decide) (by decide)).trans ?_
  rw [show f_X4_init_L53 99998 = f_X4_init_b53 (f_X4_init_L53 99997) from sl_X4_init_53 99997]
  refine (if_pos (by decide)).trans ?_
  rfl
def wc238 : CH := c_wR wc237 15 1 67
def wc239 : CH := c_new wc238 4 0
def wc240 : CH := c_new wc239 100 130
def wc241 : CH := c_wR wc240 72 0 73
def wc242 : CH := c_new wc241 100 2
def wc243 : CH := c_wR wc242 72 1 74
def wc244 : CH := c_new wc243 100 6
def wc245 : CH := c_wR wc244 72 2 75
def wc246 : CH := c_new wc245 100 120
def wc247 : CH := c_wR wc246 72 3 76
def wc248 : CH := c_wI wc247 72 4 (0)
def wc249 : CH := c_wI wc248 72 5 (0)
def wc250 : CH := c_wI wc249 72 6 (0)
def wc251 : CH := c_wI wc250 73 60 (1)
def wc252 : CH := c_wI wc251 73 62 (3)
def wc253 : CH := c_wI wc252 75 0 (-1)
def wc254 : CH := c_wI wc253 73 125 (1)
def wc255 : CH := c_wI wc254 73 127 (3)
def wc256 : CH := c_wI wc255 75 3 (-1)
set_option maxRecDepth 100000 in
theorem ws_X7_14 : f_X4_init (den wc239) 72 = some (den wc256, xv) := by
  unfold f_X4_init
  refine (st_na (c' := wc240) (m := 73) (n := 130) rfl (by decide +kernel) (by decide +kernel) (by decide) (by decide) (by decide)).trans ?_
  refine (st_pR (c' := wc241) rfl (by decide +kernel)).trans ?_
  refine (st_na (c' := wc242) (m := 74) (n := 2) rfl (by decide +kernel) (by decide +kernel) (by decide) (by decide) (by decide)).trans ?_
  refine (st_pR (c' := wc243) rfl (by decide +kernel)).trans ?_
  refine (st_na (c' := wc244) (m := 75) (n := 6) rfl (by decide +kernel) (by decide +kernel) (by decide) (by decide) (by decide)).trans ?_
  refine (st_pR (c' := wc245) rfl (by decide +kernel)).trans ?_
  refine (st_na (c' := wc246) (m := 76) (n := 120) rfl (by decide +kernel) (by decide +kernel) (by decide) (by decide) (by decide)).trans ?_
  refine (st_pR (c' := wc247) rfl (by decide +kernel)).trans ?_
  refine (st_pI (c' := wc248) rfl (by decide +kernel)).trans ?_
  refine (st_pI (c' := wc249) rfl (by decide +kernel)).trans ?_
  refine (st_pZ (c' := wc250) rfl (by decide +kernel) (by decide)).trans ?_
  rw [show FU = 99999 + 1 from rfl, sl_X4_init_53]
  refine (if_neg (by decide)).trans ?_
  refine st_lI.trans ?_
  refine (st_gR (b := 73) (by decide +kernel) (by decide +kernel)).trans ?_
  refine (st_sI (c' := wc251) (n := 130) (k := 60) rfl (by decide +kernel) (by decide) (by decide)).trans ?_
  refine (st_gR (b := 73) (by decide +kernel) (by decide +kernel)).trans ?_
  refine (st_sI (c' := wc252) (n := 130) (k := 62) rfl (by decide +kernel) (by decide) (by decide)).trans ?_
  refine (st_gR (b := 75) (by decide +kernel) (by decide +kernel)).trans ?_
  refine (st_sI (c' := wc253) (n := 6) (k := 0) rfl (by decide +kernel) (by decide) (by decide)).trans ?_
  rw [show f_X4_init_L53 99999 = f_X4_init_b53 (f_X4_init_L53 99998) from sl_X4_init_53 99998]
  refine (if_neg (by decide)).trans ?_
  refine st_lI.trans ?_
  refine (st_gR (b := 73) (by decide +kernel) (by decide +kernel)).trans ?_
  refine (st_sI (c' := wc254) (n := 130) (k := 125) rfl (by decide +kernel) (by decide) (by decide)).trans ?_
  refine (st_gR (b := 73) (by decide +kernel) (by decide +kernel)).trans ?_
  refine (st_sI (c' := wc255) (n := 130) (k := 127) rfl (by decide +kernel) (by decide) (by decide)).trans ?_
  refine (st_gR (b := 75) (by decide +kernel) (by decide +kernel)).trans ?_
  refine (st_sI (c' := wc256) (n := 6) (k := 3) rfl (by decide +kernel) (by decide) (by decide)).trans ?_
  rw [show f_X4_init_L53 99998 = f_X4_init_b53 (f_X4_init_L53 99997) from sl_X4_init_53 99997]
  refine (if_pos (by decide)).trans ?_
  rfl
def wc257 : CH := c_wR wc256 15 2 72
def wc258 : CH := c_new wc257 4 0
def wc259 : CH := c_new wc258 100 130
def wc260 : CH := c_wR wc259 77 0 78
def wc261 : CH := c_new wc260 100 2
def wc262 : CH := c_wR wc261 77 1 79
def wc263 : CH := c_new wc262 100 6
def wc264 : CH := c_wR wc263 77 2 80
def wc265 : CH := c_new wc264 100 120
def wc266 : CH := c_wR wc265 77 3 81
def wc267 : CH := c_wI wc266 77 4 (0)
def wc268 : CH := c_wI wc267 77 5 (0)
def wc269 : CH := c_wI wc268 77 6 (0)
def wc270 : CH := c_wI wc269 78 60 (1)
def wc271 : CH := c_wI wc270 78 62 (3)
def wc272 : CH := c_wI wc271 80 0 (-1)
def wc273 : CH := c_wI wc272 78 125 (1)
def wc274 : CH := c_wI wc273 78 127 (3)
def wc275 : CH := c_wI wc274 80 3 (-1)
set_option maxRecDepth 100000 in
theorem ws_X7_15 : f_X4_init (den wc258) 77 = some (den wc275, xv) := by
  unfold f_X4_init
  refine (st_na (c' := wc259) (m := 78) (n := 130) rfl (by decide +kernel) (by decide +kernel) (by decide) (by decide) (by decide)).trans ?_
  refine (st_pR (c' := wc260) rfl (by decide +kernel)).trans ?_
  refine (st_na (c' := wc261) (m := 79) (n := 2) rfl (by decide +kernel) (by decide +kernel) (by decide) (by decide) (by decide)).trans ?_
  refine (st_pR (c' := wc262) rfl (by decide +kernel)).trans ?_
  refine (st_na (c' := wc263) (m := 80) (n := 6) rfl (by decide +kernel) (by decide +kernel) (by decide) (by decide) (by decide)).trans ?_
  refine (st_pR (c' := wc264) rfl (by decide +kernel)).trans ?_
  refine (st_na (c' := wc265) (m := 81) (n := 120) rfl (by decide +kernel) (by decide +kernel) (by decide) (by decide) (by decide)).trans ?_
  refine (st_pR (c' := wc266) rfl (by decide +kernel)).trans ?_
  refine (st_pI (c' := wc267) rfl (by decide +kernel)).trans ?_
  refine (st_pI (c' := wc268) rfl (by decide +kernel)).trans ?_
  refine (st_pZ (c' := wc269) rfl (by decide +kernel) (by decide)).trans ?_
  rw [show FU = 99999 + 1 from rfl, sl_X4_init_53]
  refine (if_neg (by decide)).trans ?_
  refine st_lI.trans ?_
  refine (st_gR (b := 78) (by decide +kernel) (by decide +kernel)).trans ?_
  refine (st_sI (c' := wc270) (n := 130) (k := 60) rfl (by decide +kernel) (by decide) (by decide)).trans ?_
  refine (st_gR (b := 78) (by decide +kernel) (by decide +kernel)).trans ?_
  refine (st_sI (c' := wc271) (n := 130) (k := 62) rfl (by decide +kernel) (by decide) (by decide)).trans ?_
  refine (st_gR (b := 80) (by decide +kernel) (by decide +kernel)).trans ?_
  refine (st_sI (c' := wc272) (n := 6) (k := 0) rfl (by decide +kernel) (by decide) (by decide)).trans ?_
  rw [show f_X4_init_L53 99999 = f_X4_init_b53 (f_X4_init_L53 99998) from sl_X4_init_53 99998]
  refine (if_neg (by decide)).trans ?_
  refine st_lI.trans ?_
  refine (st_gR (b := 78) (by decide +kernel) (by decide +kernel)).trans ?_
  refine (st_sI (c' := wc273) (n := 130) (k := 125) rfl (by decide +kernel) (by decide) (by decide)).trans ?_
  refine (st_gR (b := 78) (by decide +kernel) (by decide +kernel)).trans ?_
  refine (st_sI (c' := wc274) (n := 130) (k := 127) rfl (by decide +kernel) (by decide) (by decide)).trans ?_
  refine (st_gR (b := 80) (by decide +kernel) (by decide +kernel)).trans ?_
  refine (st_sI (c' := wc275) (n := 6) (k := 3) rfl (by decide +kernel) (by decide) (by decide)).trans ?_
  rw [show f_X4_init_L53 99998 = f_X4_init_b53 (f_X4_init_L53 99997) from sl_X4_init_53 99997]
  refine (if_pos (by decide)).trans ?_
  rfl
def wc276 : CH := c_wR wc275 15 3 77
def wc277 : CH := c_new wc276 4 0
def wc278 : CH := c_new wc277 100 130
def wc279 : CH := c_wR wc278 82 0 83
def wc280 : CH := c_new wc279 100 2
def wc281 : CH := c_wR wc280 82 1 84
def wc282 : CH := c_new wc281 100 6
def wc283 : CH := c_wR wc282 82 2 85
def wc284 : CH := c_new wc283 100 120
def wc285 : CH := c_wR wc284 82 3 86
def wc286 : CH := c_wI wc285 82 4 (0)
def wc287 : CH := c_wI wc286 82 5 (0)
def wc288 : CH := c_wI wc287 82 6 (0)
def wc289 : CH := c_wI wc288 83 60 (1)
def wc290 : CH := c_wI wc289 83 62 (3)
def wc291 : CH := c_wI wc290 85 0 (-1)
def wc292 : CH := c_wI wc291 83 125 (1)
def wc293 : CH := c_wI wc292 83 127 (3)
def wc294 : CH := c_wI wc293 85 3 (-1)
set_option maxRecDepth 100000 in
theorem ws_X7_16 : f_X4_init (den wc277) 82 = some (den wc294, xv) := by
  unfold f_X4_init
  refine (st_na (c' := wc278) (m := 83) (n := 130) rfl (by decide +kernel) (by decide +kernel) (by decide) (by decide) (by decide)).trans ?_
  refine (st_pR (c' := wc279) rfl (by decide +kernel)).trans ?_
  refine (st_na (c' := wc280) (m := 84) (n := 2) rfl (by decide +kernel) (by decide +kernel) (by decide) (by decide) (by decide)).trans ?_
  refine (st_pR (c' := wc281) rfl (by decide +kernel)).trans ?_
  refine (st_na (c' := wc282) (m := 85) (n := 6) rfl (by decide +kernel) (by decide +kernel) (by decide) (by decide) (by decide)).trans ?_
  refine (st_pR (c' := wc283) rfl (by decide +kernel)).trans ?_
  refine (st_na (c' := wc284) (m := 86) (n := 120) rfl (by decide +kernel) (by decide +kernel) (by decide) (by decide) (by decide)).trans ?_
  refine (st_pR (c' := wc285) rfl (by decide +kernel)).trans ?_
  refine (st_pI (c' := wc286) rfl (by decide +kernel)).trans ?_
  refine (st_pI (c' := wc287) rfl (by decide +kernel)).trans ?_
  refine (st_pZ (c' := wc288) rfl (by decide +kernel) (by decide)).trans ?_
  rw [show FU = 99999 + 1 from rfl, sl_X4_init_53]
  refine (if_neg (by decide)).trans ?_
  refine st_lI.trans ?_
  refine (st_gR (b := 83) (by decide +kernel) (by decide +kernel)).trans ?_
  refine (st_sI (c' := wc289) (n := 130) (k := 60) rfl (by decide +kernel) (by decide) (by decide)).trans ?_
  refine (st_gR (b := 83) (by decide +kernel) (by decide +kernel)).trans ?_
  refine (st_sI (c' := wc290) (n := 130) (k := 62) rfl (by decide +kernel) (by decide) (by decide)).trans ?_
  refine (st_gR (b := 85) (by decide +kernel) (by decide +kernel)).trans ?_
  refine (st_sI (c' := wc291) (n := 6) (k := 0) rfl (by decide +kernel) (by decide) (by decide)).trans ?_
  rw [show f_X4_init_L53 99999 = f_X4_init_b53 (f_X4_init_L53 99998) from sl_X4_init_53 99998]
  refine (if_neg (by decide)).trans ?_
  refine st_lI.trans ?_
  refine (st_gR (b := 83) (by decide +kernel) (by decide +kernel)).trans ?_
  refine (st_sI (c' := wc292) (n := 130) (k := 125) rfl (by decide +kernel) (by decide) (by decide)).trans ?_
  refine (st_gR (b := 83) (by decide +kernel) (by decide +kernel)).trans ?_
  refine (st_sI (c' := wc293) (n := 130) (k := 127) rfl (by decide +kernel) (by decide) (by decide)).trans ?_
  refine (st_gR (b := 85) (by decide +kernel) (by decide +kernel)).trans ?_
  refine (st_sI (c' := wc294) (n := 6) (k := 3) rfl (by decide +kernel) (by decide) (by decide)).trans ?_
  rw [show f_X4_init_L53 99998 = f_X4_init_b53 (f_X4_init_L53 99997) from sl_X4_init_53 99997]
  refine (if_pos (by decide)).trans ?_
  rfl
def wc295 : CH := c_wR wc294 15 4 82
def wc296 : CH := c_new wc295 4 0
def wc297 : CH := c_new wc296 100 130
def wc298 : CH := c_wR wc297 87 0 88
def wc299 : CH := c_new wc298 100 2
def wc300 : CH := c_wR wc299 87 1 89
def wc301 : CH := c_new wc300 100 6
def wc302 : CH := c_wR wc301 87 2 90
def wc303 : CH := c_new wc302 100 120
def wc304 : CH := c_wR wc303 87 3 91
def wc305 : CH := c_wI wc304 87 4 (0)
def wc306 : CH := c_wI wc305 87 5 (0)
def wc307 : CH := c_wI wc306 87 6 (0)
def wc308 : CH := c_wI wc307 88 60 (1)
def wc309 : CH := c_wI wc308 88 62 (3)
def wc310 : CH := c_wI wc309 90 0 (-1)
def wc311 : CH := c_wI wc310 88 125 (1)
def wc312 : CH := c_wI wc311 88 127 (3)
def wc313 : CH := c_wI wc312 90 3 (-1)
set_option maxRecDepth 100000 in
theorem ws_X7_17 : f_X4_init (den wc296) 87 = some (den wc313, xv) := by
  unfold f_X4_init
  refine (st_na (c' := wc297) (m := 88) (n := 130) rfl (by decide +kernel) (by decide +kernel) (by decide) (by decide) (by decide)).trans ?_
  refine (st_pR (c' := wc298) rfl (by decide +kernel)).trans ?_
  refine (st_na (c' := wc299) (m := 89) (n := 2) rfl (by decide +kernel) (by decide +kernel) (by decide) (by decide) (by decide)).trans ?_
  refine (st_pR (c' := wc300) rfl (by decide +kernel)).trans ?_
  refine (st_na (c' := wc301) (m := 90) (n := 6) rfl (by decide +kernel) (by decide +kernel) (by decide) (by decide) (by decide)).trans ?_
  refine (st_pR (c' := wc302) rfl (by decide +kernel)).trans ?_
  refine (st_na (c' := wc303) (m := 91) (n := 120) rfl (by decide +kernel) (by decide +kernel) (by decide) (by decide) (by decide)).trans ?_
  refine (st_pR (c' := wc304) rfl (by decide +kernel)).trans ?_
  refine (st_pI (c' := wc305) rfl (by decide +kernel)).trans ?_
  refine (st_pI (c' := wc306) rfl (by decide +kernel)).trans ?_
  refine (st_pZ (c' := wc307) rfl (by decide +kernel) (by decide)).trans ?_
  rw [show FU = 99999 + 1 from rfl, sl_X4_init_53]
  refine (if_neg (by decide)).trans ?_
  refine st_lI.trans ?_
  refine (st_gR (b := 88) (by decide +kernel) (by decide +kernel)).trans ?_
  refine (st_sI (c' := wc308) (n := 130) (k := 60) rfl (by decide +kernel) (by decide) (by decide)).trans ?_
  refine (st_gR (b := 88) (by decide +kernel) (by decide +kernel)).trans ?_
  refine (st_sI (c' := wc309) (n := 130) (k := 62) rfl (by decide +kernel) (by decide) (by decide)).trans ?_
  refine (st_gR (b := 90) (by decide +kernel) (by decide +kernel)).trans ?_
  refine (st_sI (c' := wc310) (n := 6) (k := 0) rfl (by decide +kernel) (by decide) (by decide)).trans ?_
  rw [show f_X4_init_L53 99999 = f_X4_init_b53 (f_X4_init_L53 99998) from sl_X4_init_53 99998]
  refine (if_neg (by decide)).trans ?_
  refine st_lI.trans ?_
  refine (st_gR (b := 88) (by decide +kernel) (by decide +kernel)).trans ?_
  refine (st_sI (c' := wc311) (n := 130) (k := 125) rfl (by decide +kernel) (by decide) (by decide)).trans ?_
  refine (st_gR (b := 88) (by decide +kernel) (by decide +kernel)).trans ?_
  refine (st_sI (c' := wc312) (n := 130) (k := 127) rfl (by decide +kernel) (by decide) (by decide)).trans ?_
  refine (st_gR (b := 90) (by decide +kernel) (by decide +kernel)).trans ?_
  refine (st_sI (c' := wc313) (n := 6) (k := 3) rfl (by decide +kernel) (by decide) (by decide)).trans ?_
  rw [show f_X4_init_L53 99998 = f_X4_init_b53 (f_X4_init_L53 99997) from sl_X4_init_53 99997]
  refine (if_pos (by decide)).trans ?_
  rfl
def wc314 : CH := c_wR wc313 15 5 87
def wc315 : CH := c_new wc314 4 0
def wc316 : CH := c_new wc315 100 130
def wc317 : CH := c_wR wc316 92 0 93
def wc318 : CH := c_new wc317 100 2
def wc319 : CH := c_wR wc318 92 1 94
def wc320 : CH := c_new wc319 100 6
def wc321 : CH := c_wR wc320 92 2 95
def wc322 : CH := c_new wc321 100 120
def wc323 : CH := c_wR wc322 92 3 96
def wc324 : CH := c_wI wc323 92 4 (0)
def wc325 : CH := c_wI wc324 92 5 (0)
def wc326 : CH := c_wI wc325 92 6 (0)
def wc327 : CH := c_wI wc326 93 60 (1)
def wc328 : CH := c_wI wc327 93 62 (3)
def wc329 : CH := c_wI wc328 95 0 (-1)
def wc330 : CH := c_wI wc329 93 125 (1)
def wc331 : CH := c_wI wc330 93 127 (3)
def wc332 : CH := c_wI wc331 95 3 (-1)
set_option maxRecDepth 100000 in
theorem ws_X7_18 : f_X4_init (den wc315) 92 = some (den wc332, xv) := by
  unfold f_X4_init
  refine (st_na (c' := wc316) (m := 93) (n := 130) rfl (by decide +kernel) (by decide +kernel) (by decide) (by decide) (by decide)).trans ?_
  refine (st_pR (c' := wc317) rfl (by decide +kernel)).trans ?_
  refine (st_na (c' := wc318) (m := 94) (n := 2) rfl (by decide +kernel) (by decide +kernel) (by decide) (by decide) (by decide)).trans ?_
  refine (st_pR (c' := wc319) rfl (by decide +kernel)).trans ?_
  refine (st_na (c' := wc320) (m := 95) (n := 6) rfl (by decide +kernel) (by decide +kernel) (by decide) (by decide) (by decide)).trans ?_
  refine (st_pR (c' := wc321) rfl (by decide +kernel)).trans ?_
  refine (st_na (c' := wc322) (m := 96) (n := 120) rfl (by decide +kernel) (by decide +kernel) (by decide) (by decide) (by decide)).trans ?_
  refine (st_pR (c' := wc323) rfl (by decide +kernel)).trans ?_
  refine (st_pI (c' := wc324) rfl (by decide +kernel)).trans ?_
  refine (st_pI (c' := wc325) rfl (by decide +kernel)).trans ?_
  refine (st_pZ (c' := wc326) rfl (by decide +kernel) (by decide)).trans ?_
  rw [show FU = 99999 + 1 from rfl, sl_X4_init_53]
  refine (if_neg (by decide)).trans ?_
  refine st_lI.trans ?_
  refine (st_gR (b := 93) (by decide +kernel) (by decide +kernel)).trans ?_
  refine (st_sI (c' := wc327) (n := 130) (k := 60) rfl (by decide +kernel) (by decide) (by decide)).trans ?_
  refine (st_gR (b := 93) (by decide +kernel) (by decide +kernel)).trans ?_
  refine (st_sI (c' := wc328) (n := 130) (k := 62) rfl (by decide +kernel) (by decide) (by decide)).trans ?_
  refine (st_gR (b := 95) (by decide +kernel) (by decide +kernel)).trans ?_
  refine (st_sI (c' := wc329) (n := 6) (k := 0) rfl (by decide +kernel) (by decide) (by decide)).trans ?_
  rw [show f_X4_init_L53 99999 = f_X4_init_b53 (f_X4_init_L53 99998) from sl_X4_init_53 99998]
  refine (if_neg (by decide)).trans ?_
  refine st_lI.trans ?_
  refine (st_gR (b := 93) (by decide +kernel) (by decide +kernel)).trans ?_
  refine (st_sI (c' := wc330) (n := 130) (k := 125) rfl (by decide +kernel) (by decide) (by decide)).trans ?_
  refine (st_gR (b := 93) (by decide +kernel) (by decide +kernel)).trans ?_
  refine (st_sI (c' := wc331) (n := 130) (k := 127) rfl (by decide +kernel) (by decide) (by decide)).trans ?_
  refine (st_gR (b := 95) (by decide +kernel) (by decide +kernel)).trans ?_
  refine (st_sI (c' := wc332) (n := 6) (k := 3) rfl (by decide +kernel) (by decide) (by decide)).trans ?_
  rw [show f_X4_init_L53 99998 = f_X4_init_b53 (f_X4_init_L53 99997) from sl_X4_init_53 99997]
  refine (if_pos (by decide)).trans ?_
  rfl
def wc333 : CH := c_wR wc332 15 6 92
def wc334 : CH := c_new wc333 4 0
def wc335 : CH := c_new wc334 100 130
def wc336 : CH := c_wR wc335 97 0 98
def wc337 : CH := c_new wc336 100 2
def wc338 : CH := c_wR wc337 97 1 99
def wc339 : CH := c_new wc338 100 6
def wc340 : CH := c_wR wc339 97 2 100
def wc341 : CH := c_new wc340 100 120
def wc342 : CH := c_wR wc341 97 3 101
def wc343 : CH := c_wI wc342 97 4 (0)
def wc344 : CH := c_wI wc343 97 5 (0)
def wc345 : CH := c_wI wc344 97 6 (0)
def wc346 : CH := c_wI wc345 98 60 (1)
def wc347 : CH := c_wI wc346 98 62 (3)
def wc348 : CH := c_wI wc347 100 0 (-1)
def wc349 : CH := c_wI wc348 98 125 (1)
def wc350 : CH := c_wI wc349 98 127 (3)
def wc351 : CH := c_wI wc350 100 3 (-1)
set_option maxRecDepth 100000 in
theorem ws_X7_19 : f_X4_init (den wc334) 97 = some (den wc351, xv) := by
  unfold f_X4_init
  refine (st_na (c' := wc335) (m := 98) (n := 130) rfl (by decide +kernel) (by decide +kernel) (by decide) (by decide) (by decide)).trans ?_
  refine (st_pR (c' := wc336) rfl (by decide +kernel)).trans ?_
  refine (st_na (c' := wc337) (m := 99) (n := 2) rfl (by decide +kernel) (by decide +kernel) (by decide) (by decide) (by decide)).trans ?_
  refine (st_pR (c' := wc338) rfl (by decide +kernel)).trans ?_
  refine (st_na (c' := wc339) (m := 100) (n := 6) rfl (by decide +kernel) (by decide +kernel) (by decide) (by decide) (by decide)).trans ?_
  refine (st_pR (c' := wc340) rfl (by decide +kernel)).trans ?_
  refine (st_na (c' := wc341) (m := 101) (n := 120) rfl (by decide +kernel) (by decide +kernel) (by decide) (by decide) (by decide)).trans ?_
  refine (st_pR (c' := wc342) rfl (by decide +kernel)).trans ?_
  refine (st_pI (c' := wc343) rfl (by decide +kernel)).trans ?_
  refine (st_pI (c' := wc344) rfl (by decide +kernel)).trans ?_
  refine (st_pZ (c' := wc345) rfl (by decide +kernel) (by decide)).trans ?_
  rw [show FU = 99999 + 1 from rfl, sl_X4_init_53]
  refine (if_neg (by decide)).trans ?_
  refine st_lI.trans ?_
  refine (st_gR (b := 98) (by decide +kernel) (by decide +kernel)).trans ?_
  refine (st_sI (c' := wc346) (n := 130) (k := 60) rfl (by decide +kernel) (by decide) (by decide)).trans ?_
  refine (st_gR (b := 98) (by decide +kernel) (by decide +kernel)).trans ?_
  refine (st_sI (c' := wc347) (n := 130) (k := 62) rfl (by decide +kernel) (by decide) (by decide)).trans ?_
  refine (st_gR (b := 100) (by decide +kernel) (by decide +kernel)).trans ?_
  refine (st_sI (c' := wc348) (n := 6) (k := 0) rfl (by decide +kernel) (by decide) (by decide)).trans ?_
  rw [show f_X4_init_L53 99999 = f_X4_init_b53 (f_X4_init_L53 99998) from sl_X4_init_53 99998]
  refine (if_neg (by decide)).trans ?_
  refine st_lI.trans ?_
  refine (st_gR (b := 98) (by decide +kernel) (by decide +kernel)).trans ?_
  refine (st_sI (c' := wc349) (n := 130) (k := 125) rfl (by decide +kernel) (by decide) (by decide)).trans ?_
  refine (st_gR (b := 98) (by decide +kernel) (by decide +kernel)).trans ?_
  refine (st_sI (c' := wc350) (n := 130) (k := 127) rfl (by decide +kernel) (by decide) (by decide)).trans ?_
  refine (st_gR (b := 100) (by decide +kernel) (by decide +kernel)).trans ?_
  refine (st_sI (c' := wc351) (n := 6) (k := 3) rfl (by decide +kernel) (by decide) (by decide)).trans ?_
  rw [show f_X4_init_L53 99998 = f_X4_init_b53 (f_X4_init_L53 99997) from sl_X4_init_53 99997]
  refine (if_pos (by decide)).trans ?_
  rfl
def wc352 : CH := c_wR wc351 15 7 97
set_option maxRecDepth 100000 in
theorem ws_X7 : f_X7_init (den wc1) 0 = some (den wc352, xv) := by
  unfold f_X7_init
  refine (st_na (c' := wc2) (m := 1) (n := 120) rfl (by decide +kernel) (by decide +kernel) (by decide) (by decide) (by decide)).trans ?_
  refine (st_pR (c' := wc3) rfl (by decide +kernel)).trans ?_
  refine (st_pI (c' := wc4) rfl (by decide +kernel)).trans ?_
  refine (st_no (c' := wc5) (m := 2) rfl (by decide +kernel) (by decide +kernel) (by decide)).trans ?_
  refine (st_cV ws_X7_1).trans ?_
  refine (st_pR (c' := wc23) rfl (by decide +kernel)).trans ?_
  refine (st_no (c' := wc24) (m := 8) rfl (by decide +kernel) (by decide +kernel) (by decide)).trans ?_
  refine (st_cV ws_X7_2).trans ?_
  refine (st_pR (c' := wc42) rfl (by decide +kernel)).trans ?_
  refine (st_nm (c' := wc43) (m := 13) (n := 3) rfl (by decide +kernel) (by decide +kernel) (by decide) (by decide) (by decide)).trans ?_
  refine (st_pR (c' := wc44) rfl (by decide +kernel)).trans ?_
  refine (st_na (c' := wc45) (m := 14) (n := 3) rfl (by decide +kernel) (by decide +kernel) (by decide) (by decide) (by decide)).trans ?_
  refine (st_pR (c' := wc46) rfl (by decide +kernel)).trans ?_
  refine (st_nm (c' := wc47) (m := 15) (n := 8) rfl (by decide +kernel) (by decide +kernel) (by decide) (by decide) (by decide)).trans ?_
  refine (st_pR (c' := wc48) rfl (by decide +kernel)).trans ?_
  refine (st_pI (c' := wc49) rfl (by decide +kernel)).trans ?_
  refine (st_pI (c' := wc50) rfl (by decide +kernel)).trans ?_
  refine (st_no (c' := wc51) (m := 16) rfl (by decide +kernel) (by decide +kernel) (by decide)).trans ?_
  refine (st_gR (b := 8) (by decide +kernel) (by decide +kernel)).trans ?_
  refine (st_cV ws_X7_3).trans ?_
  refine (st_pR (c' := wc64) rfl (by decide +kernel)).trans ?_
  refine (st_no (c' := wc65) (m := 20) rfl (by decide +kernel) (by decide +kernel) (by decide)).trans ?_
  refine (st_gR (b := 8) (by decide +kernel) (by decide +kernel)).trans ?_
  refine (st_gR (b := 16) (by decide +kernel) (by decide +kernel)).trans ?_
  refine (st_cV ws_X7_4).trans ?_
  refine (st_pR (c' := wc89) rfl (by decide +kernel)).trans ?_
  refine (st_no (c' := wc90) (m := 28) rfl (by decide +kernel) (by decide +kernel) (by decide)).trans ?_
  refine (st_gR (b := 8) (by decide +kernel) (by decide +kernel)).trans ?_
  refine (st_gR (b := 16) (by decide +kernel) (by decide +kernel)).trans ?_
  refine (st_cV ws_X7_5).trans ?_
  refine (st_pR (c' := wc114) rfl (by decide +kernel)).trans ?_
  refine (st_no (c' := wc115) (m := 36) rfl (by decide +kernel) (by decide +kernel) (by decide)).trans ?_
  refine (st_cV ws_X7_6).trans ?_
  refine (st_pR (c' := wc125) rfl (by decide +kernel)).trans ?_
  refine (st_no (c' := wc126) (m := 41) rfl (by decide +kernel) (by decide +kernel) (by decide)).trans ?_
  refine (st_gR (b := 36) (by decide +kernel) (by decide +kernel)).trans ?_
  refine (st_cV ws_X7_7).trans ?_
  refine (st_pR (c' := wc132) rfl (by decide +kernel)).trans ?_
  refine (st_no (c' := wc133) (m := 44) rfl (by decide +kernel) (by decide +kernel) (by decide)).trans ?_
  refine (st_cV ws_X7_8).trans ?_
  refine (st_pR (c' := wc142) rfl (by decide +kernel)).trans ?_
  refine (st_pZ (c' := wc143) rfl (by decide +kernel) (by decide)).trans ?_
  refine (st_gR (b := 13) (by decide +kernel) (by decide +kernel)).trans ?_
  refine (st_no (c' := wc144) (m := 47) rfl (by decide +kernel) (by decide +kernel) (by decide)).trans ?_
  refine (st_cV ws_X7_9).trans ?_
  refine (st_sR (c' := wc162) (n := 3) (k := 0) rfl (by decide +kernel) (by decide) (by decide) (by decide +kernel)).trans ?_
  refine (st_gR (b := 13) (by decide +kernel) (by decide +kernel)).trans ?_
  refine (st_no (c' := wc163) (m := 52) rfl (by decide +kernel) (by decide +kernel) (by decide)).trans ?_
  refine (st_cV ws_X7_10).trans ?_
  refine (st_sR (c' := wc181) (n := 3) (k := 1) rfl (by decide +kernel) (by decide) (by decide) (by decide +kernel)).trans ?_
  refine (st_gR (b := 13) (by decide +kernel) (by decide +kernel)).trans ?_
  refine (st_no (c' := wc182) (m := 57) rfl (by decide +kernel) (by decide +kernel) (by decide)).trans ?_
  refine (st_cV ws_X7_11).trans ?_
  refine (st_sR (c' := wc200) (n := 3) (k := 2) rfl (by decide +kernel) (by decide) (by decide) (by decide +kernel)).trans ?_
  refine (st_gR (b := 15) (by decide +kernel) (by decide +kernel)).trans ?_
  refine (st_no (c' := wc201) (m := 62) rfl (by decide +kernel) (by decide +kernel) (by decide)).trans ?_
  refine (st_cV ws_X7_12).trans ?_
  refine (st_sR (c' := wc219) (n := 8) (k := 0) rfl (by decide +kernel) (by decide) (by decide) (by decide +kernel)).trans ?_
  refine (st_gR (b := 15) (by decide +kernel) (by decide +kernel)).trans ?_
  refine (st_no (c' := wc220) (m := 67) rfl (by decide +kernel) (by decide +kernel) (by decide)).trans ?_
  refine (st_cV ws_X7_13).trans ?_
  refine (st_sR (c' := wc238) (n := 8) (k := 1) rfl (by decide +kernel) (by decide) (by decide) (by decide +kernel)).trans ?_
  refine (st_gR (b := 15) (by decide +kernel) (by decide +kernel)).trans ?_
  refine (st_no (c' := wc239) (m := 72) rfl (by decide +kernel) (by decide +kernel) (by decide)).trans ?_
  refine (st_cV ws_X7_14).trans ?_
  refine (st_sR (c' := wc257) (n := 8) (k := 2) rfl (by decide +kernel) (by decide) (by decide) (by decide +kernel)).trans ?_
  refine (st_gR (b := 15) (by decide +kernel) (by decide +kernel)).trans ?_
  refine (st_no (c' := wc258) (m := 77) rfl (by decide +kernel) (by decide +kernel) (by decide)).trans ?_
  refine (st_cV ws_X7_15).trans ?_
  refine (st_sR (c' := wc276) (n := 8) (k := 3) rfl (by decide +kernel) (by decide) (by decide) (by decide +kernel)).trans ?_
  refine (st_gR (b := 15) (by decide +kernel) (by decide +kernel)).trans ?_
  refine (st_no (c' := wc277) (m := 82) rfl (by decide +kernel) (by decide +kernel) (by decide)).trans ?_
  refine (st_cV ws_X7_16).trans ?_
  refine (st_sR (c' := wc295) (n := 8) (k := 4) rfl (by decide +kernel) (by decide) (by decide) (by decide +kernel)).trans ?_
  refine (st_gR (b := 15) (by decide +kernel) (by decide +kernel)).trans ?_
  refine (st_no (c' := wc296) (m := 87) rfl (by decide +kernel) (by decide +kernel) (by decide)).trans ?_
  refine (st_cV ws_X7_17).trans ?_
  refine (st_sR (c' := wc314) (n := 8) (k := 5) rfl (by decide +kernel) (by decide) (by decide) (by decide +kernel)).trans ?_
  refine (st_gR (b := 15) (by decide +kernel) (by decide +kernel)).trans ?_
  refine (st_no (c' := wc315) (m := 92) rfl (by decide +kernel) (by decide +kernel) (by decide)).trans ?_
  refine (st_cV ws_X7_18).trans ?_
  refine (st_sR (c' := wc333) (n := 8) (k := 6) rfl (by decide +kernel) (by decide) (by decide) (by decide +kernel)).trans ?_
  refine (st_gR (b := 15) (by decide +kernel) (by decide +kernel)).trans ?_
  refine (st_no (c' := wc334) (m := 97) rfl (by decide +kernel) (by decide +kernel) (by decide)).trans ?_
  refine (st_cV ws_X7_19).trans ?_
  refine (st_sR (c' := wc352) (n := 8) (k := 7) rfl (by decide +kernel) (by decide) (by decide) (by decide +kernel)).trans ?_
  rfl
def wc353 : CH := c_new wc352 8 0
def wc354 : CH := c_new wc353 100 2
def wc355 : CH := c_wR wc354 102 1 103
def wc356 : CH := c_m3 wc355 2 12 5
def wc357 : CH := c_wR wc356 102 2 104
def wc358 : CH := c_m2 wc357 2 5
def wc359 : CH := c_wR wc358 102 3 131
def wc360 : CH := c_m2 wc359 2 3
def wc361 : CH := c_wR wc360 102 4 134
def wc362 : CH := c_new wc361 100 2
def wc363 : CH := c_wR wc362 102 5 137
def wc364 : CH := c_m3 wc363 12 2 5
def wc365 : CH := c_wR wc364 102 7 138
def wc366 : CH := c_m2 wc365 3 300
def wc367 : CH := c_wR wc366 102 10 175
def wc368 : CH := c_m2 wc367 8 300
def wc369 : CH := c_wR wc368 102 11 179
def wc370 : CH := c_new wc369 102 3
def wc371 : CH := c_wR wc370 102 12 188
def wc372 : CH := c_new wc371 101 120
def wc373 : CH := c_wR wc372 102 14 189
def wc374 : CH := c_m2 wc373 12 5
def wc375 : CH := c_wR wc374 102 20 190
def wc376 : CH := c_new wc375 100 5
def wc377 : CH := c_wR wc376 102 21 203
def wc378 : CH := c_m2 wc377 12 2
def wc379 : CH := c_wR wc378 102 22 204
def wc380 : CH := c_new wc379 102 12
def wc381 : CH := c_wR wc380 102 23 217
def wc382 : CH := c_new wc381 100 2
def wc383 : CH := c_wR wc382 102 24 218
def wc384 : CH := c_new wc383 100 2
def wc385 : CH := c_wR wc384 102 25 219
def wc386 : CH := c_new wc385 102 12
def wc387 : CH := c_wR wc386 102 26 220
def wc388 : CH := c_new wc387 102 128
def wc389 : CH := c_wR wc388 102 30 221
def wc390 : CH := c_m2 wc389 6 128
def wc391 : CH := c_wR wc390 102 31 222
def wc392 : CH := c_new wc391 100 128
def wc393 : CH := c_wR wc392 102 32 229
def wc394 : CH := c_new wc393 100 128
def wc395 : CH := c_wR wc394 102 33 230
def wc396 : CH := c_new wc395 100 128
def wc397 : CH := c_wR wc396 102 34 231
def wc398 : CH := c_new wc397 100 128
def wc399 : CH := c_wR wc398 102 35 232
def wc400 : CH := c_new wc399 100 128
def wc401 : CH := c_wR wc400 102 36 233
def wc402 : CH := c_new wc401 102 128
def wc403 : CH := c_wR wc402 102 37 234
def wc404 : CH := c_new wc403 102 128
def wc405 : CH := c_wR wc404 102 38 235
theorem sl_X8_init_248 (n : Nat) : f_X8_init_L248 (n + 1) = f_X8_init_b248 (f_X8_init_L248 n) := rfl
def wc406 : CH := c_wI wc405 132 0 (1)
def wc407 : CH := c_wI wc406 132 2 (3)
def wc408 : CH := c_wI wc407 135 0 (-1)
def wc409 : CH := c_wI wc408 133 0 (1)
def wc410 : CH := c_wI wc409 133 2 (3)
def wc411 : CH := c_wI wc410 136 0 (-1)
set_option maxRecDepth 100000 in
theorem ws_X8 : f_X8_init (den wc353) 102 = some (den wc411, xv) := by
  unfold f_X8_init
  refine (st_na (c' := wc354) (m := 103) (n := 2) rfl (by decide +kernel) (by decide +kernel) (by decide) (by decide) (by decide)).trans ?_
  refine (st_pR (c' := wc355) rfl (by decide +kernel)).trans ?_
  refine (st_m3 (c' := wc356) (m := 104) (n := 2) (k := 12) (j := 5) rfl (by decide +kernel) (by decide +kernel) (by decide) (by decide) (by decide) (by decide) (by decide) (by decide)).trans ?_
  refine (st_pR (c' := wc357) rfl (by decide +kernel)).trans ?_
  refine (st_m2 (c' := wc358) (m := 131) (n := 2) (k := 5) rfl (by decide +kernel) (by decide +kernel) (by decide) (by decide) (by decide) (by decide) (by decide)).trans ?_
  refine (st_pR (c' := wc359) rfl (by decide +kernel)).trans ?_
  refine (st_m2 (c' := wc360) (m := 134) (n := 2) (k := 3) rfl (by decide +kernel) (by decide +kernel) (by decide) (by decide) (by decide) (by decide) (by decide)).trans ?_
  refine (st_pR (c' := wc361) rfl (by decide +kernel)).trans ?_
  refine (st_na (c' := wc362) (m := 137) (n := 2) rfl (by decide +kernel) (by decide +kernel) (by decide) (by decide) (by decide)).trans ?_
  refine (st_pR (c' := wc363) rfl (by decide +kernel)).trans ?_
  refine (st_m3 (c' := wc364) (m := 138) (n := 12) (k := 2) (j := 5) rfl (by decide +kernel) (by decide +kernel) (by decide) (by decide) (by decide) (by decide) (by decide) (by decide)).trans ?_
  refine (st_pR (c' := wc365) rfl (by decide +kernel)).trans ?_
  refine (st_m2 (c' := wc366) (m := 175) (n := 3) (k := 300) rfl (by decide +kernel) (by decide +kernel) (by decide) (by decide) (by decide) (by decide) (by decide)).trans ?_
  refine (st_pR (c' := wc367) rfl (by decide +kernel)).trans ?_
  refine (st_m2 (c' := wc368) (m := 179) (n := 8) (k := 300) rfl (by decide +kernel) (by decide +kernel) (by decide) (by decide) (by decide) (by decide) (by decide)).trans ?_
  refine (st_pR (c' := wc369) rfl (by decide +kernel)).trans ?_
  refine (st_na (c' := wc370) (m := 188) (n := 3) rfl (by decide +kernel) (by decide +kernel) (by decide) (by decide) (by decide)).trans ?_
  refine (st_pR (c' := wc371) rfl (by decide +kernel)).trans ?_
  refine (st_na (c' := wc372) (m := 189) (n := 120) rfl (by decide +kernel) (by decide +kernel) (by decide) (by decide) (by decide)).trans ?_
  refine (st_pR (c' := wc373) rfl (by decide +kernel)).trans ?_
  refine (st_m2 (c' := wc374) (m := 190) (n := 12) (k := 5) rfl (by decide +kernel) (by decide +kernel) (by decide) (by decide) (by decide) (by decide) (by decide)).trans ?_
  refine (st_pR (c' := wc375) rfl (by decide +kernel)).trans ?_
  refine (st_na (c' := wc376) (m := 203) (n := 5) rfl (by decide +kernel) (by decide +kernel) (by decide) (by decide) (by decide)).trans ?_
  refine (st_pR (c' := wc377) rfl (by decide +kernel)).trans ?_
  refine (st_m2 (c' := wc378) (m := 204) (n := 12) (k := 2) rfl (by decide +kernel) (by decide +kernel) (by decide) (by decide) (by decide) (by decide) (by decide)).trans ?_
  refine (st_pR (c' := wc379) rfl (by decide +kernel)).trans ?_
  refine (st_na (c' := wc380) (m := 217) (n := 12) rfl (by decide +kernel) (by decide +kernel) (by decide) (by decide) (by decide)).trans ?_
  refine (st_pR (c' := wc381) rfl (by decide +kernel)).trans ?_
  refine (st_na (c' := wc382) (m := 218) (n := 2) rfl (by decide +kernel) (by decide +kernel) (by decide) (by decide) (by decide)).trans ?_
  refine (st_pR (c' := wc383) rfl (by decide +kernel)).trans ?_
  refine (st_na (c' := wc384) (m := 219) (n := 2) rfl (by decide +kernel) (by decide +kernel) (by decide) (by decide) (by decide)).trans ?_
  refine (st_pR (c' := wc385) rfl (by decide +kernel)).trans ?_
  refine (st_na (c' := wc386) (m := 220) (n := 12) rfl (by decide +kernel) (by decide +kernel) (by decide) (by decide) (by decide)).trans ?_
  refine (st_pR (c' := wc387) rfl (by decide +kernel)).trans ?_
  refine (st_na (c' := wc388) (m := 221) (n := 128) rfl (by decide +kernel) (by decide +kernel) (by decide) (by decide) (by decide)).trans ?_
  refine (st_pR (c' := wc389) rfl (by decide +kernel)).trans ?_
  refine (st_m2 (c' := wc390) (m := 222) (n := 6) (k := 128) rfl (by decide +kernel) (by decide +kernel) (by decide) (by decide) (by decide) (by decide) (by decide)).trans ?_
  refine (st_pR (c' := wc391) rfl (by decide +kernel)).trans ?_
  refine (st_na (c' := wc392) (m := 229) (n := 128) rfl (by decide +kernel) (by decide +kernel) (by decide) (by decide) (by decide)).trans ?_
  refine (st_pR (c' := wc393) rfl (by decide +kernel)).trans ?_
  refine (st_na (c' := wc394) (m := 230) (n := 128) rfl (by decide +kernel) (by decide +kernel) (by decide) (by decide) (by decide)).trans ?_
  refine (st_pR (c' := wc395) rfl (by decide +kernel)).trans ?_
  refine (st_na (c' := wc396) (m := 231) (n := 128) rfl (by decide +kernel) (by decide +kernel) (by decide) (by decide) (by decide)).trans ?_
  refine (st_pR (c' := wc397) rfl (by decide +kernel)).trans ?_
  refine (st_na (c' := wc398) (m := 232) (n := 128) rfl (by decide +kernel) (by decide +kernel) (by decide) (by decide) (by decide)).trans ?_
  refine (st_pR (c' := wc399) rfl (by decide +kernel)).trans ?_
  refine (st_na (c' := wc400) (m := 233) (n := 128) rfl (by decide +kernel) (by decide +kernel) (by decide) (by decide) (by decide)).trans ?_
  refine (st_pR (c' := wc401) rfl (by decide +kernel)).trans ?_
  refine (st_na (c' := wc402) (m := 234) (n := 128) rfl (by decide +kernel) (by decide +kernel) (by decide) (by decide) (by decide)).trans ?_
  refine (st_pR (c' := wc403) rfl (by decide +kernel)).trans ?_
  refine (st_na (c' := wc404) (m := 235) (n := 128) rfl (by decide +kernel) (by decide +kernel) (by decide) (by decide) (by decide)).trans ?_
  refine (st_pR (c' := wc405) rfl (by decide +kernel)).trans ?_
  rw [show FU = 99999 + 1 from rfl, sl_X8_init_248]
  refine (if_neg (by decide)).trans ?_
  refine (st_gR (b := 131) (by decide +kernel) (by decide +kernel)).trans ?_
  refine (st_aR (n := 2) (b := 132) (by decide +kernel) (by decide) (by decide +kernel)).trans ?_
  refine (st_sI (c' := wc406) (n := 5) (k := 0) rfl (by decide +kernel) (by decide) (by decide)).trans ?_
  refine (st_gR (b := 131) (by decide +kernel) (by decide +kernel)).trans ?_
  refine (st_aR (n := 2) (b := 132) (by decide +kernel) (by decide) (by decide +kernel)).trans ?_
  refine (st_sI (c' := wc407) (n := 5) (k := 2) rfl (by decide +kernel) (by decide) (by decide)).trans ?_
  refine (st_gR (b := 134) (by decide +kernel) (by decide +kernel)).trans ?_
  refine (st_aR (n := 2) (b := 135) (by decide +kernel) (by decide) (by decide +kernel)).trans ?_
  refine (st_sI (c' := wc408) (n := 3) (k := 0) rfl (by decide +kernel) (by decide) (by decide)).trans ?_
  rw [show f_X8_init_L248 99999 = f_X8_init_b248 (f_X8_init_L248 99998) from sl_X8_init_248 99998]
  refine (if_neg (by decide)).trans ?_
  refine (st_gR (b := 131) (by decide +kernel) (by decide +kernel)).trans ?_
  refine (st_aR (n := 2) (b := 133) (by decide +kernel) (by decide) (by decide +kernel)).trans ?_
  refine (st_sI (c' := wc409) (n := 5) (k := 0) rfl (by decide +kernel) (by decide) (by decide)).trans ?_
  refine (st_gR (b := 131) (by decide +kernel) (by decide +kernel)).trans ?_
  refine (st_aR (n := 2) (b := 133) (by decide +kernel) (by decide) (by decide +kernel)).trans ?_
  refine (st_sI (c' := wc410) (n := 5) (k := 2) rfl (by decide +kernel) (by decide) (by decide)).trans ?_
  refine (st_gR (b := 134) (by decide +kernel) (by decide +kernel)).trans ?_
  refine (st_aR (n := 2) (b := 136) (by decide +kernel) (by decide) (by decide +kernel)).trans ?_
  refine (st_sI (c' := wc411) (n := 3) (k := 0) rfl (by decide +kernel) (by decide) (by decide)).trans ?_
  rw [show f_X8_init_L248 99998 = f_X8_init_b248 (f_X8_init_L248 99997) from sl_X8_init_248 99997]
  refine (if_pos (by decide)).trans ?_
  rfl
def wc412 : CH := c_new wc411 103 1
theorem w_law (L : Nat) (xs : Nat → Int32) : f_L_law L xs hp0 = f_L_law_L23 L xs 514 (den wc412) 0 102 236 0 := by
  unfold f_L_law
  rw [hp0_den]
  refine (st_no (c := wc0) (c' := wc1) (m := 0) rfl rfl rfl (by decide)).trans ?_
  refine (st_nV ws_X7).trans ?_
  refine (st_no (c := wc352) (c' := wc353) (m := 102) rfl (by decide +kernel) (by decide +kernel) (by decide)).trans ?_
  refine (st_nV ws_X8).trans ?_
  exact st_na (c := wc411) (c' := wc412) (m := 236) (n := 1) rfl (by decide +kernel) (by decide +kernel) (by decide) (by decide) (by decide)
def SHL : List (Nat × Nat) := [(7, 0), (101, 120), (6, 0), (101, 0), (100, 65), (100, 5), (100, 4), (100, 4), (4, 0), (100, 130), (100, 2), (100, 6), (100, 120), (104, 3), (102, 3), (104, 8), (5, 0), (100, 24), (102, 12), (100, 2), (0, 0), (102, 65), (100, 65), (100, 65), (100, 65), (100, 65), (100, 65), (100, 65), (0, 0), (102, 65), (100, 65), (100, 65), (100, 65), (100, 65), (100, 65), (100, 65), (2, 0), (100, 64), (100, 64), (100, 64), (100, 64), (1, 0), (100, 65), (100, 12), (3, 0), (102, 65), (103, 65), (4, 0), (100, 130), (100, 2), (100, 6), (100, 120), (4, 0), (100, 130), (100, 2), (100, 6), (100, 120), (4, 0), (100, 130), (100, 2), (100, 6), (100, 120), (4, 0), (100, 130), (100, 2), (100, 6), (100, 120), (4, 0), (100, 130), (100, 2), (100, 6), (100, 120), (4, 0), (100, 130), (100, 2), (100, 6), (100, 120), (4, 0), (100, 130), (100, 2), (100, 6), (100, 120), (4, 0), (100, 130), (100, 2), (100, 6), (100, 120), (4, 0), (100, 130), (100, 2), (100, 6), (100, 120), (4, 0), (100, 130), (100, 2), (100, 6), (100, 120), (4, 0), (100, 130), (100, 2), (100, 6), (100, 120), (8, 0), (100, 2), (106, 2), (105, 12), (100, 5), (100, 5), (100, 5), (100, 5), (100, 5), (100, 5), (100, 5), (100, 5), (100, 5), (100, 5), (100, 5), (100, 5), (105, 12), (100, 5), (100, 5), (100, 5), (100, 5), (100, 5), (100, 5), (100, 5), (100, 5), (100, 5), (100, 5), (100, 5), (100, 5), (105, 2), (100, 5), (100, 5), (105, 2), (100, 3), (100, 3), (100, 2), (106, 12), (105, 2), (100, 5), (100, 5), (105, 2), (100, 5), (100, 5), (105, 2), (100, 5), (100, 5), (105, 2), (100, 5), (100, 5), (105, 2), (100, 5), (100, 5), (105, 2), (100, 5), (100, 5), (105, 2), (100, 5), (100, 5), (105, 2), (100, 5), (100, 5), (105, 2), (100, 5), (100, 5), (105, 2), (100, 5), (100, 5), (105, 2), (100, 5), (100, 5), (105, 2), (100, 5), (100, 5), (105, 3), (100, 300), (100, 300), (100, 300), (105, 8), (100, 300), (100, 300), (100, 300), (100, 300), (100, 300), (100, 300), (100, 300), (100, 300), (102, 3), (101, 120), (105, 12), (100, 5), (100, 5), (100, 5), (100, 5), (100, 5), (100, 5), (100, 5), (100, 5), (100, 5), (100, 5), (100, 5), (100, 5), (100, 5), (105, 12), (100, 2), (100, 2), (100, 2), (100, 2), (100, 2), (100, 2), (100, 2), (100, 2), (100, 2), (100, 2), (100, 2), (100, 2), (102, 12), (100, 2), (100, 2), (102, 12), (102, 128), (105, 6), (100, 128), (100, 128), (100, 128), (100, 128), (100, 128), (100, 128), (100, 128), (100, 128), (100, 128), (100, 128), (100, 128), (102, 128), (102, 128), (103, 1)]
set_option maxRecDepth 100000 in
theorem w_shl : wc412.2.2.2 = SHL := by decide +kernel
def RCL : List (Nat × Nat × Nat) := [(0, 0, 1), (0, 2, 2), (0, 3, 8), (0, 4, 13), (0, 5, 14), (0, 6, 15), (0, 9, 16), (0, 10, 20), (0, 11, 28), (0, 12, 36), (0, 13, 41), (0, 14, 44), (2, 0, 3), (2, 7, 4), (2, 8, 5), (2, 10, 6), (2, 11, 7), (8, 0, 9), (8, 1, 10), (8, 2, 11), (8, 3, 12), (13, 0, 47), (13, 1, 52), (13, 2, 57), (15, 0, 62), (15, 1, 67), (15, 2, 72), (15, 3, 77), (15, 4, 82), (15, 5, 87), (15, 6, 92), (15, 7, 97), (16, 0, 8), (16, 1, 17), (16, 2, 18), (16, 3, 19), (20, 1, 8), (20, 2, 16), (20, 3, 21), (20, 4, 22), (20, 5, 23), (20, 6, 24), (20, 7, 25), (20, 8, 26), (20, 9, 27), (28, 1, 8), (28, 2, 16), (28, 3, 29), (28, 4, 30), (28, 5, 31), (28, 6, 32), (28, 7, 33), (28, 8, 34), (28, 9, 35), (36, 0, 37), (36, 1, 38), (36, 2, 39), (36, 3, 40), (41, 0, 36), (41, 1, 42), (41, 2, 43), (44, 0, 45), (44, 1, 46), (47, 0, 48), (47, 1, 49), (47, 2, 50), (47, 3, 51), (52, 0, 53), (52, 1, 54), (52, 2, 55), (52, 3, 56), (57, 0, 58), (57, 1, 59), (57, 2, 60), (57, 3, 61), (62, 0, 63), (62, 1, 64), (62, 2, 65), (62, 3, 66), (67, 0, 68), (67, 1, 69), (67, 2, 70), (67, 3, 71), (72, 0, 73), (72, 1, 74), (72, 2, 75), (72, 3, 76), (77, 0, 78), (77, 1, 79), (77, 2, 80), (77, 3, 81), (82, 0, 83), (82, 1, 84), (82, 2, 85), (82, 3, 86), (87, 0, 88), (87, 1, 89), (87, 2, 90), (87, 3, 91), (92, 0, 93), (92, 1, 94), (92, 2, 95), (92, 3, 96), (97, 0, 98), (97, 1, 99), (97, 2, 100), (97, 3, 101), (102, 1, 103), (102, 2, 104), (102, 3, 131), (102, 4, 134), (102, 5, 137), (102, 7, 138), (102, 10, 175), (102, 11, 179), (102, 12, 188), (102, 14, 189), (102, 20, 190), (102, 21, 203), (102, 22, 204), (102, 23, 217), (102, 24, 218), (102, 25, 219), (102, 26, 220), (102, 30, 221), (102, 31, 222), (102, 32, 229), (102, 33, 230), (102, 34, 231), (102, 35, 232), (102, 36, 233), (102, 37, 234), (102, 38, 235), (104, 0, 105), (104, 1, 118), (105, 0, 106), (105, 1, 107), (105, 2, 108), (105, 3, 109), (105, 4, 110), (105, 5, 111), (105, 6, 112), (105, 7, 113), (105, 8, 114), (105, 9, 115), (105, 10, 116), (105, 11, 117), (118, 0, 119), (118, 1, 120), (118, 2, 121), (118, 3, 122), (118, 4, 123), (118, 5, 124), (118, 6, 125), (118, 7, 126), (118, 8, 127), (118, 9, 128), (118, 10, 129), (118, 11, 130), (131, 0, 132), (131, 1, 133), (134, 0, 135), (134, 1, 136), (138, 0, 139), (138, 1, 142), (138, 2, 145), (138, 3, 148), (138, 4, 151), (138, 5, 154), (138, 6, 157), (138, 7, 160), (138, 8, 163), (138, 9, 166), (138, 10, 169), (138, 11, 172), (139, 0, 140), (139, 1, 141), (142, 0, 143), (142, 1, 144), (145, 0, 146), (145, 1, 147), (148, 0, 149), (148, 1, 150), (151, 0, 152), (151, 1, 153), (154, 0, 155), (154, 1, 156), (157, 0, 158), (157, 1, 159), (160, 0, 161), (160, 1, 162), (163, 0, 164), (163, 1, 165), (166, 0, 167), (166, 1, 168), (169, 0, 170), (169, 1, 171), (172, 0, 173), (172, 1, 174), (175, 0, 176), (175, 1, 177), (175, 2, 178), (179, 0, 180), (179, 1, 181), (179, 2, 182), (179, 3, 183), (179, 4, 184), (179, 5, 185), (179, 6, 186), (179, 7, 187), (190, 0, 191), (190, 1, 192), (190, 2, 193), (190, 3, 194), (190, 4, 195), (190, 5, 196), (190, 6, 197), (190, 7, 198), (190, 8, 199), (190, 9, 200), (190, 10, 201), (190, 11, 202), (204, 0, 205), (204, 1, 206), (204, 2, 207), (204, 3, 208), (204, 4, 209), (204, 5, 210), (204, 6, 211), (204, 7, 212), (204, 8, 213), (204, 9, 214), (204, 10, 215), (204, 11, 216), (222, 0, 223), (222, 1, 224), (222, 2, 225), (222, 3, 226), (222, 4, 227), (222, 5, 228)]
set_option maxRecDepth 100000 in
theorem w_refs : (RCL.all fun t => cR wc412.2.2.1 t.1 t.2.1 == some t.2.2) = true := by decide +kernel

/-! ===== THE PURE LEVEL: the constructors, step by step, on pictures that are lists ===== -/
abbrev CH : Type := List (Nat × Nat × Int32) × List (Nat × Nat × Int64) × List (Nat × Nat × Nat) × List (Nat × Nat)
def cI : List (Nat × Nat × Int32) → Nat → Nat → Int32
  | [], _, _ => 0
  | e :: r, x, y => if x = e.1 ∧ y = e.2.1 then e.2.2 else cI r x y
def cJ : List (Nat × Nat × Int64) → Nat → Nat → Int64
  | [], _, _ => 0
  | e :: r, x, y => if x = e.1 ∧ y = e.2.1 then e.2.2 else cJ r x y
def cR : List (Nat × Nat × Nat) → Nat → Nat → Option Nat
  | [], _, _ => none
  | e :: r, x, y => if x = e.1 ∧ y = e.2.1 then some e.2.2 else cR r x y
def den (c : CH) : HP := (cI c.1, cJ c.2.1, cR c.2.2.1, c.2.2.2, true)
def c_new (c : CH) (kd n : Nat) : CH := (c.1, c.2.1, c.2.2.1, c.2.2.2 ++ [(kd, n)])
def c_wI (c : CH) (a k : Nat) (v : Int32) : CH := ((a, k, v) :: c.1, c.2)
def c_wJ (c : CH) (a k : Nat) (v : Int64) : CH := (c.1, (a, k, v) :: c.2.1, c.2.2)
def c_wR (c : CH) (a k b : Nat) : CH := (c.1, c.2.1, (a, k, b) :: c.2.2.1, c.2.2.2)
def c_ok (c : CH) : Bool := (c.1.all fun e => decide (e.1 < c.2.2.2.length)) && (c.2.1.all fun e => decide (e.1 < c.2.2.2.length)) && (c.2.2.1.all fun e => decide (e.1 < c.2.2.2.length))
theorem cI_big {l : List (Nat × Nat × Int32)} {n y : Nat} (h : ∀ e ∈ l, e.1 < n) : cI l n y = 0 := by
  induction l with
  | nil => rfl
  | cons e r ih =>
    have h1 := h e List.mem_cons_self
    show (if _ then _ else _) = _
    rw [if_neg (by omega)]
    exact ih fun x hx => h x (List.mem_cons_of_mem _ hx)
theorem cJ_big {l : List (Nat × Nat × Int64)} {n y : Nat} (h : ∀ e ∈ l, e.1 < n) : cJ l n y = 0 := by
  induction l with
  | nil => rfl
  | cons e r ih =>
    have h1 := h e List.mem_cons_self
    show (if _ then _ else _) = _
    rw [if_neg (by omega)]
    exact ih fun x hx => h x (List.mem_cons_of_mem _ hx)
theorem cR_big {l : List (Nat × Nat × Nat)} {n y : Nat} (h : ∀ e ∈ l, e.1 < n) : cR l n y = none := by
  induction l with
  | nil => rfl
  | cons e r ih =>
    have h1 := h e List.mem_cons_self
    show (if _ then _ else _) = _
    rw [if_neg (by omega)]
    exact ih fun x hx => h x (List.mem_cons_of_mem _ hx)
theorem den_new {c : CH} (h : c_ok c = true) (kd n : Nat) : h_new (den c) kd n = den (c_new c kd n) := by
  unfold c_ok at h
  simp only [Bool.and_eq_true, List.all_eq_true, decide_eq_true_eq] at h
  obtain ⟨⟨h1, h2⟩, h3⟩ := h
  have e1 : (fun x y => if x = c.2.2.2.length then (0 : Int32) else cI c.1 x y) = cI c.1 := by
    funext x y
    split
    · next q => rw [q, cI_big h1]
    · rfl
  have e2 : (fun x y => if x = c.2.2.2.length then (0 : Int64) else cJ c.2.1 x y) = cJ c.2.1 := by
    funext x y
    split
    · next q => rw [q, cJ_big h2]
    · rfl
  have e3 : (fun x y => if x = c.2.2.2.length then (none : Option Nat) else cR c.2.2.1 x y) = cR c.2.2.1 := by
    funext x y
    split
    · next q => rw [q, cR_big h3]
    · rfl
  show (_, _, _, _, _) = (_, _, _, _, _)
  exact congr (congrArg Prod.mk e1) (congr (congrArg Prod.mk e2) (congr (congrArg Prod.mk e3) rfl))
theorem den_wI (c : CH) (a k : Nat) (v : Int32) : h_wI (den c) a k v = den (c_wI c a k v) := rfl
theorem den_wJ (c : CH) (a k : Nat) (v : Int64) : h_wJ (den c) a k v = den (c_wJ c a k v) := rfl
theorem den_wR (c : CH) (a k b : Nat) : h_wR (den c) a k (some b) = den (c_wR c a k b) := rfl
/-! the steps -/
theorem st_no {c c' : CH} {ci m : Nat} {f : HP → Nat → Option XR} (e : c' = c_new c ci 0) (ho : c_ok c = true) (hm : c.2.2.2.length = m) (h : m < 1000) : x_no (den c) ci f = f (den c') m := by
  subst e; subst hm
  unfold x_no
  rw [if_pos ⟨rfl, h⟩, den_new ho]
  rfl
theorem st_na {c c' : CH} {t n m : Nat} {v : Int32} {f : HP → Nat → Option XR} (e : c' = c_new c (100 + t) n) (ho : c_ok c = true) (hm : c.2.2.2.length = m) (h : m < 1000) (h0 : 0 ≤ v.toInt ∧ v.toInt ≤ 400) (hv : v.toNatClampNeg = n) : x_na (den c) t v f = f (den c') m := by
  subst e; subst hm; subst hv
  unfold x_na
  rw [if_pos ⟨rfl, h, h0.1, h0.2⟩, den_new ho]
  rfl
theorem st_nm {c c' : CH} {n m : Nat} {v : Int32} {f : HP → Nat → Option XR} (e : c' = c_new c 104 n) (ho : c_ok c = true) (hm : c.2.2.2.length = m) (h : m < 1000) (h0 : 0 ≤ v.toInt ∧ v.toInt ≤ 400) (hv : v.toNatClampNeg = n) : x_nm (den c) v f = f (den c') m := by
  subst e; subst hm; subst hv
  unfold x_nm
  rw [if_pos ⟨rfl, h, h0.1, h0.2⟩, den_new ho]
  rfl
theorem st_pI {c c' : CH} {a ci k : Nat} {v : Int32} {f : HP → Option XR} (e : c' = c_wI c a k v) (h : c.2.2.2[a]? = some (ci, 0)) : x_pI (den c) a ci k v f = f (den c') := by
  subst e
  exact if_pos h
theorem st_pZ {c c' : CH} {a ci k : Nat} {v : Int32} {f : HP → Option XR} (e : c' = c_wI c a k v) (h : c.2.2.2[a]? = some (ci, 0)) (hv : v = 0 ∨ v = 1) : x_pZ (den c) a ci k v f = f (den c') := by
  subst e
  exact if_pos ⟨h, hv⟩
theorem st_pJ {c c' : CH} {a ci k : Nat} {v : Int64} {f : HP → Option XR} (e : c' = c_wJ c a k v) (h : c.2.2.2[a]? = some (ci, 0)) : x_pJ (den c) a ci k v f = f (den c') := by
  subst e
  exact if_pos h
theorem st_pR {c c' : CH} {a ci k b : Nat} {f : HP → Option XR} (e : c' = c_wR c a k b) (h : c.2.2.2[a]? = some (ci, 0)) : x_pR (den c) a ci k b f = f (den c') := by
  subst e
  exact if_pos h
theorem st_gR {c : CH} {a ci k b : Nat} {f : Nat → Option XR} (h : c.2.2.2[a]? = some (ci, 0)) (hb : cR c.2.2.1 a k = some b) : x_gR (den c) a ci k f = f b := by
  refine (if_pos (show (h_sh (den c))[a]? = some (ci, 0) from h)).trans ?_
  show (match cR c.2.2.1 a k with | some b => f b | none => none) = _
  rw [hb]
theorem st_aR {c : CH} {a kd n b : Nat} {i : Int32} {f : Nat → Option XR} (h : c.2.2.2[a]? = some (kd, n)) (hi : 0 ≤ i.toInt ∧ i.toInt < n) (hb : cR c.2.2.1 a i.toNatClampNeg = some b) : x_aR (den c) kd a i f = f b := by
  have hx : x_ix (den c) a kd i = true := by
    unfold x_ix
    show (match c.2.2.2[a]? with | some (q, n) => q == kd && (decide (0 ≤ i.toInt) && decide (i.toInt < n)) | none => false) = true
    rw [h]
    simp [hi]
  unfold x_aR
  rw [if_pos hx]
  show (match cR c.2.2.1 a i.toNatClampNeg with | some b => f b | none => none) = _
  rw [hb]
theorem st_sI {c c' : CH} {a n k : Nat} {i v : Int32} {f : HP → Option XR} (e : c' = c_wI c a k v) (h : c.2.2.2[a]? = some (100, n)) (hi : 0 ≤ i.toInt ∧ i.toInt < n) (hk : i.toNatClampNeg = k) : x_sI (den c) a i v f = f (den c') := by
  subst e; subst hk
  have hx : x_ix (den c) a 100 i = true := by
    unfold x_ix
    show (match c.2.2.2[a]? with | some (q, n) => q == 100 && (decide (0 ≤ i.toInt) && decide (i.toInt < n)) | none => false) = true
    rw [h]
    simp [hi]
  exact if_pos hx
theorem st_sR {c c' : CH} {a n k ci b : Nat} {i : Int32} {f : HP → Option XR} (e : c' = c_wR c a k b) (h : c.2.2.2[a]? = some (104, n)) (hi : 0 ≤ i.toInt ∧ i.toInt < n) (hk : i.toNatClampNeg = k) (hb : c.2.2.2[b]? = some (ci, 0)) : x_sR (den c) a i ci b f = f (den c') := by
  subst e; subst hk
  have hx : x_ix (den c) a 104 i = true := by
    unfold x_ix
    show (match c.2.2.2[a]? with | some (q, n) => q == 104 && (decide (0 ≤ i.toInt) && decide (i.toInt < n)) | none => false) = true
    rw [h]
    simp [hi]
  exact if_pos ⟨hx, hb⟩
theorem st_rc {c : CH} {a ci : Nat} {k : Option XR} (h : c.2.2.2[a]? = some (ci, 0)) : x_rc (den c) a ci k = k := if_pos h
theorem st_cV {r : Option XR} {h : HP} {f : HP → Option XR} (e : r = some (h, xv)) : x_cV r f = f h := by rw [e]; rfl
/-! arrays of arrays -/
def c_f2 (c : CH) (a k : Nat) : Nat → CH
  | 0 => c
  | i + 1 => c_wR (c_new (c_f2 c a k i) 100 k) a i (c_f2 c a k i).2.2.2.length
def c_m2 (c : CH) (n k : Nat) : CH := c_f2 (c_new c 105 n) c.2.2.2.length k n
def c_f3 (c : CH) (a k j : Nat) : Nat → CH
  | 0 => c
  | i + 1 => c_wR (c_m2 (c_f3 c a k j i) k j) a i (c_f3 c a k j i).2.2.2.length
def c_m3 (c : CH) (n k j : Nat) : CH := c_f3 (c_new c 106 n) c.2.2.2.length k j n
theorem c_okn {c : CH} (h : c_ok c = true) (kd n : Nat) : c_ok (c_new c kd n) = true := by
  unfold c_ok c_new at *
  simp only [Bool.and_eq_true, List.all_eq_true, decide_eq_true_eq, List.length_append, List.length_singleton] at *
  exact ⟨⟨fun e he => by have := h.1.1 e he; omega, fun e he => by have := h.1.2 e he; omega⟩, fun e he => by have := h.2 e he; omega⟩
theorem c_okR {c : CH} (h : c_ok c = true) {a : Nat} (ha : a < c.2.2.2.length) (k b : Nat) : c_ok (c_wR c a k b) = true := by
  unfold c_ok c_wR at *
  simp only [Bool.and_eq_true, List.all_eq_true, decide_eq_true_eq, List.mem_cons] at *
  refine ⟨h.1, fun e he => ?_⟩
  rcases he with rfl | he
  · exact ha
  · exact h.2 e he
theorem c_f2_ok {c : CH} (h : c_ok c = true) {a : Nat} (ha : a < c.2.2.2.length) (k : Nat) : ∀ i, c_ok (c_f2 c a k i) = true ∧ c.2.2.2.length ≤ (c_f2 c a k i).2.2.2.length ∧ den (c_f2 c a k i) = h_f2 (den c) a k i
  | 0 => ⟨h, Nat.le_refl _, rfl⟩
  | i + 1 => by
    obtain ⟨h1, h2, h3⟩ := c_f2_ok h ha k i
    have h4 : (c_new (c_f2 c a k i) 100 k).2.2.2.length = (c_f2 c a k i).2.2.2.length + 1 := by simp [c_new]
    refine ⟨c_okR (c_okn h1 _ _) (by omega) _ _, by show _ ≤ (c_new (c_f2 c a k i) 100 k).2.2.2.length; omega, ?_⟩
    show den (c_wR (c_new (c_f2 c a k i) 100 k) a i (c_f2 c a k i).2.2.2.length) = h_wR (h_new (h_f2 (den c) a k i) 100 k) a i (some (h_sh (h_f2 (den c) a k i)).length)
    rw [← h3, den_new h1, ← den_wR]
    rfl
theorem c_m2_ok {c : CH} (h : c_ok c = true) (n k : Nat) : c_ok (c_m2 c n k) = true ∧ c.2.2.2.length + 1 ≤ (c_m2 c n k).2.2.2.length ∧ den (c_m2 c n k) = h_m2 (den c) n k := by
  have h4 : (c_new c 105 n).2.2.2.length = c.2.2.2.length + 1 := by simp [c_new]
  obtain ⟨h1, h2, h3⟩ := c_f2_ok (c_okn h 105 n) (a := c.2.2.2.length) (by omega) k n
  refine ⟨h1, by show _ ≤ (c_f2 (c_new c 105 n) c.2.2.2.length k n).2.2.2.length; omega, ?_⟩
  show den (c_f2 (c_new c 105 n) c.2.2.2.length k n) = h_f2 (h_new (den c) 105 n) (h_sh (den c)).length k n
  rw [h3, den_new h]
  rfl
theorem c_f3_ok {c : CH} (h : c_ok c = true) {a : Nat} (ha : a < c.2.2.2.length) (k j : Nat) : ∀ i, c_ok (c_f3 c a k j i) = true ∧ c.2.2.2.length ≤ (c_f3 c a k j i).2.2.2.length ∧ den (c_f3 c a k j i) = h_f3 (den c) a k j i
  | 0 => ⟨h, Nat.le_refl _, rfl⟩
  | i + 1 => by
    obtain ⟨h1, h2, h3⟩ := c_f3_ok h ha k j i
    obtain ⟨g1, g2, g3⟩ := c_m2_ok h1 k j
    refine ⟨c_okR g1 (by omega) _ _, by show _ ≤ (c_m2 (c_f3 c a k j i) k j).2.2.2.length; omega, ?_⟩
    show den (c_wR (c_m2 (c_f3 c a k j i) k j) a i (c_f3 c a k j i).2.2.2.length) = h_wR (h_m2 (h_f3 (den c) a k j i) k j) a i (some (h_sh (h_f3 (den c) a k j i)).length)
    rw [← h3, ← g3, ← den_wR]
    rfl
theorem st_m2 {c c' : CH} {n k m : Nat} {v w : Int32} {f : HP → Nat → Option XR} (e : c' = c_m2 c n k) (ho : c_ok c = true) (hm : c.2.2.2.length = m) (h : m + 1 + n ≤ 1000) (h0 : 0 ≤ v.toInt ∧ 0 ≤ w.toInt) (hv : v.toNatClampNeg = n) (hw : w.toNatClampNeg = k) (h4 : n ≤ 400 ∧ k ≤ 400) : x_m2 (den c) v w f = f (den c') m := by
  subst e; subst hm; subst hv; subst hw
  unfold x_m2
  rw [if_pos ⟨rfl, h, h4.1, h4.2, h0.1, h0.2⟩, ← (c_m2_ok ho _ _).2.2]
  rfl
theorem st_m3 {c c' : CH} {n k j m : Nat} {v w u : Int32} {f : HP → Nat → Option XR} (e : c' = c_m3 c n k j) (ho : c_ok c = true) (hm : c.2.2.2.length = m) (h : m + 1 + n * (1 + k) ≤ 1000) (h0 : 0 ≤ v.toInt ∧ 0 ≤ w.toInt ∧ 0 ≤ u.toInt) (hv : v.toNatClampNeg = n) (hw : w.toNatClampNeg = k) (hu : u.toNatClampNeg = j) (h4 : n ≤ 400 ∧ k ≤ 400 ∧ j ≤ 400) : x_m3 (den c) v w u f = f (den c') m := by
  subst e; subst hm; subst hv; subst hw; subst hu
  unfold x_m3
  have hl : (c_new c 106 v.toNatClampNeg).2.2.2.length = c.2.2.2.length + 1 := by simp [c_new]
  have h9 : den (c_m3 c v.toNatClampNeg w.toNatClampNeg u.toNatClampNeg) = h_m3 (den c) v.toNatClampNeg w.toNatClampNeg u.toNatClampNeg := by
    show den (c_f3 (c_new c 106 _) c.2.2.2.length _ _ _) = h_f3 (h_new (den c) 106 _) (h_sh (den c)).length _ _ _
    rw [(c_f3_ok (c_okn ho 106 _) (a := c.2.2.2.length) (by omega) _ _ _).2.2, den_new ho]
    rfl
  rw [if_pos ⟨rfl, h, h4.1, h4.2.1, h4.2.2, h0.1, h0.2.1, h0.2.2⟩, ← h9]
  rfl
theorem st_lI {v : Int32} {f : Int32 → Option XR} : x_lI v f = f v := rfl
def hp9 : HP := (fun _ _ => 0, fun _ _ => 0, fun _ _ => none, [], true)
abbrev wc0 : CH := ([], [], [], [])
theorem hp0_den : hp9 = den wc0 := rfl
def wc1 : CH := c_new wc0 7 0
def wc2 : CH := c_new wc1 101 120
def wc3 : CH := c_wR wc2 0 0 1
def wc4 : CH := c_wI wc3 0 1 (0)
def wc5 : CH := c_new wc4 6 0
def wc6 : CH := c_new wc5 101 0
def wc7 : CH := c_wR wc6 2 0 3
def wc8 : CH := c_wI wc7 2 1 (0)
def wc9 : CH := c_wI wc8 2 2 (0)
def wc10 : CH := c_wI wc9 2 3 (0)
def wc11 : CH := c_wI wc10 2 4 (0)
def wc12 : CH := c_wI wc11 2 5 (0)
def wc13 : CH := c_wI wc12 2 6 (0)
def wc14 : CH := c_new wc13 100 65
def wc15 : CH := c_wR wc14 2 7 4
def wc16 : CH := c_new wc15 100 5
def wc17 : CH := c_wR wc16 2 8 5
def wc18 : CH := c_wI wc17 2 9 (0)
def wc19 : CH := c_new wc18 100 4
def wc20 : CH := c_wR wc19 2 10 6
def wc21 : CH := c_new wc20 100 4
def wc22 : CH := c_wR wc21 2 11 7
set_option maxRecDepth 100000 in
theorem ws_X7_1 : f_X6_init (den wc5) 2 = some (den wc22, xv) := by
  unfold f_X6_init
  refine (st_na (c' := wc6) (m := 3) (n := 0) rfl (by decide +kernel) (by decide +kernel) (by decide) (by decide) (by decide)).trans ?_
  refine (st_pR (c' := wc7) rfl (by decide +kernel)).trans ?_
  refine (st_pI (c' := wc8) rfl (by decide +kernel)).trans ?_
  refine (st_pI (c' := wc9) rfl (by decide +kernel)).trans ?_
  refine (st_pI (c' := wc10) rfl (by decide +kernel)).trans ?_
  refine (st_pI (c' := wc11) rfl (by decide +kernel)).trans ?_
  refine (st_pZ (c' := wc12) rfl (by decide +kernel) (by decide)).trans ?_
  refine (st_pI (c' := wc13) rfl (by decide +kernel)).trans ?_
  refine (st_na (c' := wc14) (m := 4) (n := 65) rfl (by decide +kernel) (by decide +kernel) (by decide) (by decide) (by decide)).trans ?_
  refine (st_pR (c' := wc15) rfl (by decide +kernel)).trans ?_
  refine (st_na (c' := wc16) (m := 5) (n := 5) rfl (by decide +kernel) (by decide +kernel) (by decide) (by decide) (by decide)).trans ?_
  refine (st_pR (c' := wc17) rfl (by decide +kernel)).trans ?_
  refine (st_pI (c' := wc18) rfl (by decide +kernel)).trans ?_
  refine (st_na (c' := wc19) (m := 6) (n := 4) rfl (by decide +kernel) (by decide +kernel) (by decide) (by decide) (by decide)).trans ?_
  refine (st_pR (c' := wc20) rfl (by decide +kernel)).trans ?_
  refine (st_na (c' := wc21) (m := 7) (n := 4) rfl (by decide +kernel) (by decide +kernel) (by decide) (by decide) (by decide)).trans ?_
  refine (st_pR (c' := wc22) rfl (by decide +kernel)).trans ?_
  rfl
def wc23 : CH := c_wR wc22 0 2 2
def wc24 : CH := c_new wc23 4 0
def wc25 : CH := c_new wc24 100 130
def wc26 : CH := c_wR wc25 8 0 9
def wc27 : CH := c_new wc26 100 2
def wc28 : CH := c_wR wc27 8 1 10
def wc29 : CH := c_new wc28 100 6
def wc30 : CH := c_wR wc29 8 2 11
def wc31 : CH := c_new wc30 100 120
def wc32 : CH := c_wR wc31 8 3 12
def wc33 : CH := c_wI wc32 8 4 (0)
def wc34 : CH := c_wI wc33 8 5 (0)
def wc35 : CH := c_wI wc34 8 6 (0)
theorem sl_X4_init_53 (n : Nat) : f_X4_init_L53 (n + 1) = f_X4_init_b53 (f_X4_init_L53 n) := rfl
def wc36 : CH := c_wI wc35 9 60 (1)
def wc37 : CH := c_wI wc36 9 62 (3)
def wc38 : CH := c_wI wc37 11 0 (-1)
def wc39 : CH := c_wI wc38 9 125 (1)
def wc40 : CH := c_wI wc39 9 127 (3)
def wc41 : CH := c_wI wc40 11 3 (-1)
set_option maxRecDepth 100000 in
theorem ws_X7_2 : f_X4_init (den wc24) 8 = some (den wc41, xv) := by
  unfold f_X4_init
  refine (st_na (c' := wc25) (m := 9) (n := 130) rfl (by decide +kernel) (by decide +kernel) (by decide) (by decide) (by decide)).trans ?_
  refine (st_pR (c' := wc26) rfl (by decide +kernel)).trans ?_
  refine (st_na (c' := wc27) (m := 10) (n := 2) rfl (by decide +kernel) (by decide +kernel) (by decide) (by decide) (by decide)).trans ?_
  refine (st_pR (c' := wc28) rfl (by decide +kernel)).trans ?_
  refine (st_na (c' := wc29) (m := 11) (n := 6) rfl (by decide +kernel) (by decide +kernel) (by decide) (by decide) (by decide)).trans ?_
  refine (st_pR (c' := wc30) rfl (by decide +kernel)).trans ?_
  refine (st_na (c' := wc31) (m := 12) (n := 120) rfl (by decide +kernel) (by decide +kernel) (by decide) (by decide) (by decide)).trans ?_
  refine (st_pR (c' := wc32) rfl (by decide +kernel)).trans ?_
  refine (st_pI (c' := wc33) rfl (by decide +kernel)).trans ?_
  refine (st_pI (c' := wc34) rfl (by decide +kernel)).trans ?_
  refine (st_pZ (c' := wc35) rfl (by decide +kernel) (by decide)).trans ?_
  rw [show FU = 99999 + 1 from rfl, sl_X4_init_53]
  refine (if_neg (by decide)).trans ?_
  refine st_lI.trans ?_
  refine (st_gR (b := 9) (by decide +kernel) (by decide +kernel)).trans ?_
  refine (st_sI (c' := wc36) (n := 130) (k := 60) rfl (by decide +kernel) (by decide) (by decide)).trans ?_
  refine (st_gR (b := 9) (by decide +kernel) (by decide +kernel)).trans ?_
  refine (st_sI (c' := wc37) (n := 130) (k := 62) rfl (by decide +kernel) (by decide) (by decide)).trans ?_
  refine (st_gR (b := 11) (by decide +kernel) (by decide +kernel)).trans ?_
  refine (st_sI (c' := wc38) (n := 6) (k := 0) rfl (by decide +kernel) (by decide) (by decide)).trans ?_
  rw [show f_X4_init_L53 99999 = f_X4_init_b53 (f_X4_init_L53 99998) from sl_X4_init_53 99998]
  refine (if_neg (by decide)).trans ?_
  refine st_lI.trans ?_
  refine (st_gR (b := 9) (by decide +kernel) (by decide +kernel)).trans ?_
  refine (st_sI (c' := wc39) (n := 130) (k := 125) rfl (by decide +kernel) (by decide) (by decide)).trans ?_
  refine (st_gR (b := 9) (by decide +kernel) (by decide +kernel)).trans ?_
  refine (st_sI (c' := wc40) (n := 130) (k := 127) rfl (by decide +kernel) (by decide) (by decide)).trans ?_
  refine (st_gR (b := 11) (by decide +kernel) (by decide +kernel)).trans ?_
  refine (st_sI (c' := wc41) (n := 6) (k := 3) rfl (by decide +kernel) (by decide) (by decide)).trans ?_
  rw [show f_X4_init_L53 99998 = f_X4_init_b53 (f_X4_init_L53 99997) from sl_X4_init_53 99997]
  refine (if_pos (by decide)).trans ?_
  rfl

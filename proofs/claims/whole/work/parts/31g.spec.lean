/-! ===== what both sides find, as functions of the state's numbers ===== -/
noncomputable def cif {α : Type} (P : Prop) (a b : α) : α := @ite α P (Classical.propDecidable P) a b
theorem cif_pos {α : Type} {P : Prop} {a b : α} (h : P) : cif P a b = a := @if_pos P (Classical.propDecidable P) h α a b
theorem cif_neg {α : Type} {P : Prop} {a b : α} (h : ¬ P) : cif P a b = b := @if_neg P (Classical.propDecidable P) h α a b
noncomputable def bb (P : Prop) : Int := cif P 1 0
theorem bb_pos {P : Prop} (h : P) : bb P = 1 := cif_pos h
theorem bb_neg {P : Prop} (h : ¬ P) : bb P = 0 := cif_neg h
theorem bb_01 (P : Prop) : bb P = 0 ∨ bb P = 1 := by
  by_cases h : P
  · exact Or.inr (bb_pos h)
  · exact Or.inl (bb_neg h)
theorem bb_congr {P Q : Prop} (h : P ↔ Q) : bb P = bb Q := by rw [propext h]
/-- the first good one in a row -/
def FOn {α : Type} (nx : α → α) (good : α → Prop) : Nat → α → α → Prop
  | 0, x, y => good x ∧ y = x
  | k + 1, x, y => ¬ good x ∧ FOn nx good k (nx x) y
def FO {α : Type} (nx : α → α) (good : α → Prop) (x y : α) : Prop := ∃ k, FOn nx good k x y
theorem FO.here {α : Type} {nx : α → α} {good : α → Prop} {x : α} (h : good x) : FO nx good x x := ⟨0, h, rfl⟩
theorem FO.next {α : Type} {nx : α → α} {good : α → Prop} {x y : α} (h : ¬ good x) (g : FO nx good (nx x) y) : FO nx good x y := by
  obtain ⟨k, hk⟩ := g
  exact ⟨k + 1, h, hk⟩
theorem FO.uniq {α : Type} {nx : α → α} {good : α → Prop} {x y z : α} (h : FO nx good x y) (g : FO nx good x z) : y = z := by
  obtain ⟨k, hk⟩ := h
  obtain ⟨j, hj⟩ := g
  induction k generalizing x j with
  | zero =>
    obtain ⟨h1, rfl⟩ := hk
    cases j with
    | zero => exact hj.2.symm
    | succ j => exact absurd h1 hj.1
  | succ k ih =>
    cases j with
    | zero => exact absurd hj.1 hk.1
    | succ j => exact ih hk.2 j hj.2
theorem FO.good {α : Type} {nx : α → α} {good : α → Prop} {x y : α} (h : FO nx good x y) : good y := by
  obtain ⟨k, hk⟩ := h
  induction k generalizing x with
  | zero =>
    obtain ⟨h1, rfl⟩ := hk
    exact h1
  | succ k ih => exact ih hk.2
noncomputable def fo {α : Type} (nx : α → α) (good : α → Prop) (x : α) : α := @dite α (∃ y, FO nx good x y) (Classical.propDecidable _) (fun h => Classical.choose h) (fun _ => x)
theorem fo_eq {α : Type} {nx : α → α} {good : α → Prop} {x y : α} (h : FO nx good x y) : fo nx good x = y := by
  have hx : ∃ y, FO nx good x y := ⟨y, h⟩
  unfold fo
  rw [@dif_pos _ (Classical.propDecidable _) hx]
  exact (Classical.choose_spec hx).uniq h
/-! the state: A 0 the tracks' parts, A 1 the numbers of explicit tracks, A 2 the settings, A 3 the items' fields, A 4 the items' number, the flow, dense -/
def nit (A : CF) : Int := A 4 0
def itf (A : CF) (i ax f : Int) : Int := A 3 ((i * 2 + ax) * 5 + f)
def tpt (A : CF) (ax k p : Int) : Int := A 0 ((ax * 13 + (if k ≤ A 1 ax then k - 1 else 12)) * 5 + p)
def stg (A : CF) (ax s : Int) : Int := A 2 (ax * 3 + s)
def okT (T : Int → Int) (q : Int) : Prop := (0 ≤ T q ∧ T q ≤ 2) ∧ (0 ≤ T (q + 1) ∧ T (q + 1) ≤ 999) ∧ (0 ≤ T (q + 2) ∧ T (q + 2) ≤ 5) ∧ (0 ≤ T (q + 3) ∧ T (q + 3) ≤ 999) ∧ (T (q + 2) = 5 → 1 ≤ T (q + 3)) ∧ (0 ≤ T (q + 4) ∧ T (q + 4) ≤ 1)
def okI (A : CF) (i ax : Int) : Prop := (0 ≤ itf A i ax 0 ∧ itf A i ax 0 ≤ itf A i ax 1 ∧ itf A i ax 1 ≤ 999) ∧ (itf A i ax 2 = -1 ∨ (1 ≤ itf A i ax 2 ∧ itf A i ax 2 ≤ 12)) ∧ (1 ≤ itf A i ax 3 ∧ itf A i ax 3 ≤ 4) ∧ (0 ≤ itf A i ax 4 ∧ itf A i ax 4 ≤ 3)
def okA (A : CF) : Prop := (0 ≤ nit A ∧ nit A ≤ 12) ∧ (A 4 1 = 0 ∨ A 4 1 = 1) ∧ (A 4 2 = 0 ∨ A 4 2 = 1) ∧
  (∀ ax, 0 ≤ ax → ax < 2 → (0 ≤ A 1 ax ∧ A 1 ax ≤ 12) ∧ (-1 ≤ stg A ax 0 ∧ stg A ax 0 ≤ 9999) ∧ (0 ≤ stg A ax 1 ∧ stg A ax 1 ≤ 99) ∧ (0 ≤ stg A ax 2 ∧ stg A ax 2 ≤ 6)) ∧
  (∀ ax row, 0 ≤ ax → ax < 2 → 0 ≤ row → row ≤ 12 → okT (A 0) ((ax * 13 + row) * 5)) ∧
  (∀ i ax, 0 ≤ i → i < nit A → 0 ≤ ax → ax < 2 → okI A i ax)
/-! placement -/
def hs (A : CF) (i ax : Int) : Prop := itf A i ax 2 ≠ -1
def gmx (A : CF) : Int := if A 4 1 = 0 then 1 else 0
def meets (A st : CF) (mx i m s k : Int) : Prop := st k mx ≤ m + itf A i mx 3 - 1 ∧ m ≤ st k mx + itf A k mx 3 - 1 ∧ st k (1 - mx) ≤ s + itf A i (1 - mx) 3 - 1 ∧ s ≤ st k (1 - mx) + itf A k (1 - mx) 3 - 1
def free (A st : CF) (mx : Int) (P : Int → Prop) (i m s : Int) : Prop := ∀ k, 0 ≤ k → k < nit A → P k → ¬ meets A st mx i m s k
def pP2 (A : CF) (mx i k : Int) : Prop := hs A k mx ∧ (hs A k (1 - mx) ∨ k < i)
def pP4 (A : CF) (mx i k : Int) : Prop := hs A k mx ∨ k < i
noncomputable def lst (A st : CF) (mx i : Int) : Nat → Int
  | 0 => 1
  | k + 1 => cif (hs A k mx ∧ ¬ hs A k (1 - mx) ∧ st k mx = itf A i mx 2) (max (lst A st mx i k) (st k (1 - mx) + 1)) (lst A st mx i k)
def put (st : CF) (i mx m s : Int) : CF := fun k ax => if k = i then (if ax = mx then m else s) else st k ax
noncomputable def pS2 (A : CF) (mx : Int) : Nat → CF
  | 0 => fun i ax => itf A i ax 2
  | n + 1 => cif (hs A n mx ∧ ¬ hs A n (1 - mx))
      (put (pS2 A mx n) n mx (itf A n mx 2) (fo (fun s => s + 1) (fun s => free A (pS2 A mx n) mx (pP2 A mx n) n (itf A n mx 2) s) (if A 4 2 = 0 then lst A (pS2 A mx n) mx n n else 1)))
      (pS2 A mx n)
noncomputable def sct (A st : CF) (mx : Int) : Nat → Int
  | 0 => max 1 (A 1 (1 - mx))
  | n + 1 => max (sct A st mx n) (cif (hs A n mx) (st n (1 - mx)) (cif (hs A n (1 - mx)) (itf A n (1 - mx) 2) 1) + itf A n (1 - mx) 3 - 1)
def pnx (last : Int) (x : Int × Int) : Int × Int := if x.2 + 1 ≤ last then (x.1, x.2 + 1) else (x.1 + 1, 1)
/-- step 4's cursor, where it begins for an item -/
def pcu (A : CF) (x : Int × Int) : Int × Int := if A 4 2 = 0 then x else (1, 1)
noncomputable def pgo (A st : CF) (mx cnt i : Int) (x : Int × Int) : Int × Int :=
  cif (hs A i (1 - mx))
    (fo (fun y => (y.1 + 1, y.2)) (fun y => free A st mx (pP4 A mx i) i y.1 y.2) (if itf A i (1 - mx) 2 < x.2 then x.1 + 1 else x.1, itf A i (1 - mx) 2))
    (fo (pnx (cnt - itf A i (1 - mx) 3 + 1)) (fun y => y.2 ≤ cnt - itf A i (1 - mx) 3 + 1 ∧ free A st mx (pP4 A mx i) i y.1 y.2) x)
noncomputable def pS4 (A st0 : CF) (mx cnt : Int) : Nat → CF × Int × Int
  | 0 => (st0, 1, 1)
  | n + 1 => cif (hs A n mx) (pS4 A st0 mx cnt n)
      (put (pS4 A st0 mx cnt n).1 n mx (pgo A (pS4 A st0 mx cnt n).1 mx cnt n (pcu A (pS4 A st0 mx cnt n).2)).1 (pgo A (pS4 A st0 mx cnt n).1 mx cnt n (pcu A (pS4 A st0 mx cnt n).2)).2, pgo A (pS4 A st0 mx cnt n).1 mx cnt n (pcu A (pS4 A st0 mx cnt n).2))
noncomputable def pst2 (A : CF) : CF := pS2 A (gmx A) (nit A).toNat
noncomputable def pcnt (A : CF) : Int := sct A (pst2 A) (gmx A) (nit A).toNat
/-- where an item starts -/
noncomputable def pl (A : CF) : CF := (pS4 A (pst2 A) (gmx A) (pcnt A) (nit A).toNat).1
noncomputable def ntN (A : CF) (ax : Int) : Nat → Int
  | 0 => A 1 ax
  | n + 1 => max (ntN A ax n) (pl A n ax + itf A n ax 3 - 1)
/-- the tracks of the grid -/
noncomputable def nt (A : CF) (ax : Int) : Int := ntN A ax (nit A).toNat

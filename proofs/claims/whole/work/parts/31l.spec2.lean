/-! ===== what both sides find: the sizes of the tracks of an axis ===== -/
theorem Gr.bd2 {may : Int → Prop} {w r : Int → Int} : ∀ {p : Nat} {g g' : Int → Int} {s : Nat}, Gr may w r p g g' s → ∀ k, g' k + s ≤ g k + p := by
  intro p
  induction p with
  | zero =>
    rintro g g' s ⟨rfl, rfl⟩ k
    omega
  | succ p ih =>
    rintro g g' s (⟨h1, rfl, rfl⟩ | ⟨x, h1, h2⟩) k
    · omega
    · have h := ih h2 k
      by_cases q : k = x
      · subst q
        rw [up1_eq] at h
        omega
      · rw [up1_ne q] at h
        omega
noncomputable def grf (may : Int → Prop) (w r : Int → Int) (p : Nat) (g : Int → Int) : (Int → Int) × Nat := @dite _ (∃ x : (Int → Int) × Nat, Gr may w r p g x.1 x.2) (Classical.propDecidable _) (fun h => Classical.choose h) (fun _ => (g, p))
theorem grf_eq {may : Int → Prop} {w r : Int → Int} {p : Nat} {g g' : Int → Int} {s : Nat} (h : Gr may w r p g g' s) : grf may w r p g = (g', s) := by
  have hx : ∃ x : (Int → Int) × Nat, Gr may w r p g x.1 x.2 := ⟨(g', s), h⟩
  unfold grf
  rw [@dif_pos _ (Classical.propDecidable _) hx]
  have h2 := (Classical.choose_spec hx).uniq h
  exact Prod.ext h2.1 h2.2
theorem grf_bd {may : Int → Prop} {w r : Int → Int} {p : Nat} {g : Int → Int} (k : Int) : g k ≤ (grf may w r p g).1 k ∧ (grf may w r p g).1 k + (grf may w r p g).2 ≤ g k + p ∧ (¬ may k → (grf may w r p g).1 k = g k) := by
  by_cases hx : ∃ x : (Int → Int) × Nat, Gr may w r p g x.1 x.2
  · obtain ⟨x, hx⟩ := hx
    have e : grf may w r p g = x := grf_eq (g' := x.1) (s := x.2) hx
    rw [e]
    exact ⟨(hx.bd.1 k).1, hx.bd2 k, hx.bd.2.1 k⟩
  · unfold grf
    rw [@dif_neg _ (Classical.propDecidable _) hx]
    exact ⟨Int.le_refl _, Int.le_refl _, fun _ => rfl⟩
/-- pixels given to each track; rg: whether the rest is given out without bounds -/
noncomputable def fil (rg : Bool) (may : Int → Prop) (w r : Int → Int) (p : Nat) : Int → Int :=
  if rg = true then (grf may w (fun _ => 1000000) (grf may w r p (fun _ => 0)).2 (grf may w r p (fun _ => 0)).1).1 else (grf may w r p (fun _ => 0)).1
theorem fil_bd {rg : Bool} {may : Int → Prop} {w r : Int → Int} {p : Nat} (k : Int) : 0 ≤ fil rg may w r p k ∧ fil rg may w r p k ≤ p ∧ (¬ may k → fil rg may w r p k = 0) := by
  have h1 := grf_bd (may := may) (w := w) (r := r) (p := p) (g := fun _ => 0) k
  unfold fil
  split
  · have h2 := grf_bd (may := may) (w := w) (r := fun _ => 1000000) (p := (grf may w r p (fun _ => 0)).2) (g := (grf may w r p (fun _ => 0)).1) k
    refine ⟨by omega, by omega, fun h => ?_⟩
    rw [h2.2.2 h, h1.2.2 h]
  · refine ⟨by omega, by omega, fun h => h1.2.2 h⟩
/-! sums from a to b -/
def rs (f : Int → Int) (a b : Int) : Int := sz (fun j => f (a + j)) (b - a + 1)
theorem rs_0 {f : Int → Int} {a b : Int} (h : b < a) : rs f a b = 0 := sz_0 (by omega)
theorem rs_s {f : Int → Int} {a b : Int} (h : a ≤ b) : rs f a b = rs f a (b - 1) + f b := by
  unfold rs
  have h1 := sz_s (f := fun j => f (a + j)) (k := b - 1 - a + 1) (by omega)
  rw [show b - a + 1 = b - 1 - a + 1 + 1 by omega, h1, show a + (b - 1 - a + 1) = b by omega]
theorem rs_congr {f g : Int → Int} {a b : Int} (h : ∀ k, a ≤ k → k ≤ b → f k = g k) : rs f a b = rs g a b := sz_congr fun i i0 i1 => h _ (by omega) (by omega)
theorem rs_nonneg {f : Int → Int} {a b : Int} (h : ∀ k, a ≤ k → k ≤ b → 0 ≤ f k) : 0 ≤ rs f a b := sz_nonneg fun i i0 i1 => h _ (by omega) (by omega)
theorem rs_ge {f : Int → Int} {a b k : Int} (h : ∀ k, a ≤ k → k ≤ b → 0 ≤ f k) (k0 : a ≤ k) (k1 : k ≤ b) : f k ≤ rs f a b := by
  have := sz_ge (f := fun j => f (a + j)) (k := b - a + 1) (j := k - a) (fun i i0 i1 => h _ (by omega) (by omega)) (by omega) (by omega)
  rw [show a + (k - a) = k by omega] at this
  exact this
theorem rs_le {f : Int → Int} {a b M : Int} {n : Nat} (h : ∀ k, a ≤ k → k ≤ b → f k ≤ M) (hM : 0 ≤ M) (hn : b - a + 1 ≤ n) : rs f a b ≤ n * M := by
  have h1 := sN_le (f := fun j => f (a + j)) (M := M) (n := (b - a + 1).toNat) (fun i i0 i1 => h _ (by omega) (by omega))
  have h2 : ((b - a + 1).toNat : Int) * M ≤ n * M := Int.mul_le_mul_of_nonneg_right (by omega) hM
  unfold rs sz
  omega
/-! the tracks -/
def cvr (A : CF) (ax i k : Int) : Prop := pl A i ax ≤ k ∧ k ≤ pl A i ax + itf A i ax 3 - 1
def col (A : CF) (ax k : Int) : Prop := tpt A ax k 4 = 1 ∧ ∀ i, 0 ≤ i → i < nit A → ¬ cvr A ax i k
def opn (A : CF) (ax k : Int) : Prop := (1 ≤ k ∧ k ≤ nt A ax) ∧ ¬ col A ax k
def flx (A : CF) (ax k : Int) : Prop := opn A ax k ∧ tpt A ax k 2 = 5
def onF (A : CF) (ax i : Int) : Prop := ∃ k, cvr A ax i k ∧ tpt A ax k 2 = 5
noncomputable def grp (A : CF) (ax i : Int) : Int := cif (onF A ax i) 5 (itf A i ax 3)
def gpa (A : CF) (ax : Int) : Int := stg A ax 1
def asz (A : CF) (ax : Int) : Int := stg A ax 0
noncomputable def spc (A : CF) (ax : Int) (f : Int → Int) (i : Int) : Int := gpa A ax * (itf A i ax 3 - 1) + rs f (pl A i ax) (pl A i ax + itf A i ax 3 - 1)
noncomputable def shn (A : CF) (ax : Int) : Int := rs (fun k => bb (¬ col A ax k)) 1 (nt A ax)
noncomputable def gut (A : CF) (ax : Int) : Int := if 0 < shn A ax then gpa A ax * (shn A ax - 1) else 0
noncomputable def tot (A : CF) (ax : Int) (f : Int → Int) : Int := gut A ax + rs (fun k => cif (col A ax k) 0 (f k)) 1 (nt A ax)
def asked (A : CF) (ax s g k : Int) : Prop := if s = 1 then (if g = 0 then tpt A ax k 0 ≠ 0 else tpt A ax k 0 = 2) else (tpt A ax k 2 ≠ 0 ∧ tpt A ax k 2 ≠ 5 ∧ (g ≠ 0 → tpt A ax k 2 ≠ 1))
def mayF (A : CF) (ax s q g i k : Int) : Prop := cvr A ax i k ∧ asked A ax s g k ∧ (q = 5 → tpt A ax k 2 = 5)
noncomputable def rmF (A : CF) (ax s : Int) (base f : Int → Int) (k : Int) : Int := max 0 (if s = 1 then (if tpt A ax k 2 = 0 then max (tpt A ax k 3) (f k) - f k else 1000000) else (if tpt A ax k 2 = 4 then max (tpt A ax k 3) (base k) - f k else 1000000))
def wtF (A : CF) (ax q k : Int) : Int := if q = 5 then tpt A ax k 3 else 1
noncomputable def filF (A : CF) (ax s q g : Int) (base f : Int → Int) (i : Int) : Int → Int := fil (decide (s = 1)) (mayF A ax s q g i) (wtF A ax q) (rmF A ax s base f) (itf A i ax g - spc A ax f i).toNat
/-- s the stage, q the group, g 0 the small and 1 the large contributions -/
noncomputable def pgs (A : CF) (ax s q g : Int) (base f : Int → Int) : Nat → Int → Int
  | 0 => f
  | i + 1 => cif (grp A ax i = q) (fun k => max (pgs A ax s q g base f i k) (f k + filF A ax s q g base f i k)) (pgs A ax s q g base f i)
noncomputable def pgr (A : CF) (ax s q g : Int) (base f : Int → Int) : Int → Int := pgs A ax s q g base f (nit A).toNat
noncomputable def bs0 (A : CF) (ax k : Int) : Int := cif (opn A ax k ∧ tpt A ax k 0 = 0) (tpt A ax k 1) 0
noncomputable def bsN (A : CF) (ax : Int) : Nat → Int → Int
  | 0 => bs0 A ax
  | j + 1 => pgr A ax 1 (j + 1) 1 (fun _ => 0) (pgr A ax 1 (j + 1) 0 (fun _ => 0) (bsN A ax j))
noncomputable def bas (A : CF) (ax : Int) : Int → Int := bsN A ax 5
noncomputable def lm0 (A : CF) (ax k : Int) : Int := cif (opn A ax k ∧ tpt A ax k 2 = 0) (max (bas A ax k) (tpt A ax k 3)) (bas A ax k)
noncomputable def lmN (A : CF) (ax : Int) : Nat → Int → Int
  | 0 => lm0 A ax
  | j + 1 => pgr A ax 2 (j + 1) 1 (bas A ax) (pgr A ax 2 (j + 1) 0 (bas A ax) (lmN A ax j))
noncomputable def lim (A : CF) (ax : Int) : Int → Int := lmN A ax 4
noncomputable def grw (A : CF) (ax : Int) : Int → Int := if asz A ax = -1 then lim A ax else fun k => bas A ax k + fil false (opn A ax) (fun _ => 1) (fun k => max 0 (lim A ax k - bas A ax k)) (asz A ax - tot A ax (bas A ax)).toNat k
/-! bounds -/
theorem tpt_ok {A : CF} (hA : okA A) {ax k : Int} (x0 : 0 ≤ ax) (x1 : ax < 2) (k0 : 1 ≤ k) : (0 ≤ tpt A ax k 0 ∧ tpt A ax k 0 ≤ 2) ∧ (0 ≤ tpt A ax k 1 ∧ tpt A ax k 1 ≤ 999) ∧ (0 ≤ tpt A ax k 2 ∧ tpt A ax k 2 ≤ 5) ∧ (0 ≤ tpt A ax k 3 ∧ tpt A ax k 3 ≤ 999) ∧ (tpt A ax k 2 = 5 → 1 ≤ tpt A ax k 3) ∧ (0 ≤ tpt A ax k 4 ∧ tpt A ax k 4 ≤ 1) := by
  have hE := (hA.2.2.2.1 ax x0 x1).1
  have h := hA.2.2.2.2.1 ax (if k ≤ A 1 ax then k - 1 else 12) x0 x1 (by split <;> omega) (by split <;> omega)
  unfold okT at h
  unfold tpt
  rw [show (ax * 13 + (if k ≤ A 1 ax then k - 1 else 12)) * 5 + 0 = (ax * 13 + (if k ≤ A 1 ax then k - 1 else 12)) * 5 by omega]
  exact h
theorem cvr_in {A : CF} (hP : plB A) {ax i k : Int} (x0 : 0 ≤ ax) (x1 : ax < 2) (i0 : 0 ≤ i) (i1 : i < nit A) (h : cvr A ax i k) : opn A ax k := by
  have h1 := hP.1 i ax i0 i1 x0 x1
  unfold cvr at h
  exact ⟨⟨by omega, by omega⟩, fun hc => hc.2 i i0 i1 h⟩
theorem spc_ge {A : CF} (hA : okA A) {ax i k : Int} {f : Int → Int} (x0 : 0 ≤ ax) (x1 : ax < 2) (i0 : 0 ≤ i) (i1 : i < nit A) (hf : ∀ k, 0 ≤ f k) (h : cvr A ax i k) : f k ≤ spc A ax f i := by
  have h1 := rs_ge (f := f) (a := pl A i ax) (b := pl A i ax + itf A i ax 3 - 1) (k := k) (fun j _ _ => hf j) h.1 h.2
  have h2 := (hA.2.2.2.1 ax x0 x1).2.2.1
  have h3 := (hA.2.2.2.2.2 i ax i0 i1 x0 x1).2.2.1
  have h4 : 0 ≤ gpa A ax * (itf A i ax 3 - 1) := Int.mul_nonneg h2.1 (by omega)
  unfold spc
  omega
theorem spc_bd {A : CF} (hA : okA A) {ax i : Int} {f : Int → Int} (x0 : 0 ≤ ax) (x1 : ax < 2) (i0 : 0 ≤ i) (i1 : i < nit A) (hf : ∀ k, 0 ≤ f k ∧ f k ≤ 1000000) : 0 ≤ spc A ax f i ∧ spc A ax f i ≤ 5000000 := by
  have h1 := rs_nonneg (f := f) (a := pl A i ax) (b := pl A i ax + itf A i ax 3 - 1) (fun j _ _ => (hf j).1)
  have h2 := (hA.2.2.2.1 ax x0 x1).2.2.1
  have h3 := (hA.2.2.2.2.2 i ax i0 i1 x0 x1).2.2.1
  have h4 := mul_bd (a := gpa A ax) (b := itf A i ax 3 - 1) (A := 99) (B := 3) h2.1 h2.2 (by omega) (by omega)
  have h5 := rs_le (f := f) (a := pl A i ax) (b := pl A i ax + itf A i ax 3 - 1) (M := 1000000) (n := 4) (fun j _ _ => (hf j).2) (by omega) (by omega)
  unfold spc
  omega
theorem pgs_bd {A : CF} (hA : okA A) (hP : plB A) {ax s q g : Int} {base f : Int → Int} (x0 : 0 ≤ ax) (x1 : ax < 2) (hg : g = 0 ∨ g = 1) (hf : ∀ k, 0 ≤ f k ∧ f k ≤ 999) : ∀ n : Nat, (n : Int) ≤ nit A → ∀ k, f k ≤ pgs A ax s q g base f n k ∧ pgs A ax s q g base f n k ≤ 999 ∧ (¬ opn A ax k → pgs A ax s q g base f n k = f k) := by
  intro n
  induction n with
  | zero => intro _ k; exact ⟨Int.le_refl _, (hf k).2, fun _ => rfl⟩
  | succ n ih =>
    intro h k
    have h1 := ih (by omega) k
    unfold pgs
    by_cases e : grp A ax n = q
    · rw [cif_pos e]
      have h2 := fil_bd (rg := decide (s = 1)) (may := mayF A ax s q g n) (w := wtF A ax q) (r := rmF A ax s base f) (p := (itf A n ax g - spc A ax f n).toNat) k
      have h2 : 0 ≤ filF A ax s q g base f n k ∧ filF A ax s q g base f n k ≤ (itf A n ax g - spc A ax f n).toNat ∧ (¬ mayF A ax s q g n k → filF A ax s q g base f n k = 0) := h2
      have h3 := (hA.2.2.2.2.2 n ax (by omega) (by omega) x0 x1).1
      have h4 : itf A n ax g ≤ 999 := by
        rcases hg with rfl | rfl <;> omega
      have h5 := hf k
      by_cases hm : mayF A ax s q g n k
      · have h6 := spc_ge hA (f := f) x0 x1 (i := n) (by omega) (by omega) (fun k => (hf k).1) hm.1
        refine ⟨by omega, by omega, fun ho => ?_⟩
        exact absurd (cvr_in hP x0 x1 (by omega) (by omega) hm.1) ho
      · have h6 := h2.2.2 hm
        refine ⟨by omega, by omega, fun ho => ?_⟩
        have := h1.2.2 ho
        omega
    · rw [cif_neg e]
      exact h1
theorem pgr_bd {A : CF} (hA : okA A) (hP : plB A) {ax s q g : Int} {base f : Int → Int} (x0 : 0 ≤ ax) (x1 : ax < 2) (hg : g = 0 ∨ g = 1) (hf : ∀ k, 0 ≤ f k ∧ f k ≤ 999) (k : Int) : f k ≤ pgr A ax s q g base f k ∧ pgr A ax s q g base f k ≤ 999 ∧ (¬ opn A ax k → pgr A ax s q g base f k = f k) := pgs_bd hA hP x0 x1 hg hf (nit A).toNat (by have := hA.1; omega) k
theorem bs0_bd {A : CF} (hA : okA A) {ax : Int} (x0 : 0 ≤ ax) (x1 : ax < 2) (k : Int) : (0 ≤ bs0 A ax k ∧ bs0 A ax k ≤ 999) ∧ (¬ opn A ax k → bs0 A ax k = 0) := by
  unfold bs0
  by_cases h : opn A ax k ∧ tpt A ax k 0 = 0
  · rw [cif_pos h]
    have := tpt_ok hA x0 x1 h.1.1.1
    exact ⟨this.2.1, fun q => absurd h.1 q⟩
  · rw [cif_neg h]
    exact ⟨by omega, fun _ => rfl⟩
theorem bsN_bd {A : CF} (hA : okA A) (hP : plB A) {ax : Int} (x0 : 0 ≤ ax) (x1 : ax < 2) : ∀ (n : Nat) (k : Int), (0 ≤ bsN A ax n k ∧ bsN A ax n k ≤ 999) ∧ (¬ opn A ax k → bsN A ax n k = 0) := by
  intro n
  induction n with
  | zero => exact bs0_bd hA x0 x1
  | succ n ih =>
    intro k
    have h1 := fun k => pgr_bd hA hP (s := 1) (q := (n : Int) + 1) (g := 0) (base := fun _ => 0) x0 x1 (Or.inl rfl) (fun k => (ih k).1) k
    have h2 := pgr_bd hA hP (s := 1) (q := (n : Int) + 1) (g := 1) (base := fun _ => 0) x0 x1 (Or.inr rfl) (fun k => ⟨by have := h1 k; have := ih k; omega, (h1 k).2.1⟩) k
    have h3 := h1 k
    have h4 := ih k
    unfold bsN
    refine ⟨⟨by omega, h2.2.1⟩, fun ho => ?_⟩
    rw [h2.2.2 ho, h3.2.2 ho, h4.2 ho]
theorem bas_bd {A : CF} (hA : okA A) (hP : plB A) {ax : Int} (x0 : 0 ≤ ax) (x1 : ax < 2) (k : Int) : (0 ≤ bas A ax k ∧ bas A ax k ≤ 999) ∧ (¬ opn A ax k → bas A ax k = 0) := bsN_bd hA hP x0 x1 5 k
theorem lmN_bd {A : CF} (hA : okA A) (hP : plB A) {ax : Int} (x0 : 0 ≤ ax) (x1 : ax < 2) : ∀ (n : Nat) (k : Int), (0 ≤ lmN A ax n k ∧ lmN A ax n k ≤ 999) ∧ (¬ opn A ax k → lmN A ax n k = 0) := by
  intro n
  induction n with
  | zero =>
    intro k
    have h := bas_bd hA hP x0 x1 k
    unfold lmN lm0
    by_cases q : opn A ax k ∧ tpt A ax k 2 = 0
    · rw [cif_pos q]
      have := tpt_ok hA x0 x1 q.1.1.1
      exact ⟨by omega, fun z => absurd q.1 z⟩
    · rw [cif_neg q]
      exact h
  | succ n ih =>
    intro k
    have h1 := fun k => pgr_bd hA hP (s := 2) (q := (n : Int) + 1) (g := 0) (base := bas A ax) x0 x1 (Or.inl rfl) (fun k => (ih k).1) k
    have h2 := pgr_bd hA hP (s := 2) (q := (n : Int) + 1) (g := 1) (base := bas A ax) x0 x1 (Or.inr rfl) (fun k => ⟨by have := h1 k; have := ih k; omega, (h1 k).2.1⟩) k
    have h3 := h1 k
    have h4 := ih k
    unfold lmN
    refine ⟨⟨by omega, h2.2.1⟩, fun ho => ?_⟩
    rw [h2.2.2 ho, h3.2.2 ho, h4.2 ho]
theorem lim_bd {A : CF} (hA : okA A) (hP : plB A) {ax : Int} (x0 : 0 ≤ ax) (x1 : ax < 2) (k : Int) : (0 ≤ lim A ax k ∧ lim A ax k ≤ 999) ∧ (¬ opn A ax k → lim A ax k = 0) := lmN_bd hA hP x0 x1 4 k
theorem shn_bd {A : CF} (hP : plB A) {ax : Int} (x0 : 0 ≤ ax) (x1 : ax < 2) : 0 ≤ shn A ax ∧ shn A ax ≤ nt A ax := by
  have h := hP.2 ax x0 x1
  have h01 : ∀ k, 0 ≤ bb (¬ col A ax k) ∧ bb (¬ col A ax k) ≤ 1 := fun k => by
    rcases bb_01 (¬ col A ax k) with h | h <;> omega
  refine ⟨rs_nonneg fun k _ _ => (h01 k).1, ?_⟩
  have := rs_le (f := fun k => bb (¬ col A ax k)) (a := 1) (b := nt A ax) (M := 1) (n := (nt A ax).toNat) (fun k _ _ => (h01 k).2) (by omega) (by omega)
  unfold shn
  omega
theorem gut_bd {A : CF} (hA : okA A) (hP : plB A) {ax : Int} (x0 : 0 ≤ ax) (x1 : ax < 2) : 0 ≤ gut A ax ∧ gut A ax ≤ 6300 := by
  have h := shn_bd hP x0 x1
  have h1 := hP.2 ax x0 x1
  have h2 := (hA.2.2.2.1 ax x0 x1).2.2.1
  unfold gut
  split
  · have := mul_bd (a := gpa A ax) (b := shn A ax - 1) (A := 99) (B := 63) h2.1 h2.2 (by omega) (by omega)
    omega
  · omega
theorem tot_bd {A : CF} (hA : okA A) (hP : plB A) {ax M : Int} {f : Int → Int} (x0 : 0 ≤ ax) (x1 : ax < 2) (hM : 0 ≤ M) (hf : ∀ k, 0 ≤ f k ∧ f k ≤ M) : 0 ≤ tot A ax f ∧ tot A ax f ≤ 6300 + 63 * M := by
  have h := gut_bd hA hP x0 x1
  have h1 := hP.2 ax x0 x1
  have h01 : ∀ k, 0 ≤ cif (col A ax k) 0 (f k) ∧ cif (col A ax k) 0 (f k) ≤ M := fun k => by
    have := hf k
    by_cases q : col A ax k
    · rw [cif_pos q]
      omega
    · rw [cif_neg q]
      omega
  have h2 := rs_nonneg (f := fun k => cif (col A ax k) 0 (f k)) (a := 1) (b := nt A ax) (fun k _ _ => (h01 k).1)
  have h3 := rs_le (f := fun k => cif (col A ax k) 0 (f k)) (a := 1) (b := nt A ax) (M := M) (n := 63) (fun k _ _ => (h01 k).2) hM (by omega)
  unfold tot
  omega
theorem grw_bd {A : CF} (hA : okA A) (hP : plB A) {ax : Int} (x0 : 0 ≤ ax) (x1 : ax < 2) (k : Int) : (0 ≤ grw A ax k ∧ grw A ax k ≤ 11000) ∧ (¬ opn A ax k → grw A ax k = 0) := by
  unfold grw
  have h1 := bas_bd hA hP x0 x1 k
  have h2 := lim_bd hA hP x0 x1 k
  have h3 := (hA.2.2.2.1 ax x0 x1).2.1
  have h3 : -1 ≤ asz A ax ∧ asz A ax ≤ 9999 := h3
  have h4 := tot_bd hA hP x0 x1 (M := 999) (by omega) (fun k => (bas_bd hA hP x0 x1 k).1)
  split
  · refine ⟨by omega, h2.2⟩
  · have h5 := fil_bd (rg := false) (may := opn A ax) (w := fun _ => 1) (r := fun k => max 0 (lim A ax k - bas A ax k)) (p := (asz A ax - tot A ax (bas A ax)).toNat) k
    show (0 ≤ bas A ax k + fil false (opn A ax) (fun _ => 1) (fun k => max 0 (lim A ax k - bas A ax k)) (asz A ax - tot A ax (bas A ax)).toNat k ∧ bas A ax k + fil false (opn A ax) (fun _ => 1) (fun k => max 0 (lim A ax k - bas A ax k)) (asz A ax - tot A ax (bas A ax)).toNat k ≤ 11000) ∧ (_ → bas A ax k + fil false (opn A ax) (fun _ => 1) (fun k => max 0 (lim A ax k - bas A ax k)) (asz A ax - tot A ax (bas A ax)).toNat k = 0)
    refine ⟨by omega, fun ho => ?_⟩
    have := h5.2.2 ho
    have := h1.2 ho
    omega

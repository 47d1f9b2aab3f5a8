/-! ===== what both sides find: fractions, stretching, positions, boxes ===== -/
noncomputable def fxs (A : CF) (ax : Int) (act : Int → Prop) : Int := rs (fun k => cif (act k) (tpt A ax k 3) 0) 1 (nt A ax)
noncomputable def lfo (A : CF) (ax : Int) (act : Int → Prop) : Int := asz A ax - gut A ax - rs (fun k => cif (act k) 0 (grw A ax k)) 1 (nt A ax)
def big (A : CF) (ax : Int) (act : Int → Prop) (k : Int) : Prop := lfo A ax act * tpt A ax k 3 < grw A ax k * fxs A ax act
def anx (A : CF) (ax : Int) (act : Int → Prop) : Int → Prop := fun k => act k ∧ ¬ big A ax act k
def agd (A : CF) (ax : Int) (act : Int → Prop) : Prop := ∀ k, act k → ¬ big A ax act k
noncomputable def acf (A : CF) (ax : Int) : Int → Prop := fo (anx A ax) (agd A ax) (flx A ax)
noncomputable def rem3 (A : CF) (ax k : Int) : Int := (lfo A ax (acf A ax) * tpt A ax k 3).tmod (fxs A ax (acf A ax))
noncomputable def shq (A : CF) (ax k : Int) : Int := (lfo A ax (acf A ax) * tpt A ax k 3).tdiv (fxs A ax (acf A ax))
noncomputable def rst (A : CF) (ax : Int) : Int := lfo A ax (acf A ax) - rs (fun k => cif (acf A ax k) (shq A ax k) 0) 1 (nt A ax)
/-- one pixel more to each of those with the greatest remainders -/
def Dr (m : Int → Int) : Nat → (Int → Prop) → (Int → Int) → (Int → Int) → Prop
  | 0, _, f, f' => f' = f
  | p + 1, act, f, f' => ((∀ k, ¬ act k) ∧ f' = f) ∨ ∃ b, Pick act (fun _ => 1) (fun k => - m k) b ∧ Dr m p (fun k => act k ∧ k ≠ b) (up1 f b (f b + 1)) f'
theorem Dr.uniq {m : Int → Int} : ∀ {p : Nat} {act : Int → Prop} {f a b : Int → Int}, Dr m p act f a → Dr m p act f b → a = b := by
  intro p
  induction p with
  | zero =>
    rintro act f a b rfl rfl
    rfl
  | succ p ih =>
    rintro act f a b (⟨h1, rfl⟩ | ⟨x, h1, h2⟩) (⟨h3, rfl⟩ | ⟨y, h3, h4⟩)
    · rfl
    · exact absurd h3.1 (h1 _)
    · exact absurd h1.1 (h3 _)
    · cases h1.uniq h3
      exact ih h2 h4
theorem Dr.bd {m : Int → Int} : ∀ {p : Nat} {act : Int → Prop} {f f' : Int → Int}, Dr m p act f f' → ∀ k, f k ≤ f' k ∧ f' k ≤ f k + 1 ∧ (¬ act k → f' k = f k) := by
  intro p
  induction p with
  | zero =>
    rintro act f f' rfl k
    exact ⟨by omega, by omega, fun _ => rfl⟩
  | succ p ih =>
    rintro act f f' (⟨h1, rfl⟩ | ⟨x, h1, h2⟩) k
    · exact ⟨by omega, by omega, fun _ => rfl⟩
    · have h := ih h2 k
      by_cases q : k = x
      · subst q
        have h3 := h.2.2 (fun z => z.2 rfl)
        rw [up1_eq] at h3
        exact ⟨by omega, by omega, fun z => absurd h1.1 z⟩
      · rw [up1_ne q] at h
        exact ⟨h.1, h.2.1, fun z => h.2.2 (fun y => z y.1)⟩
noncomputable def drf (m : Int → Int) (p : Nat) (act : Int → Prop) (f : Int → Int) : Int → Int := @dite _ (∃ x, Dr m p act f x) (Classical.propDecidable _) (fun h => Classical.choose h) (fun _ => f)
theorem drf_eq {m : Int → Int} {p : Nat} {act : Int → Prop} {f f' : Int → Int} (h : Dr m p act f f') : drf m p act f = f' := by
  have hx : ∃ x, Dr m p act f x := ⟨f', h⟩
  unfold drf
  rw [@dif_pos _ (Classical.propDecidable _) hx]
  exact (Classical.choose_spec hx).uniq h
theorem drf_bd {m : Int → Int} {p : Nat} {act : Int → Prop} {f : Int → Int} (k : Int) : f k ≤ drf m p act f k ∧ drf m p act f k ≤ f k + 1 ∧ (¬ act k → drf m p act f k = f k) := by
  by_cases hx : ∃ x, Dr m p act f x
  · obtain ⟨x, hx⟩ := hx
    rw [drf_eq hx]
    exact hx.bd k
  · unfold drf
    rw [@dif_neg _ (Classical.propDecidable _) hx]
    exact ⟨by omega, by omega, fun _ => rfl⟩
noncomputable def shl (A : CF) (ax : Int) : Int → Int := drf (rem3 A ax) (rst A ax).toNat (acf A ax) (fun k => cif (acf A ax k) (shq A ax k) (grw A ax k))
/-- the greatest quotient so far -/
def ru (x : Int × Int) (top bot : Int) : Int × Int := if 0 < bot ∧ x.1 * bot < top * x.2 then (top, bot) else x
noncomputable def exc (A : CF) (ax i : Int) : Int := itf A i ax 1 - gpa A ax * (itf A i ax 3 - 1) - rs (fun k => cif (flx A ax k) 0 (grw A ax k)) (pl A i ax) (pl A i ax + itf A i ax 3 - 1)
noncomputable def fac (A : CF) (ax i : Int) : Int := rs (fun k => cif (flx A ax k) (tpt A ax k 3) 0) (pl A i ax) (pl A i ax + itf A i ax 3 - 1)
noncomputable def un1 (A : CF) (ax : Int) : Nat → Int × Int
  | 0 => (0, 1)
  | n + 1 => cif (flx A ax (n + 1)) (ru (un1 A ax n) (grw A ax (n + 1)) (tpt A ax (n + 1) 3)) (un1 A ax n)
noncomputable def un2 (A : CF) (ax : Int) : Nat → Int × Int
  | 0 => un1 A ax (nt A ax).toNat
  | n + 1 => ru (un2 A ax n) (exc A ax n) (fac A ax n)
noncomputable def unt (A : CF) (ax : Int) : Int × Int := un2 A ax (nit A).toNat
noncomputable def shu (A : CF) (ax k : Int) : Int := cif (flx A ax k) (max (grw A ax k) ((tpt A ax k 3 * (unt A ax).1 + (unt A ax).2 - 1).tdiv (unt A ax).2)) (grw A ax k)
noncomputable def shd (A : CF) (ax : Int) : Int → Int := if asz A ax = -1 then shu A ax else shl A ax
noncomputable def str (A : CF) (ax : Int) : Int → Int := if asz A ax ≠ -1 ∧ stg A ax 2 = 0 then fun k => shd A ax k + fil false (fun k => opn A ax k ∧ tpt A ax k 2 = 3) (fun _ => 1) (fun _ => 9999) (asz A ax - tot A ax (shd A ax)).toNat k else shd A ax
/-! positions -/
noncomputable def fsp (A : CF) (ax : Int) : Int := if asz A ax = -1 then 0 else asz A ax - tot A ax (str A ax)
noncomputable def ofs (A : CF) (ax i : Int) : Int :=
  if stg A ax 2 = 2 then fsp A ax else if stg A ax 2 = 3 then fsp A ax / 2
  else if stg A ax 2 = 4 then (if fsp A ax < 0 ∨ shn A ax = 1 then 0 else fsp A ax * i / (shn A ax - 1))
  else if stg A ax 2 = 5 then (if fsp A ax < 0 then fsp A ax / 2 else fsp A ax * (2 * i + 1) / (2 * shn A ax))
  else if stg A ax 2 = 6 then (if fsp A ax < 0 then fsp A ax / 2 else fsp A ax * (i + 1) / (shn A ax + 1)) else 0
noncomputable def ahd3 (A : CF) (ax k : Int) : Int := rs (fun j => bb (¬ col A ax j)) 1 (k - 1)
noncomputable def bgn (A : CF) (ax k : Int) : Int := rs (str A ax) 1 (k - 1) + gpa A ax * ahd3 A ax k + ofs A ax (ahd3 A ax k)
def isPos (A : CF) (ax k v : Int) : Prop := (∃ j, k ≤ j ∧ opn A ax j ∧ (∀ i, k ≤ i → i < j → ¬ opn A ax i) ∧ v = bgn A ax j) ∨ ((∀ j, k ≤ j → ¬ opn A ax j) ∧ ∃ j, j ≤ k ∧ opn A ax j ∧ (∀ i, j < i → i ≤ k → ¬ opn A ax i) ∧ v = bgn A ax j + str A ax j) ∨ ((∀ j, ¬ opn A ax j) ∧ v = 0)
theorem isPos.uniq {A : CF} {ax k v w : Int} (h : isPos A ax k v) (g : isPos A ax k w) : v = w := by
  rcases h with ⟨j, j0, j1, j2, j3⟩ | ⟨h0, j, j0, j1, j2, j3⟩ | ⟨h0, h1⟩ <;> rcases g with ⟨i, i0, i1, i2, i3⟩ | ⟨g0, i, i0, i1, i2, i3⟩ | ⟨g0, g1⟩
  · have : i = j := by
      by_cases a : i < j
      · exact absurd i1 (j2 i i0 a)
      · by_cases c : j < i
        · exact absurd j1 (i2 j j0 c)
        · omega
    rw [j3, i3, this]
  · exact absurd j1 (g0 j j0)
  · exact absurd j1 (g0 j)
  · exact absurd i1 (h0 i i0)
  · have : i = j := by
      by_cases a : i < j
      · exact absurd j1 (i2 j a j0)
      · by_cases c : j < i
        · exact absurd i1 (j2 i c i0)
        · omega
    rw [j3, i3, this]
  · exact absurd j1 (g0 j)
  · exact absurd i1 (h0 i)
  · exact absurd i1 (h0 i)
  · rw [h1, g1]
noncomputable def psn (A : CF) (ax k : Int) : Int := @dite _ (∃ v, isPos A ax k v) (Classical.propDecidable _) (fun h => Classical.choose h) (fun _ => 0)
theorem psn_eq {A : CF} {ax k v : Int} (h : isPos A ax k v) : psn A ax k = v := by
  have hx : ∃ v, isPos A ax k v := ⟨v, h⟩
  unfold psn
  rw [@dif_pos _ (Classical.propDecidable _) hx]
  exact (Classical.choose_spec hx).uniq h
theorem psn_open {A : CF} {ax k : Int} (h : opn A ax k) : psn A ax k = bgn A ax k := psn_eq (Or.inl ⟨k, Int.le_refl _, h, fun i a c => by omega, rfl⟩)
/-! areas and boxes -/
noncomputable def ars (A : CF) (ax i : Int) : Int := bgn A ax (pl A i ax + itf A i ax 3 - 1) + str A ax (pl A i ax + itf A i ax 3 - 1) - bgn A ax (pl A i ax)
noncomputable def bxs (A : CF) (ax i : Int) : Int := if itf A i ax 4 = 0 then ars A ax i else max (min (ars A ax i) (itf A i ax 1)) (itf A i ax 0)
noncomputable def bxb (A : CF) (ax i : Int) : Int := if itf A i ax 4 = 2 then bgn A ax (pl A i ax) + (ars A ax i - bxs A ax i) else if itf A i ax 4 = 3 then bgn A ax (pl A i ax) + (ars A ax i - bxs A ax i) / 2 else bgn A ax (pl A i ax)

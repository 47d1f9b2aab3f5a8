/-! ===== giving pixels out one by one: the numbers alone ===== -/
def up1 (g : Int → Int) (k v : Int) : Int → Int := fun j => if j = k then v else g j
theorem up1_eq {g : Int → Int} {k v : Int} : up1 g k v k = v := if_pos rfl
theorem up1_ne {g : Int → Int} {k v j : Int} (h : j ≠ k) : up1 g k v j = g j := if_neg h
theorem mul_bd {a b A B : Int} (a0 : 0 ≤ a) (a1 : a ≤ A) (b0 : 0 ≤ b) (b1 : b ≤ B) : 0 ≤ a * b ∧ a * b ≤ A * B :=
  ⟨Int.mul_nonneg a0 b0, Int.mul_le_mul a1 b1 b0 (by omega)⟩
theorem cross {A B C wa wb wc : Int} (ha : 0 < wa) (hb : 0 < wb) (hc : 0 < wc) (h1 : A * wb < B * wa) (h2 : B * wc ≤ C * wb) : A * wc < C * wa := by
  have h3 : A * wb * wc < B * wa * wc := Int.mul_lt_mul_of_pos_right h1 hc
  have h4 : B * wc * wa ≤ C * wb * wa := Int.mul_le_mul_of_nonneg_right h2 (by omega)
  rw [Int.mul_right_comm] at h3
  rw [Int.mul_right_comm B wa wc] at h3
  rw [Int.mul_right_comm C wb wa] at h4
  exact Int.lt_of_mul_lt_mul_right (Int.lt_of_lt_of_le h3 h4) (by omega)
theorem cross' {A B C wa wb wc : Int} (ha : 0 < wa) (hb : 0 < wb) (hc : 0 < wc) (h1 : A * wb ≤ B * wa) (h2 : B * wc ≤ C * wb) : A * wc ≤ C * wa := by
  have h3 : A * wb * wc ≤ B * wa * wc := Int.mul_le_mul_of_nonneg_right h1 (by omega)
  have h4 : B * wc * wa ≤ C * wb * wa := Int.mul_le_mul_of_nonneg_right h2 (by omega)
  rw [Int.mul_right_comm] at h3
  rw [Int.mul_right_comm B wa wc] at h3
  rw [Int.mul_right_comm C wb wa] at h4
  exact Int.le_of_mul_le_mul_right (Int.le_trans h3 h4) hb
theorem cross'' {A B C wa wb wc : Int} (ha : 0 < wa) (hb : 0 < wb) (hc : 0 < wc) (h1 : A * wb ≤ B * wa) (h2 : B * wc < C * wb) : A * wc < C * wa := by
  have h3 : A * wb * wc ≤ B * wa * wc := Int.mul_le_mul_of_nonneg_right h1 (by omega)
  have h4 : B * wc * wa < C * wb * wa := Int.mul_lt_mul_of_pos_right h2 (by omega)
  rw [Int.mul_right_comm] at h3
  rw [Int.mul_right_comm B wa wc] at h3
  rw [Int.mul_right_comm C wb wa] at h4
  exact Int.lt_of_mul_lt_mul_right (Int.lt_of_le_of_lt h3 h4) (by omega)
/-- b goes ahead of k, or at the same time as a later one -/
def ahd (w g : Int → Int) (b k : Int) : Prop := (g b + 1) * w k ≤ (g k + 1) * w b ∧ (k < b → (g b + 1) * w k < (g k + 1) * w b)
def Pick (ok : Int → Prop) (w g : Int → Int) (b : Int) : Prop := ok b ∧ ∀ k, ok k → k ≠ b → ahd w g b k
theorem Pick.uniq {ok : Int → Prop} {w g : Int → Int} {a b : Int} (ha : Pick ok w g a) (hb : Pick ok w g b) : a = b := by
  by_cases h : a = b
  · exact h
  · have h1 := ha.2 b hb.1 (fun q => h q.symm)
    have h2 := hb.2 a ha.1 h
    unfold ahd at h1 h2
    by_cases q : a < b
    · have := h2.2 q
      omega
    · have := h1.2 (by omega)
      omega
def av (may : Int → Prop) (r g : Int → Int) (k : Int) : Prop := may k ∧ g k < r k
def Gr (may : Int → Prop) (w r : Int → Int) : Nat → (Int → Int) → (Int → Int) → Nat → Prop
  | 0, g, g', s => g' = g ∧ s = 0
  | p + 1, g, g', s => ((∀ k, ¬ av may r g k) ∧ g' = g ∧ s = p + 1) ∨ ∃ b, Pick (av may r g) w g b ∧ Gr may w r p (up1 g b (g b + 1)) g' s
theorem Gr.uniq {may : Int → Prop} {w r : Int → Int} : ∀ {p : Nat} {g a b : Int → Int} {s t : Nat}, Gr may w r p g a s → Gr may w r p g b t → a = b ∧ s = t := by
  intro p
  induction p with
  | zero =>
    rintro g a b s t ⟨rfl, rfl⟩ ⟨rfl, rfl⟩
    exact ⟨rfl, rfl⟩
  | succ p ih =>
    rintro g a b s t (⟨h1, rfl, rfl⟩ | ⟨x, h1, h2⟩) (⟨h3, rfl, rfl⟩ | ⟨y, h3, h4⟩)
    · exact ⟨rfl, rfl⟩
    · exact absurd h3.1 (h1 _)
    · exact absurd h1.1 (h3 _)
    · cases h1.uniq h3
      exact ih h2 h4
/-- the search for the next one, as a walk up has it so far; z0 stands for none -/
def PB (ok : Int → Prop) (w g : Int → Int) (z0 k b : Int) : Prop := (b = z0 ∧ ∀ j, ok j → ¬ j < k) ∨ (b ≠ z0 ∧ Pick (fun j => ok j ∧ j < k) w g b)
theorem PB.skip {ok : Int → Prop} {w g : Int → Int} {z0 k b : Int} (h : PB ok w g z0 k b) (hk : ¬ ok k) : PB ok w g z0 (k + 1) b := by
  rcases h with ⟨h1, h2⟩ | ⟨h1, h2, h3⟩
  · exact Or.inl ⟨h1, fun j hj q => by
      by_cases e : j = k
      · exact hk (e ▸ hj)
      · exact h2 j hj (by omega)⟩
  · exact Or.inr ⟨h1, ⟨h2.1, by have := h2.2; omega⟩, fun j hj q => by
      by_cases e : j = k
      · exact absurd hj.1 (e ▸ hk)
      · exact h3 j ⟨hj.1, by have := hj.2; omega⟩ q⟩
theorem PB.first {ok : Int → Prop} {w g : Int → Int} {z0 k : Int} (h : PB ok w g z0 k z0) (hk : ok k) (hz : k ≠ z0) : PB ok w g z0 (k + 1) k := by
  rcases h with ⟨h1, h2⟩ | ⟨h1, h2, h3⟩
  · refine Or.inr ⟨hz, ⟨hk, by omega⟩, fun j hj q => ?_⟩
    exact absurd (show j < k by have := hj.2; omega) (h2 j hj.1)
  · exact absurd rfl h1
theorem PB.take {ok : Int → Prop} {w g : Int → Int} {z0 k b : Int} (h : PB ok w g z0 k b) (hb : b ≠ z0) (hk : ok k) (hz : k ≠ z0) (hw : ∀ j, ok j → 0 < w j) (hc : (g k + 1) * w b < (g b + 1) * w k) : PB ok w g z0 (k + 1) k := by
  rcases h with ⟨h1, h2⟩ | ⟨h1, h2, h3⟩
  · exact absurd h1 hb
  · refine Or.inr ⟨hz, ⟨hk, by omega⟩, fun j hj q => ?_⟩
    have hlt : j < k := by have := hj.2; omega
    have key : (g k + 1) * w j < (g j + 1) * w k := by
      by_cases e : j = b
      · rw [e]
        exact hc
      · exact cross (hw _ hk) (hw _ h2.1) (hw _ hj.1) hc (h3 j ⟨hj.1, hlt⟩ e).1
    exact ⟨by omega, fun _ => key⟩
theorem PB.keep {ok : Int → Prop} {w g : Int → Int} {z0 k b : Int} (h : PB ok w g z0 k b) (hb : b ≠ z0) (hk : ok k) (hc : ¬ (g k + 1) * w b < (g b + 1) * w k) : PB ok w g z0 (k + 1) b := by
  rcases h with ⟨h1, h2⟩ | ⟨h1, h2, h3⟩
  · exact absurd h1 hb
  · refine Or.inr ⟨h1, ⟨h2.1, by have := h2.2; omega⟩, fun j hj q => ?_⟩
    by_cases e : j = k
    · subst e
      exact ⟨by omega, fun x => absurd h2.2 (by omega)⟩
    · exact h3 j ⟨hj.1, by have := hj.2; omega⟩ q
theorem PB.done {ok : Int → Prop} {w g : Int → Int} {z0 k b : Int} (h : PB ok w g z0 k b) (hk : ∀ j, ok j → j < k) : (b = z0 ∧ ∀ j, ¬ ok j) ∨ (b ≠ z0 ∧ Pick ok w g b) := by
  rcases h with ⟨h1, h2⟩ | ⟨h1, h2, h3⟩
  · exact Or.inl ⟨h1, fun j hj => h2 j hj (hk j hj)⟩
  · exact Or.inr ⟨h1, h2.1, fun j hj q => h3 j ⟨hj, hk j hj⟩ q⟩
theorem PB.ex {ok : Int → Prop} {w g : Int → Int} (h0 : ∀ j, ok j → 0 ≤ j) (hw : ∀ j, ok j → 0 < w j) (n : Nat) : ∃ b, PB ok w g (-1) n b := by
  induction n with
  | zero => exact ⟨-1, Or.inl ⟨rfl, fun j hj => by have := h0 j hj; omega⟩⟩
  | succ n ih =>
    obtain ⟨b, hb⟩ := ih
    show ∃ b, PB ok w g (-1) ((n : Int) + 1) b
    by_cases hk : ok n
    · by_cases h1 : b = -1
      · subst h1
        exact ⟨n, hb.first hk (by omega)⟩
      · by_cases h2 : (g n + 1) * w b < (g b + 1) * w n
        · exact ⟨n, hb.take h1 hk (by omega) hw h2⟩
        · exact ⟨b, hb.keep h1 hk h2⟩
    · exact ⟨b, hb.skip hk⟩
theorem Pick.ex {ok : Int → Prop} {w g : Int → Int} {n : Int} (h0 : ∀ j, ok j → 0 ≤ j ∧ j < n) (hw : ∀ j, ok j → 0 < w j) {k : Int} (hk : ok k) : ∃ b, Pick ok w g b := by
  obtain ⟨b, hb⟩ := PB.ex (g := g) (fun j hj => (h0 j hj).1) hw n.toNat
  rcases hb.done (fun j hj => by have := h0 j hj; omega) with ⟨-, h⟩ | ⟨-, h⟩
  · exact absurd hk (h k)
  · exact ⟨b, h⟩
/-! sums -/
def sN (f : Int → Int) : Nat → Int
  | 0 => 0
  | n + 1 => sN f n + f n
def sz (f : Int → Int) (k : Int) : Int := sN f k.toNat
theorem sz_0 {f : Int → Int} {k : Int} (h : k ≤ 0) : sz f k = 0 := by
  unfold sz
  rw [show k.toNat = 0 by omega]
  rfl
theorem sz_s {f : Int → Int} {k : Int} (h : 0 ≤ k) : sz f (k + 1) = sz f k + f k := by
  unfold sz
  rw [show (k + 1).toNat = k.toNat + 1 by omega]
  show sN f k.toNat + f (k.toNat : Int) = _
  rw [Int.toNat_of_nonneg h]
theorem sN_ind {P : Nat → Int → Prop} {f : Int → Int} (h0 : P 0 0) (hs : ∀ n x, P n x → P (n + 1) (x + f n)) : ∀ n, P n (sN f n) := by
  intro n
  induction n with
  | zero => exact h0
  | succ n ih => exact hs n _ ih
theorem sN_congr {f g : Int → Int} : ∀ {n : Nat}, (∀ i : Int, 0 ≤ i → i < n → f i = g i) → sN f n = sN g n := by
  intro n
  induction n with
  | zero => intro _; rfl
  | succ n ih =>
    intro h
    show sN f n + f n = sN g n + g n
    rw [ih (fun i a b => h i a (by omega)), h n (by omega) (by omega)]
theorem sz_congr {f g : Int → Int} {k : Int} (h : ∀ i, 0 ≤ i → i < k → f i = g i) : sz f k = sz g k := sN_congr fun i a b => h i a (by omega)
theorem sN_nonneg {f : Int → Int} : ∀ {n : Nat}, (∀ i : Int, 0 ≤ i → i < n → 0 ≤ f i) → 0 ≤ sN f n := by
  intro n
  induction n with
  | zero => intro _; exact Int.le_refl _
  | succ n ih =>
    intro h
    show 0 ≤ sN f n + f n
    have h1 := ih (fun i a b => h i a (by omega))
    have h2 := h n (by omega) (by omega)
    omega
theorem sz_nonneg {f : Int → Int} {k : Int} (h : ∀ i, 0 ≤ i → i < k → 0 ≤ f i) : 0 ≤ sz f k := sN_nonneg fun i a b => h i a (by omega)
theorem sN_ge {f : Int → Int} : ∀ {n : Nat}, (∀ i : Int, 0 ≤ i → i < n → 0 ≤ f i) → ∀ j : Int, 0 ≤ j → j < n → f j ≤ sN f n := by
  intro n
  induction n with
  | zero => intro _ j a b; omega
  | succ n ih =>
    intro h j a b
    show f j ≤ sN f n + f n
    have h0 := sN_nonneg (n := n) (f := f) (fun i a b => h i a (by omega))
    have h2 := h n (by omega) (by omega)
    by_cases e : j = n
    · subst e
      omega
    · have h1 := ih (fun i a b => h i a (by omega)) j a (by omega)
      omega
theorem sz_ge {f : Int → Int} {k j : Int} (h : ∀ i, 0 ≤ i → i < k → 0 ≤ f i) (a : 0 ≤ j) (b : j < k) : f j ≤ sz f k := sN_ge (fun i a b => h i a (by omega)) j a (by omega)
theorem sN_le {f : Int → Int} {M : Int} : ∀ {n : Nat}, (∀ i : Int, 0 ≤ i → i < n → f i ≤ M) → sN f n ≤ n * M := by
  intro n
  induction n with
  | zero => intro _; show (0 : Int) ≤ _; omega
  | succ n ih =>
    intro h
    show sN f n + f n ≤ ((n + 1 : Nat) : Int) * M
    have h1 := ih (fun i a b => h i a (by omega))
    have h2 := h n (by omega) (by omega)
    have h3 : ((n + 1 : Nat) : Int) * M = n * M + M := by
      rw [Int.natCast_add]
      exact (Int.add_mul _ _ _).trans (by simp)
    omega
theorem sN_le2 {f g : Int → Int} : ∀ {n : Nat}, (∀ i : Int, 0 ≤ i → i < n → f i ≤ g i) → sN f n ≤ sN g n := by
  intro n
  induction n with
  | zero => intro _; exact Int.le_refl _
  | succ n ih =>
    intro h
    show sN f n + f n ≤ sN g n + g n
    have h1 := ih (fun i a b => h i a (by omega))
    have h2 := h n (by omega) (by omega)
    omega
theorem sN_up {f : Int → Int} {b v : Int} (b0 : 0 ≤ b) : ∀ {n : Nat}, sN (up1 f b v) n = if b < n then sN f n + (v - f b) else sN f n := by
  intro n
  induction n with
  | zero => rw [if_neg (by omega)]; rfl
  | succ n ih =>
    show sN (up1 f b v) n + up1 f b v n = if b < ((n + 1 : Nat) : Int) then sN f n + f n + (v - f b) else sN f n + f n
    rw [ih]
    by_cases e : (n : Int) = b
    · subst e
      rw [if_neg (by omega), if_pos (by omega), up1_eq]
      omega
    · rw [up1_ne e]
      by_cases q : b < n
      · rw [if_pos q, if_pos (by omega)]
        omega
      · rw [if_neg q, if_neg (by omega)]
theorem sz_up {f : Int → Int} {b v k : Int} (b0 : 0 ≤ b) (b1 : b < k) : sz (up1 f b v) k = sz f k + (v - f b) := by
  unfold sz
  rw [sN_up b0, if_pos (by omega)]
/-! whole levels at once -/
theorem Gr.levels {n L : Int} {w r t : Int → Int} {p : Nat} {g' : Int → Int} {s : Nat} (hw : ∀ i, 0 ≤ i → i < n → 0 < w i) (hG : Gr (fun k => 0 ≤ k ∧ k < n) w r p t g' s) :
    ∀ (m : Nat) (g : Int → Int), sz (fun i => t i - g i) n = m → (∀ i, ¬ (0 ≤ i ∧ i < n) → g i = t i) → (∀ i, 0 ≤ i → i < n → g i ≤ t i ∧ (g i < t i → t i ≤ r i ∧ t i ≤ w i * L) ∧ (r i ≤ t i ∨ w i * L ≤ t i)) → Gr (fun k => 0 ≤ k ∧ k < n) w r (p + m) g g' s := by
  intro m
  induction m with
  | zero =>
    intro g h0 ho hi
    have e : g = t := by
      funext i
      by_cases q : 0 ≤ i ∧ i < n
      · have h1 := hi i q.1 q.2
        have h2 := sz_ge (f := fun i => t i - g i) (k := n) (fun i a b => by have := (hi i a b).1; omega) q.1 q.2
        simp only [h0] at h2
        omega
      · exact ho i q
    rw [e]
    exact hG
  | succ m ih =>
    intro g h0 ho hi
    have hex : ∃ i, 0 ≤ i ∧ i < n ∧ g i < t i := by
      apply Classical.byContradiction
      intro hc
      have : sz (fun i => t i - g i) n = sz (fun _ => 0) n := sz_congr fun i a b => by
        have h1 := (hi i a b).1
        have h2 : ¬ g i < t i := fun q => hc ⟨i, a, b, q⟩
        omega
      have h3 : sz (fun _ => 0) n = 0 := by
        unfold sz
        exact sN_ind (P := fun _ x => x = 0) rfl (fun n x h => by rw [h]; rfl) _
      omega
    obtain ⟨i, i0, i1, i2⟩ := hex
    have hav : av (fun k => 0 ≤ k ∧ k < n) r g i := ⟨⟨i0, i1⟩, by have := ((hi i i0 i1).2.1 i2).1; omega⟩
    obtain ⟨b, hb⟩ := Pick.ex (w := w) (g := g) (n := n) (fun j (hj : av _ r g j) => hj.1) (fun j hj => hw j hj.1.1 hj.1.2) hav
    have b0 := hb.1.1.1
    have b1 := hb.1.1.2
    have hbt : g b < t b := by
      apply Classical.byContradiction
      intro hc
      have hbi := hi b b0 b1
      have hge : w b * L ≤ g b := by
        have h7 := hb.1.2
        rcases hbi.2.2 with h | h
        · omega
        · omega
      have hne : i ≠ b := fun q => by subst q; omega
      have h1 := (hb.2 i hav hne).1
      have h2 : g i + 1 ≤ w i * L := by have := ((hi i i0 i1).2.1 i2).2; omega
      have h3 : (g i + 1) * w b ≤ (w i * L) * w b := Int.mul_le_mul_of_nonneg_right h2 (by have := hw b b0 b1; omega)
      have h4 : (w b * L) * w i ≤ g b * w i := Int.mul_le_mul_of_nonneg_right hge (by have := hw i i0 i1; omega)
      have h5 : (w i * L) * w b = (w b * L) * w i := by rw [Int.mul_comm (w i * L), ← Int.mul_assoc, Int.mul_right_comm]
      have h6 : (g b + 1) * w i = g b * w i + w i := by rw [Int.add_mul, Int.one_mul]
      have := hw i i0 i1
      omega
    refine Or.inr ⟨b, hb, ih (up1 g b (g b + 1)) ?_ ?_ ?_⟩
    · have e : (fun i => t i - up1 g b (g b + 1) i) = up1 (fun i => t i - g i) b (t b - (g b + 1)) := by
        funext j
        by_cases q : j = b
        · subst q
          simp only [up1_eq]
        · simp only [up1_ne q]
      rw [e, sz_up b0 b1, h0]
      omega
    · intro j hj
      rw [up1_ne (by intro q; subst q; exact hj ⟨b0, b1⟩)]
      exact ho j hj
    · intro j j0 j1
      by_cases q : j = b
      · subst q
        rw [up1_eq]
        have := (hi j j0 j1).2.1 hbt
        exact ⟨by omega, fun _ => this, (hi j j0 j1).2.2⟩
      · rw [up1_ne q]
        exact hi j j0 j1
theorem Gr.bd {may : Int → Prop} {w r : Int → Int} : ∀ {p : Nat} {g g' : Int → Int} {s : Nat}, Gr may w r p g g' s → (∀ k, g k ≤ g' k ∧ g' k ≤ g k + p) ∧ (∀ k, ¬ may k → g' k = g k) ∧ s ≤ p := by
  intro p
  induction p with
  | zero =>
    rintro g g' s ⟨rfl, rfl⟩
    exact ⟨fun k => by omega, fun _ _ => rfl, Nat.le_refl _⟩
  | succ p ih =>
    rintro g g' s (⟨h1, rfl, rfl⟩ | ⟨x, h1, h2⟩)
    · exact ⟨fun k => by omega, fun _ _ => rfl, Nat.le_refl _⟩
    · obtain ⟨a, b, c⟩ := ih h2
      refine ⟨fun k => ?_, fun k hk => ?_, by omega⟩
      · have h := a k
        by_cases q : k = x
        · subst q
          rw [up1_eq] at h
          omega
        · rw [up1_ne q] at h
          omega
      · rw [b k hk]
        exact up1_ne (fun q => hk (q ▸ h1.1.1))
/-- places in a row of tracks, and the tracks themselves -/
theorem Gr.tracks {n : Int} {T w r w' r' : Int → Int} {may : Int → Prop} (hT : ∀ i j, 0 ≤ i → i < j → j < n → T i < T j) (hm : ∀ i, 0 ≤ i → i < n → may (T i) ∧ w i = w' (T i) ∧ r i = r' (T i)) (hs : ∀ t, may t → ∃ i, 0 ≤ i ∧ i < n ∧ T i = t) :
    ∀ {p : Nat} {g g' h : Int → Int} {s : Nat}, (∀ i, 0 ≤ i → i < n → h (T i) = g i) → Gr (fun k => 0 ≤ k ∧ k < n) w r p g g' s → ∃ h', Gr may w' r' p h h' s ∧ ∀ i, 0 ≤ i → i < n → h' (T i) = g' i := by
  have inj : ∀ i j, 0 ≤ i → i < n → 0 ≤ j → j < n → T i = T j → i = j := by
    intro i j i0 i1 j0 j1 e
    by_cases a : i < j
    · have := hT i j i0 a j1
      omega
    · by_cases b : j < i
      · have := hT j i j0 b i1
        omega
      · omega
  intro p
  induction p with
  | zero =>
    rintro g g' h s hh ⟨rfl, rfl⟩
    exact ⟨h, ⟨rfl, rfl⟩, hh⟩
  | succ p ih =>
    rintro g g' h s hh (⟨h1, rfl, rfl⟩ | ⟨x, h1, h2⟩)
    · refine ⟨h, Or.inl ⟨fun t ht => ?_, rfl, rfl⟩, hh⟩
      obtain ⟨i, i0, i1, rfl⟩ := hs t ht.1
      refine h1 i ⟨⟨i0, i1⟩, ?_⟩
      have := ht.2
      rw [hh i i0 i1] at this
      rw [(hm i i0 i1).2.2]
      exact this
    · have x0 := h1.1.1.1
      have x1 := h1.1.1.2
      obtain ⟨h', a, b⟩ := ih (g := up1 g x (g x + 1)) (h := up1 h (T x) (h (T x) + 1)) (fun i i0 i1 => by
        by_cases q : i = x
        · subst q
          rw [up1_eq, up1_eq, hh i i0 i1]
        · rw [up1_ne q, up1_ne (fun e => q (inj _ _ i0 i1 x0 x1 e)), hh i i0 i1]) h2
      refine ⟨h', Or.inr ⟨T x, ⟨⟨(hm x x0 x1).1, ?_⟩, fun t ht hne => ?_⟩, a⟩, b⟩
      · have := h1.1.2
        rw [hh x x0 x1, ← (hm x x0 x1).2.2]
        exact this
      · obtain ⟨i, i0, i1, rfl⟩ := hs t ht.1
        have hix : i ≠ x := fun q => hne (by rw [q])
        have ho : av (fun k => 0 ≤ k ∧ k < n) r g i := by
          refine ⟨⟨i0, i1⟩, ?_⟩
          have := ht.2
          rw [hh i i0 i1] at this
          rw [(hm i i0 i1).2.2]
          exact this
        have ha := h1.2 i ho hix
        unfold ahd at ha ⊢
        rw [hh x x0 x1, hh i i0 i1, ← (hm x x0 x1).2.1, ← (hm i i0 i1).2.1]
        refine ⟨ha.1, fun q => ha.2 ?_⟩
        by_cases z : x < i
        · have := hT x i x0 z i1
          omega
        · omega

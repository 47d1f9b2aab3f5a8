/-! ===== masks of items: their bits ===== -/
theorem msk_one : ∀ n : Nat, n < 12 → ∀ i : Nat, i < 32 → (iW 1 <<< (iW n &&& iW 31)).toBitVec.getLsbD i = decide (i = n) := by decide +kernel
theorem msk_lsb {P : Int → Prop} : ∀ n : Nat, n ≤ 12 → ∀ i : Nat, i < 32 → ((msk P n).toBitVec.getLsbD i = true ↔ i < n ∧ P i) := by
  intro n
  induction n with
  | zero =>
    intro _ i _
    have : (msk P 0).toBitVec = 0#32 := rfl
    rw [this]
    simp
  | succ n ih =>
    intro hn i hi
    have h1 := ih (by omega) i hi
    by_cases q : P n
    · rw [msk_pos q, Int32.toBitVec_or, BitVec.getLsbD_or, msk_one n (by omega) i hi, Bool.or_eq_true, h1, decide_eq_true_eq]
      constructor
      · rintro (⟨a, b⟩ | a)
        · exact ⟨by omega, b⟩
        · subst a
          exact ⟨by omega, q⟩
      · rintro ⟨a, b⟩
        by_cases e : i = n
        · exact Or.inr e
        · exact Or.inl ⟨by omega, b⟩
    · rw [msk_neg q, h1]
      constructor
      · rintro ⟨a, b⟩
        exact ⟨by omega, b⟩
      · rintro ⟨a, b⟩
        refine ⟨?_, b⟩
        by_cases e : i = n
        · subst e
          exact absurd b q
        · omega
theorem msk_and {P Q : Int → Prop} {n i : Nat} (hn : n ≤ 12) (hi : i < 32) : (msk P n &&& msk Q n).toBitVec.getLsbD i = true ↔ i < n ∧ P i ∧ Q i := by
  rw [Int32.toBitVec_and, BitVec.getLsbD_and, Bool.and_eq_true, msk_lsb n hn i hi, msk_lsb n hn i hi]
  constructor
  · rintro ⟨⟨a, b⟩, -, d⟩
    exact ⟨a, b, d⟩
  · rintro ⟨a, b, d⟩
    exact ⟨⟨a, b⟩, a, d⟩
theorem msk_and0 {P Q : Int → Prop} {n : Nat} (hn : n ≤ 12) : (msk P n &&& msk Q n = iW 0) ↔ ∀ i : Nat, i < n → ¬ (P i ∧ Q i) := by
  constructor
  · intro h i hi hp
    have h1 := (msk_and (P := P) (Q := Q) hn (show i < 32 by omega)).2 ⟨hi, hp⟩
    rw [h] at h1
    have h2 : (iW 0).toBitVec = 0#32 := rfl
    rw [h2] at h1
    simp at h1
  · intro h
    have h2 : (iW 0).toBitVec = 0#32 := rfl
    apply Int32.toBitVec_inj.1
    rw [h2]
    apply BitVec.eq_of_getLsbD_eq
    intro i hi
    have h1 := (msk_and (P := P) (Q := Q) hn (show i < 32 by omega))
    cases hb : (msk P n &&& msk Q n).toBitVec.getLsbD i with
    | false => simp
    | true =>
      have h3 := h1.1 hb
      exact absurd h3.2 (h i h3.1)
theorem sh_amt : ∀ i : Nat, i < 12 → ((iW i &&& iW 31).toBitVec.smod 32#32).toNat = i := by decide +kernel
theorem bit_test {M : Int32} {i : Nat} (hi : i < 12) : (((M >>> (iW i &&& iW 31)) &&& iW 1) = iW 1) ↔ M.toBitVec.getLsbD i = true := by
  have e1 : ((M >>> (iW i &&& iW 31)) &&& iW 1).toBitVec = M.toBitVec.sshiftRight i &&& 1#32 := by
    rw [Int32.toBitVec_and, Int32.toBitVec_shiftRight]
    have h3 : (iW 1).toBitVec = 1#32 := rfl
    rw [h3]
    congr 1
    show M.toBitVec.sshiftRight ((iW i &&& iW 31).toBitVec.smod 32#32).toNat = _
    rw [sh_amt i hi]
  have e2 : ((M >>> (iW i &&& iW 31)) &&& iW 1) = iW 1 ↔ M.toBitVec.sshiftRight i &&& 1#32 = 1#32 := by
    rw [← Int32.toBitVec_inj, e1]
    exact Iff.rfl
  rw [e2]
  have e3 : (M.toBitVec.sshiftRight i).getLsbD 0 = M.toBitVec.getLsbD i := by
    rw [BitVec.getLsbD_sshiftRight]
    simp
    omega
  constructor
  · intro h
    have h1 := congrArg (fun x => x.getLsbD 0) h
    simp only [BitVec.getLsbD_and, e3] at h1
    simpa using h1
  · intro h
    apply BitVec.eq_of_getLsbD_eq
    intro k hk
    rw [BitVec.getLsbD_and]
    by_cases e : k = 0
    · subst e
      rw [e3, h]
      simp
    · have : (1#32).getLsbD k = false := by
        simp
        omega
      rw [this]
      simp
/-- the last item with R -/
noncomputable def gst (R : Int → Prop) : Nat → Int
  | 0 => 0
  | n + 1 => cif (R n) n (gst R n)
theorem gst_bd {R : Int → Prop} : ∀ n : Nat, 0 ≤ gst R n ∧ gst R n ≤ n := by
  intro n
  induction n with
  | zero => exact ⟨Int.le_refl _, Int.le_refl _⟩
  | succ n ih =>
    unfold gst
    by_cases q : R n
    · rw [cif_pos q]
      omega
    · rw [cif_neg q]
      omega

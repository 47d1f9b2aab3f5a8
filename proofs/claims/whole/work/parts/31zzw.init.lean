/-! ===== the beginning ===== -/
def I0c : CF := fun a k => (cI wc412.1 a.toNat k.toNat).toInt
def J0c : CF := fun a k => (cJ wc412.2.1 a.toNat k.toNat).toInt
def A0c : CF := fun o k => if o = 0 then (if k = 60 ∨ k = 125 then 1 else if k = 62 ∨ k = 127 then 3 else 0) else if o = 2 then (if k = 0 ∨ k = 3 then -1 else 0) else 0
theorem i_start : den wc412 = Sx I0c J0c 3 true := by
  unfold den Sx
  refine Prod.ext ?_ (Prod.ext ?_ (Prod.ext ?_ (Prod.ext ?_ rfl)))
  · funext a k
    show cI wc412.1 a k = iW (cI wc412.1 (a : Int).toNat (k : Int).toNat).toInt
    rw [Int.toNat_natCast, Int.toNat_natCast, ← W_of]
  · funext a k
    show cJ wc412.2.1 a k = jV (cJ wc412.2.1 (a : Int).toNat (k : Int).toNat).toInt
    rw [Int.toNat_natCast, Int.toNat_natCast, ← V_of]
  · funext a k
    show cR wc412.2.2.1 a k = RW 3 a k
    unfold RW
    by_cases q : a = 2 ∧ k = 0
    · rw [if_pos q, q.1, q.2]
      decide +kernel
    · rw [if_neg q]
  · exact w_shl
theorem i_n (a k : Nat) : I0c a k = (cI wc412.1 a k).toInt := by
  unfold I0c
  rw [Int.toNat_natCast, Int.toNat_natCast]
theorem i_9 : ∀ k < 130, (cI wc412.1 9 k).toInt = A0c 0 (k : Nat) := by decide +kernel
theorem i_10 : ∀ k < 2, (cI wc412.1 10 k).toInt = A0c 1 (k : Nat) := by decide +kernel
theorem i_11 : ∀ k < 6, (cI wc412.1 11 k).toInt = A0c 2 (k : Nat) := by decide +kernel
theorem i_12 : ∀ k < 120, (cI wc412.1 12 k).toInt = A0c 3 (k : Nat) := by decide +kernel
theorem i_14 : ∀ k < 3, (cI wc412.1 14 k).toInt = 0 := by decide +kernel
theorem i_188 : ∀ k < 3, (cI wc412.1 188 k).toInt = 0 := by decide +kernel
theorem i_cells : ∀ q < 261, (cI wc412.1 (co (q : Nat)).toNat (ck (q : Nat)).toNat).toInt = vec A0c (q : Nat) := by decide +kernel
theorem i_EM : EM I0c A0c := by
  have h : ∀ (a m : Nat) (o : Int), (∀ k < m, (cI wc412.1 a k).toInt = A0c o (k : Nat)) → ∀ k : Int, 0 ≤ k → k < m → I0c a k = A0c o k := fun a m o hm k k0 k1 => by
    have := hm k.toNat (by omega)
    rw [Int.toNat_of_nonneg k0] at this
    rw [← this]
    unfold I0c
    rw [Int.toNat_natCast]
  exact ⟨h 9 130 0 i_9, h 10 2 1 i_10, h 11 6 2 i_11, h 12 120 3 i_12, by decide +kernel, by decide +kernel, by decide +kernel⟩
theorem i_RM : RM I0c A0c := cells_RM fun q q0 q1 => by
  have := i_cells q.toNat (by omega)
  rw [Int.toNat_of_nonneg q0] at this
  exact this
theorem i_okA : okA A0c := by
  have hT : ∀ q : Int, okT (A0c 0) (q * 5) := fun q => by
    unfold okT A0c
    simp only [↓reduceIte]
    refine ⟨?_, ?_, ?_, ?_, ?_, ?_⟩
    all_goals (repeat' split) <;> omega
  refine ⟨⟨by decide, by decide⟩, Or.inl (by decide), Or.inl (by decide), fun ax a0 a1 => ?_, fun ax row _ _ _ _ => hT _, fun i ax i0 i1 => ?_⟩
  · have h2 : ∀ k, A0c 2 k = if k = 0 ∨ k = 3 then -1 else 0 := fun k => rfl
    have h1 : A0c 1 ax = 0 := rfl
    unfold stg
    rw [h1, h2, h2, h2]
    refine ⟨by omega, ?_, ?_, ?_⟩
    all_goals split <;> omega
  · have h : nit A0c = 0 := rfl
    omega
def S0c : ST := (A0c, 0, (fun _ => A0c), (fun _ => False), (fun _ => A0c), 0, (fun _ => 0))
theorem i_good : Good (den wc412) := by
  refine ⟨I0c, J0c, 3, true, S0c, i_start, ⟨i_okA, ⟨show (0 : Int) ≤ 0 by decide, show (0 : Int) ≤ 8 by decide⟩, fun j j0 j1 => i_okA, fun s _ _ _ => i_okA, ⟨show (0 : Int) ≤ 0 by decide, show (0 : Int) ≤ 120 by decide⟩, fun k k0 k1 => by have k1 : k < 0 := k1; omega⟩, ?_, ?_⟩
  · have h15 : I0c 0 15 = 0 := by decide +kernel
    refine ⟨⟨i_okA, i_EM, by decide +kernel, by decide +kernel, Or.inl h15, fun z => by rw [h15] at z; exact absurd z (by decide)⟩, 0, ⟨by decide +kernel, by decide +kernel, Int.le_refl _, by decide, Int.le_refl _, by decide⟩, fun j j0 j1 => by have j1 : j < 0 := j1; omega, fun s s0 s1 => ?_, by decide +kernel, fun k k0 k1 => by have k1 : k < 0 := k1; omega⟩
    have := i_14 s.toNat (by omega)
    refine ⟨?_, fun z => absurd z (fun z : False => z)⟩
    show (cI wc412.1 (14 : Int).toNat s.toNat).toInt = bb False
    rw [bb_neg (fun z : False => z)]
    exact this
  · refine ⟨i_RM, ⟨by decide +kernel, Int.le_refl _, by decide⟩, fun j j0 j1 => by have j1 : j < 0 := j1; omega, fun s s0 s1 => ?_, by decide +kernel, fun k k0 k1 => by have k1 : k < 0 := k1; omega⟩
    have := i_188 s.toNat (by omega)
    refine ⟨?_, fun z => absurd z (fun z : False => z)⟩
    show (cI wc412.1 (188 : Int).toNat s.toNat).toInt = bb False
    rw [bb_neg (fun z : False => z)]
    exact this

/-! ===== decoding by bytes: a law an opcode; the bytes of a block are asked for once ===== -/
def x_pf : List UInt8 → List Nat → Bool
  | _, [] => true
  | [], _ :: _ => false
  | u :: l, b :: r => u.toNat == b && x_pf l r
def x_by (cc : ByteArray) (pc : Nat) (l : List Nat) : Prop := x_pf (cc.data.toList.drop pc) l = true
theorem x_by_el {cc : ByteArray} {pc b : Nat} {r : List Nat} (h : x_by cc pc (b :: r)) : (cc[pc]?).map UInt8.toNat = some b ∧ x_by cc (pc + 1) r := by
  unfold x_by at h
  cases hd : cc.data.toList.drop pc with
  | nil => rw [hd] at h; cases h
  | cons u l =>
    rw [hd] at h
    simp only [x_pf, Bool.and_eq_true, beq_iff_eq] at h
    have h1 : cc.data.toList[pc]? = some u := by
      have := congrArg (fun z => z[0]?) hd
      simpa using this
    have hlt : pc < cc.size := by
      have := (List.getElem?_eq_some_iff.mp h1).1
      simpa using this
    have h2 : cc[pc]? = some u := by
      rw [getElem?_pos cc pc hlt]
      obtain ⟨h3, h4⟩ := List.getElem?_eq_some_iff.mp h1
      rw [← h4]
      rfl
    refine ⟨by rw [h2]; simpa using h.1, ?_⟩
    unfold x_by
    have h5 : cc.data.toList.drop (pc + 1) = l := by
      rw [← List.drop_drop, hd]
      rfl
    rw [h5]
    exact h.2
theorem de_bind {α β : Type} {x : Decoder α} {f : α → Decoder β} {cc : ByteArray} {p p' : Nat} {a : α} (h : x cc p = .ok (a, p')) : (x >>= f) cc p = f a cc p' := by
  show (x cc p >>= fun q => f q.1 cc q.2) = _
  rw [h]
  rfl
theorem de_0 {cc : ByteArray} {pc b : Nat} (h : (cc[pc]?).map UInt8.toNat = some b) : (Reader.u1 : Decoder Nat) cc pc = .ok (b, pc + 1) := by
  have hlt : pc < cc.size := by
    rcases Nat.lt_or_ge pc cc.size with q | q
    · exact q
    · rw [getElem?_neg cc pc (by omega)] at h; cases h
  rw [getElem?_pos cc pc hlt] at h
  have h2 : cc[pc].toNat = b := Option.some.inj h
  have h3 : (Reader.u1 : Decoder Nat) cc pc = (dite (pc < cc.size) (fun h => (do set (pc + 1); Pure.pure cc[pc].toNat : Decoder Nat)) (fun _ => throw (HasTruncated.truncated pc))) cc pc := rfl
  rw [h3, dif_pos hlt, ← h2]
  rfl
theorem de_fin {cc : ByteArray} {pc n : Nat} {i : Instr} (h : (Decoder.instr pc) cc pc = .ok (i, pc + n)) : decode cc pc = .ok (i, n) := by
  have h1 : decode cc pc = ((Decoder.instr pc) cc pc >>= fun q => Pure.pure (q.1, q.2 - pc)) := rfl
  rw [h1, h]
  show Except.ok (i, pc + n - pc) = _
  rw [Nat.add_sub_cancel_left]
theorem de_u2 {cc : ByteArray} {pc a b n : Nat} (h : (cc[pc]?).map UInt8.toNat = some a) (h2 : (cc[pc + 1]?).map UInt8.toNat = some b) (hn : a * 256 + b = n) : (Reader.u2 : Decoder Nat) cc pc = .ok (n, pc + 2) := by
  subst hn
  exact (de_bind (de_0 h)).trans ((de_bind (de_0 h2)).trans rfl)
theorem de_s1 {cc : ByteArray} {pc a : Nat} {n : Int} (h : (cc[pc]?).map UInt8.toNat = some a) (hn : Reader.signed 8 a = n) : (Reader.s1 : Decoder Int) cc pc = .ok (n, pc + 1) := by
  subst hn
  exact (de_bind (f := fun x => Pure.pure (Reader.signed 8 x)) (de_0 h)).trans rfl
theorem de_s2 {cc : ByteArray} {pc a b : Nat} {n : Int} (h : (cc[pc]?).map UInt8.toNat = some a) (h2 : (cc[pc + 1]?).map UInt8.toNat = some b) (hn : Reader.signed 16 (a * 256 + b) = n) : (Reader.s2 : Decoder Int) cc pc = .ok (n, pc + 2) := by
  subst hn
  exact (de_bind (f := fun x => Pure.pure (Reader.signed 16 x)) (de_u2 h h2 rfl)).trans rfl

theorem de_aaload {cc : ByteArray} {pc : Nat} {r : List Nat} (h : x_by cc pc (50 :: r)) : decode cc pc = .ok (.aaload, 1) ∧ x_by cc (pc + 1) r := ⟨de_fin ((de_bind (de_0 (x_by_el h).1)).trans rfl), (x_by_el h).2⟩
theorem de_aastore {cc : ByteArray} {pc : Nat} {r : List Nat} (h : x_by cc pc (83 :: r)) : decode cc pc = .ok (.aastore, 1) ∧ x_by cc (pc + 1) r := ⟨de_fin ((de_bind (de_0 (x_by_el h).1)).trans rfl), (x_by_el h).2⟩
theorem de_aload {cc : ByteArray} {pc : Nat} {r : List Nat} {a : Nat} (h : x_by cc pc (25 :: a :: r)) : decode cc pc = .ok (.aload a, 2) ∧ x_by cc (pc + 2) r := ⟨de_fin ((de_bind (de_0 (x_by_el h).1)).trans ((de_bind (de_0 (x_by_el (x_by_el h).2).1)).trans rfl)), (x_by_el (x_by_el h).2).2⟩
theorem de_aload_n0 {cc : ByteArray} {pc : Nat} {r : List Nat} (h : x_by cc pc (42 :: r)) : decode cc pc = .ok (.aload_n 0, 1) ∧ x_by cc (pc + 1) r := ⟨de_fin ((de_bind (de_0 (x_by_el h).1)).trans rfl), (x_by_el h).2⟩
theorem de_aload_n1 {cc : ByteArray} {pc : Nat} {r : List Nat} (h : x_by cc pc (43 :: r)) : decode cc pc = .ok (.aload_n 1, 1) ∧ x_by cc (pc + 1) r := ⟨de_fin ((de_bind (de_0 (x_by_el h).1)).trans rfl), (x_by_el h).2⟩
theorem de_aload_n2 {cc : ByteArray} {pc : Nat} {r : List Nat} (h : x_by cc pc (44 :: r)) : decode cc pc = .ok (.aload_n 2, 1) ∧ x_by cc (pc + 1) r := ⟨de_fin ((de_bind (de_0 (x_by_el h).1)).trans rfl), (x_by_el h).2⟩
theorem de_aload_n3 {cc : ByteArray} {pc : Nat} {r : List Nat} (h : x_by cc pc (45 :: r)) : decode cc pc = .ok (.aload_n 3, 1) ∧ x_by cc (pc + 1) r := ⟨de_fin ((de_bind (de_0 (x_by_el h).1)).trans rfl), (x_by_el h).2⟩
theorem de_anewarray {cc : ByteArray} {pc : Nat} {r : List Nat} {a b : Nat} (n : Nat) (hn : a * 256 + b = n) (h : x_by cc pc (189 :: a :: b :: r)) : decode cc pc = .ok (.anewarray n, 3) ∧ x_by cc (pc + 3) r := ⟨de_fin ((de_bind (de_0 (x_by_el h).1)).trans ((de_bind (de_u2 (x_by_el (x_by_el h).2).1 (x_by_el (x_by_el (x_by_el h).2).2).1 hn)).trans rfl)), (x_by_el (x_by_el (x_by_el h).2).2).2⟩
theorem de_areturn {cc : ByteArray} {pc : Nat} {r : List Nat} (h : x_by cc pc (176 :: r)) : decode cc pc = .ok (.areturn, 1) ∧ x_by cc (pc + 1) r := ⟨de_fin ((de_bind (de_0 (x_by_el h).1)).trans rfl), (x_by_el h).2⟩
theorem de_arraylength {cc : ByteArray} {pc : Nat} {r : List Nat} (h : x_by cc pc (190 :: r)) : decode cc pc = .ok (.arraylength, 1) ∧ x_by cc (pc + 1) r := ⟨de_fin ((de_bind (de_0 (x_by_el h).1)).trans rfl), (x_by_el h).2⟩
theorem de_astore {cc : ByteArray} {pc : Nat} {r : List Nat} {a : Nat} (h : x_by cc pc (58 :: a :: r)) : decode cc pc = .ok (.astore a, 2) ∧ x_by cc (pc + 2) r := ⟨de_fin ((de_bind (de_0 (x_by_el h).1)).trans ((de_bind (de_0 (x_by_el (x_by_el h).2).1)).trans rfl)), (x_by_el (x_by_el h).2).2⟩
theorem de_astore_n1 {cc : ByteArray} {pc : Nat} {r : List Nat} (h : x_by cc pc (76 :: r)) : decode cc pc = .ok (.astore_n 1, 1) ∧ x_by cc (pc + 1) r := ⟨de_fin ((de_bind (de_0 (x_by_el h).1)).trans rfl), (x_by_el h).2⟩
theorem de_astore_n2 {cc : ByteArray} {pc : Nat} {r : List Nat} (h : x_by cc pc (77 :: r)) : decode cc pc = .ok (.astore_n 2, 1) ∧ x_by cc (pc + 1) r := ⟨de_fin ((de_bind (de_0 (x_by_el h).1)).trans rfl), (x_by_el h).2⟩
theorem de_astore_n3 {cc : ByteArray} {pc : Nat} {r : List Nat} (h : x_by cc pc (78 :: r)) : decode cc pc = .ok (.astore_n 3, 1) ∧ x_by cc (pc + 1) r := ⟨de_fin ((de_bind (de_0 (x_by_el h).1)).trans rfl), (x_by_el h).2⟩
theorem de_athrow {cc : ByteArray} {pc : Nat} {r : List Nat} (h : x_by cc pc (191 :: r)) : decode cc pc = .ok (.athrow, 1) ∧ x_by cc (pc + 1) r := ⟨de_fin ((de_bind (de_0 (x_by_el h).1)).trans rfl), (x_by_el h).2⟩
theorem de_baload {cc : ByteArray} {pc : Nat} {r : List Nat} (h : x_by cc pc (51 :: r)) : decode cc pc = .ok (.baload, 1) ∧ x_by cc (pc + 1) r := ⟨de_fin ((de_bind (de_0 (x_by_el h).1)).trans rfl), (x_by_el h).2⟩
theorem de_bastore {cc : ByteArray} {pc : Nat} {r : List Nat} (h : x_by cc pc (84 :: r)) : decode cc pc = .ok (.bastore, 1) ∧ x_by cc (pc + 1) r := ⟨de_fin ((de_bind (de_0 (x_by_el h).1)).trans rfl), (x_by_el h).2⟩
theorem de_bipush {cc : ByteArray} {pc : Nat} {r : List Nat} {a : Nat} (n : Int) (hn : Reader.signed 8 a = n) (h : x_by cc pc (16 :: a :: r)) : decode cc pc = .ok (.bipush n, 2) ∧ x_by cc (pc + 2) r := ⟨de_fin ((de_bind (de_0 (x_by_el h).1)).trans ((de_bind (de_s1 (x_by_el (x_by_el h).2).1 hn)).trans rfl)), (x_by_el (x_by_el h).2).2⟩
theorem de_caload {cc : ByteArray} {pc : Nat} {r : List Nat} (h : x_by cc pc (52 :: r)) : decode cc pc = .ok (.caload, 1) ∧ x_by cc (pc + 1) r := ⟨de_fin ((de_bind (de_0 (x_by_el h).1)).trans rfl), (x_by_el h).2⟩
theorem de_castore {cc : ByteArray} {pc : Nat} {r : List Nat} (h : x_by cc pc (85 :: r)) : decode cc pc = .ok (.castore, 1) ∧ x_by cc (pc + 1) r := ⟨de_fin ((de_bind (de_0 (x_by_el h).1)).trans rfl), (x_by_el h).2⟩
theorem de_dup {cc : ByteArray} {pc : Nat} {r : List Nat} (h : x_by cc pc (89 :: r)) : decode cc pc = .ok (.dup, 1) ∧ x_by cc (pc + 1) r := ⟨de_fin ((de_bind (de_0 (x_by_el h).1)).trans rfl), (x_by_el h).2⟩
theorem de_dup2 {cc : ByteArray} {pc : Nat} {r : List Nat} (h : x_by cc pc (92 :: r)) : decode cc pc = .ok (.dup2, 1) ∧ x_by cc (pc + 1) r := ⟨de_fin ((de_bind (de_0 (x_by_el h).1)).trans rfl), (x_by_el h).2⟩
theorem de_getfield {cc : ByteArray} {pc : Nat} {r : List Nat} {a b : Nat} (n : Nat) (hn : a * 256 + b = n) (h : x_by cc pc (180 :: a :: b :: r)) : decode cc pc = .ok (.getfield n, 3) ∧ x_by cc (pc + 3) r := ⟨de_fin ((de_bind (de_0 (x_by_el h).1)).trans ((de_bind (de_u2 (x_by_el (x_by_el h).2).1 (x_by_el (x_by_el (x_by_el h).2).2).1 hn)).trans rfl)), (x_by_el (x_by_el (x_by_el h).2).2).2⟩
theorem de_getstatic {cc : ByteArray} {pc : Nat} {r : List Nat} {a b : Nat} (n : Nat) (hn : a * 256 + b = n) (h : x_by cc pc (178 :: a :: b :: r)) : decode cc pc = .ok (.getstatic n, 3) ∧ x_by cc (pc + 3) r := ⟨de_fin ((de_bind (de_0 (x_by_el h).1)).trans ((de_bind (de_u2 (x_by_el (x_by_el h).2).1 (x_by_el (x_by_el (x_by_el h).2).2).1 hn)).trans rfl)), (x_by_el (x_by_el (x_by_el h).2).2).2⟩
theorem de_goto {cc : ByteArray} {pc : Nat} {r : List Nat} {a b : Nat} (n : Int) (hn : Reader.signed 16 (a * 256 + b) = n) (h : x_by cc pc (167 :: a :: b :: r)) : decode cc pc = .ok (.goto n, 3) ∧ x_by cc (pc + 3) r := ⟨de_fin ((de_bind (de_0 (x_by_el h).1)).trans ((de_bind (de_s2 (x_by_el (x_by_el h).2).1 (x_by_el (x_by_el (x_by_el h).2).2).1 hn)).trans rfl)), (x_by_el (x_by_el (x_by_el h).2).2).2⟩
theorem de_i2c {cc : ByteArray} {pc : Nat} {r : List Nat} (h : x_by cc pc (146 :: r)) : decode cc pc = .ok (.i2c, 1) ∧ x_by cc (pc + 1) r := ⟨de_fin ((de_bind (de_0 (x_by_el h).1)).trans rfl), (x_by_el h).2⟩
theorem de_i2l {cc : ByteArray} {pc : Nat} {r : List Nat} (h : x_by cc pc (133 :: r)) : decode cc pc = .ok (.i2l, 1) ∧ x_by cc (pc + 1) r := ⟨de_fin ((de_bind (de_0 (x_by_el h).1)).trans rfl), (x_by_el h).2⟩
theorem de_iadd {cc : ByteArray} {pc : Nat} {r : List Nat} (h : x_by cc pc (96 :: r)) : decode cc pc = .ok (.iadd, 1) ∧ x_by cc (pc + 1) r := ⟨de_fin ((de_bind (de_0 (x_by_el h).1)).trans rfl), (x_by_el h).2⟩
theorem de_iaload {cc : ByteArray} {pc : Nat} {r : List Nat} (h : x_by cc pc (46 :: r)) : decode cc pc = .ok (.iaload, 1) ∧ x_by cc (pc + 1) r := ⟨de_fin ((de_bind (de_0 (x_by_el h).1)).trans rfl), (x_by_el h).2⟩
theorem de_iand {cc : ByteArray} {pc : Nat} {r : List Nat} (h : x_by cc pc (126 :: r)) : decode cc pc = .ok (.iand, 1) ∧ x_by cc (pc + 1) r := ⟨de_fin ((de_bind (de_0 (x_by_el h).1)).trans rfl), (x_by_el h).2⟩
theorem de_iastore {cc : ByteArray} {pc : Nat} {r : List Nat} (h : x_by cc pc (79 :: r)) : decode cc pc = .ok (.iastore, 1) ∧ x_by cc (pc + 1) r := ⟨de_fin ((de_bind (de_0 (x_by_el h).1)).trans rfl), (x_by_el h).2⟩
theorem de_icmp_eq {cc : ByteArray} {pc : Nat} {r : List Nat} {a b : Nat} (n : Int) (hn : Reader.signed 16 (a * 256 + b) = n) (h : x_by cc pc (159 :: a :: b :: r)) : decode cc pc = .ok (.if_icmp .eq n, 3) ∧ x_by cc (pc + 3) r := ⟨de_fin ((de_bind (de_0 (x_by_el h).1)).trans ((de_bind (de_s2 (x_by_el (x_by_el h).2).1 (x_by_el (x_by_el (x_by_el h).2).2).1 hn)).trans rfl)), (x_by_el (x_by_el (x_by_el h).2).2).2⟩
theorem de_icmp_ge {cc : ByteArray} {pc : Nat} {r : List Nat} {a b : Nat} (n : Int) (hn : Reader.signed 16 (a * 256 + b) = n) (h : x_by cc pc (162 :: a :: b :: r)) : decode cc pc = .ok (.if_icmp .ge n, 3) ∧ x_by cc (pc + 3) r := ⟨de_fin ((de_bind (de_0 (x_by_el h).1)).trans ((de_bind (de_s2 (x_by_el (x_by_el h).2).1 (x_by_el (x_by_el (x_by_el h).2).2).1 hn)).trans rfl)), (x_by_el (x_by_el (x_by_el h).2).2).2⟩
theorem de_icmp_gt {cc : ByteArray} {pc : Nat} {r : List Nat} {a b : Nat} (n : Int) (hn : Reader.signed 16 (a * 256 + b) = n) (h : x_by cc pc (163 :: a :: b :: r)) : decode cc pc = .ok (.if_icmp .gt n, 3) ∧ x_by cc (pc + 3) r := ⟨de_fin ((de_bind (de_0 (x_by_el h).1)).trans ((de_bind (de_s2 (x_by_el (x_by_el h).2).1 (x_by_el (x_by_el (x_by_el h).2).2).1 hn)).trans rfl)), (x_by_el (x_by_el (x_by_el h).2).2).2⟩
theorem de_icmp_le {cc : ByteArray} {pc : Nat} {r : List Nat} {a b : Nat} (n : Int) (hn : Reader.signed 16 (a * 256 + b) = n) (h : x_by cc pc (164 :: a :: b :: r)) : decode cc pc = .ok (.if_icmp .le n, 3) ∧ x_by cc (pc + 3) r := ⟨de_fin ((de_bind (de_0 (x_by_el h).1)).trans ((de_bind (de_s2 (x_by_el (x_by_el h).2).1 (x_by_el (x_by_el (x_by_el h).2).2).1 hn)).trans rfl)), (x_by_el (x_by_el (x_by_el h).2).2).2⟩
theorem de_icmp_lt {cc : ByteArray} {pc : Nat} {r : List Nat} {a b : Nat} (n : Int) (hn : Reader.signed 16 (a * 256 + b) = n) (h : x_by cc pc (161 :: a :: b :: r)) : decode cc pc = .ok (.if_icmp .lt n, 3) ∧ x_by cc (pc + 3) r := ⟨de_fin ((de_bind (de_0 (x_by_el h).1)).trans ((de_bind (de_s2 (x_by_el (x_by_el h).2).1 (x_by_el (x_by_el (x_by_el h).2).2).1 hn)).trans rfl)), (x_by_el (x_by_el (x_by_el h).2).2).2⟩
theorem de_icmp_ne {cc : ByteArray} {pc : Nat} {r : List Nat} {a b : Nat} (n : Int) (hn : Reader.signed 16 (a * 256 + b) = n) (h : x_by cc pc (160 :: a :: b :: r)) : decode cc pc = .ok (.if_icmp .ne n, 3) ∧ x_by cc (pc + 3) r := ⟨de_fin ((de_bind (de_0 (x_by_el h).1)).trans ((de_bind (de_s2 (x_by_el (x_by_el h).2).1 (x_by_el (x_by_el (x_by_el h).2).2).1 hn)).trans rfl)), (x_by_el (x_by_el (x_by_el h).2).2).2⟩
theorem de_iconst_0 {cc : ByteArray} {pc : Nat} {r : List Nat} (h : x_by cc pc (3 :: r)) : decode cc pc = .ok (.iconst 0, 1) ∧ x_by cc (pc + 1) r := ⟨de_fin ((de_bind (de_0 (x_by_el h).1)).trans rfl), (x_by_el h).2⟩
theorem de_iconst_1 {cc : ByteArray} {pc : Nat} {r : List Nat} (h : x_by cc pc (4 :: r)) : decode cc pc = .ok (.iconst 1, 1) ∧ x_by cc (pc + 1) r := ⟨de_fin ((de_bind (de_0 (x_by_el h).1)).trans rfl), (x_by_el h).2⟩
theorem de_iconst_2 {cc : ByteArray} {pc : Nat} {r : List Nat} (h : x_by cc pc (5 :: r)) : decode cc pc = .ok (.iconst 2, 1) ∧ x_by cc (pc + 1) r := ⟨de_fin ((de_bind (de_0 (x_by_el h).1)).trans rfl), (x_by_el h).2⟩
theorem de_iconst_3 {cc : ByteArray} {pc : Nat} {r : List Nat} (h : x_by cc pc (6 :: r)) : decode cc pc = .ok (.iconst 3, 1) ∧ x_by cc (pc + 1) r := ⟨de_fin ((de_bind (de_0 (x_by_el h).1)).trans rfl), (x_by_el h).2⟩
theorem de_iconst_4 {cc : ByteArray} {pc : Nat} {r : List Nat} (h : x_by cc pc (7 :: r)) : decode cc pc = .ok (.iconst 4, 1) ∧ x_by cc (pc + 1) r := ⟨de_fin ((de_bind (de_0 (x_by_el h).1)).trans rfl), (x_by_el h).2⟩
theorem de_iconst_5 {cc : ByteArray} {pc : Nat} {r : List Nat} (h : x_by cc pc (8 :: r)) : decode cc pc = .ok (.iconst 5, 1) ∧ x_by cc (pc + 1) r := ⟨de_fin ((de_bind (de_0 (x_by_el h).1)).trans rfl), (x_by_el h).2⟩
theorem de_iconst_m1 {cc : ByteArray} {pc : Nat} {r : List Nat} (h : x_by cc pc (2 :: r)) : decode cc pc = .ok (.iconst (-1), 1) ∧ x_by cc (pc + 1) r := ⟨de_fin ((de_bind (de_0 (x_by_el h).1)).trans rfl), (x_by_el h).2⟩
theorem de_idiv {cc : ByteArray} {pc : Nat} {r : List Nat} (h : x_by cc pc (108 :: r)) : decode cc pc = .ok (.idiv, 1) ∧ x_by cc (pc + 1) r := ⟨de_fin ((de_bind (de_0 (x_by_el h).1)).trans rfl), (x_by_el h).2⟩
theorem de_if_eq {cc : ByteArray} {pc : Nat} {r : List Nat} {a b : Nat} (n : Int) (hn : Reader.signed 16 (a * 256 + b) = n) (h : x_by cc pc (153 :: a :: b :: r)) : decode cc pc = .ok (.ifCond .eq n, 3) ∧ x_by cc (pc + 3) r := ⟨de_fin ((de_bind (de_0 (x_by_el h).1)).trans ((de_bind (de_s2 (x_by_el (x_by_el h).2).1 (x_by_el (x_by_el (x_by_el h).2).2).1 hn)).trans rfl)), (x_by_el (x_by_el (x_by_el h).2).2).2⟩
theorem de_if_ge {cc : ByteArray} {pc : Nat} {r : List Nat} {a b : Nat} (n : Int) (hn : Reader.signed 16 (a * 256 + b) = n) (h : x_by cc pc (156 :: a :: b :: r)) : decode cc pc = .ok (.ifCond .ge n, 3) ∧ x_by cc (pc + 3) r := ⟨de_fin ((de_bind (de_0 (x_by_el h).1)).trans ((de_bind (de_s2 (x_by_el (x_by_el h).2).1 (x_by_el (x_by_el (x_by_el h).2).2).1 hn)).trans rfl)), (x_by_el (x_by_el (x_by_el h).2).2).2⟩
theorem de_if_gt {cc : ByteArray} {pc : Nat} {r : List Nat} {a b : Nat} (n : Int) (hn : Reader.signed 16 (a * 256 + b) = n) (h : x_by cc pc (157 :: a :: b :: r)) : decode cc pc = .ok (.ifCond .gt n, 3) ∧ x_by cc (pc + 3) r := ⟨de_fin ((de_bind (de_0 (x_by_el h).1)).trans ((de_bind (de_s2 (x_by_el (x_by_el h).2).1 (x_by_el (x_by_el (x_by_el h).2).2).1 hn)).trans rfl)), (x_by_el (x_by_el (x_by_el h).2).2).2⟩
theorem de_if_le {cc : ByteArray} {pc : Nat} {r : List Nat} {a b : Nat} (n : Int) (hn : Reader.signed 16 (a * 256 + b) = n) (h : x_by cc pc (158 :: a :: b :: r)) : decode cc pc = .ok (.ifCond .le n, 3) ∧ x_by cc (pc + 3) r := ⟨de_fin ((de_bind (de_0 (x_by_el h).1)).trans ((de_bind (de_s2 (x_by_el (x_by_el h).2).1 (x_by_el (x_by_el (x_by_el h).2).2).1 hn)).trans rfl)), (x_by_el (x_by_el (x_by_el h).2).2).2⟩
theorem de_if_lt {cc : ByteArray} {pc : Nat} {r : List Nat} {a b : Nat} (n : Int) (hn : Reader.signed 16 (a * 256 + b) = n) (h : x_by cc pc (155 :: a :: b :: r)) : decode cc pc = .ok (.ifCond .lt n, 3) ∧ x_by cc (pc + 3) r := ⟨de_fin ((de_bind (de_0 (x_by_el h).1)).trans ((de_bind (de_s2 (x_by_el (x_by_el h).2).1 (x_by_el (x_by_el (x_by_el h).2).2).1 hn)).trans rfl)), (x_by_el (x_by_el (x_by_el h).2).2).2⟩
theorem de_if_ne {cc : ByteArray} {pc : Nat} {r : List Nat} {a b : Nat} (n : Int) (hn : Reader.signed 16 (a * 256 + b) = n) (h : x_by cc pc (154 :: a :: b :: r)) : decode cc pc = .ok (.ifCond .ne n, 3) ∧ x_by cc (pc + 3) r := ⟨de_fin ((de_bind (de_0 (x_by_el h).1)).trans ((de_bind (de_s2 (x_by_el (x_by_el h).2).1 (x_by_el (x_by_el (x_by_el h).2).2).1 hn)).trans rfl)), (x_by_el (x_by_el (x_by_el h).2).2).2⟩
theorem de_ifnonnull {cc : ByteArray} {pc : Nat} {r : List Nat} {a b : Nat} (n : Int) (hn : Reader.signed 16 (a * 256 + b) = n) (h : x_by cc pc (199 :: a :: b :: r)) : decode cc pc = .ok (.ifnonnull n, 3) ∧ x_by cc (pc + 3) r := ⟨de_fin ((de_bind (de_0 (x_by_el h).1)).trans ((de_bind (de_s2 (x_by_el (x_by_el h).2).1 (x_by_el (x_by_el (x_by_el h).2).2).1 hn)).trans rfl)), (x_by_el (x_by_el (x_by_el h).2).2).2⟩
theorem de_iinc {cc : ByteArray} {pc : Nat} {r : List Nat} {i a : Nat} (n : Int) (hn : Reader.signed 8 a = n) (h : x_by cc pc (132 :: i :: a :: r)) : decode cc pc = .ok (.iinc i n, 3) ∧ x_by cc (pc + 3) r := ⟨de_fin ((de_bind (de_0 (x_by_el h).1)).trans ((de_bind (de_0 (x_by_el (x_by_el h).2).1)).trans ((de_bind (de_s1 (x_by_el (x_by_el (x_by_el h).2).2).1 hn)).trans rfl))), (x_by_el (x_by_el (x_by_el h).2).2).2⟩
theorem de_iload {cc : ByteArray} {pc : Nat} {r : List Nat} {a : Nat} (h : x_by cc pc (21 :: a :: r)) : decode cc pc = .ok (.iload a, 2) ∧ x_by cc (pc + 2) r := ⟨de_fin ((de_bind (de_0 (x_by_el h).1)).trans ((de_bind (de_0 (x_by_el (x_by_el h).2).1)).trans rfl)), (x_by_el (x_by_el h).2).2⟩
theorem de_iload_n0 {cc : ByteArray} {pc : Nat} {r : List Nat} (h : x_by cc pc (26 :: r)) : decode cc pc = .ok (.iload_n 0, 1) ∧ x_by cc (pc + 1) r := ⟨de_fin ((de_bind (de_0 (x_by_el h).1)).trans rfl), (x_by_el h).2⟩
theorem de_iload_n1 {cc : ByteArray} {pc : Nat} {r : List Nat} (h : x_by cc pc (27 :: r)) : decode cc pc = .ok (.iload_n 1, 1) ∧ x_by cc (pc + 1) r := ⟨de_fin ((de_bind (de_0 (x_by_el h).1)).trans rfl), (x_by_el h).2⟩
theorem de_iload_n2 {cc : ByteArray} {pc : Nat} {r : List Nat} (h : x_by cc pc (28 :: r)) : decode cc pc = .ok (.iload_n 2, 1) ∧ x_by cc (pc + 1) r := ⟨de_fin ((de_bind (de_0 (x_by_el h).1)).trans rfl), (x_by_el h).2⟩
theorem de_iload_n3 {cc : ByteArray} {pc : Nat} {r : List Nat} (h : x_by cc pc (29 :: r)) : decode cc pc = .ok (.iload_n 3, 1) ∧ x_by cc (pc + 1) r := ⟨de_fin ((de_bind (de_0 (x_by_el h).1)).trans rfl), (x_by_el h).2⟩
theorem de_imul {cc : ByteArray} {pc : Nat} {r : List Nat} (h : x_by cc pc (104 :: r)) : decode cc pc = .ok (.imul, 1) ∧ x_by cc (pc + 1) r := ⟨de_fin ((de_bind (de_0 (x_by_el h).1)).trans rfl), (x_by_el h).2⟩
theorem de_invokespecial {cc : ByteArray} {pc : Nat} {r : List Nat} {a b : Nat} (n : Nat) (hn : a * 256 + b = n) (h : x_by cc pc (183 :: a :: b :: r)) : decode cc pc = .ok (.invokespecial n, 3) ∧ x_by cc (pc + 3) r := ⟨de_fin ((de_bind (de_0 (x_by_el h).1)).trans ((de_bind (de_u2 (x_by_el (x_by_el h).2).1 (x_by_el (x_by_el (x_by_el h).2).2).1 hn)).trans rfl)), (x_by_el (x_by_el (x_by_el h).2).2).2⟩
theorem de_invokestatic {cc : ByteArray} {pc : Nat} {r : List Nat} {a b : Nat} (n : Nat) (hn : a * 256 + b = n) (h : x_by cc pc (184 :: a :: b :: r)) : decode cc pc = .ok (.invokestatic n, 3) ∧ x_by cc (pc + 3) r := ⟨de_fin ((de_bind (de_0 (x_by_el h).1)).trans ((de_bind (de_u2 (x_by_el (x_by_el h).2).1 (x_by_el (x_by_el (x_by_el h).2).2).1 hn)).trans rfl)), (x_by_el (x_by_el (x_by_el h).2).2).2⟩
theorem de_invokevirtual {cc : ByteArray} {pc : Nat} {r : List Nat} {a b : Nat} (n : Nat) (hn : a * 256 + b = n) (h : x_by cc pc (182 :: a :: b :: r)) : decode cc pc = .ok (.invokevirtual n, 3) ∧ x_by cc (pc + 3) r := ⟨de_fin ((de_bind (de_0 (x_by_el h).1)).trans ((de_bind (de_u2 (x_by_el (x_by_el h).2).1 (x_by_el (x_by_el (x_by_el h).2).2).1 hn)).trans rfl)), (x_by_el (x_by_el (x_by_el h).2).2).2⟩
theorem de_ior {cc : ByteArray} {pc : Nat} {r : List Nat} (h : x_by cc pc (128 :: r)) : decode cc pc = .ok (.ior, 1) ∧ x_by cc (pc + 1) r := ⟨de_fin ((de_bind (de_0 (x_by_el h).1)).trans rfl), (x_by_el h).2⟩
theorem de_irem {cc : ByteArray} {pc : Nat} {r : List Nat} (h : x_by cc pc (112 :: r)) : decode cc pc = .ok (.irem, 1) ∧ x_by cc (pc + 1) r := ⟨de_fin ((de_bind (de_0 (x_by_el h).1)).trans rfl), (x_by_el h).2⟩
theorem de_ireturn {cc : ByteArray} {pc : Nat} {r : List Nat} (h : x_by cc pc (172 :: r)) : decode cc pc = .ok (.ireturn, 1) ∧ x_by cc (pc + 1) r := ⟨de_fin ((de_bind (de_0 (x_by_el h).1)).trans rfl), (x_by_el h).2⟩
theorem de_ishl {cc : ByteArray} {pc : Nat} {r : List Nat} (h : x_by cc pc (120 :: r)) : decode cc pc = .ok (.ishl, 1) ∧ x_by cc (pc + 1) r := ⟨de_fin ((de_bind (de_0 (x_by_el h).1)).trans rfl), (x_by_el h).2⟩
theorem de_ishr {cc : ByteArray} {pc : Nat} {r : List Nat} (h : x_by cc pc (122 :: r)) : decode cc pc = .ok (.ishr, 1) ∧ x_by cc (pc + 1) r := ⟨de_fin ((de_bind (de_0 (x_by_el h).1)).trans rfl), (x_by_el h).2⟩
theorem de_istore {cc : ByteArray} {pc : Nat} {r : List Nat} {a : Nat} (h : x_by cc pc (54 :: a :: r)) : decode cc pc = .ok (.istore a, 2) ∧ x_by cc (pc + 2) r := ⟨de_fin ((de_bind (de_0 (x_by_el h).1)).trans ((de_bind (de_0 (x_by_el (x_by_el h).2).1)).trans rfl)), (x_by_el (x_by_el h).2).2⟩
theorem de_istore_n1 {cc : ByteArray} {pc : Nat} {r : List Nat} (h : x_by cc pc (60 :: r)) : decode cc pc = .ok (.istore_n 1, 1) ∧ x_by cc (pc + 1) r := ⟨de_fin ((de_bind (de_0 (x_by_el h).1)).trans rfl), (x_by_el h).2⟩
theorem de_istore_n2 {cc : ByteArray} {pc : Nat} {r : List Nat} (h : x_by cc pc (61 :: r)) : decode cc pc = .ok (.istore_n 2, 1) ∧ x_by cc (pc + 1) r := ⟨de_fin ((de_bind (de_0 (x_by_el h).1)).trans rfl), (x_by_el h).2⟩
theorem de_istore_n3 {cc : ByteArray} {pc : Nat} {r : List Nat} (h : x_by cc pc (62 :: r)) : decode cc pc = .ok (.istore_n 3, 1) ∧ x_by cc (pc + 1) r := ⟨de_fin ((de_bind (de_0 (x_by_el h).1)).trans rfl), (x_by_el h).2⟩
theorem de_isub {cc : ByteArray} {pc : Nat} {r : List Nat} (h : x_by cc pc (100 :: r)) : decode cc pc = .ok (.isub, 1) ∧ x_by cc (pc + 1) r := ⟨de_fin ((de_bind (de_0 (x_by_el h).1)).trans rfl), (x_by_el h).2⟩
theorem de_ixor {cc : ByteArray} {pc : Nat} {r : List Nat} (h : x_by cc pc (130 :: r)) : decode cc pc = .ok (.ixor, 1) ∧ x_by cc (pc + 1) r := ⟨de_fin ((de_bind (de_0 (x_by_el h).1)).trans rfl), (x_by_el h).2⟩
theorem de_l2i {cc : ByteArray} {pc : Nat} {r : List Nat} (h : x_by cc pc (136 :: r)) : decode cc pc = .ok (.l2i, 1) ∧ x_by cc (pc + 1) r := ⟨de_fin ((de_bind (de_0 (x_by_el h).1)).trans rfl), (x_by_el h).2⟩
theorem de_ladd {cc : ByteArray} {pc : Nat} {r : List Nat} (h : x_by cc pc (97 :: r)) : decode cc pc = .ok (.ladd, 1) ∧ x_by cc (pc + 1) r := ⟨de_fin ((de_bind (de_0 (x_by_el h).1)).trans rfl), (x_by_el h).2⟩
theorem de_laload {cc : ByteArray} {pc : Nat} {r : List Nat} (h : x_by cc pc (47 :: r)) : decode cc pc = .ok (.laload, 1) ∧ x_by cc (pc + 1) r := ⟨de_fin ((de_bind (de_0 (x_by_el h).1)).trans rfl), (x_by_el h).2⟩
theorem de_lastore {cc : ByteArray} {pc : Nat} {r : List Nat} (h : x_by cc pc (80 :: r)) : decode cc pc = .ok (.lastore, 1) ∧ x_by cc (pc + 1) r := ⟨de_fin ((de_bind (de_0 (x_by_el h).1)).trans rfl), (x_by_el h).2⟩
theorem de_lcmp {cc : ByteArray} {pc : Nat} {r : List Nat} (h : x_by cc pc (148 :: r)) : decode cc pc = .ok (.lcmp, 1) ∧ x_by cc (pc + 1) r := ⟨de_fin ((de_bind (de_0 (x_by_el h).1)).trans rfl), (x_by_el h).2⟩
theorem de_lconst_0 {cc : ByteArray} {pc : Nat} {r : List Nat} (h : x_by cc pc (9 :: r)) : decode cc pc = .ok (.lconst 0, 1) ∧ x_by cc (pc + 1) r := ⟨de_fin ((de_bind (de_0 (x_by_el h).1)).trans rfl), (x_by_el h).2⟩
theorem de_lconst_1 {cc : ByteArray} {pc : Nat} {r : List Nat} (h : x_by cc pc (10 :: r)) : decode cc pc = .ok (.lconst 1, 1) ∧ x_by cc (pc + 1) r := ⟨de_fin ((de_bind (de_0 (x_by_el h).1)).trans rfl), (x_by_el h).2⟩
theorem de_ldc {cc : ByteArray} {pc : Nat} {r : List Nat} {a : Nat} (h : x_by cc pc (18 :: a :: r)) : decode cc pc = .ok (.ldc a, 2) ∧ x_by cc (pc + 2) r := ⟨de_fin ((de_bind (de_0 (x_by_el h).1)).trans ((de_bind (de_0 (x_by_el (x_by_el h).2).1)).trans rfl)), (x_by_el (x_by_el h).2).2⟩
theorem de_ldc2_w {cc : ByteArray} {pc : Nat} {r : List Nat} {a b : Nat} (n : Nat) (hn : a * 256 + b = n) (h : x_by cc pc (20 :: a :: b :: r)) : decode cc pc = .ok (.ldc2_w n, 3) ∧ x_by cc (pc + 3) r := ⟨de_fin ((de_bind (de_0 (x_by_el h).1)).trans ((de_bind (de_u2 (x_by_el (x_by_el h).2).1 (x_by_el (x_by_el (x_by_el h).2).2).1 hn)).trans rfl)), (x_by_el (x_by_el (x_by_el h).2).2).2⟩
theorem de_ldc_w {cc : ByteArray} {pc : Nat} {r : List Nat} {a b : Nat} (n : Nat) (hn : a * 256 + b = n) (h : x_by cc pc (19 :: a :: b :: r)) : decode cc pc = .ok (.ldc_w n, 3) ∧ x_by cc (pc + 3) r := ⟨de_fin ((de_bind (de_0 (x_by_el h).1)).trans ((de_bind (de_u2 (x_by_el (x_by_el h).2).1 (x_by_el (x_by_el (x_by_el h).2).2).1 hn)).trans rfl)), (x_by_el (x_by_el (x_by_el h).2).2).2⟩
theorem de_ldiv {cc : ByteArray} {pc : Nat} {r : List Nat} (h : x_by cc pc (109 :: r)) : decode cc pc = .ok (.ldiv, 1) ∧ x_by cc (pc + 1) r := ⟨de_fin ((de_bind (de_0 (x_by_el h).1)).trans rfl), (x_by_el h).2⟩
theorem de_lload {cc : ByteArray} {pc : Nat} {r : List Nat} {a : Nat} (h : x_by cc pc (22 :: a :: r)) : decode cc pc = .ok (.lload a, 2) ∧ x_by cc (pc + 2) r := ⟨de_fin ((de_bind (de_0 (x_by_el h).1)).trans ((de_bind (de_0 (x_by_el (x_by_el h).2).1)).trans rfl)), (x_by_el (x_by_el h).2).2⟩
theorem de_lload_n0 {cc : ByteArray} {pc : Nat} {r : List Nat} (h : x_by cc pc (30 :: r)) : decode cc pc = .ok (.lload_n 0, 1) ∧ x_by cc (pc + 1) r := ⟨de_fin ((de_bind (de_0 (x_by_el h).1)).trans rfl), (x_by_el h).2⟩
theorem de_lload_n1 {cc : ByteArray} {pc : Nat} {r : List Nat} (h : x_by cc pc (31 :: r)) : decode cc pc = .ok (.lload_n 1, 1) ∧ x_by cc (pc + 1) r := ⟨de_fin ((de_bind (de_0 (x_by_el h).1)).trans rfl), (x_by_el h).2⟩
theorem de_lload_n2 {cc : ByteArray} {pc : Nat} {r : List Nat} (h : x_by cc pc (32 :: r)) : decode cc pc = .ok (.lload_n 2, 1) ∧ x_by cc (pc + 1) r := ⟨de_fin ((de_bind (de_0 (x_by_el h).1)).trans rfl), (x_by_el h).2⟩
theorem de_lload_n3 {cc : ByteArray} {pc : Nat} {r : List Nat} (h : x_by cc pc (33 :: r)) : decode cc pc = .ok (.lload_n 3, 1) ∧ x_by cc (pc + 1) r := ⟨de_fin ((de_bind (de_0 (x_by_el h).1)).trans rfl), (x_by_el h).2⟩
theorem de_lmul {cc : ByteArray} {pc : Nat} {r : List Nat} (h : x_by cc pc (105 :: r)) : decode cc pc = .ok (.lmul, 1) ∧ x_by cc (pc + 1) r := ⟨de_fin ((de_bind (de_0 (x_by_el h).1)).trans rfl), (x_by_el h).2⟩
theorem de_lrem {cc : ByteArray} {pc : Nat} {r : List Nat} (h : x_by cc pc (113 :: r)) : decode cc pc = .ok (.lrem, 1) ∧ x_by cc (pc + 1) r := ⟨de_fin ((de_bind (de_0 (x_by_el h).1)).trans rfl), (x_by_el h).2⟩
theorem de_lreturn {cc : ByteArray} {pc : Nat} {r : List Nat} (h : x_by cc pc (173 :: r)) : decode cc pc = .ok (.lreturn, 1) ∧ x_by cc (pc + 1) r := ⟨de_fin ((de_bind (de_0 (x_by_el h).1)).trans rfl), (x_by_el h).2⟩
theorem de_lstore {cc : ByteArray} {pc : Nat} {r : List Nat} {a : Nat} (h : x_by cc pc (55 :: a :: r)) : decode cc pc = .ok (.lstore a, 2) ∧ x_by cc (pc + 2) r := ⟨de_fin ((de_bind (de_0 (x_by_el h).1)).trans ((de_bind (de_0 (x_by_el (x_by_el h).2).1)).trans rfl)), (x_by_el (x_by_el h).2).2⟩
theorem de_lstore_n2 {cc : ByteArray} {pc : Nat} {r : List Nat} (h : x_by cc pc (65 :: r)) : decode cc pc = .ok (.lstore_n 2, 1) ∧ x_by cc (pc + 1) r := ⟨de_fin ((de_bind (de_0 (x_by_el h).1)).trans rfl), (x_by_el h).2⟩
theorem de_lstore_n3 {cc : ByteArray} {pc : Nat} {r : List Nat} (h : x_by cc pc (66 :: r)) : decode cc pc = .ok (.lstore_n 3, 1) ∧ x_by cc (pc + 1) r := ⟨de_fin ((de_bind (de_0 (x_by_el h).1)).trans rfl), (x_by_el h).2⟩
theorem de_lsub {cc : ByteArray} {pc : Nat} {r : List Nat} (h : x_by cc pc (101 :: r)) : decode cc pc = .ok (.lsub, 1) ∧ x_by cc (pc + 1) r := ⟨de_fin ((de_bind (de_0 (x_by_el h).1)).trans rfl), (x_by_el h).2⟩
theorem de_new {cc : ByteArray} {pc : Nat} {r : List Nat} {a b : Nat} (n : Nat) (hn : a * 256 + b = n) (h : x_by cc pc (187 :: a :: b :: r)) : decode cc pc = .ok (.new n, 3) ∧ x_by cc (pc + 3) r := ⟨de_fin ((de_bind (de_0 (x_by_el h).1)).trans ((de_bind (de_u2 (x_by_el (x_by_el h).2).1 (x_by_el (x_by_el (x_by_el h).2).2).1 hn)).trans rfl)), (x_by_el (x_by_el (x_by_el h).2).2).2⟩
theorem de_newarray_boolean {cc : ByteArray} {pc : Nat} {r : List Nat} (h : x_by cc pc (188 :: 4 :: r)) : decode cc pc = .ok (.newarray .boolean, 2) ∧ x_by cc (pc + 2) r := ⟨de_fin ((de_bind (de_0 (x_by_el h).1)).trans ((de_bind (de_0 (x_by_el (x_by_el h).2).1)).trans rfl)), (x_by_el (x_by_el h).2).2⟩
theorem de_newarray_char {cc : ByteArray} {pc : Nat} {r : List Nat} (h : x_by cc pc (188 :: 5 :: r)) : decode cc pc = .ok (.newarray .char, 2) ∧ x_by cc (pc + 2) r := ⟨de_fin ((de_bind (de_0 (x_by_el h).1)).trans ((de_bind (de_0 (x_by_el (x_by_el h).2).1)).trans rfl)), (x_by_el (x_by_el h).2).2⟩
theorem de_newarray_int {cc : ByteArray} {pc : Nat} {r : List Nat} (h : x_by cc pc (188 :: 10 :: r)) : decode cc pc = .ok (.newarray .int, 2) ∧ x_by cc (pc + 2) r := ⟨de_fin ((de_bind (de_0 (x_by_el h).1)).trans ((de_bind (de_0 (x_by_el (x_by_el h).2).1)).trans rfl)), (x_by_el (x_by_el h).2).2⟩
theorem de_newarray_long {cc : ByteArray} {pc : Nat} {r : List Nat} (h : x_by cc pc (188 :: 11 :: r)) : decode cc pc = .ok (.newarray .long, 2) ∧ x_by cc (pc + 2) r := ⟨de_fin ((de_bind (de_0 (x_by_el h).1)).trans ((de_bind (de_0 (x_by_el (x_by_el h).2).1)).trans rfl)), (x_by_el (x_by_el h).2).2⟩
theorem de_pop {cc : ByteArray} {pc : Nat} {r : List Nat} (h : x_by cc pc (87 :: r)) : decode cc pc = .ok (.pop, 1) ∧ x_by cc (pc + 1) r := ⟨de_fin ((de_bind (de_0 (x_by_el h).1)).trans rfl), (x_by_el h).2⟩
theorem de_putfield {cc : ByteArray} {pc : Nat} {r : List Nat} {a b : Nat} (n : Nat) (hn : a * 256 + b = n) (h : x_by cc pc (181 :: a :: b :: r)) : decode cc pc = .ok (.putfield n, 3) ∧ x_by cc (pc + 3) r := ⟨de_fin ((de_bind (de_0 (x_by_el h).1)).trans ((de_bind (de_u2 (x_by_el (x_by_el h).2).1 (x_by_el (x_by_el (x_by_el h).2).2).1 hn)).trans rfl)), (x_by_el (x_by_el (x_by_el h).2).2).2⟩
theorem de_return {cc : ByteArray} {pc : Nat} {r : List Nat} (h : x_by cc pc (177 :: r)) : decode cc pc = .ok (.return_, 1) ∧ x_by cc (pc + 1) r := ⟨de_fin ((de_bind (de_0 (x_by_el h).1)).trans rfl), (x_by_el h).2⟩
theorem de_sipush {cc : ByteArray} {pc : Nat} {r : List Nat} {a b : Nat} (n : Int) (hn : Reader.signed 16 (a * 256 + b) = n) (h : x_by cc pc (17 :: a :: b :: r)) : decode cc pc = .ok (.sipush n, 3) ∧ x_by cc (pc + 3) r := ⟨de_fin ((de_bind (de_0 (x_by_el h).1)).trans ((de_bind (de_s2 (x_by_el (x_by_el h).2).1 (x_by_el (x_by_el (x_by_el h).2).2).1 hn)).trans rfl)), (x_by_el (x_by_el (x_by_el h).2).2).2⟩

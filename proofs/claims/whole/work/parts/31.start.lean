/-! ===== the law's start ===== -/
def x_wordAt (own : String) (k : Nat) (tx : String) (byt : List Int32) (A : Nat → Prop) (s : State) : Prop := ∃ a t : Nat, vk_R own k tx a s ∧ va_O "java/lang/String" a A s s.heap ∧ va_OF "java/lang/String" "coder" "B" (.int 0) a A s s.heap ∧
  va_OF "java/lang/String" "value" "[B" (.ref t) a A s s.heap ∧ va_T .byte t byt.length (fun j => .int (byt.getD j 0)) A s s.heap
theorem x_strAt {s : State} {args : Array Value} {own tx : String} {k : Nat} (h : (Cond.stringRef own k tx).before args s = true) : ∃ a, vk_R own k tx a s := by
  have hcur : ∃ cur, s.vm.findClass own = some cur := by
    have h1 := h
    simp only [Cond.before, Cond.holds, Cond.value] at h1
    cases hc : s.vm.findClass own with
    | none => simp [hc] at h1
    | some cur => exact ⟨cur, rfl⟩
  obtain ⟨cur, hcur⟩ := hcur
  obtain ⟨-, -, -, a, -, -, -, -, -, h2⟩ := Cond.stringRef_spec hcur h
  exact ⟨a, vk_R.of h h2⟩
theorem x_wordOf {s : State} {args : Array Value} {own tx : String} {k N : Nat} {byt : List Int32} {A : Nat → Prop} (hN : N < 2 ^ 31) (hl : byt.length = N) (hex : (Cond.exactly (Term.string own k) "java/lang/String").before args s = true) (hco : (Cond.eq (.field (Term.string own k) "java/lang/String" "coder" "B") (.int 0)).before args s = true)
    (har : (Cond.arrayOf (.field (Term.string own k) "java/lang/String" "value" "[B") .byte).before args s = true) (hle : (Cond.eq (.length (.field (Term.string own k) "java/lang/String" "value" "[B")) (.int (Int32.ofNat N))).before args s = true)
    (hel : ∀ j : Nat, j < N → (Term.elem (.field (Term.string own k) "java/lang/String" "value" "[B") (.int (Int32.ofNat j))).eval args s none [] s = some (.int (byt.getD j 0))) (hsr : (Cond.stringRef own k tx).before args s = true) (hA : ∀ a : Nat, a < s.heap.size → ¬ A a) : x_wordAt own k tx byt A s := by
  subst hl
  obtain ⟨a, c, cA, kA, q1, q2, q3, q4, q5, q6, -⟩ := Cond.exactly_spec (args := args) (first := s) (o := none) (s := s) (idx := []) (cls := "java/lang/String") hex
  obtain ⟨t, ht, hT⟩ := va_Tof (f := fun j => .int (byt.getD j 0)) (A := A) hN har (va_eqt hle) hel hA
  exact ⟨a, t, vk_R.of hsr q1, ⟨cA, q3, q5, by rw [q6]; exact q2, hA a (Array.getElem?_eq_some_iff.mp q3).1⟩, vk_OFof q1 (va_eqt hco) hA, vk_OFof q1 ht hA, hT⟩
theorem x_arP {s : State} {args : Array Value} {ty : FieldType} (h : (Cond.arrayClass ty).before args s = true) : ∃ cA, ArrOfT s cA ty ∧ s.vm.findClass ("[" ++ ty.toString) = some cA := by
  obtain ⟨c, k, comp, h1, h2, h3⟩ := Cond.arrayClass_spec h
  exact ⟨c, fun n z => ⟨fun k h => (by cases h), k, h2, comp, h3⟩, h1⟩
theorem x_arA {s : State} {args : Array Value} {t : FieldType} (h : (Cond.arrayOver (.array t)).before args s = true) : ∃ cA, ArrOfT s cA (.array t) ∧ s.vm.findClass ("[" ++ (FieldType.array t).toString) = some cA := by
  obtain ⟨comp, c, k, h1, h2, h3, h4⟩ := Cond.arrayOver_specA h
  exact ⟨c, fun n z => ⟨fun k h => (by cases h), k, h2, comp, h3⟩, h4⟩
theorem x_arO {s : State} {args : Array Value} {C : String} (h : (Cond.arrayOver (.object C)).before args s = true) : ∃ cA, ArrOfT s cA (.object C) ∧ va_RA s cA (.object C) := by
  obtain ⟨comp, c, k, h1, -, h2, h3, h4⟩ := Cond.arrayOver_spec h
  exact ⟨c, fun n z => ⟨fun k h => (by cases h), k, h2, comp, h3⟩, k, comp, h2, h3, h1, h4⟩
def x_ns : List Cond := [Cond.isRef (Term.static "java/lang/Throwable" "UNASSIGNED_STACK" "[Ljava/lang/StackTraceElement;"),
  Cond.isRef (Term.static "java/lang/Throwable" "SUPPRESSED_SENTINEL" "Ljava/util/List;"),
  Cond.eq (Term.static "java/lang/String" "COMPACT_STRINGS" "Z") (Term.int 1),
  Cond.isRef (Term.static "jdk/internal/util/Preconditions" "SIOOBE_FORMATTER" "Ljava/util/function/BiFunction;"),
  Cond.not (Cond.castable "java/lang/IllegalArgumentException" "java/lang/IllegalStateException"),
  Cond.not (Cond.castable "java/lang/IndexOutOfBoundsException" "java/lang/IllegalStateException"),
  Cond.not (Cond.castable "java/util/NoSuchElementException" "java/lang/IllegalStateException"),
  Cond.not (Cond.castable "java/lang/IllegalStateException" "java/lang/IllegalArgumentException"),
  Cond.not (Cond.castable "java/lang/IndexOutOfBoundsException" "java/lang/IllegalArgumentException"),
  Cond.not (Cond.castable "java/util/NoSuchElementException" "java/lang/IllegalArgumentException"),
  Cond.not (Cond.castable "java/lang/IllegalStateException" "java/lang/IndexOutOfBoundsException"),
  Cond.not (Cond.castable "java/lang/IllegalArgumentException" "java/lang/IndexOutOfBoundsException"),
  Cond.not (Cond.castable "java/util/NoSuchElementException" "java/lang/IndexOutOfBoundsException"),
  Cond.not (Cond.castable "java/lang/IllegalStateException" "java/util/NoSuchElementException"),
  Cond.not (Cond.castable "java/lang/IllegalArgumentException" "java/util/NoSuchElementException"),
  Cond.not (Cond.castable "java/lang/IndexOutOfBoundsException" "java/util/NoSuchElementException"),
  Cond.exactly (Term.string "GridEngine$TrackText" 95) "java/lang/String",
  Cond.eq (Term.field (Term.string "GridEngine$TrackText" 95) "java/lang/String" "coder" "B") (Term.int 0),
  Cond.arrayOf (Term.field (Term.string "GridEngine$TrackText" 95) "java/lang/String" "value" "[B") FieldType.byte,
  Cond.eq (Term.length (Term.field (Term.string "GridEngine$TrackText" 95) "java/lang/String" "value" "[B")) (Term.int 6),
  Cond.eq (Term.elem (Term.field (Term.string "GridEngine$TrackText" 95) "java/lang/String" "value" "[B") (Term.int 0)) (Term.int 114),
  Cond.eq (Term.elem (Term.field (Term.string "GridEngine$TrackText" 95) "java/lang/String" "value" "[B") (Term.int 1)) (Term.int 101),
  Cond.eq (Term.elem (Term.field (Term.string "GridEngine$TrackText" 95) "java/lang/String" "value" "[B") (Term.int 2)) (Term.int 112),
  Cond.eq (Term.elem (Term.field (Term.string "GridEngine$TrackText" 95) "java/lang/String" "value" "[B") (Term.int 3)) (Term.int 101),
  Cond.eq (Term.elem (Term.field (Term.string "GridEngine$TrackText" 95) "java/lang/String" "value" "[B") (Term.int 4)) (Term.int 97),
  Cond.eq (Term.elem (Term.field (Term.string "GridEngine$TrackText" 95) "java/lang/String" "value" "[B") (Term.int 5)) (Term.int 116),
  Cond.exactly (Term.string "GridEngine$TrackText" 97) "java/lang/String",
  Cond.eq (Term.field (Term.string "GridEngine$TrackText" 97) "java/lang/String" "coder" "B") (Term.int 0),
  Cond.arrayOf (Term.field (Term.string "GridEngine$TrackText" 97) "java/lang/String" "value" "[B") FieldType.byte,
  Cond.eq (Term.length (Term.field (Term.string "GridEngine$TrackText" 97) "java/lang/String" "value" "[B")) (Term.int 1),
  Cond.eq (Term.elem (Term.field (Term.string "GridEngine$TrackText" 97) "java/lang/String" "value" "[B") (Term.int 0)) (Term.int 40),
  Cond.exactly (Term.string "GridEngine$TrackText" 102) "java/lang/String",
  Cond.eq (Term.field (Term.string "GridEngine$TrackText" 102) "java/lang/String" "coder" "B") (Term.int 0),
  Cond.arrayOf (Term.field (Term.string "GridEngine$TrackText" 102) "java/lang/String" "value" "[B") FieldType.byte,
  Cond.eq (Term.length (Term.field (Term.string "GridEngine$TrackText" 102) "java/lang/String" "value" "[B")) (Term.int 1),
  Cond.eq (Term.elem (Term.field (Term.string "GridEngine$TrackText" 102) "java/lang/String" "value" "[B") (Term.int 0)) (Term.int 44),
  Cond.exactly (Term.string "GridEngine$TrackText" 147) "java/lang/String",
  Cond.eq (Term.field (Term.string "GridEngine$TrackText" 147) "java/lang/String" "coder" "B") (Term.int 0),
  Cond.arrayOf (Term.field (Term.string "GridEngine$TrackText" 147) "java/lang/String" "value" "[B") FieldType.byte,
  Cond.eq (Term.length (Term.field (Term.string "GridEngine$TrackText" 147) "java/lang/String" "value" "[B")) (Term.int 2),
  Cond.eq (Term.elem (Term.field (Term.string "GridEngine$TrackText" 147) "java/lang/String" "value" "[B") (Term.int 0)) (Term.int 102),
  Cond.eq (Term.elem (Term.field (Term.string "GridEngine$TrackText" 147) "java/lang/String" "value" "[B") (Term.int 1)) (Term.int 114),
  Cond.exactly (Term.string "GridEngine$TrackText" 132) "java/lang/String",
  Cond.eq (Term.field (Term.string "GridEngine$TrackText" 132) "java/lang/String" "coder" "B") (Term.int 0),
  Cond.arrayOf (Term.field (Term.string "GridEngine$TrackText" 132) "java/lang/String" "value" "[B") FieldType.byte,
  Cond.eq (Term.length (Term.field (Term.string "GridEngine$TrackText" 132) "java/lang/String" "value" "[B")) (Term.int 4),
  Cond.eq (Term.elem (Term.field (Term.string "GridEngine$TrackText" 132) "java/lang/String" "value" "[B") (Term.int 0)) (Term.int 97),
  Cond.eq (Term.elem (Term.field (Term.string "GridEngine$TrackText" 132) "java/lang/String" "value" "[B") (Term.int 1)) (Term.int 117),
  Cond.eq (Term.elem (Term.field (Term.string "GridEngine$TrackText" 132) "java/lang/String" "value" "[B") (Term.int 2)) (Term.int 116),
  Cond.eq (Term.elem (Term.field (Term.string "GridEngine$TrackText" 132) "java/lang/String" "value" "[B") (Term.int 3)) (Term.int 111),
  Cond.exactly (Term.string "GridEngine$TrackText" 140) "java/lang/String",
  Cond.eq (Term.field (Term.string "GridEngine$TrackText" 140) "java/lang/String" "coder" "B") (Term.int 0),
  Cond.arrayOf (Term.field (Term.string "GridEngine$TrackText" 140) "java/lang/String" "value" "[B") FieldType.byte,
  Cond.eq (Term.length (Term.field (Term.string "GridEngine$TrackText" 140) "java/lang/String" "value" "[B")) (Term.int 4),
  Cond.eq (Term.elem (Term.field (Term.string "GridEngine$TrackText" 140) "java/lang/String" "value" "[B") (Term.int 0)) (Term.int 102),
  Cond.eq (Term.elem (Term.field (Term.string "GridEngine$TrackText" 140) "java/lang/String" "value" "[B") (Term.int 1)) (Term.int 105),
  Cond.eq (Term.elem (Term.field (Term.string "GridEngine$TrackText" 140) "java/lang/String" "value" "[B") (Term.int 2)) (Term.int 116),
  Cond.eq (Term.elem (Term.field (Term.string "GridEngine$TrackText" 140) "java/lang/String" "value" "[B") (Term.int 3)) (Term.int 40),
  Cond.exactly (Term.string "GridEngine$TrackText" 142) "java/lang/String",
  Cond.eq (Term.field (Term.string "GridEngine$TrackText" 142) "java/lang/String" "coder" "B") (Term.int 0),
  Cond.arrayOf (Term.field (Term.string "GridEngine$TrackText" 142) "java/lang/String" "value" "[B") FieldType.byte,
  Cond.eq (Term.length (Term.field (Term.string "GridEngine$TrackText" 142) "java/lang/String" "value" "[B")) (Term.int 1),
  Cond.eq (Term.elem (Term.field (Term.string "GridEngine$TrackText" 142) "java/lang/String" "value" "[B") (Term.int 0)) (Term.int 41),
  Cond.exactly (Term.string "GridEngine$TrackText" 160) "java/lang/String",
  Cond.eq (Term.field (Term.string "GridEngine$TrackText" 160) "java/lang/String" "coder" "B") (Term.int 0),
  Cond.arrayOf (Term.field (Term.string "GridEngine$TrackText" 160) "java/lang/String" "value" "[B") FieldType.byte,
  Cond.eq (Term.length (Term.field (Term.string "GridEngine$TrackText" 160) "java/lang/String" "value" "[B")) (Term.int 1),
  Cond.eq (Term.elem (Term.field (Term.string "GridEngine$TrackText" 160) "java/lang/String" "value" "[B") (Term.int 0)) (Term.int 109),
  Cond.exactly (Term.string "GridEngine$TrackText" 162) "java/lang/String",
  Cond.eq (Term.field (Term.string "GridEngine$TrackText" 162) "java/lang/String" "coder" "B") (Term.int 0),
  Cond.arrayOf (Term.field (Term.string "GridEngine$TrackText" 162) "java/lang/String" "value" "[B") FieldType.byte,
  Cond.eq (Term.length (Term.field (Term.string "GridEngine$TrackText" 162) "java/lang/String" "value" "[B")) (Term.int 2),
  Cond.eq (Term.elem (Term.field (Term.string "GridEngine$TrackText" 162) "java/lang/String" "value" "[B") (Term.int 0)) (Term.int 105),
  Cond.eq (Term.elem (Term.field (Term.string "GridEngine$TrackText" 162) "java/lang/String" "value" "[B") (Term.int 1)) (Term.int 110),
  Cond.exactly (Term.string "GridEngine$TrackText" 164) "java/lang/String",
  Cond.eq (Term.field (Term.string "GridEngine$TrackText" 164) "java/lang/String" "coder" "B") (Term.int 0),
  Cond.arrayOf (Term.field (Term.string "GridEngine$TrackText" 164) "java/lang/String" "value" "[B") FieldType.byte,
  Cond.eq (Term.length (Term.field (Term.string "GridEngine$TrackText" 164) "java/lang/String" "value" "[B")) (Term.int 2),
  Cond.eq (Term.elem (Term.field (Term.string "GridEngine$TrackText" 164) "java/lang/String" "value" "[B") (Term.int 0)) (Term.int 97),
  Cond.eq (Term.elem (Term.field (Term.string "GridEngine$TrackText" 164) "java/lang/String" "value" "[B") (Term.int 1)) (Term.int 120),
  Cond.exactly (Term.string "GridEngine$TrackText" 152) "java/lang/String",
  Cond.eq (Term.field (Term.string "GridEngine$TrackText" 152) "java/lang/String" "coder" "B") (Term.int 0),
  Cond.arrayOf (Term.field (Term.string "GridEngine$TrackText" 152) "java/lang/String" "value" "[B") FieldType.byte,
  Cond.eq (Term.length (Term.field (Term.string "GridEngine$TrackText" 152) "java/lang/String" "value" "[B")) (Term.int 4),
  Cond.eq (Term.elem (Term.field (Term.string "GridEngine$TrackText" 152) "java/lang/String" "value" "[B") (Term.int 0)) (Term.int 109),
  Cond.eq (Term.elem (Term.field (Term.string "GridEngine$TrackText" 152) "java/lang/String" "value" "[B") (Term.int 1)) (Term.int 97),
  Cond.eq (Term.elem (Term.field (Term.string "GridEngine$TrackText" 152) "java/lang/String" "value" "[B") (Term.int 2)) (Term.int 120),
  Cond.eq (Term.elem (Term.field (Term.string "GridEngine$TrackText" 152) "java/lang/String" "value" "[B") (Term.int 3)) (Term.int 40),
  Cond.exactly (Term.string "GridEngine$TrackText" 77) "java/lang/String",
  Cond.eq (Term.field (Term.string "GridEngine$TrackText" 77) "java/lang/String" "coder" "B") (Term.int 0),
  Cond.arrayOf (Term.field (Term.string "GridEngine$TrackText" 77) "java/lang/String" "value" "[B") FieldType.byte,
  Cond.eq (Term.length (Term.field (Term.string "GridEngine$TrackText" 77) "java/lang/String" "value" "[B")) (Term.int 1),
  Cond.eq (Term.elem (Term.field (Term.string "GridEngine$TrackText" 77) "java/lang/String" "value" "[B") (Term.int 0)) (Term.int 32),
  Cond.exactly (Term.string "GridEngineModel" 205) "java/lang/String",
  Cond.eq (Term.field (Term.string "GridEngineModel" 205) "java/lang/String" "coder" "B") (Term.int 0),
  Cond.arrayOf (Term.field (Term.string "GridEngineModel" 205) "java/lang/String" "value" "[B") FieldType.byte,
  Cond.eq (Term.length (Term.field (Term.string "GridEngineModel" 205) "java/lang/String" "value" "[B")) (Term.int 6),
  Cond.eq (Term.elem (Term.field (Term.string "GridEngineModel" 205) "java/lang/String" "value" "[B") (Term.int 0)) (Term.int 114),
  Cond.eq (Term.elem (Term.field (Term.string "GridEngineModel" 205) "java/lang/String" "value" "[B") (Term.int 1)) (Term.int 101),
  Cond.eq (Term.elem (Term.field (Term.string "GridEngineModel" 205) "java/lang/String" "value" "[B") (Term.int 2)) (Term.int 112),
  Cond.eq (Term.elem (Term.field (Term.string "GridEngineModel" 205) "java/lang/String" "value" "[B") (Term.int 3)) (Term.int 101),
  Cond.eq (Term.elem (Term.field (Term.string "GridEngineModel" 205) "java/lang/String" "value" "[B") (Term.int 4)) (Term.int 97),
  Cond.eq (Term.elem (Term.field (Term.string "GridEngineModel" 205) "java/lang/String" "value" "[B") (Term.int 5)) (Term.int 116),
  Cond.exactly (Term.string "GridEngineModel" 169) "java/lang/String",
  Cond.eq (Term.field (Term.string "GridEngineModel" 169) "java/lang/String" "coder" "B") (Term.int 0),
  Cond.arrayOf (Term.field (Term.string "GridEngineModel" 169) "java/lang/String" "value" "[B") FieldType.byte,
  Cond.eq (Term.length (Term.field (Term.string "GridEngineModel" 169) "java/lang/String" "value" "[B")) (Term.int 2),
  Cond.eq (Term.elem (Term.field (Term.string "GridEngineModel" 169) "java/lang/String" "value" "[B") (Term.int 0)) (Term.int 102),
  Cond.eq (Term.elem (Term.field (Term.string "GridEngineModel" 169) "java/lang/String" "value" "[B") (Term.int 1)) (Term.int 114),
  Cond.exactly (Term.string "GridEngineModel" 185) "java/lang/String",
  Cond.eq (Term.field (Term.string "GridEngineModel" 185) "java/lang/String" "coder" "B") (Term.int 0),
  Cond.arrayOf (Term.field (Term.string "GridEngineModel" 185) "java/lang/String" "value" "[B") FieldType.byte,
  Cond.eq (Term.length (Term.field (Term.string "GridEngineModel" 185) "java/lang/String" "value" "[B")) (Term.int 4),
  Cond.eq (Term.elem (Term.field (Term.string "GridEngineModel" 185) "java/lang/String" "value" "[B") (Term.int 0)) (Term.int 97),
  Cond.eq (Term.elem (Term.field (Term.string "GridEngineModel" 185) "java/lang/String" "value" "[B") (Term.int 1)) (Term.int 117),
  Cond.eq (Term.elem (Term.field (Term.string "GridEngineModel" 185) "java/lang/String" "value" "[B") (Term.int 2)) (Term.int 116),
  Cond.eq (Term.elem (Term.field (Term.string "GridEngineModel" 185) "java/lang/String" "value" "[B") (Term.int 3)) (Term.int 111),
  Cond.exactly (Term.string "GridEngineModel" 195) "java/lang/String",
  Cond.eq (Term.field (Term.string "GridEngineModel" 195) "java/lang/String" "coder" "B") (Term.int 0),
  Cond.arrayOf (Term.field (Term.string "GridEngineModel" 195) "java/lang/String" "value" "[B") FieldType.byte,
  Cond.eq (Term.length (Term.field (Term.string "GridEngineModel" 195) "java/lang/String" "value" "[B")) (Term.int 4),
  Cond.eq (Term.elem (Term.field (Term.string "GridEngineModel" 195) "java/lang/String" "value" "[B") (Term.int 0)) (Term.int 102),
  Cond.eq (Term.elem (Term.field (Term.string "GridEngineModel" 195) "java/lang/String" "value" "[B") (Term.int 1)) (Term.int 105),
  Cond.eq (Term.elem (Term.field (Term.string "GridEngineModel" 195) "java/lang/String" "value" "[B") (Term.int 2)) (Term.int 116),
  Cond.eq (Term.elem (Term.field (Term.string "GridEngineModel" 195) "java/lang/String" "value" "[B") (Term.int 3)) (Term.int 40),
  Cond.exactly (Term.string "GridEngineModel" 187) "java/lang/String",
  Cond.eq (Term.field (Term.string "GridEngineModel" 187) "java/lang/String" "coder" "B") (Term.int 0),
  Cond.arrayOf (Term.field (Term.string "GridEngineModel" 187) "java/lang/String" "value" "[B") FieldType.byte,
  Cond.eq (Term.length (Term.field (Term.string "GridEngineModel" 187) "java/lang/String" "value" "[B")) (Term.int 2),
  Cond.eq (Term.elem (Term.field (Term.string "GridEngineModel" 187) "java/lang/String" "value" "[B") (Term.int 0)) (Term.int 97),
  Cond.eq (Term.elem (Term.field (Term.string "GridEngineModel" 187) "java/lang/String" "value" "[B") (Term.int 1)) (Term.int 120),
  Cond.exactly (Term.string "GridEngineModel" 189) "java/lang/String",
  Cond.eq (Term.field (Term.string "GridEngineModel" 189) "java/lang/String" "coder" "B") (Term.int 0),
  Cond.arrayOf (Term.field (Term.string "GridEngineModel" 189) "java/lang/String" "value" "[B") FieldType.byte,
  Cond.eq (Term.length (Term.field (Term.string "GridEngineModel" 189) "java/lang/String" "value" "[B")) (Term.int 2),
  Cond.eq (Term.elem (Term.field (Term.string "GridEngineModel" 189) "java/lang/String" "value" "[B") (Term.int 0)) (Term.int 105),
  Cond.eq (Term.elem (Term.field (Term.string "GridEngineModel" 189) "java/lang/String" "value" "[B") (Term.int 1)) (Term.int 110),
  Cond.exactly (Term.string "GridEngineModel" 200) "java/lang/String",
  Cond.eq (Term.field (Term.string "GridEngineModel" 200) "java/lang/String" "coder" "B") (Term.int 0),
  Cond.arrayOf (Term.field (Term.string "GridEngineModel" 200) "java/lang/String" "value" "[B") FieldType.byte,
  Cond.eq (Term.length (Term.field (Term.string "GridEngineModel" 200) "java/lang/String" "value" "[B")) (Term.int 4),
  Cond.eq (Term.elem (Term.field (Term.string "GridEngineModel" 200) "java/lang/String" "value" "[B") (Term.int 0)) (Term.int 109),
  Cond.eq (Term.elem (Term.field (Term.string "GridEngineModel" 200) "java/lang/String" "value" "[B") (Term.int 1)) (Term.int 97),
  Cond.eq (Term.elem (Term.field (Term.string "GridEngineModel" 200) "java/lang/String" "value" "[B") (Term.int 2)) (Term.int 120),
  Cond.eq (Term.elem (Term.field (Term.string "GridEngineModel" 200) "java/lang/String" "value" "[B") (Term.int 3)) (Term.int 40)]
def x_ng : List Nat := [4, 0, 0, 0, 12, 0, 0, 9, 0, 0, 9, 0, 0, 9, 0, 0, 38, 0, 0, 0, 0, 0, 0, 0, 0, 0, 0, 0, 0, 0, 0, 0, 0, 0, 0, 0, 0, 0, 0, 0, 0, 0, 0, 0, 0, 0, 0, 0, 0, 0, 0, 0, 0, 0, 0, 0, 0, 0, 0, 0, 0, 0, 0, 0, 0, 0, 0, 0, 0, 0, 0, 0, 0, 0, 0, 0, 0, 0, 0, 0, 0, 0, 0, 0, 0, 0, 0, 0, 0, 0, 0, 0, 0, 378, 0, 0, 0, 0, 0, 0, 0, 0, 0, 1, 0, 0, 0, 0, 0, 1, 0, 0, 0, 0, 0, 0, 0, 1, 0, 0, 0, 0, 0, 0, 0, 1, 0, 0, 0, 0, 0, 1, 0, 0, 0, 0, 0, 1, 0, 0, 0, 0, 0, 0, 0]
set_option maxRecDepth 100000 in
theorem x_ns_ok : x_ns = x_pick (Jvm.Free.XT.flat (Jvm.Cond.and given_1 narrow_1)) x_ng := by rfl
theorem x_ns_in {b : Nat} {s : State} (hgv : (Jvm.Cond.and given_1 narrow_1).before #[Value.ref b] s = true) (i : Nat) {w : Cond} (h : x_ns[i]? = some w) : w.before #[Value.ref b] s = true := flat_of_before _ hgv w (x_pick_in x_ng _ w (x_ns_ok ▸ List.mem_of_getElem? h))
theorem x_word_0 {b : Nat} {s : State} {A : Nat → Prop} (hgv : (Jvm.Cond.and given_1 narrow_1).before #[Value.ref b] s = true) (hsr : (Cond.stringRef "GridEngine$TrackText" 77 " ").before #[Value.ref b] s = true) (hA : ∀ a : Nat, a < s.heap.size → ¬ A a) : x_wordAt "GridEngine$TrackText" 77 " " [32] A s :=
  x_wordOf (args := #[Value.ref b]) (N := 1) (by decide) rfl (x_ns_in hgv 88 rfl) (x_ns_in hgv 89 rfl) (x_ns_in hgv 90 rfl) (x_ns_in hgv 91 rfl) (fun j hj => match j, hj with
    | 0, _ => va_eqt (x_ns_in hgv 92 rfl)
    | n + 1, h => absurd h (by omega)) hsr hA
theorem x_word_1 {b : Nat} {s : State} {A : Nat → Prop} (hgv : (Jvm.Cond.and given_1 narrow_1).before #[Value.ref b] s = true) (hsr : (Cond.stringRef "GridEngine$TrackText" 95 "repeat").before #[Value.ref b] s = true) (hA : ∀ a : Nat, a < s.heap.size → ¬ A a) : x_wordAt "GridEngine$TrackText" 95 "repeat" [114, 101, 112, 101, 97, 116] A s :=
  x_wordOf (args := #[Value.ref b]) (N := 6) (by decide) rfl (x_ns_in hgv 16 rfl) (x_ns_in hgv 17 rfl) (x_ns_in hgv 18 rfl) (x_ns_in hgv 19 rfl) (fun j hj => match j, hj with
    | 0, _ => va_eqt (x_ns_in hgv 20 rfl)
    | 1, _ => va_eqt (x_ns_in hgv 21 rfl)
    | 2, _ => va_eqt (x_ns_in hgv 22 rfl)
    | 3, _ => va_eqt (x_ns_in hgv 23 rfl)
    | 4, _ => va_eqt (x_ns_in hgv 24 rfl)
    | 5, _ => va_eqt (x_ns_in hgv 25 rfl)
    | n + 6, h => absurd h (by omega)) hsr hA
theorem x_word_2 {b : Nat} {s : State} {A : Nat → Prop} (hgv : (Jvm.Cond.and given_1 narrow_1).before #[Value.ref b] s = true) (hsr : (Cond.stringRef "GridEngine$TrackText" 97 "(").before #[Value.ref b] s = true) (hA : ∀ a : Nat, a < s.heap.size → ¬ A a) : x_wordAt "GridEngine$TrackText" 97 "(" [40] A s :=
  x_wordOf (args := #[Value.ref b]) (N := 1) (by decide) rfl (x_ns_in hgv 26 rfl) (x_ns_in hgv 27 rfl) (x_ns_in hgv 28 rfl) (x_ns_in hgv 29 rfl) (fun j hj => match j, hj with
    | 0, _ => va_eqt (x_ns_in hgv 30 rfl)
    | n + 1, h => absurd h (by omega)) hsr hA
theorem x_word_3 {b : Nat} {s : State} {A : Nat → Prop} (hgv : (Jvm.Cond.and given_1 narrow_1).before #[Value.ref b] s = true) (hsr : (Cond.stringRef "GridEngine$TrackText" 102 ",").before #[Value.ref b] s = true) (hA : ∀ a : Nat, a < s.heap.size → ¬ A a) : x_wordAt "GridEngine$TrackText" 102 "," [44] A s :=
  x_wordOf (args := #[Value.ref b]) (N := 1) (by decide) rfl (x_ns_in hgv 31 rfl) (x_ns_in hgv 32 rfl) (x_ns_in hgv 33 rfl) (x_ns_in hgv 34 rfl) (fun j hj => match j, hj with
    | 0, _ => va_eqt (x_ns_in hgv 35 rfl)
    | n + 1, h => absurd h (by omega)) hsr hA
theorem x_word_4 {b : Nat} {s : State} {A : Nat → Prop} (hgv : (Jvm.Cond.and given_1 narrow_1).before #[Value.ref b] s = true) (hsr : (Cond.stringRef "GridEngine$TrackText" 132 "auto").before #[Value.ref b] s = true) (hA : ∀ a : Nat, a < s.heap.size → ¬ A a) : x_wordAt "GridEngine$TrackText" 132 "auto" [97, 117, 116, 111] A s :=
  x_wordOf (args := #[Value.ref b]) (N := 4) (by decide) rfl (x_ns_in hgv 42 rfl) (x_ns_in hgv 43 rfl) (x_ns_in hgv 44 rfl) (x_ns_in hgv 45 rfl) (fun j hj => match j, hj with
    | 0, _ => va_eqt (x_ns_in hgv 46 rfl)
    | 1, _ => va_eqt (x_ns_in hgv 47 rfl)
    | 2, _ => va_eqt (x_ns_in hgv 48 rfl)
    | 3, _ => va_eqt (x_ns_in hgv 49 rfl)
    | n + 4, h => absurd h (by omega)) hsr hA
theorem x_word_5 {b : Nat} {s : State} {A : Nat → Prop} (hgv : (Jvm.Cond.and given_1 narrow_1).before #[Value.ref b] s = true) (hsr : (Cond.stringRef "GridEngine$TrackText" 140 "fit(").before #[Value.ref b] s = true) (hA : ∀ a : Nat, a < s.heap.size → ¬ A a) : x_wordAt "GridEngine$TrackText" 140 "fit(" [102, 105, 116, 40] A s :=
  x_wordOf (args := #[Value.ref b]) (N := 4) (by decide) rfl (x_ns_in hgv 50 rfl) (x_ns_in hgv 51 rfl) (x_ns_in hgv 52 rfl) (x_ns_in hgv 53 rfl) (fun j hj => match j, hj with
    | 0, _ => va_eqt (x_ns_in hgv 54 rfl)
    | 1, _ => va_eqt (x_ns_in hgv 55 rfl)
    | 2, _ => va_eqt (x_ns_in hgv 56 rfl)
    | 3, _ => va_eqt (x_ns_in hgv 57 rfl)
    | n + 4, h => absurd h (by omega)) hsr hA
theorem x_word_6 {b : Nat} {s : State} {A : Nat → Prop} (hgv : (Jvm.Cond.and given_1 narrow_1).before #[Value.ref b] s = true) (hsr : (Cond.stringRef "GridEngine$TrackText" 142 ")").before #[Value.ref b] s = true) (hA : ∀ a : Nat, a < s.heap.size → ¬ A a) : x_wordAt "GridEngine$TrackText" 142 ")" [41] A s :=
  x_wordOf (args := #[Value.ref b]) (N := 1) (by decide) rfl (x_ns_in hgv 58 rfl) (x_ns_in hgv 59 rfl) (x_ns_in hgv 60 rfl) (x_ns_in hgv 61 rfl) (fun j hj => match j, hj with
    | 0, _ => va_eqt (x_ns_in hgv 62 rfl)
    | n + 1, h => absurd h (by omega)) hsr hA
theorem x_word_7 {b : Nat} {s : State} {A : Nat → Prop} (hgv : (Jvm.Cond.and given_1 narrow_1).before #[Value.ref b] s = true) (hsr : (Cond.stringRef "GridEngine$TrackText" 147 "fr").before #[Value.ref b] s = true) (hA : ∀ a : Nat, a < s.heap.size → ¬ A a) : x_wordAt "GridEngine$TrackText" 147 "fr" [102, 114] A s :=
  x_wordOf (args := #[Value.ref b]) (N := 2) (by decide) rfl (x_ns_in hgv 36 rfl) (x_ns_in hgv 37 rfl) (x_ns_in hgv 38 rfl) (x_ns_in hgv 39 rfl) (fun j hj => match j, hj with
    | 0, _ => va_eqt (x_ns_in hgv 40 rfl)
    | 1, _ => va_eqt (x_ns_in hgv 41 rfl)
    | n + 2, h => absurd h (by omega)) hsr hA
theorem x_word_8 {b : Nat} {s : State} {A : Nat → Prop} (hgv : (Jvm.Cond.and given_1 narrow_1).before #[Value.ref b] s = true) (hsr : (Cond.stringRef "GridEngine$TrackText" 152 "max(").before #[Value.ref b] s = true) (hA : ∀ a : Nat, a < s.heap.size → ¬ A a) : x_wordAt "GridEngine$TrackText" 152 "max(" [109, 97, 120, 40] A s :=
  x_wordOf (args := #[Value.ref b]) (N := 4) (by decide) rfl (x_ns_in hgv 80 rfl) (x_ns_in hgv 81 rfl) (x_ns_in hgv 82 rfl) (x_ns_in hgv 83 rfl) (fun j hj => match j, hj with
    | 0, _ => va_eqt (x_ns_in hgv 84 rfl)
    | 1, _ => va_eqt (x_ns_in hgv 85 rfl)
    | 2, _ => va_eqt (x_ns_in hgv 86 rfl)
    | 3, _ => va_eqt (x_ns_in hgv 87 rfl)
    | n + 4, h => absurd h (by omega)) hsr hA
theorem x_word_9 {b : Nat} {s : State} {A : Nat → Prop} (hgv : (Jvm.Cond.and given_1 narrow_1).before #[Value.ref b] s = true) (hsr : (Cond.stringRef "GridEngine$TrackText" 160 "m").before #[Value.ref b] s = true) (hA : ∀ a : Nat, a < s.heap.size → ¬ A a) : x_wordAt "GridEngine$TrackText" 160 "m" [109] A s :=
  x_wordOf (args := #[Value.ref b]) (N := 1) (by decide) rfl (x_ns_in hgv 63 rfl) (x_ns_in hgv 64 rfl) (x_ns_in hgv 65 rfl) (x_ns_in hgv 66 rfl) (fun j hj => match j, hj with
    | 0, _ => va_eqt (x_ns_in hgv 67 rfl)
    | n + 1, h => absurd h (by omega)) hsr hA
theorem x_word_10 {b : Nat} {s : State} {A : Nat → Prop} (hgv : (Jvm.Cond.and given_1 narrow_1).before #[Value.ref b] s = true) (hsr : (Cond.stringRef "GridEngine$TrackText" 162 "in").before #[Value.ref b] s = true) (hA : ∀ a : Nat, a < s.heap.size → ¬ A a) : x_wordAt "GridEngine$TrackText" 162 "in" [105, 110] A s :=
  x_wordOf (args := #[Value.ref b]) (N := 2) (by decide) rfl (x_ns_in hgv 68 rfl) (x_ns_in hgv 69 rfl) (x_ns_in hgv 70 rfl) (x_ns_in hgv 71 rfl) (fun j hj => match j, hj with
    | 0, _ => va_eqt (x_ns_in hgv 72 rfl)
    | 1, _ => va_eqt (x_ns_in hgv 73 rfl)
    | n + 2, h => absurd h (by omega)) hsr hA
theorem x_word_11 {b : Nat} {s : State} {A : Nat → Prop} (hgv : (Jvm.Cond.and given_1 narrow_1).before #[Value.ref b] s = true) (hsr : (Cond.stringRef "GridEngine$TrackText" 164 "ax").before #[Value.ref b] s = true) (hA : ∀ a : Nat, a < s.heap.size → ¬ A a) : x_wordAt "GridEngine$TrackText" 164 "ax" [97, 120] A s :=
  x_wordOf (args := #[Value.ref b]) (N := 2) (by decide) rfl (x_ns_in hgv 74 rfl) (x_ns_in hgv 75 rfl) (x_ns_in hgv 76 rfl) (x_ns_in hgv 77 rfl) (fun j hj => match j, hj with
    | 0, _ => va_eqt (x_ns_in hgv 78 rfl)
    | 1, _ => va_eqt (x_ns_in hgv 79 rfl)
    | n + 2, h => absurd h (by omega)) hsr hA
theorem x_word_12 {b : Nat} {s : State} {A : Nat → Prop} (hgv : (Jvm.Cond.and given_1 narrow_1).before #[Value.ref b] s = true) (hsr : (Cond.stringRef "GridEngineModel" 169 "fr").before #[Value.ref b] s = true) (hA : ∀ a : Nat, a < s.heap.size → ¬ A a) : x_wordAt "GridEngineModel" 169 "fr" [102, 114] A s :=
  x_wordOf (args := #[Value.ref b]) (N := 2) (by decide) rfl (x_ns_in hgv 103 rfl) (x_ns_in hgv 104 rfl) (x_ns_in hgv 105 rfl) (x_ns_in hgv 106 rfl) (fun j hj => match j, hj with
    | 0, _ => va_eqt (x_ns_in hgv 107 rfl)
    | 1, _ => va_eqt (x_ns_in hgv 108 rfl)
    | n + 2, h => absurd h (by omega)) hsr hA
theorem x_word_13 {b : Nat} {s : State} {A : Nat → Prop} (hgv : (Jvm.Cond.and given_1 narrow_1).before #[Value.ref b] s = true) (hsr : (Cond.stringRef "GridEngineModel" 185 "auto").before #[Value.ref b] s = true) (hA : ∀ a : Nat, a < s.heap.size → ¬ A a) : x_wordAt "GridEngineModel" 185 "auto" [97, 117, 116, 111] A s :=
  x_wordOf (args := #[Value.ref b]) (N := 4) (by decide) rfl (x_ns_in hgv 109 rfl) (x_ns_in hgv 110 rfl) (x_ns_in hgv 111 rfl) (x_ns_in hgv 112 rfl) (fun j hj => match j, hj with
    | 0, _ => va_eqt (x_ns_in hgv 113 rfl)
    | 1, _ => va_eqt (x_ns_in hgv 114 rfl)
    | 2, _ => va_eqt (x_ns_in hgv 115 rfl)
    | 3, _ => va_eqt (x_ns_in hgv 116 rfl)
    | n + 4, h => absurd h (by omega)) hsr hA
theorem x_word_14 {b : Nat} {s : State} {A : Nat → Prop} (hgv : (Jvm.Cond.and given_1 narrow_1).before #[Value.ref b] s = true) (hsr : (Cond.stringRef "GridEngineModel" 187 "ax").before #[Value.ref b] s = true) (hA : ∀ a : Nat, a < s.heap.size → ¬ A a) : x_wordAt "GridEngineModel" 187 "ax" [97, 120] A s :=
  x_wordOf (args := #[Value.ref b]) (N := 2) (by decide) rfl (x_ns_in hgv 125 rfl) (x_ns_in hgv 126 rfl) (x_ns_in hgv 127 rfl) (x_ns_in hgv 128 rfl) (fun j hj => match j, hj with
    | 0, _ => va_eqt (x_ns_in hgv 129 rfl)
    | 1, _ => va_eqt (x_ns_in hgv 130 rfl)
    | n + 2, h => absurd h (by omega)) hsr hA
theorem x_word_15 {b : Nat} {s : State} {A : Nat → Prop} (hgv : (Jvm.Cond.and given_1 narrow_1).before #[Value.ref b] s = true) (hsr : (Cond.stringRef "GridEngineModel" 189 "in").before #[Value.ref b] s = true) (hA : ∀ a : Nat, a < s.heap.size → ¬ A a) : x_wordAt "GridEngineModel" 189 "in" [105, 110] A s :=
  x_wordOf (args := #[Value.ref b]) (N := 2) (by decide) rfl (x_ns_in hgv 131 rfl) (x_ns_in hgv 132 rfl) (x_ns_in hgv 133 rfl) (x_ns_in hgv 134 rfl) (fun j hj => match j, hj with
    | 0, _ => va_eqt (x_ns_in hgv 135 rfl)
    | 1, _ => va_eqt (x_ns_in hgv 136 rfl)
    | n + 2, h => absurd h (by omega)) hsr hA
theorem x_word_16 {b : Nat} {s : State} {A : Nat → Prop} (hgv : (Jvm.Cond.and given_1 narrow_1).before #[Value.ref b] s = true) (hsr : (Cond.stringRef "GridEngineModel" 195 "fit(").before #[Value.ref b] s = true) (hA : ∀ a : Nat, a < s.heap.size → ¬ A a) : x_wordAt "GridEngineModel" 195 "fit(" [102, 105, 116, 40] A s :=
  x_wordOf (args := #[Value.ref b]) (N := 4) (by decide) rfl (x_ns_in hgv 117 rfl) (x_ns_in hgv 118 rfl) (x_ns_in hgv 119 rfl) (x_ns_in hgv 120 rfl) (fun j hj => match j, hj with
    | 0, _ => va_eqt (x_ns_in hgv 121 rfl)
    | 1, _ => va_eqt (x_ns_in hgv 122 rfl)
    | 2, _ => va_eqt (x_ns_in hgv 123 rfl)
    | 3, _ => va_eqt (x_ns_in hgv 124 rfl)
    | n + 4, h => absurd h (by omega)) hsr hA
theorem x_word_17 {b : Nat} {s : State} {A : Nat → Prop} (hgv : (Jvm.Cond.and given_1 narrow_1).before #[Value.ref b] s = true) (hsr : (Cond.stringRef "GridEngineModel" 200 "max(").before #[Value.ref b] s = true) (hA : ∀ a : Nat, a < s.heap.size → ¬ A a) : x_wordAt "GridEngineModel" 200 "max(" [109, 97, 120, 40] A s :=
  x_wordOf (args := #[Value.ref b]) (N := 4) (by decide) rfl (x_ns_in hgv 137 rfl) (x_ns_in hgv 138 rfl) (x_ns_in hgv 139 rfl) (x_ns_in hgv 140 rfl) (fun j hj => match j, hj with
    | 0, _ => va_eqt (x_ns_in hgv 141 rfl)
    | 1, _ => va_eqt (x_ns_in hgv 142 rfl)
    | 2, _ => va_eqt (x_ns_in hgv 143 rfl)
    | 3, _ => va_eqt (x_ns_in hgv 144 rfl)
    | n + 4, h => absurd h (by omega)) hsr hA
theorem x_word_18 {b : Nat} {s : State} {A : Nat → Prop} (hgv : (Jvm.Cond.and given_1 narrow_1).before #[Value.ref b] s = true) (hsr : (Cond.stringRef "GridEngineModel" 205 "repeat").before #[Value.ref b] s = true) (hA : ∀ a : Nat, a < s.heap.size → ¬ A a) : x_wordAt "GridEngineModel" 205 "repeat" [114, 101, 112, 101, 97, 116] A s :=
  x_wordOf (args := #[Value.ref b]) (N := 6) (by decide) rfl (x_ns_in hgv 93 rfl) (x_ns_in hgv 94 rfl) (x_ns_in hgv 95 rfl) (x_ns_in hgv 96 rfl) (fun j hj => match j, hj with
    | 0, _ => va_eqt (x_ns_in hgv 97 rfl)
    | 1, _ => va_eqt (x_ns_in hgv 98 rfl)
    | 2, _ => va_eqt (x_ns_in hgv 99 rfl)
    | 3, _ => va_eqt (x_ns_in hgv 100 rfl)
    | 4, _ => va_eqt (x_ns_in hgv 101 rfl)
    | 5, _ => va_eqt (x_ns_in hgv 102 rfl)
    | n + 6, h => absurd h (by omega)) hsr hA
theorem x_words {b : Nat} {s : State} {A : Nat → Prop} (hgv : (Jvm.Cond.and given_1 narrow_1).before #[Value.ref b] s = true) (hts : ∀ w ∈ lw_tbl, w.before #[Value.ref b] s = true) (hA : ∀ a : Nat, a < s.heap.size → ¬ A a) : ∀ (i : Nat) (q : String × Nat × String × List Int32), x_wd[i]? = some q → x_wordAt q.1 q.2.1 q.2.2.1 q.2.2.2 A s
  | 0, _, h => by cases h; exact x_word_0 hgv (hts _ (List.mem_of_getElem? (i := 712) (by decide +kernel))) hA
  | 1, _, h => by cases h; exact x_word_1 hgv (hts _ (List.mem_of_getElem? (i := 579) (by decide +kernel))) hA
  | 2, _, h => by cases h; exact x_word_2 hgv (hts _ (List.mem_of_getElem? (i := 632) (by decide +kernel))) hA
  | 3, _, h => by cases h; exact x_word_3 hgv (hts _ (List.mem_of_getElem? (i := 641) (by decide +kernel))) hA
  | 4, _, h => by cases h; exact x_word_4 hgv (hts _ (List.mem_of_getElem? (i := 666) (by decide +kernel))) hA
  | 5, _, h => by cases h; exact x_word_5 hgv (hts _ (List.mem_of_getElem? (i := 671) (by decide +kernel))) hA
  | 6, _, h => by cases h; exact x_word_6 hgv (hts _ (List.mem_of_getElem? (i := 672) (by decide +kernel))) hA
  | 7, _, h => by cases h; exact x_word_7 hgv (hts _ (List.mem_of_getElem? (i := 665) (by decide +kernel))) hA
  | 8, _, h => by cases h; exact x_word_8 hgv (hts _ (List.mem_of_getElem? (i := 684) (by decide +kernel))) hA
  | 9, _, h => by cases h; exact x_word_9 hgv (hts _ (List.mem_of_getElem? (i := 681) (by decide +kernel))) hA
  | 10, _, h => by cases h; exact x_word_10 hgv (hts _ (List.mem_of_getElem? (i := 682) (by decide +kernel))) hA
  | 11, _, h => by cases h; exact x_word_11 hgv (hts _ (List.mem_of_getElem? (i := 683) (by decide +kernel))) hA
  | 12, _, h => by cases h; exact x_word_12 hgv (hts _ (List.mem_of_getElem? (i := 1612) (by decide +kernel))) hA
  | 13, _, h => by cases h; exact x_word_13 hgv (hts _ (List.mem_of_getElem? (i := 1613) (by decide +kernel))) hA
  | 14, _, h => by cases h; exact x_word_14 hgv (hts _ (List.mem_of_getElem? (i := 1619) (by decide +kernel))) hA
  | 15, _, h => by cases h; exact x_word_15 hgv (hts _ (List.mem_of_getElem? (i := 1620) (by decide +kernel))) hA
  | 16, _, h => by cases h; exact x_word_16 hgv (hts _ (List.mem_of_getElem? (i := 1614) (by decide +kernel))) hA
  | 17, _, h => by cases h; exact x_word_17 hgv (hts _ (List.mem_of_getElem? (i := 1621) (by decide +kernel))) hA
  | 18, _, h => by cases h; exact x_word_18 hgv (hts _ (List.mem_of_getElem? (i := 1573) (by decide +kernel))) hA
  | n + 19, _, h => by cases h
theorem x_ncs_at {b : Nat} {s : State} (hgv : (Jvm.Cond.and given_1 narrow_1).before #[Value.ref b] s = true) : x_ncs s := by
  intro a ha b hb hne
  simp only [x_xs, List.mem_cons, List.not_mem_nil, or_false] at ha hb
  rcases ha with rfl | rfl | rfl | rfl <;> rcases hb with rfl | rfl | rfl | rfl <;> first | exact absurd rfl hne | exact va_Nc.of (x_ns_in hgv 7 rfl) | exact va_Nc.of (x_ns_in hgv 10 rfl) | exact va_Nc.of (x_ns_in hgv 13 rfl) | exact va_Nc.of (x_ns_in hgv 4 rfl) | exact va_Nc.of (x_ns_in hgv 11 rfl) | exact va_Nc.of (x_ns_in hgv 14 rfl) | exact va_Nc.of (x_ns_in hgv 5 rfl) | exact va_Nc.of (x_ns_in hgv 8 rfl) | exact va_Nc.of (x_ns_in hgv 15 rfl) | exact va_Nc.of (x_ns_in hgv 6 rfl) | exact va_Nc.of (x_ns_in hgv 9 rfl) | exact va_Nc.of (x_ns_in hgv 12 rfl)
abbrev x_iUS : Nat := 0
abbrev x_iSS : Nat := 1
abbrev x_iCS : Nat := 2
abbrev x_iSI : Nat := 3
theorem x_jTL0 : Cond.laysStatic "java/lang/Throwable" "UNASSIGNED_STACK" "[Ljava/lang/StackTraceElement;" ∈ lw_tbl := List.mem_of_getElem? (i := 492) (by decide +kernel)
theorem x_jTL1 : Cond.laysStatic "java/lang/Throwable" "SUPPRESSED_SENTINEL" "Ljava/util/List;" ∈ lw_tbl := List.mem_of_getElem? (i := 494) (by decide +kernel)
theorem x_jTL2 : Cond.laysStatic "java/lang/String" "COMPACT_STRINGS" "Z" ∈ lw_tbl := List.mem_of_getElem? (i := 593) (by decide +kernel)
theorem x_jTL3 : Cond.laysStatic "jdk/internal/util/Preconditions" "SIOOBE_FORMATTER" "Ljava/util/function/BiFunction;" ∈ lw_tbl := List.mem_of_getElem? (i := 609) (by decide +kernel)
theorem x_jTI0 : Cond.initialized "java/lang/Throwable" ∈ lw_tbl := List.mem_of_getElem? (i := 133) (by decide +kernel)
theorem x_jTI2 : Cond.initialized "java/lang/String" ∈ lw_tbl := List.mem_of_getElem? (i := 139) (by decide +kernel)
theorem x_jTI3 : Cond.initialized "jdk/internal/util/Preconditions" ∈ lw_tbl := List.mem_of_getElem? (i := 141) (by decide +kernel)
theorem x_jA0 : Cond.arrayClass Jvm.ClassFile.FieldType.int ∈ lw_tbl := List.mem_of_getElem? (i := 204) (by decide +kernel)
theorem x_jA1 : Cond.arrayClass Jvm.ClassFile.FieldType.char ∈ lw_tbl := List.mem_of_getElem? (i := 203) (by decide +kernel)
theorem x_jA2 : Cond.arrayClass Jvm.ClassFile.FieldType.boolean ∈ lw_tbl := List.mem_of_getElem? (i := 275) (by decide +kernel)
theorem x_jA3 : Cond.arrayClass Jvm.ClassFile.FieldType.long ∈ lw_tbl := List.mem_of_getElem? (i := 403) (by decide +kernel)
theorem x_jO4 : Cond.arrayOver (Jvm.ClassFile.FieldType.object "GridEngine$Model") ∈ lw_tbl := List.mem_of_getElem? (i := 240) (by decide +kernel)
theorem x_jO5 : Cond.arrayOver (Jvm.ClassFile.FieldType.array Jvm.ClassFile.FieldType.int) ∈ lw_tbl := List.mem_of_getElem? (i := 1375) (by decide +kernel)
theorem x_jO6 : Cond.arrayOver (Jvm.ClassFile.FieldType.array (Jvm.ClassFile.FieldType.array Jvm.ClassFile.FieldType.int)) ∈ lw_tbl := List.mem_of_getElem? (i := 1374) (by decide +kernel)
theorem x_known {s : State} {b : Nat} (hts : ∀ w ∈ lw_tbl, w.before #[Value.ref b] s = true) : ∃ D : va_G, ∀ (c : Nat) (q : vw_C), vwCl[c]? = some q → u_Kn s q.1 q.2.1 q.2.2 (D.1 c) (D.2 c) := by
  have htg : ∀ w ∈ TG, w.before #[Value.ref b] s = true := fun w hw => hts w (TG_good hw).1
  have h0 : ∀ c : Nat, ∃ x : ClassId × (Nat → Nat), ∀ q : vw_C, vwCl[c]? = some q → u_Kn s q.1 q.2.1 q.2.2 x.1 x.2 := by
    intro c
    have hk : ∀ {Cn : String} {T : u_T} {N n : Nat}, x_cl c Cn T N → Cond.instantiable Cn n ∈ TG → ∃ x : ClassId × (Nat → Nat), ∀ q : vw_C, vwCl[c]? = some q → u_Kn s q.1 q.2.1 q.2.2 x.1 x.2 := by
      intro Cn T N n hc hi
      obtain ⟨cC, iS, hk⟩ := u_known (ws := TG) htg hc.2.1 (htg _ hi)
      exact ⟨(cC, iS), fun q hq => by cases hc.1.symm.trans hq; exact hk⟩
    match c with
    | 0 => exact hk xcl_0 cn_0
    | 1 => exact hk xcl_1 cn_1
    | 2 => exact hk xcl_2 cn_2
    | 3 => exact hk xcl_3 cn_3
    | 4 => exact hk xcl_4 cn_4
    | 5 => exact hk xcl_5 cn_5
    | 6 => exact hk xcl_6 cn_6
    | 7 => exact hk xcl_7 cn_7
    | 8 => exact hk xcl_8 cn_8
    | n + 9 => exact ⟨(0, fun _ => 0), fun q hq => by cases hq⟩
  obtain ⟨D, hD⟩ := Classical.axiomOfChoice h0
  exact ⟨(fun c => (D c).1, fun c => (D c).2), hD⟩
/-- the entry's world: everything that is known, nothing made -/
theorem x_start {p : Program} {l : Launch} {s : State} {m : MethodId} {meth : Method} {c : Code} (hflags : l.flags = flags0) {b L : Nat} {xs : Nat → Int32} (C0 : lw_At p s m meth c b L xs) :
    ∃ E : XE, E.1 = s.heap.size ∧ x_C E p l s m meth c #[Value.ref b] cL_law 7 "GridEngineLaw" meth.name ret := by
  obtain ⟨hx, hb, hr, hml, hown, hts, hX, hbl, hlocks, hgv⟩ := C0
  obtain ⟨D, hD⟩ := x_known hts
  have hA : ∀ a : Nat, a < s.heap.size → ¬ (fun q : Nat => s.heap.size ≤ q) a := fun a h => by show ¬ s.heap.size ≤ a; omega
  have hst := x_words hgv hts hA
  have hw : ∀ i : Nat, ∃ x : Nat × Nat, ∀ q : String × Nat × String × List Int32, x_wd[i]? = some q → vk_R q.1 q.2.1 q.2.2.1 x.1 s ∧ va_O "java/lang/String" x.1 (fun q : Nat => s.heap.size ≤ q) s s.heap ∧ va_OF "java/lang/String" "coder" "B" (.int 0) x.1 (fun q : Nat => s.heap.size ≤ q) s s.heap ∧
      va_OF "java/lang/String" "value" "[B" (.ref x.2) x.1 (fun q : Nat => s.heap.size ≤ q) s s.heap ∧ va_T .byte x.2 q.2.2.2.length (fun j => .int (q.2.2.2.getD j 0)) (fun q : Nat => s.heap.size ≤ q) s s.heap := by
    intro i
    cases hq : x_wd[i]? with
    | none => exact ⟨(0, 0), fun q h => by cases h⟩
    | some q =>
      obtain ⟨a, t, h⟩ := hst i q hq
      exact ⟨(a, t), fun q' h' => by cases h'; exact h⟩
  obtain ⟨wf, hwf⟩ := Classical.axiomOfChoice hw
  obtain ⟨c0, a0, r0⟩ := x_arP (hts _ x_jA0)
  obtain ⟨c1, a1, r1⟩ := x_arP (hts _ x_jA1)
  obtain ⟨c2, a2, r2⟩ := x_arP (hts _ x_jA2)
  obtain ⟨c3, a3, r3⟩ := x_arP (hts _ x_jA3)
  obtain ⟨c4, a4, r4⟩ := x_arO (hts _ x_jO4)
  obtain ⟨c5, a5, r5⟩ := x_arA (hts _ x_jO5)
  obtain ⟨c6, a6, r6⟩ := x_arA (hts _ x_jO6)
  let cA : Nat → ClassId := fun t => match t with
    | 0 => c0
    | 1 => c1
    | 2 => c2
    | 3 => c3
    | 4 => c4
    | 5 => c5
    | _ => c6
  let sp : Nat → Nat := fun j => if j = 0 then b else if j ≤ 500 then (wf (j - 1)).1 else (wf (j - 501)).2
  refine ⟨(s.heap.size, D.1, D.2, cA, sp, L, xs), rfl, hx, hb, hml, hown, fun w hw => hts w (TG_good hw).1, ⟨⟨hD, fun k q hq => ?_⟩, fun w hw => ?_, fun t ht => ?_, ?_, ?_, fun own k tx hk => x_strAt (hts _ hk), fun i q hi => ?_, ⟨hX, hbl⟩, ?_, ?_, x_ncs_at hgv⟩, Nat.le_refl _, ?_, hlocks, hr, rfl⟩
  · match k, hq with
    | 0, hq => cases hq; exact ⟨a0, r0⟩
    | 1, hq => cases hq; exact ⟨a1, r1⟩
    | 2, hq => cases hq; exact ⟨a2, r2⟩
    | 3, hq => cases hq; exact ⟨a3, r3⟩
    | 4, hq => cases hq; exact ⟨a4, r4⟩
    | 5, hq => cases hq; exact ⟨a5, r5⟩
    | 6, hq => cases hq; exact ⟨a6, r6⟩
    | n + 7, hq => cases hq
  · have h1 := hts w (List.mem_filter.mp hw).1
    have h2 := (List.mem_filter.mp hw).2
    cases w <;> first | (cases h2; done) | exact va_Nw.of rfl h1
  · have ht4 : ∀ t ∈ x_aoT, (Cond.arrayOver t).before #[Value.ref b] s = true := by
      intro t ht
      simp only [x_aoT, List.mem_cons, List.not_mem_nil, or_false] at ht
      rcases ht with rfl | rfl | rfl
      · exact hts _ x_jO4
      · exact hts _ x_jO5
      · exact hts _ x_jO6
    exact ht4 t ht
  · exact vx_Zqof (hts _ x_jTL0) (hts _ x_jTI0) (x_ns_in hgv x_iUS rfl) hA
  · exact vx_Zqof (hts _ x_jTL1) (hts _ x_jTI0) (x_ns_in hgv x_iSS rfl) hA
  · have hi19 : i < 19 := (List.getElem?_eq_some_iff.mp hi).1
    have h1 : sp (1 + i) = (wf i).1 := by
      show (if 1 + i = 0 then b else if 1 + i ≤ 500 then (wf (1 + i - 1)).1 else (wf (1 + i - 501)).2) = _
      rw [if_neg (by omega), if_pos (by omega), Nat.add_sub_cancel_left]
    have h2 : sp (501 + i) = (wf i).2 := by
      show (if 501 + i = 0 then b else if 501 + i ≤ 500 then (wf (501 + i - 1)).1 else (wf (501 + i - 501)).2) = _
      rw [if_neg (by omega), if_neg (by omega), Nat.add_sub_cancel_left]
    show vk_R q.1 q.2.1 q.2.2.1 (sp (1 + i)) s ∧ va_O "java/lang/String" (sp (1 + i)) _ s s.heap ∧ va_OF "java/lang/String" "coder" "B" (.int 0) (sp (1 + i)) _ s s.heap ∧ va_OF "java/lang/String" "value" "[B" (.ref (sp (501 + i))) (sp (1 + i)) _ s s.heap ∧ va_T .byte (sp (501 + i)) q.2.2.2.length _ _ s s.heap
    rw [h1, h2]
    exact hwf i q hi
  · exact va_Zof (hts _ x_jTL2) (hts _ x_jTI2) (va_eqi (x_ns_in hgv x_iCS rfl)) hA
  · exact va_Zqof (hts _ x_jTL3) (hts _ x_jTI3) (x_ns_in hgv x_iSI rfl) hA
  · unfold Launch.stackTraces
    rw [hflags]
    decide

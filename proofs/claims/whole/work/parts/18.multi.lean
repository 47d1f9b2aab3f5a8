/-! ===== arrays of arrays ===== -/
def h_f2 (h : HP) (a k : Nat) : Nat → HP
  | 0 => h
  | i + 1 => h_wR (h_new (h_f2 h a k i) 100 k) a i (some (h_sh (h_f2 h a k i)).length)
def h_m2 (h : HP) (n k : Nat) : HP := h_f2 (h_new h 105 n) (h_sh h).length k n
def h_f3 (h : HP) (a k j : Nat) : Nat → HP
  | 0 => h
  | i + 1 => h_wR (h_m2 (h_f3 h a k j i) k j) a i (some (h_sh (h_f3 h a k j i)).length)
def h_m3 (h : HP) (n k j : Nat) : HP := h_f3 (h_new h 106 n) (h_sh h).length k j n
theorem h_f2_sh (h : HP) (a k : Nat) : ∀ i, h_sh (h_f2 h a k i) = h_sh h ++ List.replicate i (100, k)
  | 0 => by simp [h_f2]
  | i + 1 => by
    show h_sh (h_f2 h a k i) ++ [(100, k)] = _
    rw [h_f2_sh h a k i, List.replicate_succ', List.append_assoc]
theorem h_f2_cl (h : HP) (a k : Nat) : ∀ i, (h_f2 h a k i).2.2.2.2 = h.2.2.2.2
  | 0 => rfl
  | i + 1 => h_f2_cl h a k i
theorem h_m2_sh (h : HP) (n k : Nat) : h_sh (h_m2 h n k) = h_sh h ++ ((105, n) :: List.replicate n (100, k)) := by
  unfold h_m2
  rw [h_f2_sh]
  show (h_sh h ++ [(105, n)]) ++ _ = _
  rw [List.append_assoc]
  rfl
theorem h_m2_cl (h : HP) (n k : Nat) : (h_m2 h n k).2.2.2.2 = h.2.2.2.2 := h_f2_cl _ _ _ _
theorem h_f3_sh (h : HP) (a k j : Nat) : ∀ i, h_sh (h_f3 h a k j i) = h_sh h ++ (List.replicate i ((105, k) :: List.replicate k (100, j))).flatten
  | 0 => by simp [h_f3]
  | i + 1 => by
    show h_sh (h_m2 (h_f3 h a k j i) k j) = _
    rw [h_m2_sh, h_f3_sh h a k j i, List.replicate_succ', List.flatten_append, List.append_assoc]
    simp
theorem h_f3_cl (h : HP) (a k j : Nat) : ∀ i, (h_f3 h a k j i).2.2.2.2 = h.2.2.2.2
  | 0 => rfl
  | i + 1 => (h_m2_cl _ _ _).trans (h_f3_cl h a k j i)
theorem h_f3_len (h : HP) (a k j i : Nat) : (h_sh (h_f3 h a k j i)).length = (h_sh h).length + i * (1 + k) := by
  rw [h_f3_sh, List.length_append, List.length_flatten, List.map_replicate, List.sum_replicate_nat]
  simp [Nat.add_comm]
theorem h_app_at {l r : List (Nat × Nat)} {a : Nat} {q : Nat × Nat} (h : l[a]? = some q) : (l ++ r)[a]? = some q := by
  rw [List.getElem?_append_left (List.getElem?_eq_some_iff.mp h).1]
  exact h
def x_m2 (h : HP) (n k : Int32) (f : HP → Nat → Option XR) : Option XR := if h.2.2.2.2 = true ∧ (h_sh h).length + 1 + n.toNatClampNeg ≤ 1000 ∧ n.toNatClampNeg ≤ 400 ∧ k.toNatClampNeg ≤ 400 ∧ 0 ≤ n.toInt ∧ 0 ≤ k.toInt then f (h_m2 h n.toNatClampNeg k.toNatClampNeg) (h_sh h).length else none
def x_m3 (h : HP) (n k j : Int32) (f : HP → Nat → Option XR) : Option XR := if h.2.2.2.2 = true ∧ (h_sh h).length + 1 + n.toNatClampNeg * (1 + k.toNatClampNeg) ≤ 1000 ∧ n.toNatClampNeg ≤ 400 ∧ k.toNatClampNeg ≤ 400 ∧ j.toNatClampNeg ≤ 400 ∧ 0 ≤ n.toInt ∧ 0 ≤ k.toInt ∧ 0 ≤ j.toInt then f (h_m3 h n.toNatClampNeg k.toNatClampNeg j.toNatClampNeg) (h_sh h).length else none
section XM
variable {p : Program} {l : Launch} {e : Env} {R : Room} {s : State} {m : MethodId} {args : Array Value} {below : List Frame} {meth : Method} {c : Code} {H : Heap} {locs : List Loc} {cells slots : Nat} {Q : State → Prop}
variable {cc : ByteArray} {pc nL : Nat} {ls : Array Slot} {rest : List Value} {E : XE} {h : HP} {own nm : String} {rt : Option FieldType} {z : XR}
def x_I (E : XE) (p : Program) (l : Launch) (e : Env) (R : Room) (s : State) (m : MethodId) (args : Array Value) (below : List Frame) (meth : Method) (c : Code) (v1 : Vm) (V : State) (h : HP) (cells slots : Nat) : Prop :=
  V.vm = v1 ∧ x_Rep E h V.heap ∧ ∃ locs, va_S (x_A E) s.heap V.heap locs ∧ Stand p l e R s m args below meth c V locs cells slots
variable {v1 : Vm} {V : State}
theorem x_I.push (hI : x_I E p l e R s m args below meth c v1 V h cells slots) (hcl : h.2.2.2.2 = true) (hlen : (h_sh h).length < 1000) {t n : Nat} (ht : t < 7) (hn : n ≤ 400) {dv : Value} (hdv : ∀ j, x_fv E (h_new h (100 + t) n) (h_sh h).length (x_at t) j = dv) :
    x_I E p l e R s m args below meth c v1 (V.pushCell { cls := E.2.2.2.1 t, slots := Array.replicate n dv, vm := .none }) (h_new h (100 + t) n) (cells + 1) (slots + n) := by
  obtain ⟨h1, hR, locs, hS, X⟩ := hI
  have X' := X.pushed ({ cls := E.2.2.2.1 t, slots := Array.replicate n dv, vm := .none } : Cell)
  have o1 : ∀ q : Nat, q < V.heap.size → (V.heap.push ({ cls := E.2.2.2.1 t, slots := Array.replicate n dv, vm := .none } : Cell))[q]? = V.heap[q]? := fun q hq => by rw [Array.getElem?_push, if_neg (Nat.ne_of_lt hq)]
  refine ⟨h1, hR.push hcl hlen (Or.inr ⟨t, rfl, ht, by omega, ?_⟩) (Array.size_push _) o1, locs, x_grow hS (Array.size_push _) o1, by simpa using X'⟩
  rw [← hR.2.2.2 hcl]
  show (V.heap.push _)[V.heap.size]? = _
  rw [Array.getElem?_push_size, show (fun j => x_fv E (h_new h (100 + t) n) (h_sh h).length (x_at t) j) = fun _ => dv from funext hdv, ← arrV_new]
theorem x_I.store (C0 : x_C E p l s m meth c args cc nL own nm rt) (hI : x_I E p l e R s m args below meth c v1 V h cells slots) {a t n i b : Nat} (hs : (h_sh h)[a]? = some (100 + t, n)) (hr : x_isR (x_at t) = true) :
    x_I E p l e R s m args below meth c v1 (V.setCell (xa E a) ((arrV (E.2.2.2.1 t) n (fun j => x_fv E h a (x_at t) j)).setSlot i (.ref (xa E b)))) (h_wR h a i (some b)) cells slots := by
  obtain ⟨h1, hR, locs, hS, X⟩ := hI
  obtain ⟨ht, hn, hA⟩ := x_arr hR hs
  have hlt : xa E a < V.heap.size := (Array.getElem?_eq_some_iff.mp hA).1
  obtain ⟨r1, s1⟩ := x_arrput (h' := h_wR h a i (some b)) (k := i) (v := .ref (xa E b)) (i := i) C0.2.2.2.2.2.1 hR hS (t := t) hs rfl rfl (fun b hb ty j => x_fv_offR hb ty j) (fun j => x_fv_upR (f := fun _ => x_at t) hr j) (H1 := V.heap.setIfInBounds (xa E a) ((arrV (E.2.2.2.1 t) n (fun j => x_fv E h a (x_at t) j)).setSlot i (.ref (xa E b)))) (heapAt_setCell_self _ hlt) (size_setCell ..) (fun q hq => heapAt_setCell_ne _ (Ne.symm hq))
  exact ⟨h1, r1, _, s1, X.stored hA i _⟩
variable {EE : CtlPost} {d : Bool} {acts : List Action} {f : JFrame}
theorem x_wpN (hI : x_I E p l e R s m args below meth c v1 V h cells slots) (hcl : h.2.2.2.2 = true) (hlen : (h_sh h).length < 1000) {t n : Nat} (ht : t < 7) (hn : n ≤ 400) {dv : Value} (hdv : ∀ j, x_fv E (h_new h (100 + t) n) (h_sh h).length (x_at t) j = dv)
    {k : Class} {comp : ClassId} (hk : v1.classes[E.2.2.2.1 t]? = some k) (hkind : k.kind = .array comp (x_at t)) (hb4 : componentBytes (x_at t) ≤ 8) (hfit : fits (x_at t) dv = true) (hdd : dv.isDefault = true) (hcells : cells + 1 ≤ R.cells) (hslots : slots + n ≤ R.slots)
    {Q : Addr → Pre} (hq : ∀ V', x_I E p l e R s m args below meth c v1 V' (h_new h (100 + t) n) (cells + 1) (slots + n) → Q (xa E (h_sh h).length) d acts (V'.setTop f)) : Sem.wp (Jvm.newArray (E.2.2.2.1 t) n dv) Q EE e d acts (V.setTop f) := by
  have hI0 := hI
  obtain ⟨h1, hR, locs, hS, X⟩ := hI0
  obtain ⟨hr1, hr2⟩ := X.roomAbove hcells hslots
  have hbb : n * componentBytes (x_at t) ≤ 400 * 8 := Nat.mul_le_mul hn hb4
  refine Jvm.Free.Multi.wp_newArray (k := k) (comp := comp) (type := x_at t) (by show V.vm.classes[_]? = _; rw [h1]; exact hk) hkind (by rw [Launch.admits_arrayLengthLimit X.admits]; omega) (by rw [Launch.admits_maxHeapBytes X.admits]; omega) hfit hdd (by rw [State.heap_setTop]; omega) (by show V.slotsUsed + _ ≤ _; omega) ?_
  have ha : (V.setTop f).heap.size = xa E (h_sh h).length := by rw [State.heap_setTop, hR.2.2.2 hcl, xa_lt (by omega)]
  rw [ha, State.pushCell_setTop]
  exact hq _ (hI.push hcl hlen ht hn hdv)
theorem x_wp1 (hI : x_I E p l e R s m args below meth c v1 V h cells slots) (hcl : h.2.2.2.2 = true) (hlen : (h_sh h).length < 1000) {j : Int32} (hj0 : ¬ j < 0) (hj : j.toNatClampNeg ≤ 400)
    {k : Class} {comp : ClassId} (hk : v1.classes[E.2.2.2.1 0]? = some k) (hkind : k.kind = .array comp .int) (hcells : cells + 1 ≤ R.cells) (hslots : slots + j.toNatClampNeg ≤ R.slots)
    {Q : Addr → Pre} (hq : ∀ V', x_I E p l e R s m args below meth c v1 V' (h_new h 100 j.toNatClampNeg) (cells + 1) (slots + j.toNatClampNeg) → Q (xa E (h_sh h).length) d acts (V'.setTop f)) : Sem.wp (multianewarray.make (E.2.2.2.1 0) [j]) Q EE e d acts (V.setTop f) := by
  have hk0 : (V.setTop f).vm.classes[E.2.2.2.1 0]? = some k := by show V.vm.classes[_]? = _; rw [hI.1]; exact hk
  rw [multianewarray.make]
  simp only [wp_bind', W.ite, hj0, if_false, wp_pure', W.theClass, hk0, hkind, Option.some.injEq, exists_eq_left']
  exact x_wpN (t := 0) hI hcl hlen (by decide) hj (fun i => x_fv_zero (ty := .int) rfl i) hk hkind (by decide) rfl rfl hcells hslots hq
theorem x_range_cons {n i : Nat} {x : Nat} {rest : List Nat} (hi : i ≤ n) (hl : x :: rest = List.range' i (n - i)) : x = i ∧ i < n ∧ rest = List.range' (i + 1) (n - (i + 1)) := by
  have hlt : i < n := by
    rcases Nat.lt_or_ge i n with h | h
    · exact h
    · rw [show n - i = 0 from by omega] at hl; simp at hl
  rw [show n - i = (n - (i + 1)) + 1 from by omega, List.range'_succ] at hl
  exact ⟨(List.cons.inj hl).1, hlt, (List.cons.inj hl).2⟩
theorem x_range_nil {n i : Nat} (hi : i ≤ n) (hl : [] = List.range' i (n - i)) : i = n := by
  rcases Nat.lt_or_ge i n with h | h
  · rw [show n - i = (n - (i + 1)) + 1 from by omega, List.range'_succ] at hl; cases hl
  · omega
theorem x_wp2 (C0 : x_C E p l s m meth c args cc nL own nm rt) (hI : x_I E p l e R s m args below meth c v1 V h cells slots) (hcl : h.2.2.2.2 = true) {n j : Int32} (hlen : (h_sh h).length + 1 + n.toNatClampNeg ≤ 1000) (hn0 : ¬ n < 0) (hj0 : ¬ j < 0) (hn : n.toNatClampNeg ≤ 400) (hj : j.toNatClampNeg ≤ 400)
    {k5 k0 : Class} {c0 : ClassId} (hk5 : v1.classes[E.2.2.2.1 5]? = some k5) (hkind5 : k5.kind = .array (E.2.2.2.1 0) (.array .int)) (hk0 : v1.classes[E.2.2.2.1 0]? = some k0) (hkind0 : k0.kind = .array c0 .int)
    (hcells : cells + (1 + n.toNatClampNeg) ≤ R.cells) (hslots : slots + (n.toNatClampNeg + n.toNatClampNeg * j.toNatClampNeg) ≤ R.slots)
    {Q : Addr → Pre} (hq : ∀ d' acts' V', x_I E p l e R s m args below meth c v1 V' (h_m2 h n.toNatClampNeg j.toNatClampNeg) (cells + (1 + n.toNatClampNeg)) (slots + (n.toNatClampNeg + n.toNatClampNeg * j.toNatClampNeg)) → Q (xa E (h_sh h).length) d' acts' (V'.setTop f)) :
    Sem.wp (multianewarray.make (E.2.2.2.1 5) [n, j]) Q EE e d acts (V.setTop f) := by
  have hfind : ([j].find? (· < 0)) = none := by simp [hj0]
  have hkk : (V.setTop f).vm.classes[E.2.2.2.1 5]? = some k5 := by show V.vm.classes[_]? = _; rw [hI.1]; exact hk5
  rw [multianewarray.make]
  simp only [wp_bind', W.ite, hn0, if_false, wp_pure', W.theClass, hkk, hkind5, Option.some.injEq, exists_eq_left']
  have hmul0 := Nat.zero_le (n.toNatClampNeg * j.toNatClampNeg)
  refine x_wpN (t := 5) hI hcl (by omega) (by decide) hn (fun i => x_fv_zero (ty := .array .int) rfl i) hk5 hkind5 (by decide) rfl rfl (by omega) (by omega) fun V1 hI1 => ?_
  simp only [hfind]
  rw [ite_self, wp_bind', Std.Legacy.Range.forIn_eq_forIn_range']
  have hsz : ([:n.toNatClampNeg] : Std.Legacy.Range).size = n.toNatClampNeg := by simp [Std.Legacy.Range.size]
  rw [hsz]
  show Sem.wp (forIn (List.range' 0 n.toNatClampNeg 1) PUnit.unit _) _ EE e d acts _
  refine wp_forIn_inv (fun rest s' => ∃ i V', i ≤ n.toNatClampNeg ∧ rest = List.range' i (n.toNatClampNeg - i) ∧ s' = V'.setTop f ∧ x_I E p l e R s m args below meth c v1 V' (h_f2 (h_new h 105 n.toNatClampNeg) (h_sh h).length j.toNatClampNeg i) (cells + 1 + i) (slots + n.toNatClampNeg + i * j.toNatClampNeg)) _ _ ⟨0, V1, Nat.zero_le _, rfl, rfl, by simpa [h_f2] using hI1⟩ ?_ ?_
  · rintro x rest s' d' acts' Q' ⟨i, V2, hi, hl, rfl, hI2⟩ hnext
    obtain ⟨rfl, hlt, hrest⟩ := x_range_cons hi hl
    have hmul : x * j.toNatClampNeg + j.toNatClampNeg ≤ n.toNatClampNeg * j.toNatClampNeg := by
      have := Nat.mul_le_mul_right j.toNatClampNeg (show x + 1 ≤ n.toNatClampNeg from hlt)
      rw [Nat.succ_mul] at this; exact this
    have hl2 : (h_sh (h_f2 (h_new h 105 n.toNatClampNeg) (h_sh h).length j.toNatClampNeg x)).length = (h_sh h).length + 1 + x := by
      rw [h_f2_sh, List.length_append, List.length_replicate]
      show (h_sh h ++ [(105, n.toNatClampNeg)]).length + x = _
      simp
    have ha2 : (h_sh (h_f2 (h_new h 105 n.toNatClampNeg) (h_sh h).length j.toNatClampNeg x))[(h_sh h).length]? = some (100 + 5, n.toNatClampNeg) := by
      rw [h_f2_sh]
      refine h_app_at ?_
      show (h_sh h ++ [(105, n.toNatClampNeg)])[_]? = _
      simp
    simp only [wp_bind']
    refine x_wp1 hI2 ((h_f2_cl _ _ _ _).trans hcl) (by omega) hj0 hj hk0 hkind0 (by omega) (by omega) fun V3 hI3 => ?_
    have ha3 : (h_sh (h_new (h_f2 (h_new h 105 n.toNatClampNeg) (h_sh h).length j.toNatClampNeg x) 100 j.toNatClampNeg))[(h_sh h).length]? = some (100 + 5, n.toNatClampNeg) := h_app_at ha2
    obtain ⟨-, -, hA⟩ := x_arr hI3.2.1 ha3
    have hkk3 : (V3.setTop f).vm.classes[E.2.2.2.1 5]? = some k5 := by show V3.vm.classes[_]? = _; rw [hI3.1]; exact hk5
    have hla : xa E (h_sh h).length = E.1 + (h_sh h).length := xa_lt (by omega)
    simp only [wp_bind', W.writeLoc, wp_pure']
    refine ⟨_, by rw [State.heap_setTop]; exact hA, by simp [arrV], by rw [arrV_size]; exact hlt, ?_, hnext _ _ _ ⟨x + 1, _, hlt, hrest, State.setCell_setTop .., ?_⟩⟩
    · have hkv : V3.vm.classes[E.2.2.2.1 5]? = some k5 := hkk3
      simp [State.fitsSlot, State.slotType?, arrV, hkv, hkind5, Jvm.Free.Multi.refFits (t := .array .int) rfl _ (Or.inr ⟨_, rfl⟩)]
    · have h9 := hI3.store (i := x) (b := (h_sh (h_f2 (h_new h 105 n.toNatClampNeg) (h_sh h).length j.toNatClampNeg x)).length) C0 ha3 rfl
      rw [show cells + 1 + (x + 1) = cells + 1 + x + 1 from rfl, Nat.succ_mul, ← Nat.add_assoc]
      exact h9
  · rintro s' d' acts' ⟨i, V2, hi, hl, rfl, hI2⟩
    obtain rfl := x_range_nil hi hl
    simp only [wp_pure']
    refine hq _ _ V2 ?_
    rw [show cells + (1 + n.toNatClampNeg) = cells + 1 + n.toNatClampNeg from by omega, show slots + (n.toNatClampNeg + n.toNatClampNeg * j.toNatClampNeg) = slots + n.toNatClampNeg + n.toNatClampNeg * j.toNatClampNeg from by omega]
    exact hI2
theorem x_wp3 (C0 : x_C E p l s m meth c args cc nL own nm rt) (hI : x_I E p l e R s m args below meth c v1 V h cells slots) (hcl : h.2.2.2.2 = true) {n k j : Int32} (hlen : (h_sh h).length + 1 + n.toNatClampNeg * (1 + k.toNatClampNeg) ≤ 1000) (hn0 : ¬ n < 0) (hk0 : ¬ k < 0) (hj0 : ¬ j < 0) (hn : n.toNatClampNeg ≤ 400) (hk : k.toNatClampNeg ≤ 400) (hj : j.toNatClampNeg ≤ 400)
    {k6 k5 k0 : Class} {c0 : ClassId} (hk6 : v1.classes[E.2.2.2.1 6]? = some k6) (hkind6 : k6.kind = .array (E.2.2.2.1 5) (.array (.array .int))) (hk5 : v1.classes[E.2.2.2.1 5]? = some k5) (hkind5 : k5.kind = .array (E.2.2.2.1 0) (.array .int)) (hk0' : v1.classes[E.2.2.2.1 0]? = some k0) (hkind0 : k0.kind = .array c0 .int)
    (hcells : cells + (1 + n.toNatClampNeg * (1 + k.toNatClampNeg)) ≤ R.cells) (hslots : slots + (n.toNatClampNeg + n.toNatClampNeg * (k.toNatClampNeg + k.toNatClampNeg * j.toNatClampNeg)) ≤ R.slots)
    {Q : Addr → Pre} (hq : ∀ d' acts' V', x_I E p l e R s m args below meth c v1 V' (h_m3 h n.toNatClampNeg k.toNatClampNeg j.toNatClampNeg) (cells + (1 + n.toNatClampNeg * (1 + k.toNatClampNeg))) (slots + (n.toNatClampNeg + n.toNatClampNeg * (k.toNatClampNeg + k.toNatClampNeg * j.toNatClampNeg))) → Q (xa E (h_sh h).length) d' acts' (V'.setTop f)) :
    Sem.wp (multianewarray.make (E.2.2.2.1 6) [n, k, j]) Q EE e d acts (V.setTop f) := by
  have hfind : ([k, j].find? (· < 0)) = none := by simp [hj0, hk0]
  have hkk : (V.setTop f).vm.classes[E.2.2.2.1 6]? = some k6 := by show V.vm.classes[_]? = _; rw [hI.1]; exact hk6
  rw [multianewarray.make]
  simp only [wp_bind', W.ite, hn0, if_false, wp_pure', W.theClass, hkk, hkind6, Option.some.injEq, exists_eq_left']
  generalize hC : 1 + k.toNatClampNeg = C at hlen hcells hq
  generalize hD : k.toNatClampNeg + k.toNatClampNeg * j.toNatClampNeg = D at hslots hq
  have hmul0 := Nat.zero_le (n.toNatClampNeg * C)
  have hmul1 := Nat.zero_le (n.toNatClampNeg * D)
  refine x_wpN (t := 6) hI hcl (by omega) (by decide) hn (fun i => x_fv_zero (ty := .array (.array .int)) rfl i) hk6 hkind6 (by decide) rfl rfl (by omega) (by omega) fun V1 hI1 => ?_
  simp only [hfind]
  rw [ite_self, wp_bind', Std.Legacy.Range.forIn_eq_forIn_range']
  have hsz : ([:n.toNatClampNeg] : Std.Legacy.Range).size = n.toNatClampNeg := by simp [Std.Legacy.Range.size]
  rw [hsz]
  show Sem.wp (forIn (List.range' 0 n.toNatClampNeg 1) PUnit.unit _) _ EE e d acts _
  refine wp_forIn_inv (fun rest s' => ∃ i V', i ≤ n.toNatClampNeg ∧ rest = List.range' i (n.toNatClampNeg - i) ∧ s' = V'.setTop f ∧ x_I E p l e R s m args below meth c v1 V' (h_f3 (h_new h 106 n.toNatClampNeg) (h_sh h).length k.toNatClampNeg j.toNatClampNeg i) (cells + 1 + i * C) (slots + n.toNatClampNeg + i * D)) _ _ ⟨0, V1, Nat.zero_le _, rfl, rfl, by simpa [h_f3] using hI1⟩ ?_ ?_
  · rintro x rest s' d' acts' Q' ⟨i, V2, hi, hl, rfl, hI2⟩ hnext
    obtain ⟨rfl, hlt, hrest⟩ := x_range_cons hi hl
    have hmul : x * C + C ≤ n.toNatClampNeg * C := by
      have := Nat.mul_le_mul_right C (show x + 1 ≤ n.toNatClampNeg from hlt)
      rw [Nat.succ_mul] at this; exact this
    have hmulD : x * D + D ≤ n.toNatClampNeg * D := by
      have := Nat.mul_le_mul_right D (show x + 1 ≤ n.toNatClampNeg from hlt)
      rw [Nat.succ_mul] at this; exact this
    have hl2 : (h_sh (h_f3 (h_new h 106 n.toNatClampNeg) (h_sh h).length k.toNatClampNeg j.toNatClampNeg x)).length = (h_sh h).length + 1 + x * C := by
      rw [h_f3_len, hC]
      show (h_sh h ++ [(106, n.toNatClampNeg)]).length + _ = _
      simp
    have ha2 : (h_sh (h_f3 (h_new h 106 n.toNatClampNeg) (h_sh h).length k.toNatClampNeg j.toNatClampNeg x))[(h_sh h).length]? = some (100 + 6, n.toNatClampNeg) := by
      rw [h_f3_sh]
      refine h_app_at ?_
      show (h_sh h ++ [(106, n.toNatClampNeg)])[_]? = _
      simp
    simp only [wp_bind']
    refine x_wp2 C0 hI2 ((h_f3_cl _ _ _ _ _).trans hcl) (by omega) hk0 hj0 hk hj hk5 hkind5 hk0' hkind0 (by omega) (by omega) fun d2 acts2 V3 hI3 => ?_
    have ha3 : (h_sh (h_m2 (h_f3 (h_new h 106 n.toNatClampNeg) (h_sh h).length k.toNatClampNeg j.toNatClampNeg x) k.toNatClampNeg j.toNatClampNeg))[(h_sh h).length]? = some (100 + 6, n.toNatClampNeg) := by
      rw [h_m2_sh]
      exact h_app_at ha2
    obtain ⟨-, -, hA⟩ := x_arr hI3.2.1 ha3
    have hkv : V3.vm.classes[E.2.2.2.1 6]? = some k6 := by rw [hI3.1]; exact hk6
    simp only [wp_bind', W.writeLoc, wp_pure']
    refine ⟨_, by rw [State.heap_setTop]; exact hA, by simp [arrV], by rw [arrV_size]; exact hlt, ?_, hnext _ _ _ ⟨x + 1, _, hlt, hrest, State.setCell_setTop .., ?_⟩⟩
    · simp [State.fitsSlot, State.slotType?, arrV, hkv, hkind6, Jvm.Free.Multi.refFits (t := .array (.array .int)) rfl _ (Or.inr ⟨_, rfl⟩)]
    · have h9 := hI3.store (i := x) (b := (h_sh (h_f3 (h_new h 106 n.toNatClampNeg) (h_sh h).length k.toNatClampNeg j.toNatClampNeg x)).length) C0 ha3 rfl
      rw [hC, hD, show cells + 1 + x * C + C = cells + 1 + (x + 1) * C from by rw [Nat.succ_mul]; omega, show slots + n.toNatClampNeg + x * D + D = slots + n.toNatClampNeg + (x + 1) * D from by rw [Nat.succ_mul]; omega] at h9
      exact h9
  · rintro s' d' acts' ⟨i, V2, hi, hl, rfl, hI2⟩
    obtain rfl := x_range_nil hi hl
    simp only [wp_pure']
    refine hq _ _ V2 ?_
    rw [show cells + (1 + n.toNatClampNeg * C) = cells + 1 + n.toNatClampNeg * C from by omega, show slots + (n.toNatClampNeg + n.toNatClampNeg * D) = slots + n.toNatClampNeg + n.toNatClampNeg * D from by omega]
    exact hI2
theorem x_instr {tb : Tables} [Ours tb] {s : State} {f : JFrame} {Q : State → Prop} (h : At s f.method c below) {i : Instr} {len : Nat} (hd : decode c.code f.pc = .ok (i, len))
    (hw : Sem.wpRun (tb.exec i) (fun _ s₁ _ => ∀ acts, ∃ t, Steps tb e below (afterInstr e len (.ok () s₁ acts)).1 t ∧ Q t) (fun _ _ _ => False) e (s.setTop f)) :
    ∃ t, Steps tb e below (s.setTop f) t ∧ Q t := by
  have hw := (Sem.wpRun_iff_run _ _ _ _ _).mp hw
  cases hr : (tb.exec i).run e (s.setTop f) with
  | ok a s₁ acts =>
    rw [hr] at hw
    obtain ⟨t, h1, h2⟩ := hw acts
    refine ⟨t, Steps.head ⟨h.running, by rw [State.curStatus?_setTop]; exact h.runnable, by rw [State.alone_setTop]; exact h.alone⟩ (h.within f) ?_, h2⟩
    rw [stepThread_java (State.frames_setTop' f h.top) h.plain h.code hd, hr]
    exact h1
  | ctl x s₁ acts => rw [hr] at hw; cases x <;> exact hw.elim
theorem x_cls (C0 : x_C E p l s m meth c args cc nL own nm rt) : ∃ k6 k5 k0 c0, s.vm.classes[E.2.2.2.1 6]? = some k6 ∧ k6.kind = .array (E.2.2.2.1 5) (.array (.array .int)) ∧ s.vm.findClass "[[[I" = some (E.2.2.2.1 6) ∧ s.vm.classes[E.2.2.2.1 5]? = some k5 ∧ k5.kind = .array (E.2.2.2.1 0) (.array .int) ∧ s.vm.findClass "[[I" = some (E.2.2.2.1 5) ∧ s.vm.classes[E.2.2.2.1 0]? = some k0 ∧ k0.kind = .array c0 .int := by
  have hK := C0.2.2.2.2.2.1
  have hA0 : s.vm.findClass "[I" = some (E.2.2.2.1 0) := (x_tyAt hK 0 (by decide)).2
  have hA5 : s.vm.findClass "[[I" = some (E.2.2.2.1 5) := (x_tyAt hK 5 (by decide)).2
  have hA6 : s.vm.findClass "[[[I" = some (E.2.2.2.1 6) := (x_tyAt hK 6 (by decide)).2
  obtain ⟨o1, o2, o3, o4, o5, o6, o7⟩ := Cond.arrayOver_specA (hK.2.2.1 (.array .int) (by simp [x_aoT]))
  obtain ⟨q1, q2, q3, q4, q5, q6, q7⟩ := Cond.arrayOver_specA (hK.2.2.1 (.array (.array .int)) (by simp [x_aoT]))
  obtain ⟨-, k0, i1, c0, i2⟩ := (x_tyAt hK 0 (by decide)).1 0 fun _ => .null
  cases o4.symm.trans hA0
  cases o7.symm.trans hA5
  cases q4.symm.trans hA5
  cases q7.symm.trans hA6
  exact ⟨q3, o3, k0, c0, q5, q6, hA6, o5, o6, hA5, i1, i2⟩
theorem x_ma2 (C0 : x_C E p l s m meth c args cc nL own nm rt) (hR : x_Rep E h H) (hS : va_S (x_A E) s.heap H locs) {n k : Int32} {kf : HP → Nat → Option XR} (hf : x_m2 h n k kf = some z) {index : Nat} (w1 : Cond.classLink own index "[[I" ∈ TG) {N K : Nat} (hN : n.toNatClampNeg = N) (hK : k.toNatClampNeg = K) (hcells : cells + (1 + N) ≤ R.cells) (hslots : slots + (N + N * K) ≤ R.slots) (hdg : decode cc pc = .ok (.multianewarray index 2, 4))
    (kk : ∀ (H1 : Heap) (locs1 : List Loc) (q : Nat), x_Rep E (h_m2 h n.toNatClampNeg k.toNatClampNeg) H1 → va_S (x_A E) s.heap H1 locs1 → kf (h_m2 h n.toNatClampNeg k.toNatClampNeg) q = some z → W p l e R s m args below meth c H1 locs1 (cells + (1 + N)) (slots + (N + N * K)) Q (F0 m (pc + 4) ls (.ref (xa E q) :: rest))) :
    W p l e R s m args below meth c H locs cells slots Q (F0 m pc ls (.int k :: .int n :: rest)) := by
  obtain ⟨⟨hcl, hlen, hn4, hk4, hn0, hk0⟩, hf⟩ := x_if hf
  subst hN; subst hK
  intro T hT X
  subst hT
  obtain ⟨k6, k5, k0, c0, -, -, -, g4, g5, g6, g7, g8⟩ := x_cls C0
  have hpl : e.platform.magicAccessors = ({} : Platform).magicAccessors := by rw [X.admits.platform]
  obtain ⟨cc', hfcc, hcl2⟩ := Cond.classLink_spec C0.2.2.2.1 (C0.2.2.2.2.1 _ w1) e.platform hpl
  cases g6.symm.trans hfcc
  obtain ⟨hg₁, hwarm₁, hready₁⟩ := State.classEntry (e := e) X.warmed hcl2
  generalize T.vm.noted m.cls index (.cls (E.2.2.2.1 5)) = vm₁ at hg₁ hwarm₁ hready₁
  have hal : s.vm.Alike vm₁ := hwarm₁.alike
  obtain ⟨k5', j5, e5⟩ := hal.2.2 _ _ g4
  obtain ⟨k0', j0, e0⟩ := hal.2.2 _ _ g7
  have X₁ := X.noted hwarm₁
  have hI : x_I E p l e R s m args below meth c vm₁ (T.setVm vm₁) h cells slots := ⟨rfl, hR, locs, hS, X₁⟩
  refine x_instr (i := .multianewarray index 2) (len := 4) X.here (by rw [C0.2.1]; exact hdg) ?_
  rw [C0.1]
  show Sem.wpRun (multianewarray.sem index 2) _ _ _ _
  unfold Sem.wpRun
  simp only [multianewarray.sem, wp_bind', W.resolveClassAt_links (State.method?_setTop (F0 m pc ls (.int k :: .int n :: rest)) X.here.top) hg₁]
  rw [W.popN, if_neg (by decide)]
  refine ⟨F0 m pc ls (.int k :: .int n :: rest), State.topJava?_setTop' (s := T.setVm vm₁) _ X.here.top, [.int n, .int k], rest, rfl, rfl, ?_⟩
  simp only [List.mapM_cons, List.mapM_nil, wp_bind', wp_pure']
  have eS : ((T.setTop (F0 m pc ls (.int k :: .int n :: rest))).setVm vm₁).setTop { (F0 m pc ls (.int k :: .int n :: rest)) with stack := rest } = (T.setVm vm₁).setTop (F0 m pc ls rest) := by
    show ((T.setVm vm₁).setTop _).setTop _ = _
    rw [State.setTop_setTop]
  rw [eS]
  refine x_wp2 C0 hI hcl hlen (x_nonneg hn0) (x_nonneg hk0) hn4 hk4 j5 (by rw [e5]; exact g5) j0 (by rw [e0]; exact g8) hcells hslots fun d' acts' V' hI' => ?_
  obtain ⟨i1, i2, locs2, i3, i4⟩ := hI'
  simp only [wp_bind', W.mark, W.pushRef, State.topJava?_setTop' _ i4.here.top, Option.some.injEq, exists_eq_left', State.setTop_setTop]
  intro acts
  rw [afterInstr_ok]
  exact kk V'.heap locs2 _ i2 i3 hf V' rfl i4
theorem x_ma3 (C0 : x_C E p l s m meth c args cc nL own nm rt) (hR : x_Rep E h H) (hS : va_S (x_A E) s.heap H locs) {n k j : Int32} {kf : HP → Nat → Option XR} (hf : x_m3 h n k j kf = some z) {index : Nat} (w1 : Cond.classLink own index "[[[I" ∈ TG) {N K J : Nat} (hN : n.toNatClampNeg = N) (hK : k.toNatClampNeg = K) (hJ : j.toNatClampNeg = J) (hcells : cells + (1 + N * (1 + K)) ≤ R.cells) (hslots : slots + (N + N * (K + K * J)) ≤ R.slots) (hdg : decode cc pc = .ok (.multianewarray index 3, 4))
    (kk : ∀ (H1 : Heap) (locs1 : List Loc) (q : Nat), x_Rep E (h_m3 h n.toNatClampNeg k.toNatClampNeg j.toNatClampNeg) H1 → va_S (x_A E) s.heap H1 locs1 → kf (h_m3 h n.toNatClampNeg k.toNatClampNeg j.toNatClampNeg) q = some z → W p l e R s m args below meth c H1 locs1 (cells + (1 + N * (1 + K))) (slots + (N + N * (K + K * J))) Q (F0 m (pc + 4) ls (.ref (xa E q) :: rest))) :
    W p l e R s m args below meth c H locs cells slots Q (F0 m pc ls (.int j :: .int k :: .int n :: rest)) := by
  obtain ⟨⟨hcl, hlen, hn4, hk4, hj4, hn0, hk0, hj0⟩, hf⟩ := x_if hf
  subst hN; subst hK; subst hJ
  intro T hT X
  subst hT
  obtain ⟨k6, k5, k0, c0, g1, g2, g3, g4, g5, g6, g7, g8⟩ := x_cls C0
  have hpl : e.platform.magicAccessors = ({} : Platform).magicAccessors := by rw [X.admits.platform]
  obtain ⟨cc', hfcc, hcl2⟩ := Cond.classLink_spec C0.2.2.2.1 (C0.2.2.2.2.1 _ w1) e.platform hpl
  cases g3.symm.trans hfcc
  obtain ⟨hg₁, hwarm₁, hready₁⟩ := State.classEntry (e := e) X.warmed hcl2
  generalize T.vm.noted m.cls index (.cls (E.2.2.2.1 6)) = vm₁ at hg₁ hwarm₁ hready₁
  have hal : s.vm.Alike vm₁ := hwarm₁.alike
  obtain ⟨k6', j6, e6⟩ := hal.2.2 _ _ g1
  obtain ⟨k5', j5, e5⟩ := hal.2.2 _ _ g4
  obtain ⟨k0', j0, e0⟩ := hal.2.2 _ _ g7
  have X₁ := X.noted hwarm₁
  have hI : x_I E p l e R s m args below meth c vm₁ (T.setVm vm₁) h cells slots := ⟨rfl, hR, locs, hS, X₁⟩
  refine x_instr (i := .multianewarray index 3) (len := 4) X.here (by rw [C0.2.1]; exact hdg) ?_
  rw [C0.1]
  show Sem.wpRun (multianewarray.sem index 3) _ _ _ _
  unfold Sem.wpRun
  simp only [multianewarray.sem, wp_bind', W.resolveClassAt_links (State.method?_setTop (F0 m pc ls (.int j :: .int k :: .int n :: rest)) X.here.top) hg₁]
  rw [W.popN, if_neg (by decide)]
  refine ⟨F0 m pc ls (.int j :: .int k :: .int n :: rest), State.topJava?_setTop' (s := T.setVm vm₁) _ X.here.top, [.int n, .int k, .int j], rest, rfl, rfl, ?_⟩
  simp only [List.mapM_cons, List.mapM_nil, wp_bind', wp_pure']
  have eS : ((T.setTop (F0 m pc ls (.int j :: .int k :: .int n :: rest))).setVm vm₁).setTop { (F0 m pc ls (.int j :: .int k :: .int n :: rest)) with stack := rest } = (T.setVm vm₁).setTop (F0 m pc ls rest) := by
    show ((T.setVm vm₁).setTop _).setTop _ = _
    rw [State.setTop_setTop]
  rw [eS]
  refine x_wp3 C0 hI hcl hlen (x_nonneg hn0) (x_nonneg hk0) (x_nonneg hj0) hn4 hk4 hj4 j6 (by rw [e6]; exact g2) j5 (by rw [e5]; exact g5) j0 (by rw [e0]; exact g8) hcells hslots fun d' acts' V' hI' => ?_
  obtain ⟨i1, i2, locs2, i3, i4⟩ := hI'
  simp only [wp_bind', W.mark, W.pushRef, State.topJava?_setTop' _ i4.here.top, Option.some.injEq, exists_eq_left', State.setTop_setTop]
  intro acts
  rw [afterInstr_ok]
  exact kk V'.heap locs2 _ i2 i3 hf V' rfl i4
end XM

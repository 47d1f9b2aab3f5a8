/-! ===== what every method knows ===== -/
def TG : List Cond := lw_tbl.filter goodWord
theorem TG_in (i : Nat) {w : Cond} (h : lw_tbl[i]? = some w) (g : goodWord w = true) : w ∈ TG := List.mem_filter.mpr ⟨List.mem_of_getElem? h, g⟩
theorem TG_good {w : Cond} (h : w ∈ TG) : w ∈ lw_tbl ∧ goodWord w = true := List.mem_filter.mp h
def x_isN (w : Cond) : Bool := match w with
  | .fieldLinkNest .. => true
  | .methodLinkNest .. => true
  | .castable .. => true
  | .declares _ => true
  | _ => false
def x_nw : List Cond := lw_tbl.filter x_isN
theorem x_nw_in (i : Nat) {w : Cond} (h : lw_tbl[i]? = some w) (g : x_isN w = true) : w ∈ x_nw := List.mem_filter.mpr ⟨List.mem_of_getElem? h, g⟩
theorem x_nw_warm {s U : State} (hW : s.WarmedH U.vm) (h : ∀ w ∈ x_nw, va_Nw w s) : ∀ w ∈ x_nw, va_Nw w U := by
  intro w hw
  have h1 := h w hw
  have h2 := (List.mem_filter.mp hw).2
  cases w <;> first | (cases h2; done) | exact va_Nw.warmF hW h1 | exact va_Nw.warmM hW h1 | exact va_Nw.warmC hW h1 | exact va_Nw.warmD hW h1
def x_aoT : List FieldType := [.object "GridEngine$Model", .array .int, .array (.array .int)]
def x_ao (U : State) : Prop := ∀ t ∈ x_aoT, (Cond.arrayOver t).before #[] U = true
theorem x_ao_moved {u U : State} (hvm : u.vm.Alike U.vm) (h : x_ao u) : x_ao U := by
  intro t ht
  have h1 := h t ht
  have h2 : (Cond.arrayOver t).before #[] (u.setVm U.vm) = true := by rw [Cond.arrayOver_setVmC hvm]; exact h1
  first | exact va_tabs rfl (rfl : (u.setVm U.vm).vm = U.vm) h2 | (simp only [Cond.before, Cond.holds, Cond.value, State.setVm] at h2 ⊢; exact h2)
/-- a text that is thrown with: the class that names it, its place there, the text -/
abbrev x_TX : Type := String × Nat × String
def x_isS (w : Cond) : Bool := match w with
  | .stringRef .. => true
  | _ => false
def x_txs (U : State) : Prop := ∀ (own : String) (k : Nat) (tx : String), Cond.stringRef own k tx ∈ lw_tbl → ∃ a, vk_R own k tx a U
/-- the words that are read letter by letter: the class, the place there, the text, its bytes -/
def x_wd : List (String × Nat × String × List Int32) := [("GridEngine$TrackText", 77, " ", [32]), ("GridEngine$TrackText", 95, "repeat", [114, 101, 112, 101, 97, 116]), ("GridEngine$TrackText", 97, "(", [40]), ("GridEngine$TrackText", 102, ",", [44]), ("GridEngine$TrackText", 132, "auto", [97, 117, 116, 111]), ("GridEngine$TrackText", 140, "fit(", [102, 105, 116, 40]), ("GridEngine$TrackText", 142, ")", [41]), ("GridEngine$TrackText", 147, "fr", [102, 114]), ("GridEngine$TrackText", 152, "max(", [109, 97, 120, 40]), ("GridEngine$TrackText", 160, "m", [109]), ("GridEngine$TrackText", 162, "in", [105, 110]), ("GridEngine$TrackText", 164, "ax", [97, 120]), ("GridEngineModel", 169, "fr", [102, 114]), ("GridEngineModel", 185, "auto", [97, 117, 116, 111]), ("GridEngineModel", 187, "ax", [97, 120]), ("GridEngineModel", 189, "in", [105, 110]), ("GridEngineModel", 195, "fit(", [102, 105, 116, 40]), ("GridEngineModel", 200, "max(", [109, 97, 120, 40]), ("GridEngineModel", 205, "repeat", [114, 101, 112, 101, 97, 116])]
/-- text i lies at xa (1000000 + 1 + i), its bytes at the place 500 behind -/
def x_wds (E : XE) (U : State) (H : Heap) : Prop := ∀ (i : Nat) (q : String × Nat × String × List Int32), x_wd[i]? = some q → vk_R q.1 q.2.1 q.2.2.1 (E.2.2.2.2.1 (1 + i)) U ∧ va_O "java/lang/String" (E.2.2.2.2.1 (1 + i)) (x_A E) U H ∧ va_OF "java/lang/String" "coder" "B" (.int 0) (E.2.2.2.2.1 (1 + i)) (x_A E) U H ∧
  va_OF "java/lang/String" "value" "[B" (.ref (E.2.2.2.2.1 (501 + i))) (E.2.2.2.2.1 (1 + i)) (x_A E) U H ∧ va_T .byte (E.2.2.2.2.1 (501 + i)) q.2.2.2.length (fun j => .int (q.2.2.2.getD j 0)) (x_A E) U H
def x_xs : List String := ["java/lang/IllegalStateException", "java/lang/IllegalArgumentException", "java/lang/IndexOutOfBoundsException", "java/util/NoSuchElementException"]
def x_ncs (U : State) : Prop := ∀ a ∈ x_xs, ∀ b ∈ x_xs, a ≠ b → va_Nc a b U
def x_K (E : XE) (U : State) (H : Heap) : Prop :=
  va_K (E.2.1, E.2.2.1) vwCl (x_tys E) U ∧ (∀ w ∈ x_nw, va_Nw w U) ∧ x_ao U ∧ vx_Zq Bundle.tN "UNASSIGNED_STACK" Bundle.steD (x_A E) U H ∧ vx_Zq Bundle.tN "SUPPRESSED_SENTINEL" Bundle.listD (x_A E) U H ∧ x_txs U ∧ x_wds E U H ∧
  (va_X (E.2.2.2.2.1 0) E.2.2.2.2.2.1 E.2.2.2.2.2.2 U H ∧ E.2.2.2.2.1 0 < E.1) ∧ (va_Z "java/lang/String" "COMPACT_STRINGS" "Z" (.int 1) (x_A E) U H ∧ va_Zq "jdk/internal/util/Preconditions" "SIOOBE_FORMATTER" "Ljava/util/function/BiFunction;" (x_A E) U H ∧ x_ncs U)
theorem x_K.kept {E : XE} {U : State} {H H1 : Heap} (h : x_K E U H) (hs : E.1 ≤ H.size) (hq : ∀ a : Nat, a < H.size → ¬ x_A E a → H1[a]? = H[a]?) : x_K E U H1 := by
  obtain ⟨h1, h2, h3, h4, h5, h6, h7, ⟨h8, h9⟩, h10, h11, h12⟩ := h
  refine ⟨h1, h2, h3, h4.kept hq, h5.kept hq, h6, fun i q hi => ?_, ⟨va_X.kept h8 (hq _ (by omega) (by show ¬ E.1 ≤ _; omega)), h9⟩, h10.kept hq, h11.kept hq, h12⟩
  obtain ⟨w1, w2, w3, w4, w5⟩ := h7 i q hi
  exact ⟨w1, w2.kept hq, w3.kept hq, w4.kept hq, w5.kept hq⟩
theorem x_K.moved {E : XE} {s U : State} {H : Heap} (hW : s.WarmedH U.vm) (h : x_K E s H) : x_K E U H := by
  obtain ⟨h1, h2, h3, h4, h5, h6, h7, ⟨h8, h9⟩, h10, h11, h12⟩ := h
  refine ⟨va_K.moved hW.alike h1, x_nw_warm hW h2, x_ao_moved hW.alike h3, h4.moved hW.alike, h5.moved hW.alike, fun own k tx hk => ?_, fun i q hi => ?_, ⟨va_X.moved hW.alike h8, h9⟩, h10.moved hW.alike, h11.moved hW.alike, fun a ha b hb hne => (h12 a ha b hb hne).moved hW.alike⟩
  · obtain ⟨a, ha⟩ := h6 own k tx hk
    exact ⟨a, ha.warm hW⟩
  · obtain ⟨w1, w2, w3, w4, w5⟩ := h7 i q hi
    exact ⟨w1.warm hW, w2.moved hW.alike, w3.moved hW.alike, w4.moved hW.alike, w5.moved hW.alike⟩
theorem x_K.same {E : XE} {s U : State} {H : Heap} (hv : U.vm = s.vm) (h : x_K E s H) : x_K E U H := x_K.moved (by rw [hv]; exact State.WarmedH.refl s) h
/-- the world of a call: the heap pictured by h, what is known -/
def x_Pc (E : XE) (vs : List Value) (h : HP) : Array Value → State → Prop := fun v U => v = vs.toArray ∧ x_Rep E h U.heap ∧ x_K E U U.heap ∧ E.1 ≤ U.heap.size
def x_Qc (E : XE) (h' : HP) (o : XO) : Array Value → State → Outcome → State → Prop := fun _ st oc t => o.1 = none ∧ oc = .returned (o.2.map (xw E)) ∧ x_Rep E h' t.heap ∧ va_F (x_A E) st t
def x_Xc (E : XE) (h' : HP) (o : XO) : String → State → State → Prop := fun X st t => o.1 = some X ∧ x_Rep E h' t.heap ∧ va_F (x_A E) st t
theorem x_Pc.blind {E : XE} {vs : List Value} {h : HP} : FrameBlind (x_Pc E vs h) := fun a U g mk q => by
  obtain ⟨q1, q2, q3, q4⟩ := q
  exact ⟨q1, q2, x_K.same (s := U) (H := U.heap) (U := U.calling g mk a) rfl q3, q4⟩
/-- a method's contract: what its function says, the machine does -/
def x_ct (E : XE) (l : Launch) (y : MethodName) (c0 : Cond) (fr lo mc ms : Nat) (vs : List Value) (h : HP) (r : Option XR) : Prop :=
  ∀ z : XR, r = some z → vx_Met l y (c0 :: TG) { frames := fr, cells := mc, slots := ms, locals := lo } (x_Pc E vs h) (x_Qc E z.1 z.2) (x_Xc E z.1 z.2) mc ms (x_A E)
def x_Q (E : XE) (below : List Frame) (args : Array Value) (s : State) (mc ms : Nat) (z : XR) : State → Prop := vx_MQ below (x_Qc E z.1 z.2) (x_Xc E z.1 z.2) args s mc ms (x_A E)
/-- what stands all through a method -/
def x_C (E : XE) (p : Program) (l : Launch) (s : State) (m : MethodId) (meth : Method) (c : Code) (args : Array Value) (cc : ByteArray) (nL : Nat) (own nm : String) (rt : Option FieldType) : Prop :=
  p.tables.exec = Jvm.exec ∧ c.code = cc ∧ c.maxLocals = nL ∧ s.vm.findClass own = some m.cls ∧ (∀ w ∈ TG, w.before args s = true) ∧ x_K E s s.heap ∧ E.1 ≤ s.heap.size ∧ l.stackTraces = false ∧ meth.locks = false ∧ meth.sig.returnType = rt ∧ meth.name = nm
theorem x_goodIn {c0 c1 : Cond} (h : c1 ∈ TG) : GoodIn (c0 :: TG) (c1 :: TG) := by
  have good : ∀ w ∈ TG, w ∈ (c0 :: TG) ∧ ((w.onTables && w.keeps) = true ∨ ∃ ty, w = .arrayClass ty) := fun w hw => ⟨List.mem_cons_of_mem _ hw, good_of_word (TG_good hw).2⟩
  intro w hw
  rcases List.mem_cons.mp hw with rfl | hw
  · exact good _ h
  · exact good _ hw
/-- a method's contract out of the walk of its body -/
theorem x_ofW {E : XE} {l : Launch} {y : MethodName} {cc : ByteArray} {maxL fr lo mc ms : Nat} {ret : Option FieldType} {vs : List Value} {h : HP} {r : Option XR} (hl : l.stackTraces = false) (hy : plainFor y = true)
    (body : ∀ (z : XR), r = some z → ∀ (p : Program) (e : Env) (s : State) (m : MethodId) (args : Array Value) (below : List Frame) (meth : Method) (c : Code), x_C E p l s m meth c args cc maxL y.cls y.name ret → (∀ x ∈ c.exceptionTable.toList, False) → args = vs.toArray → x_Rep E h s.heap →
      W p l e { frames := fr, cells := mc, slots := ms, locals := lo } s m args below meth c s.heap [] 0 0 (x_Q E below args s mc ms z) (entryFrame m args maxL)) :
    x_ct E l y (Cond.code y cc maxL ret) fr lo mc ms vs h r := by
  intro z hz
  refine MetFree.of_bodySF (code := cc) (maxLocals := maxL) (ret := ret) hy ?_ ?_
  · intro args s m h hn
    obtain ⟨meth, c, h1, h2, h3, h4, h5, h6, -, -⟩ := Cond.code_spec hn (atoms_spec (ws := Cond.code y cc maxL ret :: TG) h _ List.mem_cons_self)
    exact ⟨meth, c, h1, h2, h3, h4, h5, h6⟩
  · intro p e s m args below meth c s₁ B hml hP _
    have hh0 : s₁.heap = s.heap := by rw [B.state]; rfl
    have ht : ∀ x ∈ c.exceptionTable.toList, False := by
      obtain ⟨meth9, c9, h1, h2, -, -, -, -, h7, -⟩ := Cond.code_spec B.named (atoms_spec (ws := Cond.code y cc maxL ret :: TG) B.pre _ List.mem_cons_self)
      cases Option.some.inj (h1.symm.trans B.method)
      cases Option.some.inj (h2.symm.trans (Stand.of_body B).code)
      intro x hx
      rw [Array.isEmpty_iff.mp h7] at hx
      cases hx
    obtain ⟨h1, h2, h3, h4⟩ := hP
    obtain ⟨t, a1, o, b1, b2, b3⟩ := body z hz p e s m args below meth c ⟨B.exec, B.bytes, hml, findClass_of_methodNamed B.named, fun w hw => atoms_spec (ws := Cond.code y cc maxL ret :: TG) B.pre w (List.mem_cons_of_mem _ hw), h3, h4, hl, B.notSynchronized, B.returns, (name_of_methodNamed B.named B.method).1⟩ ht h1 h2 s₁ hh0 (Stand.of_body B)
    exact ⟨t, o, a1, b1, b2, b3⟩

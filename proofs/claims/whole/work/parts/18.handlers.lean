/-! ===== methods with handlers ===== -/
def x_try (r : Option XR) (hs : List (String × Int32)) (f : HP → Int32 → Option XR) : Option XR := match r with
  | some (h, (none, some (.int v))) => f h v
  | some (h, (some X, _)) => (match hs.lookup X with | some k => some (h, xi k) | none => none)
  | _ => none
theorem x_try_el2 {r : Option XR} {E1 E2 : String} {k1 k2 : Int32} {f : HP → Int32 → Option XR} {z : XR} (h : x_try r [(E1, k1), (E2, k2)] f = some z) : (∃ h' v, r = some (h', (none, some (.int v))) ∧ f h' v = some z) ∨ (∃ h' w, r = some (h', (some E1, w)) ∧ some (h', xi k1) = some z) ∨ (∃ h' w, r = some (h', (some E2, w)) ∧ some (h', xi k2) = some z) := by
  unfold x_try at h
  split at h
  · exact Or.inl ⟨_, _, rfl, h⟩
  · next h9 X w =>
    by_cases e1 : X = E1
    · subst e1
      simp only [List.lookup, beq_self_eq_true] at h
      exact Or.inr (Or.inl ⟨_, _, rfl, h⟩)
    · by_cases e2 : X = E2
      · subst e2
        have e3 : (X == E1) = false := beq_eq_false_iff_ne.mpr e1
        simp only [List.lookup, e3, beq_self_eq_true] at h
        exact Or.inr (Or.inr ⟨_, _, rfl, h⟩)
      · have e3 : (X == E1) = false := beq_eq_false_iff_ne.mpr e1
        have e4 : (X == E2) = false := beq_eq_false_iff_ne.mpr e2
        simp only [List.lookup, e3, e4] at h
        cases h
  · cases h
theorem x_try_el1 {r : Option XR} {E1 : String} {k1 : Int32} {f : HP → Int32 → Option XR} {z : XR} (h : x_try r [(E1, k1)] f = some z) : (∃ h' v, r = some (h', (none, some (.int v))) ∧ f h' v = some z) ∨ (∃ h' w, r = some (h', (some E1, w)) ∧ some (h', xi k1) = some z) := by
  unfold x_try at h
  split at h
  · exact Or.inl ⟨_, _, rfl, h⟩
  · next h9 X w =>
    by_cases e1 : X = E1
    · subst e1
      simp only [List.lookup, beq_self_eq_true] at h
      exact Or.inr ⟨_, _, rfl, h⟩
    · have e3 : (X == E1) = false := beq_eq_false_iff_ne.mpr e1
      simp only [List.lookup, e3] at h
      cases h
  · cases h
theorem x_ofWH {E : XE} {l : Launch} {y : MethodName} {cc : ByteArray} {maxL fr lo mc ms : Nat} {ret : Option FieldType} {hh : List (Nat × Nat × Nat × Nat)} {vs : List Value} {h : HP} {r : Option XR} (hl : l.stackTraces = false) (hy : plainFor y = true)
    (body : ∀ (z : XR), r = some z → ∀ (p : Program) (e : Env) (s : State) (m : MethodId) (args : Array Value) (below : List Frame) (meth : Method) (c : Code), x_C E p l s m meth c args cc maxL y.cls y.name ret → c.exceptionTable.toList = tableOf hh → args = vs.toArray → x_Rep E h s.heap →
      W p l e { frames := fr, cells := mc, slots := ms, locals := lo } s m args below meth c s.heap [] 0 0 (x_Q E below args s mc ms z) (entryFrame m args maxL)) :
    x_ct E l y (Cond.codeWith y cc maxL ret hh) fr lo mc ms vs h r := by
  intro z hz
  refine MetFree.of_bodySF (code := cc) (maxLocals := maxL) (ret := ret) hy ?_ ?_
  · intro args s m h hn
    obtain ⟨m9, meth, c, hn9, h1, h2, h3, h4, -, h5, h6, -⟩ := Cond.codeWith_spec (atoms_spec (ws := Cond.codeWith y cc maxL ret hh :: TG) h _ List.mem_cons_self)
    cases hn.symm.trans hn9
    exact ⟨meth, c, h1, h2, h3, h4, h5, h6⟩
  · intro p e s m args below meth c s₁ B hml hP _
    have hh0 : s₁.heap = s.heap := by rw [B.state]; rfl
    have ht : c.exceptionTable.toList = tableOf hh := vx_table (x := y) B (atoms_spec (ws := Cond.codeWith y cc maxL ret hh :: TG) B.pre _ List.mem_cons_self)
    obtain ⟨h1, h2, h3, h4⟩ := hP
    obtain ⟨t, a1, o, b1, b2, b3⟩ := body z hz p e s m args below meth c ⟨B.exec, B.bytes, hml, findClass_of_methodNamed B.named, fun w hw => atoms_spec (ws := Cond.codeWith y cc maxL ret hh :: TG) B.pre w (List.mem_cons_of_mem _ hw), h3, h4, hl, B.notSynchronized, B.returns, (name_of_methodNamed B.named B.method).1⟩ ht h1 h2 s₁ hh0 (Stand.of_body B)
    exact ⟨t, o, a1, b1, b2, b3⟩
section XH
variable {p : Program} {l : Launch} {e : Env} {R : Room} {s : State} {m : MethodId} {args : Array Value} {below : List Frame} {meth : Method} {c : Code} {H : Heap} {locs : List Loc} {cells slots : Nat} {Q : State → Prop}
variable {cc : ByteArray} {pc nL : Nat} {ls : Array Slot} {rest : List Value} {E : XE} {h : HP} {own nm : String} {rt : Option FieldType} {z : XR}
theorem x_catchA (C0 : x_C E p l s m meth c args cc nL own nm rt) {X9 : String} {ce : Cell} {q9 : Addr} {x : ExceptionTableEntry} {suf : List ExceptionTableEntry} (htab : c.exceptionTable.toList = x :: suf) (hcov : covers x pc = true) (h0 : x.catchType ≠ 0) (w1 : Cond.classLink own x.catchType X9 ∈ TG) (w2 : Cond.castable X9 X9 ∈ x_nw) (g1 : H[q9]? = some ce) (g2 : ce.vm = .none) (g3 : s.vm.findClass X9 = some ce.cls)
    (kk : W p l e R s m args below meth c H locs cells slots Q (F0 m x.handlerPc ls [.ref q9])) : vx_W p l e R s m args below meth c H locs cells slots Q (F0 m pc ls rest) q9 :=
  vx_catch C0.2.2.2.1 [] x suf htab (fun z hz => nomatch hz) hcov h0 (C0.2.2.2.2.1 _ w1) (x_nw_use C0.2.2.2.2.2.1 w2) g1 g2 g3 kk
theorem x_catchB (C0 : x_C E p l s m meth c args cc nL own nm rt) {X9 X8 : String} {ce : Cell} {q9 : Addr} {x y : ExceptionTableEntry} {suf : List ExceptionTableEntry} (htab : c.exceptionTable.toList = y :: x :: suf) (hcov : covers x pc = true) (h0 : x.catchType ≠ 0) (w1 : Cond.classLink own x.catchType X9 ∈ TG) (w2 : Cond.castable X9 X9 ∈ x_nw) (hy0 : y.catchType ≠ 0) (wy : Cond.classLink own y.catchType X8 ∈ TG) (m9 : X9 ∈ x_xs) (m8 : X8 ∈ x_xs) (hne : X9 ≠ X8) (g1 : H[q9]? = some ce) (g2 : ce.vm = .none) (g3 : s.vm.findClass X9 = some ce.cls)
    (kk : W p l e R s m args below meth c H locs cells slots Q (F0 m x.handlerPc ls [.ref q9])) : vx_W p l e R s m args below meth c H locs cells slots Q (F0 m pc ls rest) q9 :=
  vx_catch C0.2.2.2.1 [y] x suf htab (fun z hz => by
    rw [List.mem_singleton] at hz
    subst hz
    exact Or.inr ⟨hy0, X8, C0.2.2.2.2.1 _ wy, C0.2.2.2.2.2.1.2.2.2.2.2.2.2.2.2.2 _ m9 _ m8 hne⟩) hcov h0 (C0.2.2.2.2.1 _ w1) (x_nw_use C0.2.2.2.2.2.1 w2) g1 g2 g3 kk
theorem x_runSX (C0 : x_C E p l s m meth c args cc nL own nm rt) (hR : x_Rep E h H) (hS : va_S (x_A E) s.heap H locs) {y : MethodName} {bytes : ByteArray} {maxL : Nat} {ret : Option FieldType} {hh : List (Nat × Nat × Nat × Nat)} {n : Nat} (hme : x_meW y bytes maxL ret hh n) (w2 : Cond.static y ∈ TG) {index : Nat} (w1 : Cond.methodLink own index y ∈ TG)
    {fr lo mc0 ms0 : Nat} {As : List Value} {r0 : Option XR} (hM : x_ct E l y (Cond.codeWith y bytes maxL ret hh) fr lo mc0 ms0 As h r0) {st0 : List Value} (hst : st0 = As.reverse ++ rest) (hn : As.length = n) (hls : ls.size = nL)
    (hW : (rest.map fun v => v.category).sum ≤ 8) (hdg : decode cc pc = .ok (.invokestatic index, 3)) (hroom : fr + 1 ≤ R.frames ∧ 8 + (maxL + 11) + lo ≤ R.locals) (hcs : cells + mc0 ≤ R.cells ∧ slots + ms0 ≤ R.slots) {z0 : XR} (hr0 : r0 = some z0) :
    vx_Run p l e R s m args below meth c H locs cells slots mc0 ms0 (F0 m pc ls st0) rest (x_Qc E z0.1 z0.2 As.toArray) (x_Xc E z0.1 z0.2) (x_A E) := by
  have hws : ∀ w ∈ (Cond.codeWith y bytes maxL ret hh :: TG), w ∈ TG := fun w hw => by
    rcases List.mem_cons.mp hw with rfl | hw
    · exact hme.1
    · exact hw
  refine vx_runSX (Ts := TG) ⟨C0.1, C0.2.1, C0.2.2.1, C0.2.2.2.1, C0.2.2.2.2.1⟩ (hM _ hr0) ⟨⟨rfl, rfl, hroom.1, hroom.2, fun w hw a' U hW9 => word_at hW9 (good_of_word (TG_good (hws w hw)).2) (C0.2.2.2.2.1 _ (hws w hw)), List.mem_cons_self⟩, C0.2.2.2.2.1 _ hme.1, C0.2.2.2.2.1 _ hme.2.1, ⟨hme.2.2.1, hme.2.2.2.1⟩, fun sig h9 => ?_, C0.2.2.2.2.1 _ w1, C0.2.2.2.2.1 _ w2⟩ (x_callee C0 hR hS (vs := As)) rfl hn hls hst (lv_room hW) hdg hcs
  have h8 := hme.2.2.2.2
  rw [h9] at h8
  exact (Option.some.inj h8).symm
end XH

/-! throw new java.util.NoSuchElementException(text): its constructor reaches its superclass by entry 13 of its own table; the order of steps is the library's (BundleOwnThrow), its exception's own first pass (F29a's words) -/
def x_n13 : ByteArray := ⟨#[0x2a, 0x2b, 0xb7, 0x00, 0x0d, 0xb1]⟩
abbrev x_NS : String := "java/util/NoSuchElementException"
abbrev x_NN : List String := ["java/lang/RuntimeException", "java/lang/Exception"]
def x_atN (own : String) (ic : Nat) : List Cond := (Bundle.ownAtomsX own ic x_NS 13 x_n13 x_NN).filter vx_no
def x_thwN (own : String) (ic : Nat) : Prop := ∀ w ∈ x_atN own ic, vx_ot w = true ∧ (w ∈ TG ∨ w ∈ x_nw)
section XT
variable {p : Program} {l : Launch} {e : Env} {R : Room} {s : State} {m : MethodId} {args : Array Value} {below : List Frame} {meth : Method} {c : Code} {H : Heap} {locs : List Loc} {cells slots : Nat} {Q : State → Prop}
variable {cc : ByteArray} {pc nL : Nat} {ls : Array Slot} {rest : List Value} {E : XE} {h : HP} {own nm : String} {rt : Option FieldType} {z : XR}
set_option maxHeartbeats 2000000 in
theorem x_ctorN {Wd : State} (X : Stand p l e R s m args below meth c Wd [] cells slots) (hexec : p.tables.exec = Jvm.exec) (htr : e.platform.stackTraces = false) {ic : Nat} (hown : s.vm.findClass own = some m.cls) (hh : ∀ a ∈ Bundle.ownAtomsX own ic x_NS 13 x_n13 x_NN, a.before args s = true)
    {a : Addr} {cX : ClassId} {kX : Class} (hfoundX : s.vm.findClass x_NS = some cX) (hkX : s.vm.classes[cX]? = some kX) (hcell : Wd.heap[a]? = some (freshCell cX kX)) (hnew : s.heap.size ≤ a) {sa : Nat}
    {g : JFrame} (hg : g.method = m) (hsize : g.locals.size = c.maxLocals) (hlocked : g.locked = none) (hentered : g.entered = []) {rest : List Value} (hstack : g.stack = .ref sa :: .ref a :: .ref a :: rest)
    (hd6 : decode c.code g.pc = .ok (.invokespecial ic, 3)) (hd9 : decode c.code (g.pc + 3) = .ok (.athrow, 1)) (hout : ∀ x ∈ c.exceptionTable.toList, covers x (g.pc + 3) = false)
    (hRframes : 5 < R.frames) (hRlocals : 2 * g.monitorRoom + ((Value.ref a :: rest).map fun v => v.category).sum + 81 ≤ R.locals) (hlocks : meth.locks = false) :
    ∃ U : State, Steps p.tables e below (Wd.setTop g) U ∧ U.status = .running ∧ Ended U below (.threw a) ∧ s.WarmedH U.vm ∧ s.sameButNew ({ U with vm := s.vm } : State) [] cells slots ∧
      ∃ ce, U.heap[a]? = some ce ∧ ce.cls = cX ∧ ce.vm = .none := by
  have hpl : e.platform.magicAccessors = ({} : Platform).magicAccessors := by rw [X.admits.platform]
  have at' : ∀ w, w ∈ Bundle.ownAtomsX own ic x_NS 13 x_n13 x_NN → w.holds args s none s [] = true := fun w hw => hh w hw
  have hfitX : Bundle.fit x_NS = true := by decide +kernel
  obtain ⟨T, Z0, L, -, Y⟩ := ThrowableC.of_atoms (args := args) (s := s) (by rw [X.admits.platform]) (by rw [X.admits.platform]) hpl (fun w hw => hh w (by simp [Bundle.ownAtomsX, hw]))
  obtain ⟨Z, M, LZ, LM, hnZ⟩ := Init0T.ofS_atoms (args := args) hpl L Y (fun w hw => hh w (by simp [Bundle.ownAtomsX, hw]))
  obtain ⟨P1, Ps, hlen, L1, hL, hP1m, hlink1, hlink⟩ := Bundle.chainSX (args := args) hpl hnZ (ix := 13) (rx := x_n13) (by decide +kernel) (by decide +kernel) (by decide +kernel) (by decide +kernel) x_NN x_NS hfitX (by decide +kernel) (fun w hw => hh w (by simp only [Bundle.ownAtomsX, List.mem_append]; exact Or.inl (Or.inr hw)))
  have hfound : s.vm.findClass x_NS = some P1.m.cls := findClass_of_methodNamed hP1m
  cases Option.some.inj (hfoundX.symm.trans hfound)
  obtain ⟨c1, kX', hc1, hk, hord, -, -, hn6⟩ := Cond.instantiable_spec (at' (.instantiable x_NS 6) (by simp [Bundle.ownAtomsX]))
  cases Option.some.inj (hc1.symm.trans hfound)
  cases Option.some.inj (hkX.symm.trans hk)
  have hsel : ∀ {y : MethodName} {t : MethodId}, (Cond.selects x_NS y y).holds args s none s [] = true → s.methodNamed? y = some t → (y.cls ≠ "java/lang/invoke/MethodHandle" ∧ y.cls ≠ "java/lang/invoke/VarHandle") → selectMethod e.platform s.vm P1.m.cls t = .method t := by
    intro y t hm hy hni
    obtain ⟨c2, r2, m2, q1, q2, q3, q4, -⟩ := Cond.selects_spec hm
    cases Option.some.inj (q1.symm.trans hfound)
    cases Option.some.inj (q2.symm.trans (State.methodFound?_of_named hy hni))
    cases Option.some.inj (q3.symm.trans hy)
    rw [Launch.admits_selectMethod X.admits]
    exact q4
  have hsel0 := hsel (at' (.selects x_NS Bundle.tFill0 Bundle.tFill0) (by simp [Bundle.ownAtomsX])) Y.fill0 (by decide)
  have hselF := hsel (at' (.selects x_NS Bundle.tFill Bundle.tFill) (by simp [Bundle.ownAtomsX])) Y.fill (by decide)
  obtain ⟨cS0, hcS0, hiss⟩ := Y.statics
  obtain ⟨u0, hu0⟩ := Cond.staticRefV Y.unassigned L.unassignedStatic L.statics hcS0 hiss (at' (.isRef (.static Bundle.tN "UNASSIGNED_STACK" Bundle.steD)) (by simp [Bundle.ownAtomsX]))
  obtain ⟨sen, hsen⟩ := Cond.staticRefV Y.sentinel L.sentinelStatic L.statics hcS0 hiss (at' (.isRef (.static Bundle.tN "SUPPRESSED_SENTINEL" Bundle.listD)) (by simp [Bundle.ownAtomsX]))
  obtain ⟨ci198, i198, fB, hk198, hg198, ha198, hsB, -, hnB, htB, hffB⟩ := Cond.ownField (t := .object "java/lang/Object") Y.found L.cls (by decide +kernel) (at' (.fieldLink Bundle.tN 198 Bundle.tN "backtrace" "Ljava/lang/Object;") (by simp [Bundle.ownAtomsX])) (at' (.lays Bundle.tN Bundle.tN "backtrace" "Ljava/lang/Object;") (by simp [Bundle.ownAtomsX])) e.platform hpl
  obtain ⟨cS, hcS', heS, -, hkeep⟩ := X.same.2.2.2.2.2 T.aS cS0 hcS0
  have hcS : Wd.heap[T.aS]? = some cS := hcS'
  have hout' : ∀ i, (⟨T.aS, i⟩ : Loc) ∉ ([] : List Loc) := fun i hmem => by cases hmem
  have hknown : cS.vm ≠ .unknown := by
    rw [heS]
    intro hu
    rw [show cS0.vm = .unknown from hu] at hiss
    cases hiss
  have hne : T.aS ≠ a := Nat.ne_of_lt (Nat.lt_of_lt_of_le (Array.getElem?_eq_some_iff.mp hcS0).1 hnew)
  obtain ⟨iM, hffM⟩ := Y.msg
  obtain ⟨tyC, dC, hdC, hdnC⟩ := Cond.laysAt hfound hk Y.cause (at' (.lays x_NS Bundle.tN "cause" "Ljava/lang/Throwable;") (by simp [Bundle.ownAtomsX]))
  obtain ⟨tyS, dS, hdS, hdnS⟩ := Cond.laysAt hfound hk Y.stack (at' (.lays x_NS Bundle.tN "stackTrace" Bundle.steD) (by simp [Bundle.ownAtomsX]))
  obtain ⟨tyP, dP, hdP, hdnP⟩ := Cond.laysAt hfound hk Y.supp (at' (.lays x_NS Bundle.tN "suppressedExceptions" Bundle.listD) (by simp [Bundle.ownAtomsX]))
  obtain ⟨tyM, dM, hdM, hdnM⟩ := Cond.laysAt hfound hk hffM (at' (.lays x_NS Bundle.tN "detailMessage" "Ljava/lang/String;") (by simp [Bundle.ownAtomsX]))
  obtain ⟨tyB, dB, hdB, hdnB⟩ := Cond.laysAt hfound hk hffB (at' (.lays x_NS Bundle.tN "backtrace" "Ljava/lang/Object;") (by simp [Bundle.ownAtomsX]))
  have bC := Cond.laysApart hdB hdC hdnB hdnC (by rw [hnB, Y.causeName]; decide)
  have bS := Cond.laysApart hdB hdS hdnB hdnS (by rw [hnB, Y.stackName]; decide)
  have bP := Cond.laysApart hdB hdP hdnB hdnP (by rw [hnB, Y.suppName]; decide)
  have hskip : SkipFacts T e.platform s (fun u => u) u0 ((preparedCellV T.toThrowableT (freshCell P1.m.cls kX) a u0 sen).withEntry Wd.cur) :=
    ⟨{ ci198 := ci198, i198 := i198, fBack := fB }, ⟨hk198, hg198, ha198, hsB⟩, by
      have hfd := fresh_default (c := P1.m.cls) tyB
      rw [htB] at hfd
      simpa [preparedCellV, Cell.setSlot, Cell.withEntry, Array.getElem?_setIfInBounds, bC, bS, bP, bC.symm, bS.symm, bP.symm, defaultValue] using hfd, fun _ _ => rfl⟩
  have hmsg : (Value.ref sa).isRef = true := rfl
  obtain ⟨tm, methC, cdC, kC, vm₁, hnC, -, -, -, -, -, -, -, hW₁, st1⟩ := Steps.initColdS (tb := p.tables) (e := e) (below := below) (s := s) (U := Wd) X.here hexec X.warmed hpl hown (t := Bundle.initS x_NS) rfl rfl (Bundle.fit_spec hfitX).2
    (at' (.methodLink own ic (Bundle.initS x_NS)) (by simp [Bundle.ownAtomsX])) (hh (.instanceMethod (Bundle.initS x_NS)) (by simp [Bundle.ownAtomsX, Bundle.chainSAtomsX, Bundle.passSAtoms])) (bytes := x_n13) (maxL := 2) (hh (.code (Bundle.initS x_NS) x_n13 2 none) (by simp [Bundle.ownAtomsX, Bundle.chainSAtomsX, Bundle.passSAtoms]))
    (f := g) hg (a := a) (msg := .ref sa) (rest := .ref a :: rest) hstack hd6
  cases Option.some.inj (hnC.symm.trans hP1m)
  have X₁ := X.noted hW₁
  obtain ⟨vm₂, X₂, st2⟩ := X₁.ctorMessageOffV hexec (g := { g with stack := .ref a :: rest }) hg hsize T L Z LZ M LM (P1 :: Ps)
    (fun P hP => by rcases List.mem_cons.mp hP with rfl | hP; exact L1; exact hL P hP) ⟨hlink1, hlink⟩ (u0 := u0) (sen := sen) (self := a) hmsg (cell := freshCell P1.m.cls kX) (cellS := cS)
    hcell (fun _ => by simp) (by simp) rfl rfl hsel0 hselF hcS hne hknown (by rw [hkeep _ (hout' _)]; exact hu0) (by rw [hkeep _ (hout' _)]; exact hsen)
    (Takes.of_laid hk hord tyC (by rw [Y.causeType]; rfl)) (Takes.of_laid hk hord tyS (by rw [Y.stackType]; exact fits_refV_array _ u0)) (Takes.of_laid hk hord tyP (by rw [Y.suppType]; exact fits_refV_object _ sen))
    (Takes.of_laid hk hord tyM (by rw [Y.msgType]; exact fits_refV_object _ ⟨.ref sa, hmsg⟩)) Y.objLocals hskip htr [] hd6
    (by simp only [List.length_cons, hlen]; exact hRframes) (by simp only [List.length_cons, hlen]; exact hRlocals)
  obtain ⟨hwalk, hrun, hended, hWU, hsame⟩ := X₂.athrowLeaves hexec (g := { g with stack := .ref a :: rest, pc := g.pc + 3 }) hg hlocked hentered hout (a := a) (rest := rest) rfl hd9
  have hlt : a < ((Wd.setVm vm₁).setVm vm₂).heap.size := (Array.getElem?_eq_some_iff.mp hcell).1
  have hU := heapAt_setCell_self (s := (Wd.setVm vm₁).setVm vm₂) (plainBareV T.toThrowableT (freshCell P1.m.cls kX) a u0 sen (.ref sa)) hlt
  refine ⟨_, st1 _ (fun acts => ?_), hrun, hended, hWU, hsame.weaken (fun y hy hlt' => ?_) (Nat.le_refl _) (Nat.le_refl _), _, hU, rfl, rfl⟩
  · rw [doInvoke_state]
    exact st2 _ hwalk
  · exfalso
    have hb : y.base = a := by
      simp only [List.nil_append, List.mem_cons, List.not_mem_nil, or_false] at hy
      rcases hy with rfl | rfl | rfl | rfl | rfl <;> rfl
    rw [hb] at hlt'
    exact Nat.not_lt.mpr hnew hlt'
theorem x_throwN (C0 : x_C E p l s m meth c args cc nL own nm rt) (hxt : ∀ x ∈ c.exceptionTable.toList, False) (hR : x_Rep E h H) (hS : va_S (x_A E) s.heap H locs) {text : String} (hf : some (h_dirty h, xt x_NS) = some z) {ik is ic mc ms : Nat} (w1 : Cond.classLink own ik x_NS ∈ TG) (w2 : Cond.initialized x_NS ∈ TG) (w3 : Cond.stringRef own is text ∈ lw_tbl) (hw : x_thwN own ic) (hls : ls.size = nL)
    (d0 : decode cc pc = .ok (.new ik, 3)) (d3 : decode cc (pc + 3) = .ok (.dup, 1)) (d4 : decode cc (pc + 4) = .ok (.ldc is, 2)) (d6 : decode cc (pc + 6) = .ok (.invokespecial ic, 3)) (d9 : decode cc (pc + 9) = .ok (.athrow, 1))
    (hRf : 5 < R.frames) (hRl : (rest.map fun v => v.category).sum + 82 ≤ R.locals) (hRc : cells + 1 ≤ R.cells) (hRs : slots + 6 ≤ R.slots) (hc : cells + 1 ≤ mc) (hs : slots + 6 ≤ ms) : W p l e R s m args below meth c H locs cells slots (x_Q E below args s mc ms z) (F0 m pc ls rest) := by
  cases hf
  obtain ⟨hexec, hb, hml, hown, hts, hK, -, hl, hlocks, -, -⟩ := C0
  obtain ⟨sa, hstr⟩ := hK.2.2.2.2.2.1 _ _ _ w3
  have hUq := hK.2.2.2.1
  have hNq := hK.2.2.2.2.1
  have hat : ∀ w ∈ x_atN own ic, w.before args s = true := fun w hw9 => by
    rcases (hw w hw9).2 with h1 | h1
    · exact hts _ h1
    · exact x_nw_use hK h1
  intro T hT X
  have htr : e.platform.stackTraces = false := (show e.platform.stackTraces = l.stackTraces by rw [X.admits.platform]).trans hl
  have Y := vx_rebase X (R' := { frames := R.frames, locals := R.locals, cells := 1, slots := 6 }) (Nat.le_refl _) (Nat.le_refl _) hRc hRs
  obtain ⟨s', hA⟩ : ∃ z, z = (T.setVm s.vm).setFrames (.invoking m args :: below) := ⟨_, rfl⟩
  rw [← hA] at Y
  have hvm : s'.vm = s.vm := by rw [hA]; rfl
  have hhp : s'.heap = H := by rw [hA]; exact hT
  have hW0 : s.WarmedH s'.vm := by rw [hvm]; exact State.WarmedH.refl s
  have hat' : ∀ w ∈ x_atN own ic, w.before args s' = true := fun w hw9 => vx_ot_at hW0 hvm.symm (hw w hw9).1 (hat w hw9)
  have hk' : (Cond.classLink own ik x_NS).before args s' = true := vx_ot_at hW0 hvm.symm rfl (hts _ w1)
  have hini' : (Cond.initialized x_NS).before args s' = true := vx_ot_at hW0 hvm.symm rfl (hts _ w2)
  have hU' : vx_Zq Bundle.tN "UNASSIGNED_STACK" Bundle.steD (x_A E) s' s'.heap := by rw [hhp]; exact vx_Zq.moved hW0.alike (hUq.kept hS.2.1)
  have hN' : vx_Zq Bundle.tN "SUPPRESSED_SENTINEL" Bundle.listD (x_A E) s' s'.heap := by rw [hhp]; exact vx_Zq.moved hW0.alike (hNq.kept hS.2.1)
  have hall : ∀ w ∈ Bundle.ownAtomsX own ic x_NS 13 x_n13 x_NN, w.before args s' = true := vx_own hat' (vx_isRefq hU'.1) (vx_isRefq hN'.1) hU'.2.word hN'.2.word
  have hown' : s'.vm.findClass own = some m.cls := by rw [hvm]; exact hown
  obtain ⟨vm₁, cX, kX, hfX, hkX, -, -, X₁, st1⟩ := Y.newCold hexec (own := own) (C := x_NS) (index := ik) (n := 6) hown' hk' (hall _ (by simp [Bundle.ownAtomsX])) hini'
    (g := F0 m pc ls rest) rfl (by rw [hb]; exact d0) (Nat.le_refl _) (Nat.le_refl _)
  generalize hT1 : (T.setVm vm₁).pushCell { cls := cX, slots := kX.instanceTypes.map defaultValue, vm := .none } = T1 at X₁ st1
  have hcat : (Value.ref T.heap.size).category = 1 := rfl
  have hcellA : T1.heap[T.heap.size]? = some (freshCell cX kX) := by rw [← hT1]; exact State.heap_pushCell_size _ _
  have d3' : decode c.code (pc + 3) = .ok (.dup, 1) := by rw [hb]; exact d3
  have d4' : decode c.code (pc + 4) = .ok (.ldc is, 2) := by rw [hb]; exact d4
  have hstr' : vk_R own is text sa s' := vk_R.warm hW0 hstr
  obtain ⟨U, hsteps, hrun, hend, hW, hsame, ce, hce, hcls, hcv⟩ := x_ctorN X₁ hexec htr hown' hall hfX hkX hcellA (by rw [hhp, hT]; exact Nat.le_refl _) (sa := sa)
    (g := { method := m, pc := pc + 6, locals := ls, stack := .ref sa :: .ref T.heap.size :: .ref T.heap.size :: rest, locked := none }) rfl (hls.trans hml.symm) rfl rfl (rest := rest) rfl
    (by rw [hb]; exact d6) (by rw [hb]; exact d9) (fun x hx => (hxt x hx).elim) hRf (by simp only [List.map_cons, List.sum_cons, hcat]; omega) hlocks
  obtain ⟨f1, f2⟩ := vx_frame hsame
  rw [hhp] at f1 f2
  have hWs : s.WarmedH U.vm := State.WarmedH.trans hW0 hW
  have hcl : s.vm.findClass x_NS = some ce.cls := by
    rw [hcls, ← hvm]
    exact hfX
  have hsall : s.sameButNew ({ U with vm := s.vm } : State) locs mc ms := by
    subst hA
    obtain ⟨e1, e2⟩ := hsame
    rw [State.setFrames_setFrames] at e1
    have h2 : (T.setVm s.vm).sameButNew ({ U with vm := s.vm } : State) [] (0 + 1) (0 + 6) := ⟨e1, e2⟩
    have h3 := X.same.trans h2
    rw [List.append_nil] at h3
    exact h3.mono hc hs
  have hq : ∀ q : Nat, q < H.size → U.heap[q]? = H[q]? := fun q hq => f2 q hq (fun z hz => nomatch hz)
  have hx : x_Xc E (h_dirty h) (xt x_NS) x_NS s U := by
    refine ⟨rfl, ⟨fun a kd n ea => ?_, Nat.le_trans hR.2.1 f1, hR.2.2.1, fun h9 => by cases h9⟩, Nat.le_trans hS.1 f1, fun q h1 h2 => (hq q (Nat.lt_of_lt_of_le h1 hS.1)).trans (hS.2.1 q h1 h2)⟩
    have ea' : (h_sh h)[a]? = some (kd, n) := ea
    have hq9 : U.heap[E.1 + a]? = H[E.1 + a]? := hq _ (by have := (x_lt hR ea').1; have := hR.2.1; omega)
    rcases hR.1 a kd n ea' with ⟨r, h1, h2⟩ | ⟨t9, h1, h2, h3, h4⟩
    · exact Or.inl ⟨r, h1, h2.kept hq9⟩
    · exact Or.inr ⟨t9, h1, h2, h3, by rw [hq9]; exact h4⟩
  refine ⟨U, ?_, .threw T.heap.size, hrun, hend, Or.inr ⟨T.heap.size, rfl, x_NS, ce, locs, hx, hce, hcv, hcl, hWs, hsall, fun q hq => hS.2.2 q hq⟩⟩
  refine st1 _ ?_
  show Steps p.tables e below (T1.setTop { method := m, pc := pc + 3, locals := ls, stack := .ref T.heap.size :: rest, locked := none }) _
  jvm_step X₁.here [X₁.here.top, hexec, d3', Value.category]
  exact X₁.ldcString hexec (own := own) (text := text) (index := is) (a := sa) hown' hstr'.1 hstr'.2
    (g := { method := m, pc := pc + 4, locals := ls, stack := .ref T.heap.size :: .ref T.heap.size :: rest, locked := none }) rfl d4' _ hsteps
end XT
theorem x_thN208 : x_thwN "GridEngine" 208 := by unfold x_thwN; decide +kernel
def x_nm (h : HP) (n : Int32) (f : HP → Nat → Option XR) : Option XR := if h.2.2.2.2 = true ∧ (h_sh h).length < 1000 ∧ 0 ≤ n.toInt ∧ n.toInt ≤ 400 then f (h_new h 104 n.toNatClampNeg) (h_sh h).length else none
section XQ
variable {p : Program} {l : Launch} {e : Env} {R : Room} {s : State} {m : MethodId} {args : Array Value} {below : List Frame} {meth : Method} {c : Code} {H : Heap} {locs : List Loc} {cells slots : Nat} {Q : State → Prop}
variable {cc : ByteArray} {pc nL : Nat} {ls : Array Slot} {rest : List Value} {E : XE} {h : HP} {own nm : String} {rt : Option FieldType} {z : XR}
theorem x_newq (C0 : x_C E p l s m meth c args cc nL own nm rt) (hR : x_Rep E h H) (hS : va_S (x_A E) s.heap H locs) {n : Int32} {kf : HP → Nat → Option XR} (hf : x_nm h n kf = some z) {index : Nat} (w1 : Cond.classLink own index "GridEngine$Model" ∈ TG) {N : Nat} (hN : n.toNatClampNeg = N) (hcells : cells + 1 ≤ R.cells) (hslots : slots + N ≤ R.slots) (hdg : decode cc pc = .ok (.anewarray index, 3))
    (kk : ∀ (H1 : Heap) (q : Nat), x_Rep E (h_new h 104 n.toNatClampNeg) H1 → va_S (x_A E) s.heap H1 locs → kf (h_new h 104 n.toNatClampNeg) q = some z → W p l e R s m args below meth c H1 locs (cells + 1) (slots + N) Q (F0 m (pc + 3) ls (.ref (xa E q) :: rest))) : W p l e R s m args below meth c H locs cells slots Q (F0 m pc ls (.int n :: rest)) := by
  obtain ⟨⟨hcl, hlen, h0, h4⟩, hf⟩ := x_if hf
  subst hN
  have hb4 : n.toNatClampNeg ≤ 400 := by
    have : n.toNatClampNeg = n.toInt.toNat := rfl
    omega
  have hover : (Cond.arrayOver (.object "GridEngine$Model")).before args s = true := by
    have h1 := C0.2.2.2.2.2.1.2.2.1 (.object "GridEngine$Model") (by simp [x_aoT])
    exact va_AO.use (va_AO.of h1)
  refine W.anew C0.1 C0.2.1 C0.2.2.2.1 (C0.2.2.2.2.1 _ w1) hover rfl hdg rfl (x_nonneg h0) (by omega) hcells hslots fun cA kA comp f1 f2 f3 f4 => ?_
  generalize hH1 : H.push ({ cls := cA, slots := Array.replicate n.toNatClampNeg .null, vm := .none } : Cell) = H1
  have z1 : H1.size = H.size + 1 := by rw [← hH1, Array.size_push]
  have e1 : H1[H.size]? = some (arrV cA n.toNatClampNeg (fun _ => .null)) := by rw [← hH1, Array.getElem?_push_size, ← arrV_new]
  have o1 : ∀ q : Nat, q < H.size → H1[q]? = H[q]? := fun q hq => by rw [← hH1, Array.getElem?_push, if_neg (Nat.ne_of_lt hq)]
  have ha : H.size = xa E (h_sh h).length := by rw [hR.2.2.2 hcl, xa_lt (by omega)]
  have hcA : cA = E.2.2.2.1 4 := by
    obtain ⟨kA', comp', g1, g2, g3, g4⟩ := (x_tyAt C0.2.2.2.2.2.1 4 (by decide)).2
    first
      | exact Option.some.inj (f1.symm.trans g4)
      | exact Option.some.inj (f4.symm.trans g4)
  show W p l e R s m args below meth c H1 locs (cells + 1) (slots + n.toNatClampNeg) Q (F0 m (pc + 3) ls (.ref H.size :: rest))
  rw [ha]
  refine kk H1 _ (hR.push hcl hlen (Or.inr ⟨4, rfl, by decide, by omega, ?_⟩) z1 o1) (x_grow hS z1 o1) hf
  rw [← hR.2.2.2 hcl, e1, hcA]
  have h9 : ∀ j, Value.null = x_fv E (h_new h 104 n.toNatClampNeg) (h_sh h).length (x_at 4) j := fun j => (x_fv_zero (ty := x_at 4) rfl j).symm
  exact congrArg some (congrArg (arrV _ _) (funext h9))
end XQ

/-- a method that may be called: its code and its class stand in the tables -/
def x_me (y : MethodName) (bytes : ByteArray) (maxL : Nat) (ret : Option FieldType) (n : Nat) : Prop :=
  Cond.code y bytes maxL ret ∈ TG ∧ Cond.initialized y.cls ∈ TG ∧ y.cls ≠ "java/lang/invoke/MethodHandle" ∧ y.cls ≠ "java/lang/invoke/VarHandle" ∧ (parseMethodDescriptor y.desc).map (fun d => d.parameters.length) = some n
section XM
variable {p : Program} {l : Launch} {e : Env} {R : Room} {s : State} {m : MethodId} {args : Array Value} {below : List Frame} {meth : Method} {c : Code} {H : Heap} {locs : List Loc} {cells slots : Nat} {Q : State → Prop}
variable {cc : ByteArray} {pc nL : Nat} {ls : Array Slot} {rest : List Value} {E : XE} {h : HP} {own nm : String} {rt : Option FieldType} {z : XR}
theorem x_callee (C0 : x_C E p l s m meth c args cc nL own nm rt) (hR : x_Rep E h H) (hS : va_S (x_A E) s.heap H locs) {vs : List Value} : FrameBlind (x_Pc E vs h) ∧ ∀ U : State, U.heap = H → s.WarmedH U.vm → x_Pc E vs h vs.toArray U := by
  refine ⟨x_Pc.blind, fun U hU hW => ⟨rfl, by rw [hU]; exact hR, ?_, by rw [hU]; exact Nat.le_trans C0.2.2.2.2.2.2.1 hS.1⟩⟩
  rw [hU]
  exact x_K.moved hW (C0.2.2.2.2.2.1.kept C0.2.2.2.2.2.2.1 hS.2.1)
theorem x_cb (C0 : x_C E p l s m meth c args cc nL own nm rt) {y : MethodName} {bytes : ByteArray} {maxL : Nat} {ret : Option FieldType} {n : Nat} (hme : x_me y bytes maxL ret n) {fr lo mc0 ms0 : Nat} (hroom : fr + 1 ≤ R.frames ∧ 8 + (maxL + 11) + lo ≤ R.locals) {index : Nat} (w1 : Cond.methodLink own index y ∈ TG) :
    CallB R s args own index y bytes maxL ret (Cond.code y bytes maxL ret :: TG) { frames := fr, cells := mc0, slots := ms0, locals := lo } mc0 ms0 n :=
  callB_of (Ts := TG) n C0.2.2.2.2.1 (fun w hw => by
    rcases List.mem_cons.mp hw with rfl | hw
    · exact ⟨hme.1, good_of_word (TG_good hme.1).2⟩
    · exact ⟨hw, good_of_word (TG_good hw).2⟩) rfl rfl rfl (C0.2.2.2.2.1 _ hme.2.1) (C0.2.2.2.2.1 _ w1) ⟨hme.2.2.1, hme.2.2.2.1, hme.2.2.2.2⟩ hroom
theorem x_runV (C0 : x_C E p l s m meth c args cc nL own nm rt) (hR : x_Rep E h H) (hS : va_S (x_A E) s.heap H locs) {y : MethodName} {bytes : ByteArray} {maxL : Nat} {ret : Option FieldType} {n : Nat} (hme : x_me y bytes maxL ret n) (w2 : Cond.instanceMethod y ∈ TG) (w3 : Cond.selects y.cls y y ∈ TG) {index : Nat} (w1 : Cond.methodLink own index y ∈ TG)
    {a ci N : Nat} {T : u_T} (hs : (h_sh h)[a]? = some (ci, 0)) (hc : x_cl ci y.cls T N) {fr lo mc0 ms0 : Nat} {As : List Value} {r0 : Option XR} (hM : x_ct E l y (Cond.code y bytes maxL ret) fr lo mc0 ms0 (.ref (xa E a) :: As) h r0) {st0 : List Value} (hst : st0 = As.reverse ++ .ref (xa E a) :: rest) (hn : As.length = n) (hls : ls.size = nL)
    (hW : (rest.map fun v => v.category).sum ≤ 8) (hdg : decode cc pc = .ok (.invokevirtual index, 3)) (hroom : fr + 1 ≤ R.frames ∧ 8 + (maxL + 11) + lo ≤ R.locals) (hcs : cells + mc0 ≤ R.cells ∧ slots + ms0 ≤ R.slots) {z0 : XR} (hr0 : r0 = some z0) :
    vx_Run p l e R s m args below meth c H locs cells slots mc0 ms0 (F0 m pc ls st0) rest (x_Qc E z0.1 z0.2 (Value.ref (xa E a) :: As).toArray) (x_Xc E z0.1 z0.2) (x_A E) := by
  have cb := x_cb C0 hme (mc0 := mc0) (ms0 := ms0) hroom w1
  obtain ⟨hb1, hb2⟩ := x_callee C0 hR hS (vs := .ref (xa E a) :: As)
  obtain ⟨cell, q1, q2, q3, q4⟩ := x_obj hR hs hc.1
  have hKn := C0.2.2.2.2.2.1.1.1 ci _ hc.1
  exact vx_runV (Ts := TG) ⟨C0.1, C0.2.1, C0.2.2.1, C0.2.2.2.1, C0.2.2.2.2.1⟩ (hM _ hr0) ⟨cb, C0.2.2.2.2.1 _ w2, C0.2.2.2.2.1 _ w3⟩ ⟨hb1, ⟨cell, q1, by rw [q3]; rfl, by rw [q2]; exact hKn.2.1⟩, hb2⟩ rfl hn hls hst (lv_room hW) hdg hcs
theorem x_runS (C0 : x_C E p l s m meth c args cc nL own nm rt) (hR : x_Rep E h H) (hS : va_S (x_A E) s.heap H locs) {y : MethodName} {bytes : ByteArray} {maxL : Nat} {ret : Option FieldType} {n : Nat} (hme : x_me y bytes maxL ret n) (w2 : Cond.static y ∈ TG) {index : Nat} (w1 : Cond.methodLink own index y ∈ TG)
    {fr lo mc0 ms0 : Nat} {As : List Value} {r0 : Option XR} (hM : x_ct E l y (Cond.code y bytes maxL ret) fr lo mc0 ms0 As h r0) {st0 : List Value} (hst : st0 = As.reverse ++ rest) (hn : As.length = n) (hls : ls.size = nL)
    (hW : (rest.map fun v => v.category).sum ≤ 8) (hdg : decode cc pc = .ok (.invokestatic index, 3)) (hroom : fr + 1 ≤ R.frames ∧ 8 + (maxL + 11) + lo ≤ R.locals) (hcs : cells + mc0 ≤ R.cells ∧ slots + ms0 ≤ R.slots) {z0 : XR} (hr0 : r0 = some z0) :
    vx_Run p l e R s m args below meth c H locs cells slots mc0 ms0 (F0 m pc ls st0) rest (x_Qc E z0.1 z0.2 As.toArray) (x_Xc E z0.1 z0.2) (x_A E) := by
  have cb := x_cb C0 hme (mc0 := mc0) (ms0 := ms0) hroom w1
  exact vx_runS (Ts := TG) ⟨C0.1, C0.2.1, C0.2.2.1, C0.2.2.2.1, C0.2.2.2.2.1⟩ (hM _ hr0) ⟨cb, C0.2.2.2.2.1 _ w2⟩ (x_callee C0 hR hS (vs := As)) rfl hn hls hst (lv_room hW) hdg hcs
theorem x_runI (C0 : x_C E p l s m meth c args cc nL own nm rt) (hR : x_Rep E h H) (hS : va_S (x_A E) s.heap H locs) {y : MethodName} {bytes : ByteArray} {maxL : Nat} {n : Nat} (hme : x_me y bytes maxL none n) (hy1 : y.name = "<init>") (w2 : Cond.instanceMethod y ∈ TG) {index : Nat} (w1 : Cond.methodLink own index y ∈ TG)
    {a : Nat} {fr lo mc0 ms0 : Nat} {As : List Value} {r0 : Option XR} (hM : x_ct E l y (Cond.code y bytes maxL none) fr lo mc0 ms0 (.ref (xa E a) :: As) h r0) {st0 : List Value} (hst : st0 = As.reverse ++ .ref (xa E a) :: rest) (hn : As.length = n) (hls : ls.size = nL)
    (hW : (rest.map fun v => v.category).sum ≤ 8) (hdg : decode cc pc = .ok (.invokespecial index, 3)) (hroom : fr + 1 ≤ R.frames ∧ 8 + (maxL + 11) + lo ≤ R.locals) (hcs : cells + mc0 ≤ R.cells ∧ slots + ms0 ≤ R.slots) {z0 : XR} (hr0 : r0 = some z0) :
    vx_Run p l e R s m args below meth c H locs cells slots mc0 ms0 (F0 m pc ls st0) rest (x_Qc E z0.1 z0.2 (Value.ref (xa E a) :: As).toArray) (x_Xc E z0.1 z0.2) (x_A E) := by
  have cb := x_cb C0 hme (mc0 := mc0) (ms0 := ms0) hroom w1
  exact vx_runI (Ts := TG) ⟨C0.1, C0.2.1, C0.2.2.1, C0.2.2.2.1, C0.2.2.2.2.1⟩ (hM _ hr0) ⟨cb, hy1, C0.2.2.2.2.1 _ w2⟩ (x_callee C0 hR hS (vs := .ref (xa E a) :: As)) rfl hn hls hst (lv_room hW) hdg hcs
theorem x_runIN (C0 : x_C E p l s m meth c args cc nL own nm rt) (hR : x_Rep E h H) (hS : va_S (x_A E) s.heap H locs) {y : MethodName} {bytes : ByteArray} {maxL : Nat} {n : Nat} (hme : x_me y bytes maxL none n) (hy1 : y.name = "<init>") (w2 : Cond.instanceMethod y ∈ TG) {index : Nat} {host : String} (w1 : Cond.methodLinkNest own index y host ∈ x_nw)
    {a : Nat} {fr lo mc0 ms0 : Nat} {As : List Value} {r0 : Option XR} (hM : x_ct E l y (Cond.code y bytes maxL none) fr lo mc0 ms0 (.ref (xa E a) :: As) h r0) {st0 : List Value} (hst : st0 = As.reverse ++ .ref (xa E a) :: rest) (hn : As.length = n) (hls : ls.size = nL)
    (hW : (rest.map fun v => v.category).sum ≤ 8) (hdg : decode cc pc = .ok (.invokespecial index, 3)) (hroom : fr + 1 ≤ R.frames ∧ 8 + (maxL + 11) + lo ≤ R.locals) (hcs : cells + mc0 ≤ R.cells ∧ slots + ms0 ≤ R.slots) {z0 : XR} (hr0 : r0 = some z0) :
    vx_Run p l e R s m args below meth c H locs cells slots mc0 ms0 (F0 m pc ls st0) rest (x_Qc E z0.1 z0.2 (Value.ref (xa E a) :: As).toArray) (x_Xc E z0.1 z0.2) (x_A E) := by
  have cb : va_CN R s args own index y host bytes maxL none (Cond.code y bytes maxL none :: TG) { frames := fr, cells := mc0, slots := ms0, locals := lo } mc0 ms0 n :=
    va_cnB (Ts := TG) n C0.2.2.2.2.1 (fun w hw => by
      rcases List.mem_cons.mp hw with rfl | hw
      · exact ⟨hme.1, good_of_word (TG_good hme.1).2⟩
      · exact ⟨hw, good_of_word (TG_good hw).2⟩) rfl rfl rfl (C0.2.2.2.2.2.1.2.1 _ w1) (C0.2.2.2.2.1 _ hme.2.1) ⟨hme.2.2.1, hme.2.2.2.1, hme.2.2.2.2⟩ hroom
  exact vx_runIN (Ts := TG) ⟨C0.1, C0.2.1, C0.2.2.1, C0.2.2.2.1, C0.2.2.2.2.1⟩ (hM _ hr0) ⟨cb, hy1, C0.2.2.2.2.1 _ w2⟩ (x_callee C0 hR hS (vs := .ref (xa E a) :: As)) rfl hn hls hst (lv_room hW) hdg hcs
/-! behind a call: on with the answer, or out -/
theorem x_thenI (C0 : x_C E p l s m meth c args cc nL own nm rt) (hxt : ∀ x ∈ c.exceptionTable.toList, False) (hS : va_S (x_A E) s.heap H locs) {kf : HP → Int32 → Option XR} {r0 : Option XR} (hf : x_cI r0 kf = some z) {y : Array Value} {mc0 ms0 mc ms : Nat} {st0 : List Value}
    (hr : ∀ z0 : XR, r0 = some z0 → vx_Run p l e R s m args below meth c H locs cells slots mc0 ms0 (F0 m pc ls st0) rest (x_Qc E z0.1 z0.2 y) (x_Xc E z0.1 z0.2) (x_A E)) (hc : cells + mc0 ≤ mc) (hs : slots + ms0 ≤ ms)
    (kk : ∀ (h' : HP) (v : Int32) (H1 : Heap) (locs1 : List Loc), x_Rep E h' H1 → va_S (x_A E) s.heap H1 locs1 → kf h' v = some z → W p l e R s m args below meth c H1 locs1 (cells + mc0) (slots + ms0) (x_Q E below args s mc ms z) (F0 m (pc + 3) ls (.int v :: rest))) : W p l e R s m args below meth c H locs cells slots (x_Q E below args s mc ms z) (F0 m pc ls st0) := by
  rcases x_cI_el hf with ⟨h', v, e0, hf⟩ | ⟨h', X9, w, e0, hz⟩
  · exact x_useI (hr _ e0) hS fun H1 l1 r1 s1 => kk h' v H1 l1 r1 s1 hf
  · exact x_useO C0 hxt (hr _ e0) hS hz hc hs
theorem x_thenJ (C0 : x_C E p l s m meth c args cc nL own nm rt) (hxt : ∀ x ∈ c.exceptionTable.toList, False) (hS : va_S (x_A E) s.heap H locs) {kf : HP → Int64 → Option XR} {r0 : Option XR} (hf : x_cJ r0 kf = some z) {y : Array Value} {mc0 ms0 mc ms : Nat} {st0 : List Value}
    (hr : ∀ z0 : XR, r0 = some z0 → vx_Run p l e R s m args below meth c H locs cells slots mc0 ms0 (F0 m pc ls st0) rest (x_Qc E z0.1 z0.2 y) (x_Xc E z0.1 z0.2) (x_A E)) (hc : cells + mc0 ≤ mc) (hs : slots + ms0 ≤ ms)
    (kk : ∀ (h' : HP) (v : Int64) (H1 : Heap) (locs1 : List Loc), x_Rep E h' H1 → va_S (x_A E) s.heap H1 locs1 → kf h' v = some z → W p l e R s m args below meth c H1 locs1 (cells + mc0) (slots + ms0) (x_Q E below args s mc ms z) (F0 m (pc + 3) ls (.long v :: rest))) : W p l e R s m args below meth c H locs cells slots (x_Q E below args s mc ms z) (F0 m pc ls st0) := by
  rcases x_cJ_el hf with ⟨h', v, e0, hf⟩ | ⟨h', X9, w, e0, hz⟩
  · exact x_useJ (hr _ e0) hS fun H1 l1 r1 s1 => kk h' v H1 l1 r1 s1 hf
  · exact x_useO C0 hxt (hr _ e0) hS hz hc hs
theorem x_thenQ (C0 : x_C E p l s m meth c args cc nL own nm rt) (hxt : ∀ x ∈ c.exceptionTable.toList, False) (hS : va_S (x_A E) s.heap H locs) {kf : HP → Nat → Option XR} {r0 : Option XR} (hf : x_cQ r0 kf = some z) {y : Array Value} {mc0 ms0 mc ms : Nat} {st0 : List Value}
    (hr : ∀ z0 : XR, r0 = some z0 → vx_Run p l e R s m args below meth c H locs cells slots mc0 ms0 (F0 m pc ls st0) rest (x_Qc E z0.1 z0.2 y) (x_Xc E z0.1 z0.2) (x_A E)) (hc : cells + mc0 ≤ mc) (hs : slots + ms0 ≤ ms)
    (kk : ∀ (h' : HP) (v : Nat) (H1 : Heap) (locs1 : List Loc), x_Rep E h' H1 → va_S (x_A E) s.heap H1 locs1 → kf h' v = some z → W p l e R s m args below meth c H1 locs1 (cells + mc0) (slots + ms0) (x_Q E below args s mc ms z) (F0 m (pc + 3) ls (.ref (xa E v) :: rest))) : W p l e R s m args below meth c H locs cells slots (x_Q E below args s mc ms z) (F0 m pc ls st0) := by
  rcases x_cQ_el hf with ⟨h', v, e0, hf⟩ | ⟨h', X9, w, e0, hz⟩
  · exact x_useQ (hr _ e0) hS fun H1 l1 r1 s1 => kk h' v H1 l1 r1 s1 hf
  · exact x_useO C0 hxt (hr _ e0) hS hz hc hs
theorem x_thenV (C0 : x_C E p l s m meth c args cc nL own nm rt) (hxt : ∀ x ∈ c.exceptionTable.toList, False) (hS : va_S (x_A E) s.heap H locs) {kf : HP → Option XR} {r0 : Option XR} (hf : x_cV r0 kf = some z) {y : Array Value} {mc0 ms0 mc ms : Nat} {st0 : List Value}
    (hr : ∀ z0 : XR, r0 = some z0 → vx_Run p l e R s m args below meth c H locs cells slots mc0 ms0 (F0 m pc ls st0) rest (x_Qc E z0.1 z0.2 y) (x_Xc E z0.1 z0.2) (x_A E)) (hc : cells + mc0 ≤ mc) (hs : slots + ms0 ≤ ms)
    (kk : ∀ (h' : HP) (H1 : Heap) (locs1 : List Loc), x_Rep E h' H1 → va_S (x_A E) s.heap H1 locs1 → kf h' = some z → W p l e R s m args below meth c H1 locs1 (cells + mc0) (slots + ms0) (x_Q E below args s mc ms z) (F0 m (pc + 3) ls rest)) : W p l e R s m args below meth c H locs cells slots (x_Q E below args s mc ms z) (F0 m pc ls st0) := by
  rcases x_cV_el hf with ⟨h', e0, hf⟩ | ⟨h', X9, w, e0, hz⟩
  · exact x_useV (hr _ e0) hS fun H1 l1 r1 s1 => kk h' H1 l1 r1 s1 hf
  · exact x_useO C0 hxt (hr _ e0) hS hz hc hs
/-! returns -/
theorem x_iret (C0 : x_C E p l s m meth c args cc nL own nm (some .int)) (hR : x_Rep E h H) (hS : va_S (x_A E) s.heap H locs) {v : Int32} (hf : some (h, xi v) = some z) {mc ms : Nat} (hc : cells ≤ mc) (hs : slots ≤ ms) (hdg : decode cc pc = .ok (.ireturn, 1)) : W p l e R s m args below meth c H locs cells slots (x_Q E below args s mc ms z) (F0 m pc ls [.int v]) := by
  cases hf
  refine W.widen hc hs (vx_ret ?_)
  exact W.iret C0.1 C0.2.1 C0.2.2.2.2.2.2.2.2.2.1 (fun t ht hW => ⟨rfl, rfl, by rw [ht]; exact hR, hS.F ht⟩) hS.2.2 hdg C0.2.2.2.2.2.2.2.2.1
theorem x_zret (C0 : x_C E p l s m meth c args cc nL own nm (some .boolean)) (hR : x_Rep E h H) (hS : va_S (x_A E) s.heap H locs) {v : Int32} (hf : x_rZ h v = some z) {mc ms : Nat} (hc : cells ≤ mc) (hs : slots ≤ ms) (hdg : decode cc pc = .ok (.ireturn, 1)) : W p l e R s m args below meth c H locs cells slots (x_Q E below args s mc ms z) (F0 m pc ls [.int v]) := by
  obtain ⟨h01, hf⟩ := x_if hf
  cases hf
  refine W.widen hc hs (vx_ret ?_)
  exact W.zret C0.1 C0.2.1 C0.2.2.2.2.2.2.2.2.2.1 (by rcases h01 with rfl | rfl <;> first | rfl | decide) (fun t ht hW => ⟨rfl, rfl, by rw [ht]; exact hR, hS.F ht⟩) hS.2.2 hdg C0.2.2.2.2.2.2.2.2.1
theorem x_lret (C0 : x_C E p l s m meth c args cc nL own nm (some .long)) (hR : x_Rep E h H) (hS : va_S (x_A E) s.heap H locs) {v : Int64} (hf : some (h, xj v) = some z) {mc ms : Nat} (hc : cells ≤ mc) (hs : slots ≤ ms) (hdg : decode cc pc = .ok (.lreturn, 1)) : W p l e R s m args below meth c H locs cells slots (x_Q E below args s mc ms z) (F0 m pc ls [.long v]) := by
  cases hf
  refine W.widen hc hs (vx_ret ?_)
  exact W.lret C0.1 C0.2.1 C0.2.2.2.2.2.2.2.2.2.1 (fun t ht hW => ⟨rfl, rfl, by rw [ht]; exact hR, hS.F ht⟩) hS.2.2 hdg C0.2.2.2.2.2.2.2.2.1
theorem x_vret (C0 : x_C E p l s m meth c args cc nL own nm none) (hR : x_Rep E h H) (hS : va_S (x_A E) s.heap H locs) (hf : some (h, xv) = some z) {mc ms : Nat} (hc : cells ≤ mc) (hs : slots ≤ ms) (hdg : decode cc pc = .ok (.return_, 1)) : W p l e R s m args below meth c H locs cells slots (x_Q E below args s mc ms z) (F0 m pc ls []) := by
  cases hf
  refine W.widen hc hs (vx_ret ?_)
  exact W.vret C0.1 C0.2.1 C0.2.2.2.2.2.2.2.2.2.1 (fun t ht hW => ⟨rfl, rfl, by rw [ht]; exact hR, hS.F ht⟩) hS.2.2 hdg C0.2.2.2.2.2.2.2.2.1
theorem x_aret {rt9 : FieldType} (C0 : x_C E p l s m meth c args cc nL own nm (some rt9)) (hrt : (∃ n, rt9 = .object n) ∨ ∃ t, rt9 = .array t) (hR : x_Rep E h H) (hS : va_S (x_A E) s.heap H locs) {v : Nat} (hf : some (h, xq v) = some z) {mc ms : Nat} (hc : cells ≤ mc) (hs : slots ≤ ms) (hdg : decode cc pc = .ok (.areturn, 1)) : W p l e R s m args below meth c H locs cells slots (x_Q E below args s mc ms z) (F0 m pc ls [.ref (xa E v)]) := by
  cases hf
  refine W.widen hc hs (vx_ret ?_)
  exact W.aret C0.1 C0.2.1 C0.2.2.2.2.2.2.2.2.2.1 hrt (Or.inr ⟨_, rfl⟩) (fun t ht hW => ⟨rfl, rfl, by rw [ht]; exact hR, hS.F ht⟩) hS.2.2 hdg C0.2.2.2.2.2.2.2.2.1
/-! throw new X(text) -/
def x_thw (own : String) (ic : Nat) (X : String) : Prop := ∀ w ∈ vx_atS own ic X ["java/lang/RuntimeException", "java/lang/Exception"], vx_ot w = true ∧ (w ∈ TG ∨ w ∈ x_nw)
theorem x_nw_use (hK : x_K E s H) {w : Cond} (h : w ∈ x_nw) : w.before args s = true := by
  have h1 := hK.2.1 w h
  have h2 := (List.mem_filter.mp h).2
  cases w <;> first | (cases h2; done) | exact va_Nw.use rfl h1
theorem x_throw (C0 : x_C E p l s m meth c args cc nL own nm rt) (hxt : ∀ x ∈ c.exceptionTable.toList, False) (hR : x_Rep E h H) (hS : va_S (x_A E) s.heap H locs) {X text : String} (hf : some (h_dirty h, xt X) = some z) {ik is ic mc ms : Nat} (hX : Bundle.fit X = true) (w1 : Cond.classLink own ik X ∈ TG) (w2 : Cond.initialized X ∈ TG) (w3 : Cond.stringRef own is text ∈ lw_tbl) (hw : x_thw own ic X) (hls : ls.size = nL)
    (d0 : decode cc pc = .ok (.new ik, 3)) (d3 : decode cc (pc + 3) = .ok (.dup, 1)) (d4 : decode cc (pc + 4) = .ok (.ldc is, 2)) (d6 : decode cc (pc + 6) = .ok (.invokespecial ic, 3)) (d9 : decode cc (pc + 9) = .ok (.athrow, 1))
    (hRf : 5 < R.frames) (hRl : (rest.map fun v => v.category).sum + 82 ≤ R.locals) (hRc : cells + 1 ≤ R.cells) (hRs : slots + 6 ≤ R.slots) (hc : cells + 1 ≤ mc) (hs : slots + 6 ≤ ms) : W p l e R s m args below meth c H locs cells slots (x_Q E below args s mc ms z) (F0 m pc ls rest) := by
  cases hf
  obtain ⟨sa, hstr⟩ := C0.2.2.2.2.2.1.2.2.2.2.2.1 _ _ _ w3
  refine vx_throwS (names := ["java/lang/RuntimeException", "java/lang/Exception"]) C0.1 C0.2.1 C0.2.2.2.2.2.2.2.1 C0.2.2.2.1 hX (by decide +kernel) (C0.2.2.2.2.1 _ w1) (C0.2.2.2.2.1 _ w2) hstr (fun w hw9 => ?_) (fun w hw9 => ?_) C0.2.2.2.2.2.1.2.2.2.1 C0.2.2.2.2.2.1.2.2.2.2.1 hS (hls.trans C0.2.2.1.symm) d0 d3 d4 d6 d9 (fun x hx => (hxt x hx).elim) hRf hRl hRc hRs C0.2.2.2.2.2.2.2.2.1 (fun t _ hz hq => ⟨rfl, ?_, ?_⟩) (fun q hq => hS.2.2 q hq) hc hs
  · rcases (hw w hw9).2 with h1 | h1
    · exact C0.2.2.2.2.1 _ h1
    · exact x_nw_use C0.2.2.2.2.2.1 h1
  · rcases List.mem_cons.mp hw9 with rfl | hw9
    · rfl
    rcases List.mem_cons.mp hw9 with rfl | hw9
    · rfl
    exact (hw w hw9).1
  · refine ⟨fun a kd n ea => ?_, Nat.le_trans hR.2.1 hz, hR.2.2.1, fun h9 => by cases h9⟩
    have ea' : (h_sh h)[a]? = some (kd, n) := ea
    have hq9 : t.heap[E.1 + a]? = H[E.1 + a]? := hq _ (by have := (x_lt hR ea').1; have := hR.2.1; omega)
    rcases hR.1 a kd n ea' with ⟨r, h1, h2⟩ | ⟨t9, h1, h2, h3, h4⟩
    · exact Or.inl ⟨r, h1, h2.kept hq9⟩
    · exact Or.inr ⟨t9, h1, h2, h3, by rw [hq9]; exact h4⟩
  · exact ⟨Nat.le_trans hS.1 hz, fun q h1 h2 => (hq q (Nat.lt_of_lt_of_le h1 hS.1)).trans (hS.2.1 q h1 h2)⟩
end XM

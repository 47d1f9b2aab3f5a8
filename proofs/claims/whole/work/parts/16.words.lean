/-! ===== String.length and String.charAt of the words ===== -/
def x_wdA (w : Nat) : Option (List Int32) := if 1000001 ≤ w then (x_wd[w - 1000001]?).map (fun q => q.2.2.2) else none
def f_J0_length_8abf5 (h : HP) (w : Nat) : Option XR := match x_wdA w with
  | some bs => some (h, xi (Int32.ofNat bs.length))
  | none => none
def f_J0_charAt_5068e (h : HP) (w : Nat) (i : Int32) : Option XR := match x_wdA w with
  | some bs => if 0 ≤ i.toInt ∧ i.toInt < bs.length then some (h, xi (bs.getD i.toNatClampNeg 0)) else none
  | none => none
theorem x_wd_bytes : ∀ q ∈ x_wd, q.2.2.2.length < 100 ∧ ∀ b ∈ q.2.2.2, ((b &&& 255).toUInt32 % 65536).toInt32 = b ∧ fits .char (.int b) = true := by decide +kernel
theorem x_wdA_el {w : Nat} {bs : List Int32} (h : x_wdA w = some bs) : ∃ (i : Nat) (q : String × Nat × String × List Int32), w = 1000001 + i ∧ x_wd[i]? = some q ∧ q.2.2.2 = bs := by
  unfold x_wdA at h
  obtain ⟨hw, h⟩ := x_if h
  obtain ⟨q, hq, hb⟩ := Option.map_eq_some_iff.mp h
  exact ⟨w - 1000001, q, by omega, hq, hb⟩
section XS
variable {p : Program} {l : Launch} {e : Env} {R : Room} {s : State} {m : MethodId} {args : Array Value} {below : List Frame} {meth : Method} {c : Code} {H : Heap} {locs : List Loc} {cells slots : Nat} {Q : State → Prop}
variable {cc : ByteArray} {pc nL : Nat} {ls : Array Slot} {rest : List Value} {E : XE} {h : HP} {own nm : String} {rt : Option FieldType} {z : XR}
theorem xa_w (i : Nat) : xa E (1000001 + i) = E.2.2.2.2.1 (1 + i) := by
  unfold xa
  rw [if_neg (by omega), show 1000001 + i - 1000000 = 1 + i by omega]
theorem x_zret' {ty : FieldType} (C0 : x_C E p l s m meth c args cc nL own nm (some ty)) (hR : x_Rep E h H) (hS : va_S (x_A E) s.heap H locs) {v : Int32} (hn : narrow ty (.int v) = .int v) (hf : some (h, xi v) = some z) {mc ms : Nat} (hc : cells ≤ mc) (hs : slots ≤ ms) (hdg : decode cc pc = .ok (.ireturn, 1)) : W p l e R s m args below meth c H locs cells slots (x_Q E below args s mc ms z) (F0 m pc ls [.int v]) := by
  cases hf
  refine W.widen hc hs (vx_ret ?_)
  exact W.zret C0.1 C0.2.1 C0.2.2.2.2.2.2.2.2.2.1 hn (fun t ht hW => ⟨rfl, rfl, by rw [ht]; exact hR, hS.F ht⟩) hS.2.2 hdg C0.2.2.2.2.2.2.2.2.1
theorem x_cret (C0 : x_C E p l s m meth c args cc nL own nm (some .char)) (hR : x_Rep E h H) (hS : va_S (x_A E) s.heap H locs) {v : Int32} (hf : x_rC h v = some z) {mc ms : Nat} (hc : cells ≤ mc) (hs : slots ≤ ms) (hdg : decode cc pc = .ok (.ireturn, 1)) : W p l e R s m args below meth c H locs cells slots (x_Q E below args s mc ms z) (F0 m pc ls [.int v]) := by
  obtain ⟨h01, hf⟩ := x_if hf
  exact x_zret' C0 hR hS (narrow_of_fits h01) hf hc hs hdg
theorem x_runVs (C0 : x_C E p l s m meth c args cc nL own nm rt) (hR : x_Rep E h H) (hS : va_S (x_A E) s.heap H locs) {y : MethodName} {bytes : ByteArray} {maxL : Nat} {ret : Option FieldType} {n : Nat} (hme : x_me y bytes maxL ret n) (w2 : Cond.instanceMethod y ∈ TG) (w3 : Cond.selects y.cls y y ∈ TG) {index : Nat} (w1 : Cond.methodLink own index y ∈ TG)
    {w : Nat} {bs : List Int32} (hw : x_wdA w = some bs) (hy : y.cls = "java/lang/String") {fr lo mc0 ms0 : Nat} {As : List Value} {r0 : Option XR} (hM : x_ct E l y (Cond.code y bytes maxL ret) fr lo mc0 ms0 (.ref (xa E w) :: As) h r0) {st0 : List Value} (hst : st0 = As.reverse ++ .ref (xa E w) :: rest) (hn : As.length = n) (hls : ls.size = nL)
    (hW : (rest.map fun v => v.category).sum ≤ 8) (hdg : decode cc pc = .ok (.invokevirtual index, 3)) (hroom : fr + 1 ≤ R.frames ∧ 8 + (maxL + 11) + lo ≤ R.locals) (hcs : cells + mc0 ≤ R.cells ∧ slots + ms0 ≤ R.slots) {z0 : XR} (hr0 : r0 = some z0) :
    vx_Run p l e R s m args below meth c H locs cells slots mc0 ms0 (F0 m pc ls st0) rest (x_Qc E z0.1 z0.2 (Value.ref (xa E w) :: As).toArray) (x_Xc E z0.1 z0.2) (x_A E) := by
  have cb := x_cb C0 hme (mc0 := mc0) (ms0 := ms0) hroom w1
  obtain ⟨hb1, hb2⟩ := x_callee C0 hR hS (vs := .ref (xa E w) :: As)
  obtain ⟨i, q, rfl, hq, -⟩ := x_wdA_el hw
  obtain ⟨-, hO, -⟩ := C0.2.2.2.2.2.1.2.2.2.2.2.2.1 i q hq
  obtain ⟨cell, q1, q2, q3, -⟩ := hO.kept hS.2.1
  exact vx_runV (C := y.cls) (Ts := TG) ⟨C0.1, C0.2.1, C0.2.2.1, C0.2.2.2.1, C0.2.2.2.2.1⟩ (hM _ hr0) ⟨cb, C0.2.2.2.2.1 _ w2, C0.2.2.2.2.1 _ w3⟩ ⟨hb1, ⟨cell, by rw [xa_w]; exact q1, q2, by rw [hy]; exact q3⟩, hb2⟩ rfl hn hls hst (lv_room hW) hdg hcs
theorem x_runLen (C0 : x_C E p l s m meth c args cc nL own nm rt) (hR : x_Rep E h H) (hS : va_S (x_A E) s.heap H locs) {y : MethodName} {bytes : ByteArray} {maxL : Nat} {ret : Option FieldType} {n : Nat} (hme : x_me y bytes maxL ret n) (w2 : Cond.instanceMethod y ∈ TG) (w3 : Cond.selects y.cls y y ∈ TG) {index : Nat} (w1 : Cond.methodLink own index y ∈ TG)
    {w : Nat} (hy : y.cls = "java/lang/String") {fr lo mc0 ms0 : Nat} {As : List Value} (hM : x_ct E l y (Cond.code y bytes maxL ret) fr lo mc0 ms0 (.ref (xa E w) :: As) h (f_J0_length_8abf5 h w)) {st0 : List Value} (hst : st0 = As.reverse ++ .ref (xa E w) :: rest) (hn : As.length = n) (hls : ls.size = nL)
    (hW : (rest.map fun v => v.category).sum ≤ 8) (hdg : decode cc pc = .ok (.invokevirtual index, 3)) (hroom : fr + 1 ≤ R.frames ∧ 8 + (maxL + 11) + lo ≤ R.locals) (hcs : cells + mc0 ≤ R.cells ∧ slots + ms0 ≤ R.slots) {z0 : XR} (hr0 : f_J0_length_8abf5 h w = some z0) :
    vx_Run p l e R s m args below meth c H locs cells slots mc0 ms0 (F0 m pc ls st0) rest (x_Qc E z0.1 z0.2 (Value.ref (xa E w) :: As).toArray) (x_Xc E z0.1 z0.2) (x_A E) := by
  cases hw : x_wdA w with
  | none => unfold f_J0_length_8abf5 at hr0; rw [hw] at hr0; cases hr0
  | some bs => exact x_runVs C0 hR hS hme w2 w3 w1 hw hy hM hst hn hls hW hdg hroom hcs hr0
theorem x_runCh (C0 : x_C E p l s m meth c args cc nL own nm rt) (hR : x_Rep E h H) (hS : va_S (x_A E) s.heap H locs) {y : MethodName} {bytes : ByteArray} {maxL : Nat} {ret : Option FieldType} {n : Nat} (hme : x_me y bytes maxL ret n) (w2 : Cond.instanceMethod y ∈ TG) (w3 : Cond.selects y.cls y y ∈ TG) {index : Nat} (w1 : Cond.methodLink own index y ∈ TG)
    {w : Nat} {i : Int32} (hy : y.cls = "java/lang/String") {fr lo mc0 ms0 : Nat} {As : List Value} (hM : x_ct E l y (Cond.code y bytes maxL ret) fr lo mc0 ms0 (.ref (xa E w) :: As) h (f_J0_charAt_5068e h w i)) {st0 : List Value} (hst : st0 = As.reverse ++ .ref (xa E w) :: rest) (hn : As.length = n) (hls : ls.size = nL)
    (hW : (rest.map fun v => v.category).sum ≤ 8) (hdg : decode cc pc = .ok (.invokevirtual index, 3)) (hroom : fr + 1 ≤ R.frames ∧ 8 + (maxL + 11) + lo ≤ R.locals) (hcs : cells + mc0 ≤ R.cells ∧ slots + ms0 ≤ R.slots) {z0 : XR} (hr0 : f_J0_charAt_5068e h w i = some z0) :
    vx_Run p l e R s m args below meth c H locs cells slots mc0 ms0 (F0 m pc ls st0) rest (x_Qc E z0.1 z0.2 (Value.ref (xa E w) :: As).toArray) (x_Xc E z0.1 z0.2) (x_A E) := by
  cases hw : x_wdA w with
  | none => unfold f_J0_charAt_5068e at hr0; rw [hw] at hr0; cases hr0
  | some bs => exact x_runVs C0 hR hS hme w2 w3 w1 hw hy hM hst hn hls hW hdg hroom hcs hr0
end XS

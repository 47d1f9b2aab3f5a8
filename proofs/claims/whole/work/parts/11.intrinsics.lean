section XI
variable {p : Program} {l : Launch} {e : Env} {R : Room} {s : State} {m : MethodId} {args : Array Value} {below : List Frame} {meth : Method} {c : Code} {H : Heap} {locs : List Loc} {cells slots : Nat} {Q : State → Prop}
variable {cc : ByteArray} {pc nL : Nat} {ls : Array Slot} {rest : List Value} {E : XE} {h : HP} {own nm : String} {rt : Option FieldType} {z : XR}
theorem x_mmax (C0 : x_C E p l s m meth c args cc nL own nm rt) (hls : ls.size = nL) {index : Nat} (w1 : Cond.methodLink own index Lib.Math.max.name ∈ TG) (w2 : Cond.static Lib.Math.max.name ∈ TG ∧ Cond.initialized "java/lang/Math" ∈ TG ∧ Cond.code Lib.Math.max.name Lib.Math.max.code 2 (some .int) ∈ TG) (hf : 1 ≤ R.frames) (hlo : (rest.map fun v => v.category).sum + 13 ≤ R.locals) (hc : cells ≤ R.cells) (hs : slots ≤ R.slots) {x y : Int32} (hdg : decode cc pc = .ok (.invokestatic index, 3))
    (kk : W p l e R s m args below meth c H locs cells slots Q (F0 m (pc + 3) ls (.int (if x < y then y else x) :: rest))) : W p l e R s m args below meth c H locs cells slots Q (F0 m pc ls (.int y :: .int x :: rest)) :=
  va_mmax C0.1 C0.2.1 (C0.2.2.1.trans hls.symm) C0.2.2.2.1 (C0.2.2.2.2.1 _ w1) (C0.2.2.2.2.1 _ w2.1) (C0.2.2.2.2.1 _ w2.2.1) (C0.2.2.2.2.1 _ w2.2.2) hf hlo hc hs hdg kk
theorem x_mmin (C0 : x_C E p l s m meth c args cc nL own nm rt) (hls : ls.size = nL) {index : Nat} (w1 : Cond.methodLink own index Lib.Math.min.name ∈ TG) (w2 : Cond.static Lib.Math.min.name ∈ TG ∧ Cond.initialized "java/lang/Math" ∈ TG ∧ Cond.code Lib.Math.min.name Lib.Math.min.code 2 (some .int) ∈ TG) (hf : 1 ≤ R.frames) (hlo : (rest.map fun v => v.category).sum + 13 ≤ R.locals) (hc : cells ≤ R.cells) (hs : slots ≤ R.slots) {x y : Int32} (hdg : decode cc pc = .ok (.invokestatic index, 3))
    (kk : W p l e R s m args below meth c H locs cells slots Q (F0 m (pc + 3) ls (.int (if y < x then y else x) :: rest))) : W p l e R s m args below meth c H locs cells slots Q (F0 m pc ls (.int y :: .int x :: rest)) :=
  va_mmin C0.1 C0.2.1 (C0.2.2.1.trans hls.symm) C0.2.2.2.1 (C0.2.2.2.2.1 _ w1) (C0.2.2.2.2.1 _ w2.1) (C0.2.2.2.2.1 _ w2.2.1) (C0.2.2.2.2.1 _ w2.2.2) hf hlo hc hs hdg kk
theorem x_oinit (C0 : x_C E p l s m meth c args cc nL own nm rt) (hls : ls.size = nL) {index : Nat} (w1 : Cond.methodLink own index Lib.objectInit ∈ TG) (w2 : Cond.instanceMethod Lib.objectInit ∈ TG ∧ Cond.code Lib.objectInit ⟨#[0xb1]⟩ 1 none ∈ TG) (hf : 1 ≤ R.frames) (hlo : (rest.map fun v => v.category).sum + 12 ≤ R.locals) {a : Addr} (hdg : decode cc pc = .ok (.invokespecial index, 3))
    (kk : W p l e R s m args below meth c H locs cells slots Q (F0 m (pc + 3) ls rest)) : W p l e R s m args below meth c H locs cells slots Q (F0 m pc ls (.ref a :: rest)) :=
  W.objInit C0.1 C0.2.1 C0.2.2.2.1 (C0.2.2.2.2.1 _ w1) (C0.2.2.2.2.1 _ w2.1) (C0.2.2.2.2.1 _ w2.2) rfl (hls.trans C0.2.2.1.symm) rfl hdg hf (by show 2 * 0 + _ + _ ≤ _; omega) kk
theorem x_nonneg {x : Int32} (h : 0 ≤ x.toInt) : ¬ x < 0 := by
  intro q
  rw [Int32.lt_iff_toInt_lt, Int32.toInt_zero] at q
  omega
theorem x_clamp {x : Int32} (h : 0 ≤ x.toInt) : x.toInt = (x.toNatClampNeg : Int) := by
  show x.toInt = ((x.toInt.toNat : Nat) : Int)
  omega
theorem x_acopy (C0 : x_C E p l s m meth c args cc nL own nm rt) (hR : x_Rep E h H) (hS : va_S (x_A E) s.heap H locs) (hls : ls.size = nL) {src dst : Nat} {sp dp n : Int32} {kf : HP → Option XR} (hf : x_cp h src sp dst dp n kf = some z) {index : Nat} (w1 : Cond.methodLink own index arraycopyName ∈ TG) (w2 : Cond.native arraycopyName ∈ TG ∧ Cond.static arraycopyName ∈ TG ∧ Cond.initialized "java/lang/System" ∈ TG)
    (hfr : 1 ≤ R.frames) (hlo : (rest.map fun v => v.category).sum + (nativeFrameWords "java/lang/System" "arraycopy" 5 + 11) ≤ R.locals) (hdg : decode cc pc = .ok (.invokestatic index, 3))
    (kk : ∀ (H1 : Heap) (locs1 : List Loc), x_Rep E (h_cp h src sp.toNatClampNeg dst dp.toNatClampNeg n.toNatClampNeg) H1 → va_S (x_A E) s.heap H1 locs1 → kf (h_cp h src sp.toNatClampNeg dst dp.toNatClampNeg n.toNatClampNeg) = some z → W p l e R s m args below meth c H1 locs1 cells slots Q (F0 m (pc + 3) ls rest)) :
    W p l e R s m args below meth c H locs cells slots Q (F0 m pc ls (.int n :: .int dp :: .ref (xa E dst) :: .int sp :: .ref (xa E src) :: rest)) := by
  obtain ⟨hok, hf⟩ := x_if hf
  unfold x_cpok at hok
  split at hok
  · next k0 n0 k1 n1 e0 e1 =>
    simp only [Bool.and_eq_true, beq_iff_eq, decide_eq_true_eq] at hok
    obtain ⟨⟨rfl, rfl⟩, ⟨⟨⟨h1, h2⟩, h3⟩, h4⟩, h5⟩ := hok
    obtain ⟨-, hn0, hA0⟩ := x_arr (t := 0) hR e0
    obtain ⟨-, hn1, hA1⟩ := x_arr (t := 0) hR e1
    have c1 := x_clamp h1
    have c2 := x_clamp h2
    have c3 := x_clamp h3
    have cm := (x_tyAt C0.2.2.2.2.2.1 0 (by decide)).1
    obtain ⟨-, k0', hk0, cm0, hkk0⟩ := cm n0 (fun j => .int (h.1 src j))
    obtain ⟨-, k1', hk1, cm1, hkk1⟩ := cm n1 (fun j => .int (h.1 dst j))
    intro T hT X
    obtain ⟨vm', X', step⟩ := X.arraycopy C0.1 C0.2.2.2.1 (C0.2.2.2.2.1 _ w1) (C0.2.2.2.2.1 _ w2.1) (C0.2.2.2.2.1 _ w2.2.1) (C0.2.2.2.2.1 _ w2.2.2) (src := xa E src) (dst := xa E dst) (cs := arrV (E.2.2.2.1 0) n0 (fun j => .int (h.1 src j))) (cd := arrV (E.2.2.2.1 0) n1 (fun j => .int (h.1 dst j))) (srcPos := sp) (destPos := dp) (n := n) (by rw [hT]; exact hA0) (by rw [hT]; exact hA1)
      (fun _ h => by cases h) (fun _ h => by cases h) (fun h => by cases h) (fun h => by cases h) hk0 hk1 hkk0 hkk1 (by simp [x_at, refKind]) (x_nonneg h1) (x_nonneg h2) (x_nonneg h3)
      (by rw [arrV_size]; omega) (by rw [arrV_size]; omega)
      (fun vm₁ _ i hi => by
        have e9 : (arrV (E.2.2.2.1 0) n0 (fun j => .int (h.1 src j))).slots.getD (sp.toNatClampNeg + i) .null = .int (h.1 src (sp.toNatClampNeg + i)) := by
          rw [Array.getD_eq_getD_getElem?, arrV_read _ _ (by omega)]
          rfl
        exact ⟨by rw [e9]; rfl, by rw [e9]; exact trivial⟩)
      (g := F0 m pc ls (.int n :: .int dp :: .ref (xa E dst) :: .int sp :: .ref (xa E src) :: rest)) rfl (hls.trans C0.2.2.1.symm) (rest := rest) rfl (by rw [C0.2.1]; exact hdg) hfr (by show 2 * 0 + _ + _ ≤ _; omega)
    have ec : copied (arrV (E.2.2.2.1 0) n0 (fun j => .int (h.1 src j))) (arrV (E.2.2.2.1 0) n1 (fun j => .int (h.1 dst j))) sp dp n = arrV (E.2.2.2.1 0) n1 (fun j => .int (va_cpy (h.1 src) (h.1 dst) sp.toNatClampNeg dp.toNatClampNeg n.toNatClampNeg j)) := va_copied (fun z => .int z) _ _ (h.1 src) (h.1 dst) (by omega)
    rw [ec] at X' step
    have hl : xa E dst < H.size := (Array.getElem?_eq_some_iff.mp hA1).1
    have hlt := x_lt hR e1
    have hAd : x_A E (xa E dst) := by show E.1 ≤ _; rw [hlt.2]; omega
    have oq : ∀ q : Nat, q ≠ xa E dst → (H.setIfInBounds (xa E dst) (arrV (E.2.2.2.1 0) n1 (fun j => .int (va_cpy (h.1 src) (h.1 dst) sp.toNatClampNeg dp.toNatClampNeg n.toNatClampNeg j))))[q]? = H[q]? := fun q hq => by simp [Array.getElem?_setIfInBounds, Ne.symm hq]
    have hR1 : x_Rep E (h_cp h src sp.toNatClampNeg dst dp.toNatClampNeg n.toNatClampNeg) (H.setIfInBounds (xa E dst) (arrV (E.2.2.2.1 0) n1 (fun j => .int (va_cpy (h.1 src) (h.1 dst) sp.toNatClampNeg dp.toNatClampNeg n.toNatClampNeg j)))) := by
      refine hR.put e1 rfl rfl (fun b hb ty j => by cases ty <;> simp [x_fv, h_cp, hb]) (Or.inr ⟨0, rfl, by decide, hn1, ?_⟩) (by simp) oq
      rw [← hlt.2]
      rw [show ∀ v, (H.setIfInBounds (xa E dst) v)[xa E dst]? = some v from fun v => by simp [Array.getElem?_setIfInBounds, hl]]
      refine congrArg some (congrArg (arrV _ _) (funext fun j => ?_))
      simp [x_fv, x_at, h_cp, va_cpy]
    obtain ⟨t, a1, b1⟩ := kk _ _ hR1 ⟨by simp; exact hS.1, fun q g1 g2 => by
        rw [oq q (fun e9 => g2 (by rw [e9]; exact hAd))]
        exact hS.2.1 q g1 g2, fun q hq => by
        rcases List.mem_append.mp hq with h | h
        · exact hS.2.2 q h
        · obtain ⟨z9, -, hz⟩ := List.mem_map.mp h
          rw [← hz]
          exact hAd⟩ hf _ (show _ = _ by rw [← hT]; rfl) X'
    exact ⟨t, step t a1, b1⟩
  · cases hok
theorem x_throwW (C0 : x_C E p l s m meth c args cc nL own nm rt) (hxt : ∀ x ∈ c.exceptionTable.toList, False) (hR : x_Rep E h H) (hS : va_S (x_A E) s.heap H locs) {X text : String} (hf : some (h_dirty h, xt X) = some z) {ik is ic mc ms : Nat} (hX : Bundle.fit X = true) (w1 : Cond.classLink own ik X ∈ TG) (w2 : Cond.initialized X ∈ TG) (w3 : Cond.stringRef own is text ∈ lw_tbl) (hw : x_thw own ic X) (hls : ls.size = nL)
    (d0 : decode cc pc = .ok (.new ik, 3)) (d3 : decode cc (pc + 3) = .ok (.dup, 1)) (d4 : decode cc (pc + 4) = .ok (.ldc_w is, 3)) (d6 : decode cc (pc + 7) = .ok (.invokespecial ic, 3)) (d9 : decode cc (pc + 10) = .ok (.athrow, 1))
    (hRf : 5 < R.frames) (hRl : (rest.map fun v => v.category).sum + 82 ≤ R.locals) (hRc : cells + 1 ≤ R.cells) (hRs : slots + 6 ≤ R.slots) (hc : cells + 1 ≤ mc) (hs : slots + 6 ≤ ms) : W p l e R s m args below meth c H locs cells slots (x_Q E below args s mc ms z) (F0 m pc ls rest) := by
  cases hf
  obtain ⟨sa, hstr⟩ := C0.2.2.2.2.2.1.2.2.2.2.2.1 _ _ _ w3
  refine vx_throwSW (names := ["java/lang/RuntimeException", "java/lang/Exception"]) C0.1 C0.2.1 C0.2.2.2.2.2.2.2.1 C0.2.2.2.1 hX (by decide +kernel) (C0.2.2.2.2.1 _ w1) (C0.2.2.2.2.1 _ w2) hstr (fun w hw9 => ?_) (fun w hw9 => ?_) C0.2.2.2.2.2.1.2.2.2.1 C0.2.2.2.2.2.1.2.2.2.2.1 hS (hls.trans C0.2.2.1.symm) d0 d3 d4 d6 d9 (fun x hx => (hxt x hx).elim) hRf hRl hRc hRs C0.2.2.2.2.2.2.2.2.1 (fun t _ hz hq => ⟨rfl, ?_, ?_⟩) (fun q hq => hS.2.2 q hq) hc hs
  · rcases (hw w hw9).2 with h1 | h1
    · exact C0.2.2.2.2.1 _ h1
    · exact x_nw_use C0.2.2.2.2.2.1 h1
  · rcases List.mem_cons.mp hw9 with rfl | hw9
    · rfl
    rcases List.mem_cons.mp hw9 with rfl | hw9
    · rfl
    exact (hw w hw9).1
  · refine ⟨fun a kd n ea => ?_, Nat.le_trans hR.2.1 hz, hR.2.2.1, fun h9 => by cases h9⟩
    have ea' : (h_sh h)[a]? = some (kd, n) := ea
    have hq9 : t.heap[E.1 + a]? = H[E.1 + a]? := hq _ (by have := (x_lt hR ea').1; have := hR.2.1; omega)
    rcases hR.1 a kd n ea' with ⟨r, h1, h2⟩ | ⟨t9, h1, h2, h3, h4⟩
    · exact Or.inl ⟨r, h1, h2.kept hq9⟩
    · exact Or.inr ⟨t9, h1, h2, h3, by rw [hq9]; exact h4⟩
  · exact ⟨Nat.le_trans hS.1 hz, fun q h1 h2 => (hq q (Nat.lt_of_lt_of_le h1 hS.1)).trans (hS.2.1 q h1 h2)⟩
theorem x_ldcS (C0 : x_C E p l s m meth c args cc nL own nm rt) {i k : Nat} {tx : String} {bs : List Int32} (hi : x_wd[i]? = some (own, k, tx, bs)) (hdg : decode cc pc = .ok (.ldc k, 2))
    (kk : W p l e R s m args below meth c H locs cells slots Q (F0 m (pc + 2) ls (.ref (xa E (1000001 + i)) :: rest))) : W p l e R s m args below meth c H locs cells slots Q (F0 m pc ls rest) := by
  have h7 := (C0.2.2.2.2.2.1.2.2.2.2.2.2.1 i _ hi).1
  refine va_ldcS C0.1 C0.2.1 C0.2.2.2.1 h7 hdg ?_
  have e9 : xa E (1000001 + i) = E.2.2.2.2.1 (1 + i) := by
    unfold xa
    rw [if_neg (by omega), show 1000001 + i - 1000000 = 1 + i by omega]
  rw [e9] at kk
  exact kk
theorem x_aast (C0 : x_C E p l s m meth c args cc nL own nm rt) (hR : x_Rep E h H) (hS : va_S (x_A E) s.heap H locs) {a v : Nat} {i : Int32} {kf : HP → Option XR} (hf : x_sR h a i 4 v kf = some z) {T : u_T} {N : Nat} (hc : x_cl 4 "GridEngine$Model" T N) (hdg : decode cc pc = .ok (.aastore, 1))
    (kk : ∀ (H1 : Heap) (locs1 : List Loc), x_Rep E (h_wR h a i.toNatClampNeg (some v)) H1 → va_S (x_A E) s.heap H1 locs1 → kf (h_wR h a i.toNatClampNeg (some v)) = some z → W p l e R s m args below meth c H1 locs1 cells slots Q (F0 m (pc + 1) ls rest)) : W p l e R s m args below meth c H locs cells slots Q (F0 m pc ls (.ref (xa E v) :: .int i :: .ref (xa E a) :: rest)) := by
  obtain ⟨⟨hi, hv⟩, hf⟩ := x_if hf
  obtain ⟨n, hs, hin⟩ := x_ix_el hi
  obtain ⟨-, hn, hA⟩ := x_arr (t := 4) hR hs
  have hlt : i.toNatClampNeg < n := x_inn hin
  have h0 : ¬ i < 0 := fun q => hin (Or.inl q)
  obtain ⟨cellV, g1, g2, g3, -⟩ := x_obj hR hv hc.1
  have hcls := (C0.2.2.2.2.2.1.1.1 4 _ hc.1).2
  obtain ⟨kA, comp, k1, k2, k3, -⟩ := (x_tyAt C0.2.2.2.2.2.1 4 (by decide)).2
  have hcomp : comp = E.2.1 4 := Option.some.inj (k3.symm.trans hcls.1)
  subst hcomp
  obtain ⟨kC, hkC, -⟩ := hcls.2
  refine W.aast C0.1 C0.2.1 hA (fun q h => by cases h) (fun h => by cases h) k1 k2 rfl hkC ⟨h0, by rw [arrV_size]; exact hlt⟩ g1 (fun q h => by rw [g3] at h; cases h) (by rw [g2]; exact hkC) (by rw [g2]; exact va_assign hcls) rfl rfl hdg fun H1 e1 z1 o1 => ?_
  obtain ⟨r1, s1⟩ := x_arrput (h' := h_wR h a i.toNatClampNeg (some v)) (k := i.toNatClampNeg) (v := .ref (xa E v)) (i := i.toNatClampNeg) C0.2.2.2.2.2.1 hR hS (t := 4) hs rfl rfl (fun b hb ty j => x_fv_offR hb ty j) (fun j => x_fv_upR (v := some v) (f := fun _ => x_at 4) rfl j) e1 z1 o1
  exact kk H1 _ r1 s1 hf
theorem x_zd {y : Int32} {k : Option XR} (hf : x_dI y k = some z) : ¬ y = 0 ∧ k = some z := by
  unfold x_dI at hf
  split at hf
  · cases hf
  · next hq => exact ⟨hq, hf⟩
theorem x_zdJ {y : Int64} {k : Option XR} (hf : x_dJ y k = some z) : ¬ y = 0 ∧ k = some z := by
  unfold x_dJ at hf
  split at hf
  · cases hf
  · next hq => exact ⟨hq, hf⟩
end XI
def x_meW (y : MethodName) (bytes : ByteArray) (maxL : Nat) (ret : Option FieldType) (hh : List (Nat × Nat × Nat × Nat)) (n : Nat) : Prop :=
  Cond.codeWith y bytes maxL ret hh ∈ TG ∧ Cond.initialized y.cls ∈ TG ∧ y.cls ≠ "java/lang/invoke/MethodHandle" ∧ y.cls ≠ "java/lang/invoke/VarHandle" ∧ (parseMethodDescriptor y.desc).map (fun d => d.parameters.length) = some n

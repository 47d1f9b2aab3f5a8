section XI
variable {p : Program} {l : Launch} {e : Env} {R : Room} {s : State} {m : MethodId} {args : Array Value} {below : List Frame} {meth : Method} {c : Code} {H : Heap} {locs : List Loc} {cells slots : Nat} {Q : State → Prop}
variable {cc : ByteArray} {pc nL : Nat} {ls : Array Slot} {rest : List Value} {E : XE} {h : HP} {own nm : String} {rt : Option FieldType} {z : XR}
theorem x_mmax (C0 : x_C E p l s m meth c args cc nL own nm rt) (hls : ls.size = nL) {index : Nat} (w1 : Cond.methodLink own index Lib.Math.max.name ∈ TG) (w2 : Cond.static Lib.Math.max.name ∈ TG ∧ Cond.initialized "java/lang/Math" ∈ TG ∧ Cond.code Lib.Math.max.name Lib.Math.max.code 2 (some .int) ∈ TG) (hf : 1 ≤ R.frames) (hlo : (rest.map fun v => v.category).sum + 13 ≤ R.locals) (hc : cells ≤ R.cells) (hs : slots ≤ R.slots) {x y : Int32} (hdg : decode cc pc = .ok (.invokestatic index, 3))
    (kk : W p l e R s m args below meth c H locs cells slots Q (F0 m (pc + 3) ls (.int (if x < y then y else x) :: rest))) : W p l e R s m args below meth c H locs cells slots Q (F0 m pc ls (.int y :: .int x :: rest)) :=
  va_mmax C0.1 C0.2.1 (C0.2.2.1.trans hls.symm) C0.2.2.2.1 (C0.2.2.2.2.1 _ w1) (C0.2.2.2.2.1 _ w2.1) (C0.2.2.2.2.1 _ w2.2.1) (C0.2.2.2.2.1 _ w2.2.2) hf hlo hc hs hdg kk
theorem x_mmin (C0 : x_C E p l s m meth c args cc nL own nm rt) (hls : ls.size = nL) {index : Nat} (w1 : Cond.methodLink own index Lib.Math.min.name ∈ TG) (w2 : Cond.static Lib.Math.min.name ∈ TG ∧ Cond.initialized "java/lang/Math" ∈ TG ∧ Cond.code Lib.Math.min.name Lib.Math.min.code 2 (some .int) ∈ TG) (hf : 1 ≤ R.frames) (hlo : (rest.map fun v => v.category).sum + 13 ≤ R.locals) (hc : cells ≤ R.cells) (hs : slots ≤ R.slots) {x y : Int32} (hdg : decode cc pc = .ok (.invokestatic index, 3))
    (kk : W p l e R s m args below meth c H locs cells slots Q (F0 m (pc + 3) ls (.int (if y < x then y else x) :: rest))) : W p l e R s m args below meth c H locs cells slots Q (F0 m pc ls (.int y :: .int x :: rest)) :=
  va_mmin C0.1 C0.2.1 (C0.2.2.1.trans hls.symm) C0.2.2.2.1 (C0.2.2.2.2.1 _ w1) (C0.2.2.2.2.1 _ w2.1) (C0.2.2.2.2.1 _ w2.2.1) (C0.2.2.2.2.1 _ w2.2.2) hf hlo hc hs hdg kk
theorem x_oinit (C0 : x_C E p l s m meth c args cc nL own nm rt) (hls : ls.size = nL) {index : Nat} (w1 : Cond.methodLink own index Lib.objectInit ∈ TG) (w2 : Cond.instanceMethod Lib.objectInit ∈ TG ∧ Cond.code Lib.objectInit ⟨#[0xb1]⟩ 1 none ∈ TG) (hf : 1 ≤ R.frames) (hlo : (rest.map fun v => v.category).sum + 12 ≤ R.locals) {a : Addr} (hdg : decode cc pc = .ok (.invokespecial index, 3))
    (kk : W p l e R s m args below meth c H locs cells slots Q (F0 m (pc + 3) ls rest)) : W p l e R s m args below meth c H locs cells slots Q (F0 m pc ls (.ref a :: rest)) :=
  W.objInit C0.1 C0.2.1 C0.2.2.2.1 (C0.2.2.2.2.1 _ w1) (C0.2.2.2.2.1 _ w2.1) (C0.2.2.2.2.1 _ w2.2) rfl (hls.trans C0.2.2.1.symm) rfl hdg hf (by show 2 * 0 + _ + _ ≤ _; omega) kk
theorem x_nonneg {x : Int32} (h : 0 ≤ x.toInt) : ¬ x < 0 := by
  intro q
  rw [Int32.lt_iff_toInt_lt, Int32.toInt_zero] at q
  omega
theorem x_clamp {x : Int32} (h : 0 ≤ x.toInt) : x.toInt = (x.toNatClampNeg : Int) := by
  show x.toInt = ((x.toInt.toNat : Nat) : Int)
  omega
theorem x_acopy (C0 : x_C E p l s m meth c args cc nL own nm rt) (hR : x_Rep E h H) (hS : va_S (x_A E) s.heap H locs) (hls : ls.size = nL) {src dst : Nat} {sp dp n : Int32} {kf : HP → Option XR} (hf : x_cp h src sp dst dp n kf = some z) {index : Nat} (w1 : Cond.methodLink own index arraycopyName ∈ TG) (w2 : Cond.native arraycopyName ∈ TG ∧ Cond.static arraycopyName ∈ TG ∧ Cond.initialized "java/lang/System" ∈ TG)
    (hfr : 1 ≤ R.frames) (hlo : (rest.map fun v => v.category).sum + (nativeFrameWords "java/lang/System" "arraycopy" 5 + 11) ≤ R.locals) (hdg : decode cc pc = .ok (.invokestatic index, 3))
    (kk : ∀ (H1 : Heap) (locs1 : List Loc), x_Rep E (h_cp h src sp.toNatClampNeg dst dp.toNatClampNeg n.toNatClampNeg) H1 → va_S (x_A E) s.heap H1 locs1 → kf (h_cp h src sp.toNatClampNeg dst dp.toNatClampNeg n.toNatClampNeg) = some z → W p l e R s m args below meth c H1 locs1 cells slots Q (F0 m (pc + 3) ls rest)) :
    W p l e R s m args below meth c H locs cells slots Q (F0 m pc ls (.int n :: .int dp :: .ref (xa E dst) :: .int sp :: .ref (xa E src) :: rest)) := by
  obtain ⟨hok, hf⟩ := x_if hf
  unfold x_cpok at hok
  split at hok
  · next k0 n0 k1 n1 e0 e1 =>
    simp only [Bool.and_eq_true, beq_iff_eq, decide_eq_true_eq] at hok
    obtain ⟨⟨rfl, rfl⟩, ⟨⟨⟨h1, h2⟩, h3⟩, h4⟩, h5⟩ := hok
    obtain ⟨-, hn0, hA0⟩ := x_arr (t := 0) hR e0
    obtain ⟨-, hn1, hA1⟩ := x_arr (t := 0) hR e1
    have c1 := x_clamp h1
    have c2 := x_clamp h2
    have c3 := x_clamp h3
    have cm := (x_tyAt C0.2.2.2.2.2.1 0 (by decide)).1
    obtain ⟨-, k0', hk0, cm0, hkk0⟩ := cm n0 (fun j => .int (h.1 src j))
    obtain ⟨-, k1', hk1, cm1, hkk1⟩ := cm n1 (fun j => .int (h.1 dst j))
    intro T hT X
    obtain ⟨vm', X', step⟩ := X.arraycopy C0.1 C0.2.2.2.1 (C0.2.2.2.2.1 _ w1) (C0.2.2.2.2.1 _ w2.1) (C0.2.2.2.2.1 _ w2.2.1) (C0.2.2.2.2.1 _ w2.2.2) (src := xa E src) (dst := xa E dst) (cs := arrV (E.2.2.2.1 0) n0 (fun j => .int (h.1 src j))) (cd := arrV (E.2.2.2.1 0) n1 (fun j => .int (h.1 dst j))) (srcPos := sp) (destPos := dp) (n := n) (by rw [hT]; exact hA0) (by rw [hT]; exact hA1)
      (fun _ h => by cases h) (fun _ h => by cases h) (fun h => by cases h) (fun h => by cases h) hk0 hk1 hkk0 hkk1 (by simp [x_at, refKind]) (x_nonneg h1) (x_nonneg h2) (x_nonneg h3)
      (by rw [arrV_size]; omega) (by rw [arrV_size]; omega)
      (fun vm₁ _ i hi => by
        have e9 : (arrV (E.2.2.2.1 0) n0 (fun j => .int (h.1 src j))).slots.getD (sp.toNatClampNeg + i) .null = .int (h.1 src (sp.toNatClampNeg + i)) := by
          rw [Array.getD_eq_getD_getElem?, arrV_read _ _ (by omega)]
          rfl
        exact ⟨by rw [e9]; rfl, by rw [e9]; exact trivial⟩)
      (g := F0 m pc ls (.int n :: .int dp :: .ref (xa E dst) :: .int sp :: .ref (xa E src) :: rest)) rfl (hls.trans C0.2.2.1.symm) (rest := rest) rfl (by rw [C0.2.1]; exact hdg) hfr (by show 2 * 0 + _ + _ ≤ _; omega)
    have ec : copied (arrV (E.2.2.2.1 0) n0 (fun j => .int (h.1 src j))) (arrV (E.2.2.2.1 0) n1 (fun j => .int (h.1 dst j))) sp dp n = arrV (E.2.2.2.1 0) n1 (fun j => .int (va_cpy (h.1 src) (h.1 dst) sp.toNatClampNeg dp.toNatClampNeg n.toNatClampNeg j)) := va_copied (fun z => .int z) _ _ (h.1 src) (h.1 dst) (by omega)
    rw [ec] at X' step
    have hl : xa E dst < H.size := (Array.getElem?_eq_some_iff.mp hA1).1
    have hlt := x_lt hR e1
    have hAd : x_A E (xa E dst) := by show E.1 ≤ _; rw [hlt.2]; omega
    have oq : ∀ q : Nat, q ≠ xa E dst → (H.setIfInBounds (xa E dst) (arrV (E.2.2.2.1 0) n1 (fun j => .int (va_cpy (h.1 src) (h.1 dst) sp.toNatClampNeg dp.toNatClampNeg n.toNatClampNeg j))))[q]? = H[q]? := fun q hq => by simp [Array.getElem?_setIfInBounds, Ne.symm hq]
    have hR1 : x_Rep E (h_cp h src sp.toNatClampNeg dst dp.toNatClampNeg n.toNatClampNeg) (H.setIfInBounds (xa E dst) (arrV (E.2.2.2.1 0) n1 (fun j => .int (va_cpy (h.1 src) (h.1 dst) sp.toNatClampNeg dp.toNatClampNeg n.toNatClampNeg j)))) := by
      refine hR.put e1 rfl rfl (fun b hb ty j => by cases ty <;> simp [x_fv, h_cp, hb]) (Or.inr ⟨0, rfl, by decide, hn1, ?_⟩) (by simp) oq
      rw [← hlt.2]
      rw [show ∀ v, (H.setIfInBounds (xa E dst) v)[xa E dst]? = some v from fun v => by simp [Array.getElem?_setIfInBounds, hl]]
      refine congrArg some (congrArg (arrV _ _) (funext fun j => ?_))
      simp [x_fv, x_at, h_cp, va_cpy]
    obtain ⟨t, a1, b1⟩ := kk _ _ hR1 ⟨by simp; exact hS.1, fun q g1 g2 => by
        rw [oq q (fun e9 => g2 (by rw [e9]; exact hAd))]
        exact hS.2.1 q g1 g2, fun q hq => by
        rcases List.mem_append.mp hq with h | h
        · exact hS.2.2 q h
        · obtain ⟨z9, -, hz⟩ := List.mem_map.mp h
          rw [← hz]
          exact hAd⟩ hf _ (show _ = _ by rw [← hT]; rfl) X'
    exact ⟨t, step t a1, b1⟩
  · cases hok
theorem x_zd {y : Int32} {k : Option XR} (hf : x_dI y k = some z) : ¬ y = 0 ∧ k = some z := by
  unfold x_dI at hf
  split at hf
  · cases hf
  · next hq => exact ⟨hq, hf⟩
theorem x_zdJ {y : Int64} {k : Option XR} (hf : x_dJ y k = some z) : ¬ y = 0 ∧ k = some z := by
  unfold x_dJ at hf
  split at hf
  · cases hf
  · next hq => exact ⟨hq, hf⟩
end XI

section XN
variable {p : Program} {l : Launch} {e : Env} {R : Room} {s : State} {m : MethodId} {args : Array Value} {below : List Frame} {meth : Method} {c : Code} {H : Heap} {locs : List Loc} {cells slots : Nat} {Q : State → Prop}
variable {cc : ByteArray} {pc nL : Nat} {ls : Array Slot} {rest : List Value} {E : XE} {h : HP} {own nm : String} {rt : Option FieldType} {z : XR}
theorem x_fv_new {kd n a : Nat} (ha : a ≠ (h_sh h).length) (ty : FieldType) (k : Nat) : x_fv E (h_new h kd n) a ty k = x_fv E h a ty k := by
  cases ty <;> simp [x_fv, h_new, ha]
def x_okT (ty : FieldType) : Bool := match ty with
  | .float => false
  | .double => false
  | _ => true
theorem x_fv_zero {kd n : Nat} {ty : FieldType} (hi : x_okT ty = true) (k : Nat) : x_fv E (h_new h kd n) (h_sh h).length ty k = defaultValue ty := by
  cases ty <;> first | (cases hi; done) | simp [x_fv, h_new, defaultValue, va_rf]
theorem x_Rep.push (hR : x_Rep E h H) (hcl : h.2.2.2.2 = true) {kd n : Nat} {H1 : Heap} (hlen : (h_sh h).length < 1000) (hcell : x_cell E (h_new h kd n) (h_sh h).length kd n H1) (hz : H1.size = H.size + 1) (ho : ∀ q, q < H.size → H1[q]? = H[q]?) : x_Rep E (h_new h kd n) H1 := by
  have hs := hR.2.2.2 hcl
  have hl : (h_sh (h_new h kd n)).length = (h_sh h).length + 1 := by
    show (h_sh h ++ [(kd, n)]).length = _
    simp
  refine ⟨fun a kd' n' ea => ?_, by rw [hl, hz]; omega, by rw [hl]; omega, fun _ => by rw [hl, hz]; omega⟩
  have ea' : (h_sh h ++ [(kd, n)])[a]? = some (kd', n') := ea
  by_cases ha : a < (h_sh h).length
  · rw [List.getElem?_append_left ha] at ea'
    have hq : H1[E.1 + a]? = H[E.1 + a]? := ho _ (by omega)
    have hf : ∀ ty k, x_fv E (h_new h kd n) a ty k = x_fv E h a ty k := x_fv_new (by omega)
    rcases hR.1 a kd' n' ea' with ⟨r, h1, h2⟩ | ⟨t, h1, h2, h3, h4⟩
    · refine Or.inl ⟨r, h1, ?_⟩
      rw [show (fun k => x_fv E (h_new h kd n) a (x_ty kd' k) k) = fun k => x_fv E h a (x_ty kd' k) k from funext fun k => hf _ _]
      exact h2.kept hq
    · refine Or.inr ⟨t, h1, h2, h3, ?_⟩
      rw [show (fun j => x_fv E (h_new h kd n) a (x_at t) j) = fun j => x_fv E h a (x_at t) j from funext fun k => hf _ _, hq]
      exact h4
  · have h0 : a = (h_sh h).length := by
      have h9 : a < (h_sh h ++ [(kd, n)]).length := (List.getElem?_eq_some_iff.mp ea').1
      simp at h9
      omega
    subst h0
    rw [List.getElem?_append_right (Nat.le_refl _)] at ea'
    simp at ea'
    obtain ⟨rfl, rfl⟩ := ea'
    exact hcell
theorem x_grow (hS : va_S (x_A E) s.heap H locs) {H1 : Heap} (hz : H1.size = H.size + 1) (ho : ∀ q, q < H.size → H1[q]? = H[q]?) : va_S (x_A E) s.heap H1 locs :=
  ⟨Nat.le_trans hS.1 (by omega), fun x h1 h2 => (ho x (Nat.lt_of_lt_of_le h1 hS.1)).trans (hS.2.1 x h1 h2), hS.2.2⟩
theorem x_newo (C0 : x_C E p l s m meth c args cc nL own nm rt) (hR : x_Rep E h H) (hS : va_S (x_A E) s.heap H locs) {ci : Nat} {kf : HP → Nat → Option XR} (hf : x_no h ci kf = some z) {N : Nat} {Cn : String} {T : u_T} (hc : x_cl ci Cn T N) (hok : ∀ k, k < N → x_okT (x_ty ci k) = true) {index : Nat} (w1 : Cond.classLink own index Cn ∈ TG) (w2 : Cond.instantiable Cn N ∈ TG) (w3 : Cond.initialized Cn ∈ TG) (hcells : cells + 1 ≤ R.cells) (hslots : slots + N ≤ R.slots) (hdg : decode cc pc = .ok (.new index, 3))
    (kk : ∀ (H1 : Heap) (q : Nat), x_Rep E (h_new h ci 0) H1 → va_S (x_A E) s.heap H1 locs → kf (h_new h ci 0) q = some z → W p l e R s m args below meth c H1 locs (cells + 1) (slots + N) Q (F0 m (pc + 3) ls (.ref (xa E q) :: rest))) : W p l e R s m args below meth c H locs cells slots Q (F0 m pc ls rest) := by
  obtain ⟨⟨hcl, hlen⟩, hf⟩ := x_if hf
  obtain ⟨hx, hb, -, hown, hts, hK, -⟩ := C0
  have hKn := hK.1.1 ci _ hc.1
  refine W.newcK hx hb hown (hts _ w1) (hts _ w2) (hts _ w3) rfl hdg hcells hslots hKn.2.1 rfl fun H1 kC hkC e1 z1 o1 => ?_
  have ha : H.size = xa E (h_sh h).length := by rw [hR.2.2.2 hcl, xa_lt (by omega)]
  have hb2 : t_OB H.size (E.2.1 ci) N (E.2.2.1 ci) H1 (fun k => x_fv E (h_new h ci 0) (h_sh h).length (x_ty ci k) k) := (u_born (x_ty ci) hts hc.2.1 hKn hkC e1 hc.2.2.1).to (fun j hj => (x_fv_zero (hok j hj) j).symm)
  rw [ha]
  refine kk H1 _ (hR.push hcl hlen (Or.inl ⟨_, hc.1, ?_⟩) z1 o1) (x_grow hS z1 o1) hf
  rw [hR.2.2.2 hcl] at hb2
  exact hb2
theorem x_newa (C0 : x_C E p l s m meth c args cc nL own nm rt) (hR : x_Rep E h H) (hS : va_S (x_A E) s.heap H locs) {t : Nat} {n : Int32} {kf : HP → Nat → Option XR} (hf : x_na h t n kf = some z) {atype : ArrayType} (hty : newarray.typeOf atype = x_at t) (ht : t < 4) (w1 : Cond.arrayClass (newarray.typeOf atype) ∈ TG) {N : Nat} (hN : n.toNatClampNeg = N) (hcells : cells + 1 ≤ R.cells) (hslots : slots + N ≤ R.slots) (hdg : decode cc pc = .ok (.newarray atype, 2))
    (kk : ∀ (H1 : Heap) (q : Nat), x_Rep E (h_new h (100 + t) n.toNatClampNeg) H1 → va_S (x_A E) s.heap H1 locs → kf (h_new h (100 + t) n.toNatClampNeg) q = some z → W p l e R s m args below meth c H1 locs (cells + 1) (slots + N) Q (F0 m (pc + 2) ls (.ref (xa E q) :: rest))) : W p l e R s m args below meth c H locs cells slots Q (F0 m pc ls (.int n :: rest)) := by
  obtain ⟨⟨hcl, hlen, h0, h4⟩, hf⟩ := x_if hf
  subst hN
  have hn : ¬ n < 0 := by
    intro q
    rw [Int32.lt_iff_toInt_lt, Int32.toInt_zero] at q
    omega
  have hb4 : n.toNatClampNeg ≤ 400 := by
    have : n.toNatClampNeg = n.toInt.toNat := rfl
    omega
  have hbytes : n.toNatClampNeg * componentBytes (newarray.typeOf atype) ≤ 536870912 := by
    have : componentBytes (newarray.typeOf atype) ≤ 8 := by cases atype <;> decide
    have := Nat.mul_le_mul hb4 this
    omega
  refine va_newaK C0.1 C0.2.1 (C0.2.2.2.2.1 _ w1) rfl hdg rfl hn rfl hbytes hcells hslots rfl fun H1 cA e1 z1 o1 hAr hNm => ?_
  have ha : H.size = xa E (h_sh h).length := by rw [hR.2.2.2 hcl, xa_lt (by omega)]
  have hcA : cA = E.2.2.2.1 t := by
    have h9 := (x_tyAt C0.2.2.2.2.2.1 t (by omega)).2
    rw [hty] at hNm
    match t, ht with
    | 0, _ => exact Option.some.inj (hNm.symm.trans h9)
    | 1, _ => exact Option.some.inj (hNm.symm.trans h9)
    | 2, _ => exact Option.some.inj (hNm.symm.trans h9)
    | 3, _ => exact Option.some.inj (hNm.symm.trans h9)
  have hok : x_okT (x_at t) = true := by
    match t, ht with
    | 0, _ => rfl
    | 1, _ => rfl
    | 2, _ => rfl
    | 3, _ => rfl
  show W p l e R s m args below meth c H1 locs (cells + 1) (slots + n.toNatClampNeg) Q (F0 m (pc + 2) ls (.ref H.size :: rest))
  rw [ha]
  refine kk H1 _ (hR.push hcl hlen (Or.inr ⟨t, rfl, by omega, by omega, ?_⟩) z1 o1) (x_grow hS z1 o1) hf
  rw [← hR.2.2.2 hcl, e1, hcA, hty]
  exact congrArg some (congrArg (arrV _ _) (funext fun j => (x_fv_zero hok j).symm))
/-! calls -/
theorem x_useI {y : Array Value} {h' : HP} {v : Int32} {mc0 ms0 : Nat} {st0 : List Value} (hr : vx_Run p l e R s m args below meth c H locs cells slots mc0 ms0 (F0 m pc ls st0) rest (x_Qc E h' (none, some (.int v)) y) (x_Xc E h' (none, some (.int v))) (x_A E)) (hS : va_S (x_A E) s.heap H locs)
    (kk : ∀ (H1 : Heap) (locs1 : List Loc), x_Rep E h' H1 → va_S (x_A E) s.heap H1 locs1 → W p l e R s m args below meth c H1 locs1 (cells + mc0) (slots + ms0) Q (F0 m (pc + 3) ls (.int v :: rest))) : W p l e R s m args below meth c H locs cells slots Q (F0 m pc ls st0) := by
  intro T hT X
  rcases hr T hT X with ⟨v9, st₀, t, T', L, h0, X', hL, e1, e2, ⟨-, hv, hp, hF⟩, st⟩ | ⟨q, st₀, t, T', L, E9, ce, h0, X', hL, e1, e2, ⟨hb, -⟩, -⟩
  · cases hv
    obtain ⟨k1, k2, k3⟩ := vx_keep h0 e1 hS (fun q _ h => h) (fun q h => h) hL hF
    obtain ⟨t2, a1, b1⟩ := kk T'.heap (locs ++ L) (by rw [e1]; exact hp) k3 T' rfl X'
    exact ⟨t2, st t2 a1, b1⟩
  · cases hb
theorem x_useJ {y : Array Value} {h' : HP} {v : Int64} {mc0 ms0 : Nat} {st0 : List Value} (hr : vx_Run p l e R s m args below meth c H locs cells slots mc0 ms0 (F0 m pc ls st0) rest (x_Qc E h' (none, some (.long v)) y) (x_Xc E h' (none, some (.long v))) (x_A E)) (hS : va_S (x_A E) s.heap H locs)
    (kk : ∀ (H1 : Heap) (locs1 : List Loc), x_Rep E h' H1 → va_S (x_A E) s.heap H1 locs1 → W p l e R s m args below meth c H1 locs1 (cells + mc0) (slots + ms0) Q (F0 m (pc + 3) ls (.long v :: rest))) : W p l e R s m args below meth c H locs cells slots Q (F0 m pc ls st0) := by
  intro T hT X
  rcases hr T hT X with ⟨v9, st₀, t, T', L, h0, X', hL, e1, e2, ⟨-, hv, hp, hF⟩, st⟩ | ⟨q, st₀, t, T', L, E9, ce, h0, X', hL, e1, e2, ⟨hb, -⟩, -⟩
  · cases hv
    obtain ⟨k1, k2, k3⟩ := vx_keep h0 e1 hS (fun q _ h => h) (fun q h => h) hL hF
    obtain ⟨t2, a1, b1⟩ := kk T'.heap (locs ++ L) (by rw [e1]; exact hp) k3 T' rfl X'
    exact ⟨t2, st t2 a1, b1⟩
  · cases hb
theorem x_useQ {y : Array Value} {h' : HP} {v : Nat} {mc0 ms0 : Nat} {st0 : List Value} (hr : vx_Run p l e R s m args below meth c H locs cells slots mc0 ms0 (F0 m pc ls st0) rest (x_Qc E h' (none, some (.ref v)) y) (x_Xc E h' (none, some (.ref v))) (x_A E)) (hS : va_S (x_A E) s.heap H locs)
    (kk : ∀ (H1 : Heap) (locs1 : List Loc), x_Rep E h' H1 → va_S (x_A E) s.heap H1 locs1 → W p l e R s m args below meth c H1 locs1 (cells + mc0) (slots + ms0) Q (F0 m (pc + 3) ls (.ref (xa E v) :: rest))) : W p l e R s m args below meth c H locs cells slots Q (F0 m pc ls st0) := by
  intro T hT X
  rcases hr T hT X with ⟨v9, st₀, t, T', L, h0, X', hL, e1, e2, ⟨-, hv, hp, hF⟩, st⟩ | ⟨q, st₀, t, T', L, E9, ce, h0, X', hL, e1, e2, ⟨hb, -⟩, -⟩
  · cases hv
    obtain ⟨k1, k2, k3⟩ := vx_keep h0 e1 hS (fun q _ h => h) (fun q h => h) hL hF
    obtain ⟨t2, a1, b1⟩ := kk T'.heap (locs ++ L) (by rw [e1]; exact hp) k3 T' rfl X'
    exact ⟨t2, st t2 a1, b1⟩
  · cases hb
theorem x_useV {y : Array Value} {h' : HP} {mc0 ms0 : Nat} {st0 : List Value} (hr : vx_Run p l e R s m args below meth c H locs cells slots mc0 ms0 (F0 m pc ls st0) rest (x_Qc E h' (none, none) y) (x_Xc E h' (none, none)) (x_A E)) (hS : va_S (x_A E) s.heap H locs)
    (kk : ∀ (H1 : Heap) (locs1 : List Loc), x_Rep E h' H1 → va_S (x_A E) s.heap H1 locs1 → W p l e R s m args below meth c H1 locs1 (cells + mc0) (slots + ms0) Q (F0 m (pc + 3) ls rest)) : W p l e R s m args below meth c H locs cells slots Q (F0 m pc ls st0) := by
  intro T hT X
  rcases hr T hT X with ⟨v9, st₀, t, T', L, h0, X', hL, e1, e2, ⟨-, hv, hp, hF⟩, st⟩ | ⟨q, st₀, t, T', L, E9, ce, h0, X', hL, e1, e2, ⟨hb, -⟩, -⟩
  · cases hv
    obtain ⟨k1, k2, k3⟩ := vx_keep h0 e1 hS (fun q _ h => h) (fun q h => h) hL hF
    obtain ⟨t2, a1, b1⟩ := kk T'.heap (locs ++ L) (by rw [e1]; exact hp) k3 T' rfl X'
    exact ⟨t2, st t2 a1, b1⟩
  · cases hb
/-- the callee threw: to the handlers -/
theorem x_useX {y : Array Value} {h' : HP} {X9 : String} {w : Option Value} {mc0 ms0 : Nat} {st0 : List Value} (hr : vx_Run p l e R s m args below meth c H locs cells slots mc0 ms0 (F0 m pc ls st0) rest (x_Qc E h' (some X9, w) y) (x_Xc E h' (some X9, w)) (x_A E)) (hS : va_S (x_A E) s.heap H locs)
    (kx : ∀ (ce : Cell) (q9 : Addr) (H1 : Heap) (locs1 : List Loc), x_Rep E h' H1 → va_S (x_A E) s.heap H1 locs1 → H1[q9]? = some ce → ce.vm = .none → s.vm.findClass X9 = some ce.cls → vx_W p l e R s m args below meth c H1 locs1 (cells + mc0) (slots + ms0) Q (F0 m pc ls rest) q9) : W p l e R s m args below meth c H locs cells slots Q (F0 m pc ls st0) := by
  intro T hT X
  rcases hr T hT X with ⟨v9, st₀, t, T', L, h0, X', hL, e1, e2, ⟨hb, -⟩, -⟩ | ⟨q, st₀, t, T', L, E9, ce, h0, X', hL, e1, e2, ⟨hb, hp, hF⟩, hce, hcv, hcl, st⟩
  · cases hb
  · cases hb
    obtain ⟨k1, k2, k3⟩ := vx_keep h0 e1 hS (fun q _ h => h) (fun q h => h) hL hF
    obtain ⟨t2, a1, b1⟩ := kx ce q T'.heap (locs ++ L) (by rw [e1]; exact hp) k3 (by rw [e1]; exact hce) hcv hcl T' rfl X'
    exact ⟨t2, st.trans a1, b1⟩
/-- .. and out, where there are none -/
theorem x_useO {y : Array Value} {h' : HP} {X9 : String} {w : Option Value} {mc0 ms0 mc ms : Nat} {st0 : List Value} (C0 : x_C E p l s m meth c args cc nL own nm rt) (hxt : ∀ x ∈ c.exceptionTable.toList, False) (hr : vx_Run p l e R s m args below meth c H locs cells slots mc0 ms0 (F0 m pc ls st0) rest (x_Qc E h' (some X9, w) y) (x_Xc E h' (some X9, w)) (x_A E)) (hS : va_S (x_A E) s.heap H locs) (hz : z = (h', (some X9, none))) (hc : cells + mc0 ≤ mc) (hs : slots + ms0 ≤ ms) : W p l e R s m args below meth c H locs cells slots (x_Q E below args s mc ms z) (F0 m pc ls st0) := by
  subst hz
  refine x_useX hr hS fun ce q9 H1 locs1 hR1 hS1 h1 h2 h3 => ?_
  exact vx_out (fun x hx => (hxt x hx).elim) C0.2.2.2.2.2.2.2.2.1 h1 h2 h3 (fun t ht _ => ⟨rfl, by rw [ht]; exact hR1, hS1.F ht⟩) (fun q hq => hS1.2.2 q hq) hc hs
end XN

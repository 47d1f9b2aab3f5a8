def x_cl (ci : Nat) (Cn : String) (T : u_T) (N : Nat) : Prop := vwCl[ci]? = some (Cn, T, N) ∧ (∀ w ∈ u_ws Cn T N, w ∈ TG) ∧ (∀ k, k < N → parseFieldDescriptor (T k).2.2.1 = some (x_ty ci k)) ∧ (∀ a, a < N → ∀ b, b < N → a ≠ b → (T a).2.1 ≠ (T b).2.1)
def x_fl (own : String) (index : Nat) (q : String × String × String × Bool) : Prop := Cond.fieldLink own index q.1 q.2.1 q.2.2.1 ∈ TG ∨ ∃ host, Cond.fieldLinkNest own index q.1 q.2.1 q.2.2.1 host ∈ x_nw
section XR
variable {p : Program} {l : Launch} {e : Env} {R : Room} {s : State} {m : MethodId} {args : Array Value} {below : List Frame} {meth : Method} {c : Code} {H : Heap} {locs : List Loc} {cells slots : Nat} {Q : State → Prop}
variable {cc : ByteArray} {pc nL : Nat} {ls : Array Slot} {rest : List Value} {E : XE} {h : HP} {own nm : String} {rt : Option FieldType} {z : XR}
theorem x_get (C0 : x_C E p l s m meth c args cc nL own nm rt) (hR : x_Rep E h H) {ci N : Nat} {Cn : String} {T : u_T} (hc : x_cl ci Cn T N) {a n : Nat} (hs : (h_sh h)[a]? = some (ci, n)) (k : Nat) (hk : k < N) {index : Nat} (hlink : x_fl own index (T k)) (hdg : decode cc pc = .ok (.getfield index, 3))
    (kk : W p l e R s m args below meth c H locs cells slots Q (F0 m (pc + 3) ls (x_fv E h a (x_ty ci k) k :: rest))) : W p l e R s m args below meth c H locs cells slots Q (F0 m pc ls (.ref (xa E a) :: rest)) := by
  obtain ⟨hx, hb, -, hown, hts, hK, -⟩ := C0
  obtain ⟨cell, q1, q2, q3, q4⟩ := x_obj hR hs hc.1
  obtain ⟨hS, hfc, kC, hkC, hkind⟩ := hK.1.1 ci _ hc.1
  obtain ⟨cf, kf, fi, f, hi, hsl⟩ := hS k hk
  have hst := (u_facts hfc hkC (u_lays hts hc.2.1 hk) hi).1
  rcases hlink with hl | ⟨host, hl⟩
  · refine W.getf hx hb hown (hts _ hl) hi hst q1 (by rw [q3]; exact fun h => by cases h) (v := x_fv E h a (x_ty ci k) k) ?_ rfl rfl hdg kk
    rw [hsl]; exact q4 k hk
  · refine va_Wgetf hx hb hown (va_Nw.use rfl (hK.2.1 _ hl)) hi hst q1 (by rw [q3]; exact fun h => by cases h) (v := x_fv E h a (x_ty ci k) k) ?_ rfl rfl hdg kk
    rw [hsl]; exact q4 k hk
theorem x_getI (C0 : x_C E p l s m meth c args cc nL own nm rt) (hR : x_Rep E h H) {a ci k : Nat} {kf : Int32 → Option XR} (hf : x_gI h a ci k kf = some z) {N : Nat} {Cn : String} {T : u_T} (hc : x_cl ci Cn T N) (hk : k < N) (hi : x_isI (x_ty ci k) = true) {index : Nat} (hlink : x_fl own index (T k)) (hdg : decode cc pc = .ok (.getfield index, 3))
    (kk : ∀ v : Int32, kf v = some z → W p l e R s m args below meth c H locs cells slots Q (F0 m (pc + 3) ls (.int v :: rest))) : W p l e R s m args below meth c H locs cells slots Q (F0 m pc ls (.ref (xa E a) :: rest)) := by
  obtain ⟨hs, hf⟩ := x_if hf
  have := kk _ hf
  rw [← x_fvI (E := E) hi] at this
  exact x_get C0 hR hc hs k hk hlink hdg this
theorem x_getJ (C0 : x_C E p l s m meth c args cc nL own nm rt) (hR : x_Rep E h H) {a ci k : Nat} {kf : Int64 → Option XR} (hf : x_gJ h a ci k kf = some z) {N : Nat} {Cn : String} {T : u_T} (hc : x_cl ci Cn T N) (hk : k < N) (hi : x_ty ci k = .long) {index : Nat} (hlink : x_fl own index (T k)) (hdg : decode cc pc = .ok (.getfield index, 3))
    (kk : ∀ v : Int64, kf v = some z → W p l e R s m args below meth c H locs cells slots Q (F0 m (pc + 3) ls (.long v :: rest))) : W p l e R s m args below meth c H locs cells slots Q (F0 m pc ls (.ref (xa E a) :: rest)) := by
  obtain ⟨hs, hf⟩ := x_if hf
  refine x_get C0 hR hc hs k hk hlink hdg ?_
  rw [hi]
  exact kk _ hf
theorem x_getR (C0 : x_C E p l s m meth c args cc nL own nm rt) (hR : x_Rep E h H) {a ci k : Nat} {kf : Nat → Option XR} (hf : x_gR h a ci k kf = some z) {N : Nat} {Cn : String} {T : u_T} (hc : x_cl ci Cn T N) (hk : k < N) (hi : x_isR (x_ty ci k) = true) {index : Nat} (hlink : x_fl own index (T k)) (hdg : decode cc pc = .ok (.getfield index, 3))
    (kk : ∀ v : Nat, kf v = some z → W p l e R s m args below meth c H locs cells slots Q (F0 m (pc + 3) ls (.ref (xa E v) :: rest))) : W p l e R s m args below meth c H locs cells slots Q (F0 m pc ls (.ref (xa E a) :: rest)) := by
  obtain ⟨hs, hf⟩ := x_if hf
  refine x_get C0 hR hc hs k hk hlink hdg ?_
  rw [x_fvR hi]
  split at hf
  · next b e =>
    rw [e]
    exact kk b hf
  · cases hf
theorem x_put (C0 : x_C E p l s m meth c args cc nL own nm rt) (hR : x_Rep E h H) (hS0 : va_S (x_A E) s.heap H locs) {ci N : Nat} {Cn : String} {T : u_T} (hc : x_cl ci Cn T N) {a n : Nat} (hs : (h_sh h)[a]? = some (ci, n)) (k : Nat) (hk : k < N) {index : Nat} (hlink : x_fl own index (T k)) (hfin : (T k).2.2.2 = false ∨ (nm = "<init>" ∧ (T k).1 = own ∧ Cond.fieldLink own index (T k).1 (T k).2.1 (T k).2.2.1 ∈ TG)) {v : Value} (hn : narrow (x_ty ci k) v = v) (hfit : fits (x_ty ci k) v = true) {h' : HP} (hsh : h_sh h' = h_sh h) (hcl : h'.2.2.2.2 = h.2.2.2.2) (hoff : ∀ b, b ≠ a → ∀ ty k, x_fv E h' b ty k = x_fv E h b ty k) (hup : ∀ j, x_fv E h' a (x_ty ci j) j = updV (fun j => x_fv E h a (x_ty ci j) j) k v j)
    (hdg : decode cc pc = .ok (.putfield index, 3)) (kk : ∀ (H1 : Heap) (locs1 : List Loc), x_Rep E h' H1 → va_S (x_A E) s.heap H1 locs1 → W p l e R s m args below meth c H1 locs1 cells slots Q (F0 m (pc + 3) ls rest)) : W p l e R s m args below meth c H locs cells slots Q (F0 m pc ls (v :: .ref (xa E a) :: rest)) := by
  obtain ⟨hx, hb, -, hown, hts, hK, -, -, -, -, hnm⟩ := C0
  have hap : ∀ x y, x < N → y < N → x ≠ y → (E.2.2.1 ci) x ≠ (E.2.2.1 ci) y := va_apart (own := own) (cl := vwCl) (D := (E.2.1, E.2.2.1)) hts hc.2.1 (x_ty ci) hc.2.2.1 hc.2.2.2 hK.1 hc.1
  obtain ⟨cell, q1, q2, q3, q4⟩ := x_obj hR hs hc.1
  obtain ⟨hS, hfc, kC, hkC, hkind⟩ := hK.1.1 ci _ hc.1
  obtain ⟨cf, kf, fi, f, hi, hsl⟩ := hS k hk
  have hlay := hts _ (hc.2.1 _ (u_in_lay hk))
  have hst := (u_facts hfc hkC (u_lays hts hc.2.1 hk) hi).1
  have hlt := x_lt hR hs
  have hA : x_A E (xa E a) := by show E.1 ≤ _; rw [hlt.2]; omega
  have hd := hc.2.2.1 k hk
  have fin : ∀ (H' : Heap) (i : Nat), H'[xa E a]? = some (cell.setSlot f.slot v) → H'.size = H.size → (∀ q, q ≠ xa E a → H'[q]? = H[q]?) → W p l e R s m args below meth c H' (locs ++ [⟨xa E a, i⟩]) cells slots Q (F0 m (pc + 3) ls rest) := by
    intro H' i e1 e2 e3
    refine kk H' _ (hR.put hs hsh hcl hoff (Or.inl ⟨_, hc.1, ?_⟩) e2 e3) (hS0.put e2 e3 hA)
    rw [hsl] at e1
    rw [hlt.2] at e1
    refine ⟨_, e1, q2, q3, fun j hj => ?_⟩
    have h9 := t_set q4 hap hk v j hj
    rw [h9]
    exact congrArg some (hup j).symm
  rcases hfin with hfin | ⟨h0, h1, hl⟩
  · unfold u_lay at hlay
    rw [if_neg (by rw [hfin]; decide)] at hlay
    have h6 := u_store hfc hkC hkind hlay hi hd hn hfit
    rcases hlink with hl | ⟨host, hl⟩
    · exact W.putK hx hb (f := f) ⟨hown, hts _ hl, ⟨_, _, _, hi⟩, hst⟩ (by rw [q2]; exact h6) q1 q3 (by rw [hsl]; exact k2_hasslot (q4 k hk)) rfl rfl hdg fun H' e1 e2 e3 => fin H' _ e1 e2 e3
    · exact va_WputK hx hb (f := f) hown (va_Nw.use rfl (hK.2.1 _ hl)) hi hst (by rw [q2]; exact h6) q1 q3 (by rw [hsl]; exact k2_hasslot (q4 k hk)) rfl rfl hdg fun H' e1 e2 e3 => fin H' _ e1 e2 e3
  · unfold u_lay at hlay
    by_cases hfin : (T k).2.2.2 = true
    · rw [if_pos hfin] at hlay
      have hcf : m.cls = cf := by
        obtain ⟨_, _, c', _, _, _, -, -, hf', -, -, -, hown2, -⟩ := Cond.laysFinal_spec hlay
        have e1 : c' = cf := by have := hi.symm.trans hf'; simp at this; exact this.1.symm
        rw [h1] at hown2
        rw [← e1]; exact Option.some.inj (hown.symm.trans hown2)
      have h6 := u_fits hfc hkC hkind (Or.inr hlay) hi hd hn hfit
      exact W.putFinK hx hb hown (hts _ hl) hi hst hcf (hnm.trans h0) (by rw [q2]; exact h6) q1 q3 (by rw [hsl]; exact k2_hasslot (q4 k hk)) rfl rfl hdg fun H' e1 e2 e3 => fin H' _ e1 e2 e3
    · rw [if_neg hfin] at hlay
      have h6 := u_store hfc hkC hkind hlay hi hd hn hfit
      exact W.putK hx hb (f := f) ⟨hown, hts _ hl, ⟨_, _, _, hi⟩, hst⟩ (by rw [q2]; exact h6) q1 q3 (by rw [hsl]; exact k2_hasslot (q4 k hk)) rfl rfl hdg fun H' e1 e2 e3 => fin H' _ e1 e2 e3
def x_pf2 (nm own : String) (index : Nat) (q : String × String × String × Bool) : Prop := q.2.2.2 = false ∨ (nm = "<init>" ∧ q.1 = own ∧ Cond.fieldLink own index q.1 q.2.1 q.2.2.1 ∈ TG)
theorem x_nar {ty : FieldType} {v : Int32} (h : ty = .int ∨ (ty = .boolean ∧ (v = 0 ∨ v = 1))) : x_isI ty = true ∧ narrow ty (.int v) = .int v ∧ fits ty (.int v) = true := by
  rcases h with rfl | ⟨rfl, rfl | rfl⟩ <;> exact ⟨rfl, by first | rfl | decide, by first | rfl | decide⟩
theorem x_putI (C0 : x_C E p l s m meth c args cc nL own nm rt) (hR : x_Rep E h H) (hS0 : va_S (x_A E) s.heap H locs) {a ci k : Nat} {v : Int32} {kf : HP → Option XR} (hf : x_pI h a ci k v kf = some z) {N : Nat} {Cn : String} {T : u_T} (hc : x_cl ci Cn T N) (hk : k < N) (hi : x_ty ci k = .int) {index : Nat} (hlink : x_fl own index (T k)) (hfin : x_pf2 nm own index (T k)) (hdg : decode cc pc = .ok (.putfield index, 3))
    (kk : ∀ (H1 : Heap) (locs1 : List Loc), x_Rep E (h_wI h a k v) H1 → va_S (x_A E) s.heap H1 locs1 → kf (h_wI h a k v) = some z → W p l e R s m args below meth c H1 locs1 cells slots Q (F0 m (pc + 3) ls rest)) : W p l e R s m args below meth c H locs cells slots Q (F0 m pc ls (.int v :: .ref (xa E a) :: rest)) := by
  obtain ⟨hs, hf⟩ := x_if hf
  obtain ⟨w1, w2, w3⟩ := x_nar (v := v) (Or.inl hi)
  exact x_put (h' := h_wI h a k v) C0 hR hS0 hc hs k hk hlink hfin w2 w3 rfl rfl (fun b hb ty j => x_fv_offI hb ty j) (fun j => x_fv_upI w1 j) hdg fun H1 l1 r1 s1 => kk H1 l1 r1 s1 hf
theorem x_putZ (C0 : x_C E p l s m meth c args cc nL own nm rt) (hR : x_Rep E h H) (hS0 : va_S (x_A E) s.heap H locs) {a ci k : Nat} {v : Int32} {kf : HP → Option XR} (hf : x_pZ h a ci k v kf = some z) {N : Nat} {Cn : String} {T : u_T} (hc : x_cl ci Cn T N) (hk : k < N) (hi : x_ty ci k = .boolean) {index : Nat} (hlink : x_fl own index (T k)) (hfin : x_pf2 nm own index (T k)) (hdg : decode cc pc = .ok (.putfield index, 3))
    (kk : ∀ (H1 : Heap) (locs1 : List Loc), x_Rep E (h_wI h a k v) H1 → va_S (x_A E) s.heap H1 locs1 → kf (h_wI h a k v) = some z → W p l e R s m args below meth c H1 locs1 cells slots Q (F0 m (pc + 3) ls rest)) : W p l e R s m args below meth c H locs cells slots Q (F0 m pc ls (.int v :: .ref (xa E a) :: rest)) := by
  obtain ⟨⟨hs, h01⟩, hf⟩ := x_if hf
  obtain ⟨w1, w2, w3⟩ := x_nar (v := v) (Or.inr ⟨hi, h01⟩)
  exact x_put (h' := h_wI h a k v) C0 hR hS0 hc hs k hk hlink hfin w2 w3 rfl rfl (fun b hb ty j => x_fv_offI hb ty j) (fun j => x_fv_upI w1 j) hdg fun H1 l1 r1 s1 => kk H1 l1 r1 s1 hf
theorem x_putJ (C0 : x_C E p l s m meth c args cc nL own nm rt) (hR : x_Rep E h H) (hS0 : va_S (x_A E) s.heap H locs) {a ci k : Nat} {v : Int64} {kf : HP → Option XR} (hf : x_pJ h a ci k v kf = some z) {N : Nat} {Cn : String} {T : u_T} (hc : x_cl ci Cn T N) (hk : k < N) (hi : x_ty ci k = .long) {index : Nat} (hlink : x_fl own index (T k)) (hfin : x_pf2 nm own index (T k)) (hdg : decode cc pc = .ok (.putfield index, 3))
    (kk : ∀ (H1 : Heap) (locs1 : List Loc), x_Rep E (h_wJ h a k v) H1 → va_S (x_A E) s.heap H1 locs1 → kf (h_wJ h a k v) = some z → W p l e R s m args below meth c H1 locs1 cells slots Q (F0 m (pc + 3) ls rest)) : W p l e R s m args below meth c H locs cells slots Q (F0 m pc ls (.long v :: .ref (xa E a) :: rest)) := by
  obtain ⟨hs, hf⟩ := x_if hf
  exact x_put (h' := h_wJ h a k v) C0 hR hS0 hc hs k hk hlink hfin (by rw [hi]; rfl) (by rw [hi]; rfl) rfl rfl (fun b hb ty j => x_fv_offJ hb ty j) (fun j => x_fv_upJ hi j) hdg fun H1 l1 r1 s1 => kk H1 l1 r1 s1 hf
theorem x_putR (C0 : x_C E p l s m meth c args cc nL own nm rt) (hR : x_Rep E h H) (hS0 : va_S (x_A E) s.heap H locs) {a ci k : Nat} {v : Nat} {kf : HP → Option XR} (hf : x_pR h a ci k v kf = some z) {N : Nat} {Cn : String} {T : u_T} (hc : x_cl ci Cn T N) (hk : k < N) (hi : x_isR (x_ty ci k) = true) {index : Nat} (hlink : x_fl own index (T k)) (hfin : x_pf2 nm own index (T k)) (hdg : decode cc pc = .ok (.putfield index, 3))
    (kk : ∀ (H1 : Heap) (locs1 : List Loc), x_Rep E (h_wR h a k (some v)) H1 → va_S (x_A E) s.heap H1 locs1 → kf (h_wR h a k (some v)) = some z → W p l e R s m args below meth c H1 locs1 cells slots Q (F0 m (pc + 3) ls rest)) : W p l e R s m args below meth c H locs cells slots Q (F0 m pc ls (.ref (xa E v) :: .ref (xa E a) :: rest)) := by
  obtain ⟨hs, hf⟩ := x_if hf
  have w : narrow (x_ty ci k) (.ref (xa E v)) = .ref (xa E v) ∧ fits (x_ty ci k) (.ref (xa E v)) = true := by
    cases hq : x_ty ci k <;> rw [hq] at hi <;> first | (cases hi; done) | exact ⟨rfl, rfl⟩
  exact x_put (h' := h_wR h a k (some v)) C0 hR hS0 hc hs k hk hlink hfin w.1 w.2 rfl rfl (fun b hb ty j => x_fv_offR hb ty j) (fun j => x_fv_upR (v := some v) hi j) hdg fun H1 l1 r1 s1 => kk H1 l1 r1 s1 hf
end XR

section XA
variable {p : Program} {l : Launch} {e : Env} {R : Room} {s : State} {m : MethodId} {args : Array Value} {below : List Frame} {meth : Method} {c : Code} {H : Heap} {locs : List Loc} {cells slots : Nat} {Q : State → Prop}
variable {cc : ByteArray} {pc nL : Nat} {ls : Array Slot} {rest : List Value} {E : XE} {h : HP} {own nm : String} {rt : Option FieldType} {z : XR}
theorem x_inn {n : Nat} {i : Int32} (hin : vp_in i n) : i.toNatClampNeg < n := Nat.not_le.mp fun q => hin (Or.inr q)
theorem x_tyAt {s : State} {H : Heap} (hK : x_K E s H) (t : Nat) (ht : t < 7) : ArrOfT s (E.2.2.2.1 t) (x_at t) ∧ va_RA s (E.2.2.2.1 t) (x_at t) :=
  match t, ht with
  | 0, _ => hK.1.2 0 _ rfl
  | 1, _ => hK.1.2 1 _ rfl
  | 2, _ => hK.1.2 2 _ rfl
  | 3, _ => hK.1.2 3 _ rfl
  | 4, _ => hK.1.2 4 _ rfl
  | 5, _ => hK.1.2 5 _ rfl
  | 6, _ => hK.1.2 6 _ rfl
theorem x_iald (C0 : x_C E p l s m meth c args cc nL own nm rt) (hR : x_Rep E h H) {a : Nat} {i : Int32} {kf : Int32 → Option XR} (hf : x_aI h 100 a i kf = some z) (hdg : decode cc pc = .ok (.iaload, 1))
    (kk : ∀ v : Int32, kf v = some z → W p l e R s m args below meth c H locs cells slots Q (F0 m (pc + 1) ls (.int v :: rest))) : W p l e R s m args below meth c H locs cells slots Q (F0 m pc ls (.int i :: .ref (xa E a) :: rest)) := by
  obtain ⟨hi, hf⟩ := x_if hf
  obtain ⟨n, hs, hin⟩ := x_ix_el hi
  obtain ⟨-, hn, hA⟩ := x_arr (t := 0) hR hs
  exact W.iald (v := .int (h.1 a i.toNatClampNeg)) C0.1 C0.2.1 hA ((x_tyAt C0.2.2.2.2.2.1 0 (by decide)).1 n _) (fun q => by cases q) (by rw [arrV_size]; exact hin) (by rw [arrV_read _ _ (x_inn hin)]; rfl) rfl rfl hdg (kk _ hf)
theorem x_cald (C0 : x_C E p l s m meth c args cc nL own nm rt) (hR : x_Rep E h H) {a : Nat} {i : Int32} {kf : Int32 → Option XR} (hf : x_aI h 101 a i kf = some z) (hdg : decode cc pc = .ok (.caload, 1))
    (kk : ∀ v : Int32, kf v = some z → W p l e R s m args below meth c H locs cells slots Q (F0 m (pc + 1) ls (.int v :: rest))) : W p l e R s m args below meth c H locs cells slots Q (F0 m pc ls (.int i :: .ref (xa E a) :: rest)) := by
  obtain ⟨hi, hf⟩ := x_if hf
  obtain ⟨n, hs, hin⟩ := x_ix_el hi
  obtain ⟨-, hn, hA⟩ := x_arr (t := 1) hR hs
  exact W.cald (v := .int (h.1 a i.toNatClampNeg)) C0.1 C0.2.1 hA ((x_tyAt C0.2.2.2.2.2.1 1 (by decide)).1 n _) (fun q => by cases q) (by rw [arrV_size]; exact hin) (by rw [arrV_read _ _ (x_inn hin)]; rfl) rfl rfl hdg (kk _ hf)
theorem x_zald (C0 : x_C E p l s m meth c args cc nL own nm rt) (hR : x_Rep E h H) {a : Nat} {i : Int32} {kf : Int32 → Option XR} (hf : x_aI h 102 a i kf = some z) (hdg : decode cc pc = .ok (.baload, 1))
    (kk : ∀ v : Int32, kf v = some z → W p l e R s m args below meth c H locs cells slots Q (F0 m (pc + 1) ls (.int v :: rest))) : W p l e R s m args below meth c H locs cells slots Q (F0 m pc ls (.int i :: .ref (xa E a) :: rest)) := by
  obtain ⟨hi, hf⟩ := x_if hf
  obtain ⟨n, hs, hin⟩ := x_ix_el hi
  obtain ⟨-, hn, hA⟩ := x_arr (t := 2) hR hs
  exact W.zald (v := .int (h.1 a i.toNatClampNeg)) C0.1 C0.2.1 hA ((x_tyAt C0.2.2.2.2.2.1 2 (by decide)).1 n _) (fun q => by cases q) (by rw [arrV_size]; exact hin) (by rw [arrV_read _ _ (x_inn hin)]; rfl) rfl rfl hdg (kk _ hf)
theorem x_lald (C0 : x_C E p l s m meth c args cc nL own nm rt) (hR : x_Rep E h H) {a : Nat} {i : Int32} {kf : Int64 → Option XR} (hf : x_aJ h a i kf = some z) (hdg : decode cc pc = .ok (.laload, 1))
    (kk : ∀ v : Int64, kf v = some z → W p l e R s m args below meth c H locs cells slots Q (F0 m (pc + 1) ls (.long v :: rest))) : W p l e R s m args below meth c H locs cells slots Q (F0 m pc ls (.int i :: .ref (xa E a) :: rest)) := by
  obtain ⟨hi, hf⟩ := x_if hf
  obtain ⟨n, hs, hin⟩ := x_ix_el hi
  obtain ⟨-, hn, hA⟩ := x_arr (t := 3) hR hs
  exact W.lald (v := .long (h.2.1 a i.toNatClampNeg)) C0.1 C0.2.1 hA ((x_tyAt C0.2.2.2.2.2.1 3 (by decide)).1 n _) (fun q => by cases q) (by rw [arrV_size]; exact hin) (by rw [arrV_read _ _ (x_inn hin)]; rfl) rfl rfl hdg (kk _ hf)
theorem x_aald (C0 : x_C E p l s m meth c args cc nL own nm rt) (hR : x_Rep E h H) {a t : Nat} {i : Int32} {kf : Nat → Option XR} (hf : x_aR h (100 + t) a i kf = some z) (hty : (x_at t).isReference = true) (hir : x_isR (x_at t) = true) (hdg : decode cc pc = .ok (.aaload, 1))
    (kk : ∀ v : Nat, kf v = some z → W p l e R s m args below meth c H locs cells slots Q (F0 m (pc + 1) ls (.ref (xa E v) :: rest))) : W p l e R s m args below meth c H locs cells slots Q (F0 m pc ls (.int i :: .ref (xa E a) :: rest)) := by
  obtain ⟨hi, hf⟩ := x_if hf
  obtain ⟨n, hs, hin⟩ := x_ix_el hi
  obtain ⟨ht, hn, hA⟩ := x_arr hR hs
  refine W.aald (v := x_fv E h a (x_at t) i.toNatClampNeg) C0.1 C0.2.1 hA ((x_tyAt C0.2.2.2.2.2.1 t ht).1 n _) hty (fun q => by cases q) (by rw [arrV_size]; exact hin) (by rw [arrV_read _ _ (x_inn hin)]) rfl rfl hdg ?_
  rw [x_fvR hir]
  split at hf
  · next b e9 =>
    rw [e9]
    exact kk b hf
  · cases hf
theorem x_alen (C0 : x_C E p l s m meth c args cc nL own nm rt) (hR : x_Rep E h H) {a : Nat} {kf : Int32 → Option XR} (hf : x_ln h a kf = some z) (hdg : decode cc pc = .ok (.arraylength, 1))
    (kk : ∀ v : Int32, kf v = some z → W p l e R s m args below meth c H locs cells slots Q (F0 m (pc + 1) ls (.int v :: rest))) : W p l e R s m args below meth c H locs cells slots Q (F0 m pc ls (.ref (xa E a) :: rest)) := by
  unfold x_ln at hf
  split at hf
  · next kd n e9 =>
    obtain ⟨hk, hf2⟩ := x_if hf
    obtain ⟨t, rfl⟩ : ∃ t, kd = 100 + t := ⟨kd - 100, by omega⟩
    obtain ⟨ht, hn, hA⟩ := x_arr hR e9
    refine W.alen (n := Int32.ofNat n) C0.1 C0.2.1 hA ((x_tyAt C0.2.2.2.2.2.1 t ht).1 n _) ?_ rfl rfl hdg (kk _ hf2)
    rw [arrV_size]
  · cases hf
/-- an array's cell written: the picture follows -/
theorem x_arrput (hK : x_K E s s.heap) (hR : x_Rep E h H) (hS : va_S (x_A E) s.heap H locs) {a t n : Nat} (hs : (h_sh h)[a]? = some (100 + t, n)) {h' : HP} (hsh : h_sh h' = h_sh h) (hcl : h'.2.2.2.2 = h.2.2.2.2) (hoff : ∀ b, b ≠ a → ∀ ty k, x_fv E h' b ty k = x_fv E h b ty k) {k : Nat} {v : Value} (hup : ∀ j, x_fv E h' a (x_at t) j = updV (fun j => x_fv E h a (x_at t) j) k v j)
    {H1 : Heap} {i : Nat} (e1 : H1[xa E a]? = some ((arrV (E.2.2.2.1 t) n (fun j => x_fv E h a (x_at t) j)).setSlot k v)) (z1 : H1.size = H.size) (o1 : ∀ q : Nat, q ≠ xa E a → H1[q]? = H[q]?) : x_Rep E h' H1 ∧ va_S (x_A E) s.heap H1 (locs ++ [⟨xa E a, i⟩]) := by
  obtain ⟨ht, hn, hA⟩ := x_arr hR hs
  have hlt := x_lt hR hs
  refine ⟨hR.put hs hsh hcl hoff (Or.inr ⟨t, rfl, ht, hn, ?_⟩) z1 o1, hS.put z1 o1 (by show E.1 ≤ _; rw [hlt.2]; omega)⟩
  rw [← hlt.2, e1, arrV_store]
  exact congrArg some (congrArg (arrV _ n) (funext fun j => (hup j).symm))
theorem x_iast (C0 : x_C E p l s m meth c args cc nL own nm rt) (hR : x_Rep E h H) (hS : va_S (x_A E) s.heap H locs) {a : Nat} {i v : Int32} {kf : HP → Option XR} (hf : x_sI h a i v kf = some z) (hdg : decode cc pc = .ok (.iastore, 1))
    (kk : ∀ (H1 : Heap) (locs1 : List Loc), x_Rep E (h_wI h a i.toNatClampNeg v) H1 → va_S (x_A E) s.heap H1 locs1 → kf (h_wI h a i.toNatClampNeg v) = some z → W p l e R s m args below meth c H1 locs1 cells slots Q (F0 m (pc + 1) ls rest)) : W p l e R s m args below meth c H locs cells slots Q (F0 m pc ls (.int v :: .int i :: .ref (xa E a) :: rest)) := by
  obtain ⟨hi, hf⟩ := x_if hf
  obtain ⟨n, hs, hin⟩ := x_ix_el hi
  obtain ⟨-, hn, hA⟩ := x_arr (t := 0) hR hs
  refine W.iast C0.1 C0.2.1 hA ((x_tyAt C0.2.2.2.2.2.1 0 (by decide)).1 n _) (fun q => by cases q) (by rw [arrV_size]; exact hin) rfl rfl hdg fun H1 e1 z1 o1 => ?_
  obtain ⟨r1, s1⟩ := x_arrput (h' := h_wI h a i.toNatClampNeg v) (k := i.toNatClampNeg) (v := .int v) (i := i.toNatClampNeg) C0.2.2.2.2.2.1 hR hS (t := 0) hs rfl rfl (fun b hb ty j => x_fv_offI hb ty j) (fun j => x_fv_upI (f := fun _ => x_at 0) rfl j) e1 z1 o1
  exact kk H1 _ r1 s1 hf
theorem x_zast (C0 : x_C E p l s m meth c args cc nL own nm rt) (hR : x_Rep E h H) (hS : va_S (x_A E) s.heap H locs) {a : Nat} {i v : Int32} {kf : HP → Option XR} (hf : x_sZ h a i v kf = some z) (hdg : decode cc pc = .ok (.bastore, 1))
    (kk : ∀ (H1 : Heap) (locs1 : List Loc), x_Rep E (h_wI h a i.toNatClampNeg v) H1 → va_S (x_A E) s.heap H1 locs1 → kf (h_wI h a i.toNatClampNeg v) = some z → W p l e R s m args below meth c H1 locs1 cells slots Q (F0 m (pc + 1) ls rest)) : W p l e R s m args below meth c H locs cells slots Q (F0 m pc ls (.int v :: .int i :: .ref (xa E a) :: rest)) := by
  obtain ⟨⟨hi, h01⟩, hf⟩ := x_if hf
  obtain ⟨n, hs, hin⟩ := x_ix_el hi
  obtain ⟨-, hn, hA⟩ := x_arr (t := 2) hR hs
  have hnv : narrow .boolean (.int v) = .int v := by rcases h01 with rfl | rfl <;> first | rfl | decide
  refine W.zast C0.1 C0.2.1 hA ((x_tyAt C0.2.2.2.2.2.1 2 (by decide)).1 n _) (fun q => by cases q) (by rw [arrV_size]; exact hin) rfl rfl hdg fun H1 e1 z1 o1 => ?_
  rw [hnv] at e1
  obtain ⟨r1, s1⟩ := x_arrput (h' := h_wI h a i.toNatClampNeg v) (k := i.toNatClampNeg) (v := .int v) (i := i.toNatClampNeg) C0.2.2.2.2.2.1 hR hS (t := 2) hs rfl rfl (fun b hb ty j => x_fv_offI hb ty j) (fun j => x_fv_upI (f := fun _ => x_at 2) rfl j) e1 z1 o1
  exact kk H1 _ r1 s1 hf
theorem x_cast (C0 : x_C E p l s m meth c args cc nL own nm rt) (hR : x_Rep E h H) (hS : va_S (x_A E) s.heap H locs) {a : Nat} {i v : Int32} {kf : HP → Option XR} (hf : x_sC h a i v kf = some z) (hdg : decode cc pc = .ok (.castore, 1))
    (kk : ∀ (H1 : Heap) (locs1 : List Loc), x_Rep E (h_wI h a i.toNatClampNeg v) H1 → va_S (x_A E) s.heap H1 locs1 → kf (h_wI h a i.toNatClampNeg v) = some z → W p l e R s m args below meth c H1 locs1 cells slots Q (F0 m (pc + 1) ls rest)) : W p l e R s m args below meth c H locs cells slots Q (F0 m pc ls (.int v :: .int i :: .ref (xa E a) :: rest)) := by
  obtain ⟨⟨hi, h01⟩, hf⟩ := x_if hf
  obtain ⟨n, hs, hin⟩ := x_ix_el hi
  obtain ⟨-, hn, hA⟩ := x_arr (t := 1) hR hs
  have hnv : narrow .char (.int v) = .int v := narrow_of_fits h01
  refine W.cast C0.1 C0.2.1 hA ((x_tyAt C0.2.2.2.2.2.1 1 (by decide)).1 n _) (fun q => by cases q) (by rw [arrV_size]; exact hin) rfl rfl hdg fun H1 e1 z1 o1 => ?_
  rw [hnv] at e1
  obtain ⟨r1, s1⟩ := x_arrput (h' := h_wI h a i.toNatClampNeg v) (k := i.toNatClampNeg) (v := .int v) (i := i.toNatClampNeg) C0.2.2.2.2.2.1 hR hS (t := 1) hs rfl rfl (fun b hb ty j => x_fv_offI hb ty j) (fun j => x_fv_upI (f := fun _ => x_at 1) rfl j) e1 z1 o1
  exact kk H1 _ r1 s1 hf
theorem x_last (C0 : x_C E p l s m meth c args cc nL own nm rt) (hR : x_Rep E h H) (hS : va_S (x_A E) s.heap H locs) {a : Nat} {i : Int32} {v : Int64} {kf : HP → Option XR} (hf : x_sJ h a i v kf = some z) (hdg : decode cc pc = .ok (.lastore, 1))
    (kk : ∀ (H1 : Heap) (locs1 : List Loc), x_Rep E (h_wJ h a i.toNatClampNeg v) H1 → va_S (x_A E) s.heap H1 locs1 → kf (h_wJ h a i.toNatClampNeg v) = some z → W p l e R s m args below meth c H1 locs1 cells slots Q (F0 m (pc + 1) ls rest)) : W p l e R s m args below meth c H locs cells slots Q (F0 m pc ls (.long v :: .int i :: .ref (xa E a) :: rest)) := by
  obtain ⟨hi, hf⟩ := x_if hf
  obtain ⟨n, hs, hin⟩ := x_ix_el hi
  obtain ⟨-, hn, hA⟩ := x_arr (t := 3) hR hs
  refine W.last C0.1 C0.2.1 hA ((x_tyAt C0.2.2.2.2.2.1 3 (by decide)).1 n _) (fun q => by cases q) (by rw [arrV_size]; exact hin) rfl rfl hdg fun H1 e1 z1 o1 => ?_
  obtain ⟨r1, s1⟩ := x_arrput (h' := h_wJ h a i.toNatClampNeg v) (k := i.toNatClampNeg) (v := .long v) (i := i.toNatClampNeg) C0.2.2.2.2.2.1 hR hS (t := 3) hs rfl rfl (fun b hb ty j => x_fv_offJ hb ty j) (fun j => x_fv_upJ (f := fun _ => x_at 3) rfl j) e1 z1 o1
  exact kk H1 _ r1 s1 hf
end XA

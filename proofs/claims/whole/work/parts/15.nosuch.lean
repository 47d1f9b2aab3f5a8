section XT
variable {p : Program} {l : Launch} {e : Env} {R : Room} {s : State} {m : MethodId} {args : Array Value} {below : List Frame} {meth : Method} {c : Code} {H : Heap} {locs : List Loc} {cells slots : Nat} {Q : State → Prop}
variable {cc : ByteArray} {pc nL : Nat} {ls : Array Slot} {rest : List Value} {E : XE} {h : HP} {own nm : String} {rt : Option FieldType} {z : XR}
theorem x_throwN (C0 : x_C E p l s m meth c args cc nL "GridEngine" nm rt) (hxt : ∀ x ∈ c.exceptionTable.toList, False) (hR : x_Rep E h H) (hS : va_S (x_A E) s.heap H locs) (hf : some (h_dirty h, xt "java/util/NoSuchElementException") = some z) {is mc ms : Nat} (hls : ls.size = nL)
    (d0 : decode cc pc = .ok (.new 204, 3)) (d3 : decode cc (pc + 3) = .ok (.dup, 1)) (d4 : decode cc (pc + 4) = .ok (.ldc is, 2)) (d6 : decode cc (pc + 6) = .ok (.invokespecial 208, 3)) (d9 : decode cc (pc + 9) = .ok (.athrow, 1))
    (hRf : 5 < R.frames) (hRl : (rest.map fun v => v.category).sum + 82 ≤ R.locals) (hRc : cells + 1 ≤ R.cells) (hRs : slots + 6 ≤ R.slots) (hc : cells + 1 ≤ mc) (hs : slots + 6 ≤ ms) : W p l e R s m args below meth c H locs cells slots (x_Q E below args s mc ms z) (F0 m pc ls rest) := by
  sorry
end XT
def x_nm (h : HP) (n : Int32) (f : HP → Nat → Option XR) : Option XR := if h.2.2.2.2 = true ∧ (h_sh h).length < 1000 ∧ 0 ≤ n.toInt ∧ n.toInt ≤ 400 then f (h_new h 104 n.toNatClampNeg) (h_sh h).length else none
section XQ
variable {p : Program} {l : Launch} {e : Env} {R : Room} {s : State} {m : MethodId} {args : Array Value} {below : List Frame} {meth : Method} {c : Code} {H : Heap} {locs : List Loc} {cells slots : Nat} {Q : State → Prop}
variable {cc : ByteArray} {pc nL : Nat} {ls : Array Slot} {rest : List Value} {E : XE} {h : HP} {own nm : String} {rt : Option FieldType} {z : XR}
theorem x_newq (C0 : x_C E p l s m meth c args cc nL own nm rt) (hR : x_Rep E h H) (hS : va_S (x_A E) s.heap H locs) {n : Int32} {kf : HP → Nat → Option XR} (hf : x_nm h n kf = some z) {index : Nat} (w1 : Cond.classLink own index "GridEngine$Model" ∈ TG) {N : Nat} (hN : n.toNatClampNeg = N) (hcells : cells + 1 ≤ R.cells) (hslots : slots + N ≤ R.slots) (hdg : decode cc pc = .ok (.anewarray index, 3))
    (kk : ∀ (H1 : Heap) (q : Nat), x_Rep E (h_new h 104 n.toNatClampNeg) H1 → va_S (x_A E) s.heap H1 locs → kf (h_new h 104 n.toNatClampNeg) q = some z → W p l e R s m args below meth c H1 locs (cells + 1) (slots + N) Q (F0 m (pc + 3) ls (.ref (xa E q) :: rest))) : W p l e R s m args below meth c H locs cells slots Q (F0 m pc ls (.int n :: rest)) := by
  obtain ⟨⟨hcl, hlen, h0, h4⟩, hf⟩ := x_if hf
  subst hN
  have hb4 : n.toNatClampNeg ≤ 400 := by
    have : n.toNatClampNeg = n.toInt.toNat := rfl
    omega
  have hover : (Cond.arrayOver (.object "GridEngine$Model")).before args s = true := by
    have h1 := C0.2.2.2.2.2.1.2.2.1 (.object "GridEngine$Model") (by simp [x_aoT])
    exact va_AO.use (va_AO.of h1)
  refine W.anew C0.1 C0.2.1 C0.2.2.2.1 (C0.2.2.2.2.1 _ w1) hover rfl hdg rfl (x_nonneg h0) (by omega) hcells hslots fun cA kA comp f1 f2 f3 f4 => ?_
  generalize hH1 : H.push ({ cls := cA, slots := Array.replicate n.toNatClampNeg .null, vm := .none } : Cell) = H1
  have z1 : H1.size = H.size + 1 := by rw [← hH1, Array.size_push]
  have e1 : H1[H.size]? = some (arrV cA n.toNatClampNeg (fun _ => .null)) := by rw [← hH1, Array.getElem?_push_size, ← arrV_new]
  have o1 : ∀ q : Nat, q < H.size → H1[q]? = H[q]? := fun q hq => by rw [← hH1, Array.getElem?_push, if_neg (Nat.ne_of_lt hq)]
  have ha : H.size = xa E (h_sh h).length := by rw [hR.2.2.2 hcl, xa_lt (by omega)]
  have hcA : cA = E.2.2.2.1 4 := by
    obtain ⟨kA', comp', g1, g2, g3, g4⟩ := (x_tyAt C0.2.2.2.2.2.1 4 (by decide)).2
    first
      | exact Option.some.inj (f1.symm.trans g4)
      | exact Option.some.inj (f4.symm.trans g4)
  show W p l e R s m args below meth c H1 locs (cells + 1) (slots + n.toNatClampNeg) Q (F0 m (pc + 3) ls (.ref H.size :: rest))
  rw [ha]
  refine kk H1 _ (hR.push hcl hlen (Or.inr ⟨4, rfl, by decide, by omega, ?_⟩) z1 o1) (x_grow hS z1 o1) hf
  rw [← hR.2.2.2 hcl, e1, hcA]
  have h9 : ∀ j, Value.null = x_fv E (h_new h 104 n.toNatClampNeg) (h_sh h).length (x_at 4) j := fun j => (x_fv_zero (ty := x_at 4) rfl j).symm
  exact congrArg some (congrArg (arrV _ _) (funext h9))
end XQ

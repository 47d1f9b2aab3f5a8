section XT
variable {p : Program} {l : Launch} {e : Env} {R : Room} {s : State} {m : MethodId} {args : Array Value} {below : List Frame} {meth : Method} {c : Code} {H : Heap} {locs : List Loc} {cells slots : Nat} {Q : State → Prop}
variable {cc : ByteArray} {pc nL : Nat} {ls : Array Slot} {rest : List Value} {E : XE} {h : HP} {own nm : String} {rt : Option FieldType} {z : XR}
theorem x_throwN (C0 : x_C E p l s m meth c args cc nL "GridEngine" nm rt) (hxt : ∀ x ∈ c.exceptionTable.toList, False) (hR : x_Rep E h H) (hS : va_S (x_A E) s.heap H locs) (hf : some (h_dirty h, xt "java/util/NoSuchElementException") = some z) {is mc ms : Nat} (hls : ls.size = nL)
    (d0 : decode cc pc = .ok (.new 204, 3)) (d3 : decode cc (pc + 3) = .ok (.dup, 1)) (d4 : decode cc (pc + 4) = .ok (.ldc is, 2)) (d6 : decode cc (pc + 6) = .ok (.invokespecial 208, 3)) (d9 : decode cc (pc + 9) = .ok (.athrow, 1))
    (hRf : 5 < R.frames) (hRl : (rest.map fun v => v.category).sum + 82 ≤ R.locals) (hRc : cells + 1 ≤ R.cells) (hRs : slots + 6 ≤ R.slots) (hc : cells + 1 ≤ mc) (hs : slots + 6 ≤ ms) : W p l e R s m args below meth c H locs cells slots (x_Q E below args s mc ms z) (F0 m pc ls rest) := by
  sorry
end XT

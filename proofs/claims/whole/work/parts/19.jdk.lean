def f_J9_floorDiv_7cf53_b21  (h : HP) (x2 : Int32) : Option XR :=
  some (h, xi x2)
def f_J9_floorDiv_7cf53 (h : HP) (x0 : Int32) (x1 : Int32) : Option XR :=
  x_dI x1 <|
  x_lI (x0 / x1) fun i1 =>
  if 0 ≤ (x0 ^^^ x1) then
    (
      f_J9_floorDiv_7cf53_b21 h i1
    )
  else
    (
      if (i1 * x1) = x0 then
        (
          f_J9_floorDiv_7cf53_b21 h i1
        )
      else
        (
          some (h, xi (i1 - 1))
        )
    )
set_option maxRecDepth 100000 in
set_option maxHeartbeats 4000000 in
theorem s_J9_floorDiv_7cf53_b21 {p : Program} {l : Launch} {e : Env} {s : State} {m : MethodId} {args : Array Value} {below : List Frame} {meth : Method} {c : Code} {E : XE} {z : XR} (C0 : x_C E p l s m meth c args cJ9_floorDiv_7cf53 3 "java/lang/Math" "floorDiv" (some .int)) (hxt : ∀ x ∈ c.exceptionTable.toList, False)  : ∀ (h : HP) (x2 : Int32) (H : Heap) (locs : List Loc) (ls : Array Slot), x_Rep E h H → va_S (x_A E) s.heap H locs → lv_has ls 3 [(2, .int x2)] → f_J9_floorDiv_7cf53_b21 h x2 = some z → W p l e ({ frames := 8, cells := 0, slots := 0, locals := 130 } : Room) s m args below meth c H locs 0 0 (x_Q E below args s 0 0 z) (F0 m 21 ls []) := by
  intro h x2 H locs ls hR hS hl hf
  obtain ⟨hx, hb, -⟩ := id C0
  unfold f_J9_floorDiv_7cf53_b21 at hf
  have h0 : x_by cJ9_floorDiv_7cf53 21 [28, 172] := by unfold x_by; decide +kernel
  obtain ⟨d21, h0⟩ := de_iload_n2 h0
  obtain ⟨d22, h0⟩ := de_ireturn h0
  refine lv_iload_n hx hb d21 rfl (lv_at hl 0 rfl) ?_
  exact x_iret C0 hR hS hf (Nat.le_of_ble_eq_true rfl) (Nat.le_of_ble_eq_true rfl) d22
set_option maxRecDepth 100000 in
set_option maxHeartbeats 4000000 in
theorem ct_J9_floorDiv_7cf53 (E : XE) (l : Launch) (hl0 : l.stackTraces = false) (h : HP) (x0 : Int32) (x1 : Int32) : x_ct E l yJ9_floorDiv_7cf53 (Cond.code yJ9_floorDiv_7cf53 cJ9_floorDiv_7cf53 3 (some .int)) 8 130 0 0 [.int x0, .int x1] h (f_J9_floorDiv_7cf53 h x0 x1) := by
  refine x_ofW hl0 (by decide +kernel) ?_
  intro z hf p e s m args below meth c C0 hxt hargs hR
  subst hargs
  have C0 : x_C E p l s m meth c ([.int x0, .int x1] : List Value).toArray cJ9_floorDiv_7cf53 3 "java/lang/Math" "floorDiv" (some .int) := C0
  obtain ⟨hx, hb, -⟩ := id C0
  have hS : va_S (x_A E) s.heap s.heap [] := va_S.rf
  have hl := lv_entry ([.int x0, .int x1]) (n := 3) (Nat.le_of_ble_eq_true rfl)
  rw [lg_entry_eq]
  generalize (lg_sl ([.int x0, .int x1]) ++ List.replicate (3 - (lg_sl ([.int x0, .int x1])).length) Slot.unset).toArray = ls at hl ⊢
  have hl : lv_has ls 3 [(0, .int x0), (1, .int x1)] := hl
  unfold f_J9_floorDiv_7cf53 at hf
  have h0 : x_by cJ9_floorDiv_7cf53 0 [26, 27, 108, 61, 26, 27, 130, 156, 0, 14] := by unfold x_by; decide +kernel
  obtain ⟨d0, h0⟩ := de_iload_n0 h0
  obtain ⟨d1, h0⟩ := de_iload_n1 h0
  obtain ⟨d2, h0⟩ := de_idiv h0
  obtain ⟨d3, h0⟩ := de_istore_n2 h0
  obtain ⟨d4, h0⟩ := de_iload_n0 h0
  obtain ⟨d5, h0⟩ := de_iload_n1 h0
  obtain ⟨d6, h0⟩ := de_ixor h0
  obtain ⟨d7, h0⟩ := de_if_ge (14) (by decide) h0
  refine lv_iload_n hx hb d0 rfl (lv_at hl 0 rfl) ?_
  refine lv_iload_n hx hb d1 rfl (lv_at hl 1 rfl) ?_
  obtain ⟨hnz, hf⟩ := x_zd hf
  refine lv_idiv hx hb d2 hnz ?_
  refine lv_topi (fun i1 ei1 => ?_)
  have hf := x_lI_el ei1 hf
  refine lv_istore_n (lv' := [(2, .int i1), (0, .int x0), (1, .int x1)]) hx hb d3 rfl hl (by decide) rfl (fun ls hl => ?_)
  refine lv_iload_n hx hb d4 rfl (lv_at hl 1 rfl) ?_
  refine lv_iload_n hx hb d5 rfl (lv_at hl 2 rfl) ?_
  refine lv_ixor hx hb d6 ?_
  refine lv_if_ge (tgt := 21) hx hb d7 (by decide) (fun q => ?_) (fun q => ?_)
  · have hf := x_pos q hf
    exact s_J9_floorDiv_7cf53_b21 C0 hxt _ _ _ _ _ hR hS (lv_sub hl [0] rfl) hf
  · have hf := x_neg q hf
    have h0 : x_by cJ9_floorDiv_7cf53 10 [28, 27, 104, 26, 159, 0, 7] := by unfold x_by; decide +kernel
    obtain ⟨d10, h0⟩ := de_iload_n2 h0
    obtain ⟨d11, h0⟩ := de_iload_n1 h0
    obtain ⟨d12, h0⟩ := de_imul h0
    obtain ⟨d13, h0⟩ := de_iload_n0 h0
    obtain ⟨d14, h0⟩ := de_icmp_eq (7) (by decide) h0
    refine lv_iload_n hx hb d10 rfl (lv_at hl 0 rfl) ?_
    refine lv_iload_n hx hb d11 rfl (lv_at hl 2 rfl) ?_
    refine lv_imul hx hb d12 ?_
    refine lv_iload_n hx hb d13 rfl (lv_at hl 1 rfl) ?_
    refine lv_icmp_eq (tgt := 21) hx hb d14 (by decide) (fun q => ?_) (fun q => ?_)
    · have hf := x_pos q hf
      exact s_J9_floorDiv_7cf53_b21 C0 hxt _ _ _ _ _ hR hS (lv_sub hl [0] rfl) hf
    · have hf := x_neg q hf
      have h0 : x_by cJ9_floorDiv_7cf53 17 [28, 4, 100, 172] := by unfold x_by; decide +kernel
      obtain ⟨d17, h0⟩ := de_iload_n2 h0
      obtain ⟨d18, h0⟩ := de_iconst_1 h0
      obtain ⟨d19, h0⟩ := de_isub h0
      obtain ⟨d20, h0⟩ := de_ireturn h0
      refine lv_iload_n hx hb d17 rfl (lv_at hl 0 rfl) ?_
      refine lv_iconst (v := 1) hx hb d18 (by decide) ?_
      refine lv_isub hx hb d19 ?_
      exact x_iret C0 hR hS hf (Nat.le_of_ble_eq_true rfl) (Nat.le_of_ble_eq_true rfl) d20
def f_J7_fill_53178_b5 (k5 : HP → Nat → Int32 → Int32 → Int32 → Option XR) (h : HP) (r0 : Nat) (x1 : Int32) (x2 : Int32) (x3 : Int32) : Option XR :=
  if x3 ≤ x2 then
    (
      some (h, xv)
    )
  else
    (
      x_sI h r0 x2 x1 fun h1 =>
      k5 h1 r0 x1 (x2 + 1) x3
    )
def f_J7_fill_53178_L5  : Nat → HP → Nat → Int32 → Int32 → Int32 → Option XR
  | 0 => fun _ _ _ _ _ => none
  | n + 1 => f_J7_fill_53178_b5 (f_J7_fill_53178_L5 n)
def f_J7_fill_53178 (h : HP) (r0 : Nat) (x1 : Int32) : Option XR :=
  x_ln h r0 fun i1 =>
  f_J7_fill_53178_L5 FU h r0 x1 0 i1
set_option maxRecDepth 100000 in
set_option maxHeartbeats 4000000 in
theorem s_J7_fill_53178_b5 {p : Program} {l : Launch} {e : Env} {s : State} {m : MethodId} {args : Array Value} {below : List Frame} {meth : Method} {c : Code} {E : XE} {z : XR} (C0 : x_C E p l s m meth c args cJ7_fill_53178 4 "java/util/Arrays" "fill" none) (hxt : ∀ x ∈ c.exceptionTable.toList, False) {k5 : HP → Nat → Int32 → Int32 → Int32 → Option XR} (hk5 : ∀ (h : HP) (r0 : Nat) (x1 : Int32) (x2 : Int32) (x3 : Int32) (H : Heap) (locs : List Loc) (ls : Array Slot), x_Rep E h H → va_S (x_A E) s.heap H locs → lv_has ls 4 [(0, .ref (xa E r0)), (1, .int x1), (2, .int x2), (3, .int x3)] → k5 h r0 x1 x2 x3 = some z → W p l e ({ frames := 8, cells := 0, slots := 0, locals := 130 } : Room) s m args below meth c H locs 0 0 (x_Q E below args s 0 0 z) (F0 m 5 ls [])) : ∀ (h : HP) (r0 : Nat) (x1 : Int32) (x2 : Int32) (x3 : Int32) (H : Heap) (locs : List Loc) (ls : Array Slot), x_Rep E h H → va_S (x_A E) s.heap H locs → lv_has ls 4 [(0, .ref (xa E r0)), (1, .int x1), (2, .int x2), (3, .int x3)] → f_J7_fill_53178_b5 k5 h r0 x1 x2 x3 = some z → W p l e ({ frames := 8, cells := 0, slots := 0, locals := 130 } : Room) s m args below meth c H locs 0 0 (x_Q E below args s 0 0 z) (F0 m 5 ls []) := by
  intro h r0 x1 x2 x3 H locs ls hR hS hl hf
  obtain ⟨hx, hb, -⟩ := id C0
  unfold f_J7_fill_53178_b5 at hf
  have h0 : x_by cJ7_fill_53178 5 [28, 29, 162, 0, 13] := by unfold x_by; decide +kernel
  obtain ⟨d5, h0⟩ := de_iload_n2 h0
  obtain ⟨d6, h0⟩ := de_iload_n3 h0
  obtain ⟨d7, h0⟩ := de_icmp_ge (13) (by decide) h0
  refine lv_iload_n hx hb d5 rfl (lv_at hl 2 rfl) ?_
  refine lv_iload_n hx hb d6 rfl (lv_at hl 3 rfl) ?_
  refine lv_icmp_ge (tgt := 20) hx hb d7 (by decide) (fun q => ?_) (fun q => ?_)
  · have hf := x_pos q hf
    have h0 : x_by cJ7_fill_53178 20 [177] := by unfold x_by; decide +kernel
    obtain ⟨d20, h0⟩ := de_return h0
    exact x_vret C0 hR hS hf (Nat.le_of_ble_eq_true rfl) (Nat.le_of_ble_eq_true rfl) d20
  · have hf := x_neg q hf
    have h0 : x_by cJ7_fill_53178 10 [42, 28, 27, 79, 132, 2, 1, 167, 255, 244] := by unfold x_by; decide +kernel
    obtain ⟨d10, h0⟩ := de_aload_n0 h0
    obtain ⟨d11, h0⟩ := de_iload_n2 h0
    obtain ⟨d12, h0⟩ := de_iload_n1 h0
    obtain ⟨d13, h0⟩ := de_iastore h0
    obtain ⟨d14, h0⟩ := de_iinc (1) (by decide) h0
    obtain ⟨d17, h0⟩ := de_goto (-12) (by decide) h0
    refine lv_aload_n hx hb d10 rfl (lv_at hl 0 rfl) ?_
    refine lv_iload_n hx hb d11 rfl (lv_at hl 2 rfl) ?_
    refine lv_iload_n hx hb d12 rfl (lv_at hl 1 rfl) ?_
    refine x_iast C0 hR hS hf d13 (fun H locs hR hS hf => ?_)
    refine lv_iinc (v := (x2 + 1)) (lv' := [(2, .int (x2 + 1)), (0, .ref (xa E r0)), (1, .int x1), (3, .int x3)]) hx hb d14 hl (k := 2) rfl rfl (by decide) rfl (fun ls hl => ?_)
    refine lv_goto (tgt := 5) hx hb d17 (by decide) ?_
    exact hk5 _ _ _ _ _ _ _ _ hR hS (lv_sub hl [1, 2, 0, 3] rfl) hf
theorem s_J7_fill_53178_L5 {p : Program} {l : Launch} {e : Env} {s : State} {m : MethodId} {args : Array Value} {below : List Frame} {meth : Method} {c : Code} {E : XE} {z : XR} (C0 : x_C E p l s m meth c args cJ7_fill_53178 4 "java/util/Arrays" "fill" none) (hxt : ∀ x ∈ c.exceptionTable.toList, False)  : ∀ n : Nat, ∀ (h : HP) (r0 : Nat) (x1 : Int32) (x2 : Int32) (x3 : Int32) (H : Heap) (locs : List Loc) (ls : Array Slot), x_Rep E h H → va_S (x_A E) s.heap H locs → lv_has ls 4 [(0, .ref (xa E r0)), (1, .int x1), (2, .int x2), (3, .int x3)] → f_J7_fill_53178_L5 n h r0 x1 x2 x3 = some z → W p l e ({ frames := 8, cells := 0, slots := 0, locals := 130 } : Room) s m args below meth c H locs 0 0 (x_Q E below args s 0 0 z) (F0 m 5 ls []) := by
  intro n
  induction n with
  | zero => intro h r0 x1 x2 x3 H locs ls hR hS hl hf; cases (show (none : Option XR) = some z from hf)
  | succ n ih => intro h r0 x1 x2 x3 H locs ls hR hS hl hf; exact s_J7_fill_53178_b5 C0 hxt ih h r0 x1 x2 x3 H locs ls hR hS hl (show f_J7_fill_53178_b5 (f_J7_fill_53178_L5 n) h r0 x1 x2 x3 = some z from hf)
set_option maxRecDepth 100000 in
set_option maxHeartbeats 4000000 in
theorem ct_J7_fill_53178 (E : XE) (l : Launch) (hl0 : l.stackTraces = false) (h : HP) (r0 : Nat) (x1 : Int32) : x_ct E l yJ7_fill_53178 (Cond.code yJ7_fill_53178 cJ7_fill_53178 4 none) 8 130 0 0 [.ref (xa E r0), .int x1] h (f_J7_fill_53178 h r0 x1) := by
  refine x_ofW hl0 (by decide +kernel) ?_
  intro z hf p e s m args below meth c C0 hxt hargs hR
  subst hargs
  have C0 : x_C E p l s m meth c ([.ref (xa E r0), .int x1] : List Value).toArray cJ7_fill_53178 4 "java/util/Arrays" "fill" none := C0
  obtain ⟨hx, hb, -⟩ := id C0
  have hS : va_S (x_A E) s.heap s.heap [] := va_S.rf
  have hl := lv_entry ([.ref (xa E r0), .int x1]) (n := 4) (Nat.le_of_ble_eq_true rfl)
  rw [lg_entry_eq]
  generalize (lg_sl ([.ref (xa E r0), .int x1]) ++ List.replicate (4 - (lg_sl ([.ref (xa E r0), .int x1])).length) Slot.unset).toArray = ls at hl ⊢
  have hl : lv_has ls 4 [(0, .ref (xa E r0)), (1, .int x1)] := hl
  unfold f_J7_fill_53178 at hf
  have h0 : x_by cJ7_fill_53178 0 [3, 61, 42, 190, 62] := by unfold x_by; decide +kernel
  obtain ⟨d0, h0⟩ := de_iconst_0 h0
  obtain ⟨d1, h0⟩ := de_istore_n2 h0
  obtain ⟨d2, h0⟩ := de_aload_n0 h0
  obtain ⟨d3, h0⟩ := de_arraylength h0
  obtain ⟨d4, h0⟩ := de_istore_n3 h0
  refine lv_iconst (v := 0) hx hb d0 (by decide) ?_
  refine lv_istore_n (lv' := [(2, .int 0), (0, .ref (xa E r0)), (1, .int x1)]) hx hb d1 rfl hl (by decide) rfl (fun ls hl => ?_)
  refine lv_aload_n hx hb d2 rfl (lv_at hl 1 rfl) ?_
  refine x_alen C0 hR hf d3 (fun i1 hf => ?_)
  refine lv_istore_n (lv' := [(3, .int i1), (2, .int 0), (0, .ref (xa E r0)), (1, .int x1)]) hx hb d4 rfl hl (by decide) rfl (fun ls hl => ?_)
  exact s_J7_fill_53178_L5 C0 hxt FU _ _ _ _ _ _ _ _ hR hS (lv_sub hl [2, 3, 1, 0] rfl) hf

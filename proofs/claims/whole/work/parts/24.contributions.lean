def f_X1_init (h : HP) (r0 : Nat) (r1 : Nat) : Option XR :=
  x_na h 0 65 fun h2 a1 =>
  x_pR h2 r0 1 1 a1 fun h3 =>
  x_na h3 0 12 fun h5 a4 =>
  x_pR h5 r0 1 2 a4 fun h6 =>
  x_pR h6 r0 1 0 r1 fun h7 =>
  some (h7, xv)
set_option maxRecDepth 100000 in
set_option maxHeartbeats 4000000 in
theorem ct_X1_init (E : XE) (l : Launch) (hl0 : l.stackTraces = false) (h : HP) (r0 : Nat) (r1 : Nat) : x_ct E l yX1_init (Cond.code yX1_init cX1_init 2 none) 8 130 2 77 [.ref (xa E r0), .ref (xa E r1)] h (f_X1_init h r0 r1) := by
  refine x_ofW hl0 (by decide +kernel) ?_
  intro z hf p e s m args below meth c C0 hxt hargs hR
  subst hargs
  have C0 : x_C E p l s m meth c ([.ref (xa E r0), .ref (xa E r1)] : List Value).toArray cX1_init 2 "GridEngine$Contributions" "<init>" none := C0
  obtain ⟨hx, hb, -⟩ := id C0
  have hS : va_S (x_A E) s.heap s.heap [] := va_S.rf
  have hl := lv_entry ([.ref (xa E r0), .ref (xa E r1)]) (n := 2) (Nat.le_of_ble_eq_true rfl)
  rw [lg_entry_eq]
  generalize (lg_sl ([.ref (xa E r0), .ref (xa E r1)]) ++ List.replicate (2 - (lg_sl ([.ref (xa E r0), .ref (xa E r1)])).length) Slot.unset).toArray = ls at hl ⊢
  have hl : lv_has ls 2 [(0, .ref (xa E r0)), (1, .ref (xa E r1))] := hl
  unfold f_X1_init at hf
  have h0 : x_by cX1_init 0 [42, 183, 0, 3, 42, 16, 65, 188, 10, 181, 0, 9, 42, 16, 12, 188, 10, 181, 0, 15, 42, 43, 181, 0, 18, 177] := by unfold x_by; decide +kernel
  obtain ⟨d0, h0⟩ := de_aload_n0 h0
  obtain ⟨d1, h0⟩ := de_invokespecial 3 (by decide) h0
  obtain ⟨d4, h0⟩ := de_aload_n0 h0
  obtain ⟨d5, h0⟩ := de_bipush (65) (by decide) h0
  obtain ⟨d7, h0⟩ := de_newarray_int h0
  obtain ⟨d9, h0⟩ := de_putfield 9 (by decide) h0
  obtain ⟨d12, h0⟩ := de_aload_n0 h0
  obtain ⟨d13, h0⟩ := de_bipush (12) (by decide) h0
  obtain ⟨d15, h0⟩ := de_newarray_int h0
  obtain ⟨d17, h0⟩ := de_putfield 15 (by decide) h0
  obtain ⟨d20, h0⟩ := de_aload_n0 h0
  obtain ⟨d21, h0⟩ := de_aload_n1 h0
  obtain ⟨d22, h0⟩ := de_putfield 18 (by decide) h0
  obtain ⟨d25, h0⟩ := de_return h0
  refine lv_aload_n hx hb d0 rfl (lv_at hl 0 rfl) ?_
  refine x_oinit C0 hl.1 ml_X1_3 lib_oinit (Nat.le_of_ble_eq_true rfl) (Nat.le_of_ble_eq_true rfl) d1 ?_
  refine lv_aload_n hx hb d4 rfl (lv_at hl 0 rfl) ?_
  refine lv_bipush (v := 65) hx hb d5 (by decide) ?_
  refine x_newa (t := 0) C0 hR hS hf rfl (by decide) ac_0 (N := 65) (by decide) (Nat.le_of_ble_eq_true rfl) (Nat.le_of_ble_eq_true rfl) d7 (fun H a1 hR hS hf => ?_)
  refine x_putR C0 hR hS hf xcl_1 (Nat.le_of_ble_eq_true rfl) rfl fl_X1_9 (Or.inr ⟨rfl, rfl, fm_X1_9⟩) d9 (fun H locs hR hS hf => ?_)
  refine lv_aload_n hx hb d12 rfl (lv_at hl 0 rfl) ?_
  refine lv_bipush (v := 12) hx hb d13 (by decide) ?_
  refine x_newa (t := 0) C0 hR hS hf rfl (by decide) ac_0 (N := 12) (by decide) (Nat.le_of_ble_eq_true rfl) (Nat.le_of_ble_eq_true rfl) d15 (fun H a4 hR hS hf => ?_)
  refine x_putR C0 hR hS hf xcl_1 (Nat.le_of_ble_eq_true rfl) rfl fl_X1_15 (Or.inr ⟨rfl, rfl, fm_X1_15⟩) d17 (fun H locs hR hS hf => ?_)
  refine lv_aload_n hx hb d20 rfl (lv_at hl 0 rfl) ?_
  refine lv_aload_n hx hb d21 rfl (lv_at hl 1 rfl) ?_
  refine x_putR C0 hR hS hf xcl_1 (Nat.le_of_ble_eq_true rfl) rfl fl_X1_18 (Or.inr ⟨rfl, rfl, fm_X1_18⟩) d22 (fun H locs hR hS hf => ?_)
  exact x_vret C0 hR hS hf (Nat.le_of_ble_eq_true rfl) (Nat.le_of_ble_eq_true rfl) d25
def f_X1_findGroups_b41 (k2 : HP → Nat → Nat → Int32 → Option XR) (h : HP) (t0 : Int32) (t1 : Int32) (t2 : Nat) (r0 : Nat) (r1 : Nat) (x2 : Int32) : Option XR :=
  x_sI h t2 t1 t0 fun h1 =>
  k2 h1 r0 r1 (x2 + 1)
def f_X1_findGroups_b48  (h : HP)  : Option XR :=
  some (h, xv)
def f_X1_findGroups_b2 (k2 : HP → Nat → Nat → Int32 → Option XR) (h : HP) (r0 : Nat) (r1 : Nat) (x2 : Int32) : Option XR :=
  x_rc h r1 0 <| x_cI (f_X0_itemCount h r1) fun h2 i1 =>
  if i1 ≤ x2 then
    (
      f_X1_findGroups_b48 h2
    )
  else
    (
      if 12 ≤ x2 then
        (
          f_X1_findGroups_b48 h2
        )
      else
        (
          x_rc h2 r1 0 <| x_cI (f_X0_isOnFlexible h2 r1 x2) fun h4 i3 =>
          x_gR h4 r0 1 2 fun a5 =>
          if i3 = 0 then
            (
              x_rc h4 r1 0 <| x_cI (f_X0_itemField h4 r1 x2 3) fun h7 i6 =>
              f_X1_findGroups_b41 k2 h7 i6 x2 a5 r0 r1 x2
            )
          else
            (
              f_X1_findGroups_b41 k2 h4 5 x2 a5 r0 r1 x2
            )
        )
    )
def f_X1_findGroups_L2  : Nat → HP → Nat → Nat → Int32 → Option XR
  | 0 => fun _ _ _ _ => none
  | n + 1 => f_X1_findGroups_b2 (f_X1_findGroups_L2 n)
def f_X1_findGroups (h : HP) (r0 : Nat) (r1 : Nat) : Option XR :=
  f_X1_findGroups_L2 FU h r0 r1 0
set_option maxRecDepth 100000 in
set_option maxHeartbeats 4000000 in
theorem s_X1_findGroups_b41 {p : Program} {l : Launch} {e : Env} {s : State} {m : MethodId} {args : Array Value} {below : List Frame} {meth : Method} {c : Code} {E : XE} {z : XR} (C0 : x_C E p l s m meth c args cX1_findGroups 4 "GridEngine$Contributions" "findGroups" none) (hxt : ∀ x ∈ c.exceptionTable.toList, False) {k2 : HP → Nat → Nat → Int32 → Option XR} (hk2 : ∀ (h : HP) (r0 : Nat) (r1 : Nat) (x2 : Int32) (H : Heap) (locs : List Loc) (ls : Array Slot), x_Rep E h H → va_S (x_A E) s.heap H locs → lv_has ls 4 [(0, .ref (xa E r0)), (1, .ref (xa E r1)), (2, .int x2)] → k2 h r0 r1 x2 = some z → W p l e ({ frames := 12, cells := 0, slots := 0, locals := 220 } : Room) s m args below meth c H locs 0 0 (x_Q E below args s 0 0 z) (F0 m 2 ls [])) : ∀ (h : HP) (t0 : Int32) (t1 : Int32) (t2 : Nat) (r0 : Nat) (r1 : Nat) (x2 : Int32) (H : Heap) (locs : List Loc) (ls : Array Slot), x_Rep E h H → va_S (x_A E) s.heap H locs → lv_has ls 4 [(0, .ref (xa E r0)), (1, .ref (xa E r1)), (2, .int x2)] → f_X1_findGroups_b41 k2 h t0 t1 t2 r0 r1 x2 = some z → W p l e ({ frames := 12, cells := 0, slots := 0, locals := 220 } : Room) s m args below meth c H locs 0 0 (x_Q E below args s 0 0 z) (F0 m 41 ls [.int t0, .int t1, .ref (xa E t2)]) := by
  intro h t0 t1 t2 r0 r1 x2 H locs ls hR hS hl hf
  obtain ⟨hx, hb, -⟩ := id C0
  unfold f_X1_findGroups_b41 at hf
  have h0 : x_by cX1_findGroups 41 [79, 132, 2, 1, 167, 255, 213] := by unfold x_by; decide +kernel
  obtain ⟨d41, h0⟩ := de_iastore h0
  obtain ⟨d42, h0⟩ := de_iinc (1) (by decide) h0
  obtain ⟨d45, h0⟩ := de_goto (-43) (by decide) h0
  refine x_iast C0 hR hS hf d41 (fun H locs hR hS hf => ?_)
  refine lv_iinc (v := (x2 + 1)) (lv' := [(2, .int (x2 + 1)), (0, .ref (xa E r0)), (1, .ref (xa E r1))]) hx hb d42 hl (k := 2) rfl rfl (by decide) rfl (fun ls hl => ?_)
  refine lv_goto (tgt := 2) hx hb d45 (by decide) ?_
  exact hk2 _ _ _ _ _ _ _ hR hS (lv_sub hl [1, 2, 0] rfl) hf
set_option maxRecDepth 100000 in
set_option maxHeartbeats 4000000 in
theorem s_X1_findGroups_b48 {p : Program} {l : Launch} {e : Env} {s : State} {m : MethodId} {args : Array Value} {below : List Frame} {meth : Method} {c : Code} {E : XE} {z : XR} (C0 : x_C E p l s m meth c args cX1_findGroups 4 "GridEngine$Contributions" "findGroups" none) (hxt : ∀ x ∈ c.exceptionTable.toList, False)  : ∀ (h : HP)  (H : Heap) (locs : List Loc) (ls : Array Slot), x_Rep E h H → va_S (x_A E) s.heap H locs → lv_has ls 4 [] → f_X1_findGroups_b48 h  = some z → W p l e ({ frames := 12, cells := 0, slots := 0, locals := 220 } : Room) s m args below meth c H locs 0 0 (x_Q E below args s 0 0 z) (F0 m 48 ls []) := by
  intro h  H locs ls hR hS hl hf
  obtain ⟨hx, hb, -⟩ := id C0
  unfold f_X1_findGroups_b48 at hf
  have h0 : x_by cX1_findGroups 48 [177] := by unfold x_by; decide +kernel
  obtain ⟨d48, h0⟩ := de_return h0
  exact x_vret C0 hR hS hf (Nat.le_of_ble_eq_true rfl) (Nat.le_of_ble_eq_true rfl) d48
set_option maxRecDepth 100000 in
set_option maxHeartbeats 4000000 in
theorem s_X1_findGroups_b2 {p : Program} {l : Launch} {e : Env} {s : State} {m : MethodId} {args : Array Value} {below : List Frame} {meth : Method} {c : Code} {E : XE} {z : XR} (C0 : x_C E p l s m meth c args cX1_findGroups 4 "GridEngine$Contributions" "findGroups" none) (hxt : ∀ x ∈ c.exceptionTable.toList, False) {k2 : HP → Nat → Nat → Int32 → Option XR} (hk2 : ∀ (h : HP) (r0 : Nat) (r1 : Nat) (x2 : Int32) (H : Heap) (locs : List Loc) (ls : Array Slot), x_Rep E h H → va_S (x_A E) s.heap H locs → lv_has ls 4 [(0, .ref (xa E r0)), (1, .ref (xa E r1)), (2, .int x2)] → k2 h r0 r1 x2 = some z → W p l e ({ frames := 12, cells := 0, slots := 0, locals := 220 } : Room) s m args below meth c H locs 0 0 (x_Q E below args s 0 0 z) (F0 m 2 ls [])) : ∀ (h : HP) (r0 : Nat) (r1 : Nat) (x2 : Int32) (H : Heap) (locs : List Loc) (ls : Array Slot), x_Rep E h H → va_S (x_A E) s.heap H locs → lv_has ls 4 [(0, .ref (xa E r0)), (1, .ref (xa E r1)), (2, .int x2)] → f_X1_findGroups_b2 k2 h r0 r1 x2 = some z → W p l e ({ frames := 12, cells := 0, slots := 0, locals := 220 } : Room) s m args below meth c H locs 0 0 (x_Q E below args s 0 0 z) (F0 m 2 ls []) := by
  intro h r0 r1 x2 H locs ls hR hS hl hf
  obtain ⟨hx, hb, -⟩ := id C0
  unfold f_X1_findGroups_b2 at hf
  have h0 : x_by cX1_findGroups 2 [28, 43, 182, 0, 67, 162, 0, 41] := by unfold x_by; decide +kernel
  obtain ⟨d2, h0⟩ := de_iload_n2 h0
  obtain ⟨d3, h0⟩ := de_aload_n1 h0
  obtain ⟨d4, h0⟩ := de_invokevirtual 67 (by decide) h0
  obtain ⟨d7, h0⟩ := de_icmp_ge (41) (by decide) h0
  refine lv_iload_n hx hb d2 rfl (lv_at hl 2 rfl) ?_
  refine lv_aload_n hx hb d3 rfl (lv_at hl 1 rfl) ?_
  obtain ⟨hs9, hf⟩ := x_if hf
  refine x_thenI C0 hxt hS hf (fun z0 e0 => x_runV C0 hR hS me_X0_itemCount wi_X0_itemCount wl_X0_itemCount ml_X1_67 hs9 xcl_0 (As := []) (ct_X0_itemCount E l C0.2.2.2.2.2.2.2.1 _ r1) rfl rfl hl.1 (Nat.le_of_ble_eq_true rfl) d4 ⟨(Nat.le_of_ble_eq_true rfl), (Nat.le_of_ble_eq_true rfl)⟩ ⟨(Nat.le_of_ble_eq_true rfl), (Nat.le_of_ble_eq_true rfl)⟩ e0) (Nat.le_of_ble_eq_true rfl) (Nat.le_of_ble_eq_true rfl) (fun h9 i1 H locs hR hS hf => ?_)
  refine lv_icmp_ge (tgt := 48) hx hb d7 (by decide) (fun q => ?_) (fun q => ?_)
  · have hf := x_pos q hf
    exact s_X1_findGroups_b48 C0 hxt _ _ _ _ hR hS (lv_sub hl [] rfl) hf
  · have hf := x_neg q hf
    have h0 : x_by cX1_findGroups 10 [28, 16, 12, 162, 0, 35] := by unfold x_by; decide +kernel
    obtain ⟨d10, h0⟩ := de_iload_n2 h0
    obtain ⟨d11, h0⟩ := de_bipush (12) (by decide) h0
    obtain ⟨d13, h0⟩ := de_icmp_ge (35) (by decide) h0
    refine lv_iload_n hx hb d10 rfl (lv_at hl 2 rfl) ?_
    refine lv_bipush (v := 12) hx hb d11 (by decide) ?_
    refine lv_icmp_ge (tgt := 48) hx hb d13 (by decide) (fun q => ?_) (fun q => ?_)
    · have hf := x_pos q hf
      exact s_X1_findGroups_b48 C0 hxt _ _ _ _ hR hS (lv_sub hl [] rfl) hf
    · have hf := x_neg q hf
      have h0 : x_by cX1_findGroups 16 [43, 28, 182, 0, 71, 62, 42, 180, 0, 15, 28, 29, 153, 0, 7] := by unfold x_by; decide +kernel
      obtain ⟨d16, h0⟩ := de_aload_n1 h0
      obtain ⟨d17, h0⟩ := de_iload_n2 h0
      obtain ⟨d18, h0⟩ := de_invokevirtual 71 (by decide) h0
      obtain ⟨d21, h0⟩ := de_istore_n3 h0
      obtain ⟨d22, h0⟩ := de_aload_n0 h0
      obtain ⟨d23, h0⟩ := de_getfield 15 (by decide) h0
      obtain ⟨d26, h0⟩ := de_iload_n2 h0
      obtain ⟨d27, h0⟩ := de_iload_n3 h0
      obtain ⟨d28, h0⟩ := de_if_eq (7) (by decide) h0
      refine lv_aload_n hx hb d16 rfl (lv_at hl 1 rfl) ?_
      refine lv_iload_n hx hb d17 rfl (lv_at hl 2 rfl) ?_
      obtain ⟨hs9, hf⟩ := x_if hf
      refine x_thenI C0 hxt hS hf (fun z0 e0 => x_runV C0 hR hS me_X0_isOnFlexible wi_X0_isOnFlexible wl_X0_isOnFlexible ml_X1_71 hs9 xcl_0 (As := [.int x2]) (ct_X0_isOnFlexible E l C0.2.2.2.2.2.2.2.1 _ r1 x2) rfl rfl hl.1 (Nat.le_of_ble_eq_true rfl) d18 ⟨(Nat.le_of_ble_eq_true rfl), (Nat.le_of_ble_eq_true rfl)⟩ ⟨(Nat.le_of_ble_eq_true rfl), (Nat.le_of_ble_eq_true rfl)⟩ e0) (Nat.le_of_ble_eq_true rfl) (Nat.le_of_ble_eq_true rfl) (fun h9 i3 H locs hR hS hf => ?_)
      refine lv_istore_n (lv' := [(3, .int i3), (0, .ref (xa E r0)), (1, .ref (xa E r1)), (2, .int x2)]) hx hb d21 rfl hl (by decide) rfl (fun ls hl => ?_)
      refine lv_aload_n hx hb d22 rfl (lv_at hl 1 rfl) ?_
      refine x_getR C0 hR hf xcl_1 (Nat.le_of_ble_eq_true rfl) rfl fl_X1_15 d23 (fun a5 hf => ?_)
      refine lv_iload_n hx hb d26 rfl (lv_at hl 3 rfl) ?_
      refine lv_iload_n hx hb d27 rfl (lv_at hl 0 rfl) ?_
      refine lv_if_eq (tgt := 35) hx hb d28 (by decide) (fun q => ?_) (fun q => ?_)
      · have hf := x_pos q hf
        have h0 : x_by cX1_findGroups 35 [43, 28, 6, 182, 0, 74] := by unfold x_by; decide +kernel
        obtain ⟨d35, h0⟩ := de_aload_n1 h0
        obtain ⟨d36, h0⟩ := de_iload_n2 h0
        obtain ⟨d37, h0⟩ := de_iconst_3 h0
        obtain ⟨d38, h0⟩ := de_invokevirtual 74 (by decide) h0
        refine lv_aload_n hx hb d35 rfl (lv_at hl 2 rfl) ?_
        refine lv_iload_n hx hb d36 rfl (lv_at hl 3 rfl) ?_
        refine lv_iconst (v := 3) hx hb d37 (by decide) ?_
        obtain ⟨hs9, hf⟩ := x_if hf
        refine x_thenI C0 hxt hS hf (fun z0 e0 => x_runV C0 hR hS me_X0_itemField wi_X0_itemField wl_X0_itemField ml_X1_74 hs9 xcl_0 (As := [.int x2, .int 3]) (ct_X0_itemField E l C0.2.2.2.2.2.2.2.1 _ r1 x2 3) rfl rfl hl.1 (Nat.le_of_ble_eq_true rfl) d38 ⟨(Nat.le_of_ble_eq_true rfl), (Nat.le_of_ble_eq_true rfl)⟩ ⟨(Nat.le_of_ble_eq_true rfl), (Nat.le_of_ble_eq_true rfl)⟩ e0) (Nat.le_of_ble_eq_true rfl) (Nat.le_of_ble_eq_true rfl) (fun h9 i6 H locs hR hS hf => ?_)
        exact s_X1_findGroups_b41 C0 hxt hk2 _ _ _ _ _ _ _ _ _ _ hR hS (lv_sub hl [1, 2, 3] rfl) hf
      · have hf := x_neg q hf
        have h0 : x_by cX1_findGroups 31 [8, 167, 0, 9] := by unfold x_by; decide +kernel
        obtain ⟨d31, h0⟩ := de_iconst_5 h0
        obtain ⟨d32, h0⟩ := de_goto (9) (by decide) h0
        refine lv_iconst (v := 5) hx hb d31 (by decide) ?_
        refine lv_goto (tgt := 41) hx hb d32 (by decide) ?_
        exact s_X1_findGroups_b41 C0 hxt hk2 _ _ _ _ _ _ _ _ _ _ hR hS (lv_sub hl [1, 2, 3] rfl) hf
theorem s_X1_findGroups_L2 {p : Program} {l : Launch} {e : Env} {s : State} {m : MethodId} {args : Array Value} {below : List Frame} {meth : Method} {c : Code} {E : XE} {z : XR} (C0 : x_C E p l s m meth c args cX1_findGroups 4 "GridEngine$Contributions" "findGroups" none) (hxt : ∀ x ∈ c.exceptionTable.toList, False)  : ∀ n : Nat, ∀ (h : HP) (r0 : Nat) (r1 : Nat) (x2 : Int32) (H : Heap) (locs : List Loc) (ls : Array Slot), x_Rep E h H → va_S (x_A E) s.heap H locs → lv_has ls 4 [(0, .ref (xa E r0)), (1, .ref (xa E r1)), (2, .int x2)] → f_X1_findGroups_L2 n h r0 r1 x2 = some z → W p l e ({ frames := 12, cells := 0, slots := 0, locals := 220 } : Room) s m args below meth c H locs 0 0 (x_Q E below args s 0 0 z) (F0 m 2 ls []) := by
  intro n
  induction n with
  | zero => intro h r0 r1 x2 H locs ls hR hS hl hf; cases (show (none : Option XR) = some z from hf)
  | succ n ih => intro h r0 r1 x2 H locs ls hR hS hl hf; exact s_X1_findGroups_b2 C0 hxt ih h r0 r1 x2 H locs ls hR hS hl (show f_X1_findGroups_b2 (f_X1_findGroups_L2 n) h r0 r1 x2 = some z from hf)
set_option maxRecDepth 100000 in
set_option maxHeartbeats 4000000 in
theorem ct_X1_findGroups (E : XE) (l : Launch) (hl0 : l.stackTraces = false) (h : HP) (r0 : Nat) (r1 : Nat) : x_ct E l yX1_findGroups (Cond.code yX1_findGroups cX1_findGroups 4 none) 12 220 0 0 [.ref (xa E r0), .ref (xa E r1)] h (f_X1_findGroups h r0 r1) := by
  refine x_ofW hl0 (by decide +kernel) ?_
  intro z hf p e s m args below meth c C0 hxt hargs hR
  subst hargs
  have C0 : x_C E p l s m meth c ([.ref (xa E r0), .ref (xa E r1)] : List Value).toArray cX1_findGroups 4 "GridEngine$Contributions" "findGroups" none := C0
  obtain ⟨hx, hb, -⟩ := id C0
  have hS : va_S (x_A E) s.heap s.heap [] := va_S.rf
  have hl := lv_entry ([.ref (xa E r0), .ref (xa E r1)]) (n := 4) (Nat.le_of_ble_eq_true rfl)
  rw [lg_entry_eq]
  generalize (lg_sl ([.ref (xa E r0), .ref (xa E r1)]) ++ List.replicate (4 - (lg_sl ([.ref (xa E r0), .ref (xa E r1)])).length) Slot.unset).toArray = ls at hl ⊢
  have hl : lv_has ls 4 [(0, .ref (xa E r0)), (1, .ref (xa E r1))] := hl
  unfold f_X1_findGroups at hf
  have h0 : x_by cX1_findGroups 0 [3, 61] := by unfold x_by; decide +kernel
  obtain ⟨d0, h0⟩ := de_iconst_0 h0
  obtain ⟨d1, h0⟩ := de_istore_n2 h0
  refine lv_iconst (v := 0) hx hb d0 (by decide) ?_
  refine lv_istore_n (lv' := [(2, .int 0), (0, .ref (xa E r0)), (1, .ref (xa E r1))]) hx hb d1 rfl hl (by decide) rfl (fun ls hl => ?_)
  exact s_X1_findGroups_L2 C0 hxt FU _ _ _ _ _ _ _ hR hS (lv_sub hl [1, 2, 0] rfl) hf
def f_X1_isBaseAsked_b36  (h : HP) (t0 : Int32) : Option XR :=
  x_rZ h t0
def f_X1_isBaseAsked (h : HP) (r0 : Nat) (r1 : Nat) (x2 : Int32) (x3 : Int32) : Option XR :=
  x_rc h r1 0 <| x_cI (f_X0_part h r1 x2 0) fun h2 i1 =>
  if x3 = 0 then
    (
      if i1 = 0 then
        (
          f_X1_isBaseAsked_b36 h2 0
        )
      else
        (
          f_X1_isBaseAsked_b36 h2 1
        )
    )
  else
    (
      if i1 = 2 then
        (
          f_X1_isBaseAsked_b36 h2 1
        )
      else
        (
          f_X1_isBaseAsked_b36 h2 0
        )
    )
set_option maxRecDepth 100000 in
set_option maxHeartbeats 4000000 in
theorem s_X1_isBaseAsked_b36 {p : Program} {l : Launch} {e : Env} {s : State} {m : MethodId} {args : Array Value} {below : List Frame} {meth : Method} {c : Code} {E : XE} {z : XR} (C0 : x_C E p l s m meth c args cX1_isBaseAsked 5 "GridEngine$Contributions" "isBaseAsked" (some .boolean)) (hxt : ∀ x ∈ c.exceptionTable.toList, False)  : ∀ (h : HP) (t0 : Int32) (H : Heap) (locs : List Loc) (ls : Array Slot), x_Rep E h H → va_S (x_A E) s.heap H locs → lv_has ls 5 [] → f_X1_isBaseAsked_b36 h t0 = some z → W p l e ({ frames := 10, cells := 0, slots := 0, locals := 177 } : Room) s m args below meth c H locs 0 0 (x_Q E below args s 0 0 z) (F0 m 36 ls [.int t0]) := by
  intro h t0 H locs ls hR hS hl hf
  obtain ⟨hx, hb, -⟩ := id C0
  unfold f_X1_isBaseAsked_b36 at hf
  have h0 : x_by cX1_isBaseAsked 36 [172] := by unfold x_by; decide +kernel
  obtain ⟨d36, h0⟩ := de_ireturn h0
  exact x_zret C0 hR hS hf (Nat.le_of_ble_eq_true rfl) (Nat.le_of_ble_eq_true rfl) d36
set_option maxRecDepth 100000 in
set_option maxHeartbeats 4000000 in
theorem ct_X1_isBaseAsked (E : XE) (l : Launch) (hl0 : l.stackTraces = false) (h : HP) (r0 : Nat) (r1 : Nat) (x2 : Int32) (x3 : Int32) : x_ct E l yX1_isBaseAsked (Cond.code yX1_isBaseAsked cX1_isBaseAsked 5 (some .boolean)) 10 177 0 0 [.ref (xa E r0), .ref (xa E r1), .int x2, .int x3] h (f_X1_isBaseAsked h r0 r1 x2 x3) := by
  refine x_ofW hl0 (by decide +kernel) ?_
  intro z hf p e s m args below meth c C0 hxt hargs hR
  subst hargs
  have C0 : x_C E p l s m meth c ([.ref (xa E r0), .ref (xa E r1), .int x2, .int x3] : List Value).toArray cX1_isBaseAsked 5 "GridEngine$Contributions" "isBaseAsked" (some .boolean) := C0
  obtain ⟨hx, hb, -⟩ := id C0
  have hS : va_S (x_A E) s.heap s.heap [] := va_S.rf
  have hl := lv_entry ([.ref (xa E r0), .ref (xa E r1), .int x2, .int x3]) (n := 5) (Nat.le_of_ble_eq_true rfl)
  rw [lg_entry_eq]
  generalize (lg_sl ([.ref (xa E r0), .ref (xa E r1), .int x2, .int x3]) ++ List.replicate (5 - (lg_sl ([.ref (xa E r0), .ref (xa E r1), .int x2, .int x3])).length) Slot.unset).toArray = ls at hl ⊢
  have hl : lv_has ls 5 [(0, .ref (xa E r0)), (1, .ref (xa E r1)), (2, .int x2), (3, .int x3)] := hl
  unfold f_X1_isBaseAsked at hf
  have h0 : x_by cX1_isBaseAsked 0 [43, 28, 3, 182, 0, 41, 54, 4, 29, 153, 0, 17] := by unfold x_by; decide +kernel
  obtain ⟨d0, h0⟩ := de_aload_n1 h0
  obtain ⟨d1, h0⟩ := de_iload_n2 h0
  obtain ⟨d2, h0⟩ := de_iconst_0 h0
  obtain ⟨d3, h0⟩ := de_invokevirtual 41 (by decide) h0
  obtain ⟨d6, h0⟩ := de_istore h0
  obtain ⟨d8, h0⟩ := de_iload_n3 h0
  obtain ⟨d9, h0⟩ := de_if_eq (17) (by decide) h0
  refine lv_aload_n hx hb d0 rfl (lv_at hl 1 rfl) ?_
  refine lv_iload_n hx hb d1 rfl (lv_at hl 2 rfl) ?_
  refine lv_iconst (v := 0) hx hb d2 (by decide) ?_
  obtain ⟨hs9, hf⟩ := x_if hf
  refine x_thenI C0 hxt hS hf (fun z0 e0 => x_runV C0 hR hS me_X0_part wi_X0_part wl_X0_part ml_X1_41 hs9 xcl_0 (As := [.int x2, .int 0]) (ct_X0_part E l C0.2.2.2.2.2.2.2.1 _ r1 x2 0) rfl rfl hl.1 (Nat.le_of_ble_eq_true rfl) d3 ⟨(Nat.le_of_ble_eq_true rfl), (Nat.le_of_ble_eq_true rfl)⟩ ⟨(Nat.le_of_ble_eq_true rfl), (Nat.le_of_ble_eq_true rfl)⟩ e0) (Nat.le_of_ble_eq_true rfl) (Nat.le_of_ble_eq_true rfl) (fun h9 i1 H locs hR hS hf => ?_)
  refine lv_istore (lv' := [(4, .int i1), (0, .ref (xa E r0)), (1, .ref (xa E r1)), (2, .int x2), (3, .int x3)]) hx hb d6 hl (by decide) rfl (fun ls hl => ?_)
  refine lv_iload_n hx hb d8 rfl (lv_at hl 4 rfl) ?_
  refine lv_if_eq (tgt := 26) hx hb d9 (by decide) (fun q => ?_) (fun q => ?_)
  · have hf := x_pos q hf
    have h0 : x_by cX1_isBaseAsked 26 [21, 4, 153, 0, 7] := by unfold x_by; decide +kernel
    obtain ⟨d26, h0⟩ := de_iload h0
    obtain ⟨d28, h0⟩ := de_if_eq (7) (by decide) h0
    refine lv_iload hx hb d26 (lv_at hl 0 rfl) ?_
    refine lv_if_eq (tgt := 35) hx hb d28 (by decide) (fun q => ?_) (fun q => ?_)
    · have hf := x_pos q hf
      have h0 : x_by cX1_isBaseAsked 35 [3] := by unfold x_by; decide +kernel
      obtain ⟨d35, h0⟩ := de_iconst_0 h0
      refine lv_iconst (v := 0) hx hb d35 (by decide) ?_
      exact s_X1_isBaseAsked_b36 C0 hxt _ _ _ _ _ hR hS (lv_sub hl [] rfl) hf
    · have hf := x_neg q hf
      have h0 : x_by cX1_isBaseAsked 31 [4, 167, 0, 4] := by unfold x_by; decide +kernel
      obtain ⟨d31, h0⟩ := de_iconst_1 h0
      obtain ⟨d32, h0⟩ := de_goto (4) (by decide) h0
      refine lv_iconst (v := 1) hx hb d31 (by decide) ?_
      refine lv_goto (tgt := 36) hx hb d32 (by decide) ?_
      exact s_X1_isBaseAsked_b36 C0 hxt _ _ _ _ _ hR hS (lv_sub hl [] rfl) hf
  · have hf := x_neg q hf
    have h0 : x_by cX1_isBaseAsked 12 [21, 4, 5, 160, 0, 7] := by unfold x_by; decide +kernel
    obtain ⟨d12, h0⟩ := de_iload h0
    obtain ⟨d14, h0⟩ := de_iconst_2 h0
    obtain ⟨d15, h0⟩ := de_icmp_ne (7) (by decide) h0
    refine lv_iload hx hb d12 (lv_at hl 0 rfl) ?_
    refine lv_iconst (v := 2) hx hb d14 (by decide) ?_
    refine lv_icmp_ne (tgt := 22) hx hb d15 (by decide) (fun q => ?_) (fun q => ?_)
    · have hf := x_neg q hf
      have h0 : x_by cX1_isBaseAsked 22 [3, 167, 0, 13] := by unfold x_by; decide +kernel
      obtain ⟨d22, h0⟩ := de_iconst_0 h0
      obtain ⟨d23, h0⟩ := de_goto (13) (by decide) h0
      refine lv_iconst (v := 0) hx hb d22 (by decide) ?_
      refine lv_goto (tgt := 36) hx hb d23 (by decide) ?_
      exact s_X1_isBaseAsked_b36 C0 hxt _ _ _ _ _ hR hS (lv_sub hl [] rfl) hf
    · have hf := x_pos q hf
      have h0 : x_by cX1_isBaseAsked 18 [4, 167, 0, 17] := by unfold x_by; decide +kernel
      obtain ⟨d18, h0⟩ := de_iconst_1 h0
      obtain ⟨d19, h0⟩ := de_goto (17) (by decide) h0
      refine lv_iconst (v := 1) hx hb d18 (by decide) ?_
      refine lv_goto (tgt := 36) hx hb d19 (by decide) ?_
      exact s_X1_isBaseAsked_b36 C0 hxt _ _ _ _ _ hR hS (lv_sub hl [] rfl) hf
def f_X1_isLimitAsked_b34  (h : HP) (t0 : Int32) : Option XR :=
  x_rZ h t0
def f_X1_isLimitAsked_b29  (h : HP)  : Option XR :=
  f_X1_isLimitAsked_b34 h 1
def f_X1_isLimitAsked_b33  (h : HP)  : Option XR :=
  f_X1_isLimitAsked_b34 h 0
def f_X1_isLimitAsked (h : HP) (r0 : Nat) (r1 : Nat) (x2 : Int32) (x3 : Int32) : Option XR :=
  x_rc h r1 0 <| x_cI (f_X0_part h r1 x2 2) fun h2 i1 =>
  if i1 = 0 then
    (
      f_X1_isLimitAsked_b33 h2
    )
  else
    (
      if i1 = 5 then
        (
          f_X1_isLimitAsked_b33 h2
        )
      else
        (
          if x3 = 0 then
            (
              f_X1_isLimitAsked_b29 h2
            )
          else
            (
              if i1 = 1 then
                (
                  f_X1_isLimitAsked_b33 h2
                )
              else
                (
                  f_X1_isLimitAsked_b29 h2
                )
            )
        )
    )
set_option maxRecDepth 100000 in
set_option maxHeartbeats 4000000 in
theorem s_X1_isLimitAsked_b34 {p : Program} {l : Launch} {e : Env} {s : State} {m : MethodId} {args : Array Value} {below : List Frame} {meth : Method} {c : Code} {E : XE} {z : XR} (C0 : x_C E p l s m meth c args cX1_isLimitAsked 5 "GridEngine$Contributions" "isLimitAsked" (some .boolean)) (hxt : ∀ x ∈ c.exceptionTable.toList, False)  : ∀ (h : HP) (t0 : Int32) (H : Heap) (locs : List Loc) (ls : Array Slot), x_Rep E h H → va_S (x_A E) s.heap H locs → lv_has ls 5 [] → f_X1_isLimitAsked_b34 h t0 = some z → W p l e ({ frames := 10, cells := 0, slots := 0, locals := 177 } : Room) s m args below meth c H locs 0 0 (x_Q E below args s 0 0 z) (F0 m 34 ls [.int t0]) := by
  intro h t0 H locs ls hR hS hl hf
  obtain ⟨hx, hb, -⟩ := id C0
  unfold f_X1_isLimitAsked_b34 at hf
  have h0 : x_by cX1_isLimitAsked 34 [172] := by unfold x_by; decide +kernel
  obtain ⟨d34, h0⟩ := de_ireturn h0
  exact x_zret C0 hR hS hf (Nat.le_of_ble_eq_true rfl) (Nat.le_of_ble_eq_true rfl) d34
set_option maxRecDepth 100000 in
set_option maxHeartbeats 4000000 in
theorem s_X1_isLimitAsked_b29 {p : Program} {l : Launch} {e : Env} {s : State} {m : MethodId} {args : Array Value} {below : List Frame} {meth : Method} {c : Code} {E : XE} {z : XR} (C0 : x_C E p l s m meth c args cX1_isLimitAsked 5 "GridEngine$Contributions" "isLimitAsked" (some .boolean)) (hxt : ∀ x ∈ c.exceptionTable.toList, False)  : ∀ (h : HP)  (H : Heap) (locs : List Loc) (ls : Array Slot), x_Rep E h H → va_S (x_A E) s.heap H locs → lv_has ls 5 [] → f_X1_isLimitAsked_b29 h  = some z → W p l e ({ frames := 10, cells := 0, slots := 0, locals := 177 } : Room) s m args below meth c H locs 0 0 (x_Q E below args s 0 0 z) (F0 m 29 ls []) := by
  intro h  H locs ls hR hS hl hf
  obtain ⟨hx, hb, -⟩ := id C0
  unfold f_X1_isLimitAsked_b29 at hf
  have h0 : x_by cX1_isLimitAsked 29 [4, 167, 0, 4] := by unfold x_by; decide +kernel
  obtain ⟨d29, h0⟩ := de_iconst_1 h0
  obtain ⟨d30, h0⟩ := de_goto (4) (by decide) h0
  refine lv_iconst (v := 1) hx hb d29 (by decide) ?_
  refine lv_goto (tgt := 34) hx hb d30 (by decide) ?_
  exact s_X1_isLimitAsked_b34 C0 hxt _ _ _ _ _ hR hS (lv_sub hl [] rfl) hf
set_option maxRecDepth 100000 in
set_option maxHeartbeats 4000000 in
theorem s_X1_isLimitAsked_b33 {p : Program} {l : Launch} {e : Env} {s : State} {m : MethodId} {args : Array Value} {below : List Frame} {meth : Method} {c : Code} {E : XE} {z : XR} (C0 : x_C E p l s m meth c args cX1_isLimitAsked 5 "GridEngine$Contributions" "isLimitAsked" (some .boolean)) (hxt : ∀ x ∈ c.exceptionTable.toList, False)  : ∀ (h : HP)  (H : Heap) (locs : List Loc) (ls : Array Slot), x_Rep E h H → va_S (x_A E) s.heap H locs → lv_has ls 5 [] → f_X1_isLimitAsked_b33 h  = some z → W p l e ({ frames := 10, cells := 0, slots := 0, locals := 177 } : Room) s m args below meth c H locs 0 0 (x_Q E below args s 0 0 z) (F0 m 33 ls []) := by
  intro h  H locs ls hR hS hl hf
  obtain ⟨hx, hb, -⟩ := id C0
  unfold f_X1_isLimitAsked_b33 at hf
  have h0 : x_by cX1_isLimitAsked 33 [3] := by unfold x_by; decide +kernel
  obtain ⟨d33, h0⟩ := de_iconst_0 h0
  refine lv_iconst (v := 0) hx hb d33 (by decide) ?_
  exact s_X1_isLimitAsked_b34 C0 hxt _ _ _ _ _ hR hS (lv_sub hl [] rfl) hf
set_option maxRecDepth 100000 in
set_option maxHeartbeats 4000000 in
theorem ct_X1_isLimitAsked (E : XE) (l : Launch) (hl0 : l.stackTraces = false) (h : HP) (r0 : Nat) (r1 : Nat) (x2 : Int32) (x3 : Int32) : x_ct E l yX1_isLimitAsked (Cond.code yX1_isLimitAsked cX1_isLimitAsked 5 (some .boolean)) 10 177 0 0 [.ref (xa E r0), .ref (xa E r1), .int x2, .int x3] h (f_X1_isLimitAsked h r0 r1 x2 x3) := by
  refine x_ofW hl0 (by decide +kernel) ?_
  intro z hf p e s m args below meth c C0 hxt hargs hR
  subst hargs
  have C0 : x_C E p l s m meth c ([.ref (xa E r0), .ref (xa E r1), .int x2, .int x3] : List Value).toArray cX1_isLimitAsked 5 "GridEngine$Contributions" "isLimitAsked" (some .boolean) := C0
  obtain ⟨hx, hb, -⟩ := id C0
  have hS : va_S (x_A E) s.heap s.heap [] := va_S.rf
  have hl := lv_entry ([.ref (xa E r0), .ref (xa E r1), .int x2, .int x3]) (n := 5) (Nat.le_of_ble_eq_true rfl)
  rw [lg_entry_eq]
  generalize (lg_sl ([.ref (xa E r0), .ref (xa E r1), .int x2, .int x3]) ++ List.replicate (5 - (lg_sl ([.ref (xa E r0), .ref (xa E r1), .int x2, .int x3])).length) Slot.unset).toArray = ls at hl ⊢
  have hl : lv_has ls 5 [(0, .ref (xa E r0)), (1, .ref (xa E r1)), (2, .int x2), (3, .int x3)] := hl
  unfold f_X1_isLimitAsked at hf
  have h0 : x_by cX1_isLimitAsked 0 [43, 28, 5, 182, 0, 41, 54, 4, 21, 4, 153, 0, 23] := by unfold x_by; decide +kernel
  obtain ⟨d0, h0⟩ := de_aload_n1 h0
  obtain ⟨d1, h0⟩ := de_iload_n2 h0
  obtain ⟨d2, h0⟩ := de_iconst_2 h0
  obtain ⟨d3, h0⟩ := de_invokevirtual 41 (by decide) h0
  obtain ⟨d6, h0⟩ := de_istore h0
  obtain ⟨d8, h0⟩ := de_iload h0
  obtain ⟨d10, h0⟩ := de_if_eq (23) (by decide) h0
  refine lv_aload_n hx hb d0 rfl (lv_at hl 1 rfl) ?_
  refine lv_iload_n hx hb d1 rfl (lv_at hl 2 rfl) ?_
  refine lv_iconst (v := 2) hx hb d2 (by decide) ?_
  obtain ⟨hs9, hf⟩ := x_if hf
  refine x_thenI C0 hxt hS hf (fun z0 e0 => x_runV C0 hR hS me_X0_part wi_X0_part wl_X0_part ml_X1_41 hs9 xcl_0 (As := [.int x2, .int 2]) (ct_X0_part E l C0.2.2.2.2.2.2.2.1 _ r1 x2 2) rfl rfl hl.1 (Nat.le_of_ble_eq_true rfl) d3 ⟨(Nat.le_of_ble_eq_true rfl), (Nat.le_of_ble_eq_true rfl)⟩ ⟨(Nat.le_of_ble_eq_true rfl), (Nat.le_of_ble_eq_true rfl)⟩ e0) (Nat.le_of_ble_eq_true rfl) (Nat.le_of_ble_eq_true rfl) (fun h9 i1 H locs hR hS hf => ?_)
  refine lv_istore (lv' := [(4, .int i1), (0, .ref (xa E r0)), (1, .ref (xa E r1)), (2, .int x2), (3, .int x3)]) hx hb d6 hl (by decide) rfl (fun ls hl => ?_)
  refine lv_iload hx hb d8 (lv_at hl 0 rfl) ?_
  refine lv_if_eq (tgt := 33) hx hb d10 (by decide) (fun q => ?_) (fun q => ?_)
  · have hf := x_pos q hf
    exact s_X1_isLimitAsked_b33 C0 hxt _ _ _ _ hR hS (lv_sub hl [] rfl) hf
  · have hf := x_neg q hf
    have h0 : x_by cX1_isLimitAsked 13 [21, 4, 8, 159, 0, 17] := by unfold x_by; decide +kernel
    obtain ⟨d13, h0⟩ := de_iload h0
    obtain ⟨d15, h0⟩ := de_iconst_5 h0
    obtain ⟨d16, h0⟩ := de_icmp_eq (17) (by decide) h0
    refine lv_iload hx hb d13 (lv_at hl 0 rfl) ?_
    refine lv_iconst (v := 5) hx hb d15 (by decide) ?_
    refine lv_icmp_eq (tgt := 33) hx hb d16 (by decide) (fun q => ?_) (fun q => ?_)
    · have hf := x_pos q hf
      exact s_X1_isLimitAsked_b33 C0 hxt _ _ _ _ hR hS (lv_sub hl [] rfl) hf
    · have hf := x_neg q hf
      have h0 : x_by cX1_isLimitAsked 19 [29, 153, 0, 9] := by unfold x_by; decide +kernel
      obtain ⟨d19, h0⟩ := de_iload_n3 h0
      obtain ⟨d20, h0⟩ := de_if_eq (9) (by decide) h0
      refine lv_iload_n hx hb d19 rfl (lv_at hl 4 rfl) ?_
      refine lv_if_eq (tgt := 29) hx hb d20 (by decide) (fun q => ?_) (fun q => ?_)
      · have hf := x_pos q hf
        exact s_X1_isLimitAsked_b29 C0 hxt _ _ _ _ hR hS (lv_sub hl [] rfl) hf
      · have hf := x_neg q hf
        have h0 : x_by cX1_isLimitAsked 23 [21, 4, 4, 159, 0, 7] := by unfold x_by; decide +kernel
        obtain ⟨d23, h0⟩ := de_iload h0
        obtain ⟨d25, h0⟩ := de_iconst_1 h0
        obtain ⟨d26, h0⟩ := de_icmp_eq (7) (by decide) h0
        refine lv_iload hx hb d23 (lv_at hl 0 rfl) ?_
        refine lv_iconst (v := 1) hx hb d25 (by decide) ?_
        refine lv_icmp_eq (tgt := 33) hx hb d26 (by decide) (fun q => ?_) (fun q => ?_)
        · have hf := x_pos q hf
          exact s_X1_isLimitAsked_b33 C0 hxt _ _ _ _ hR hS (lv_sub hl [] rfl) hf
        · have hf := x_neg q hf
          exact s_X1_isLimitAsked_b29 C0 hxt _ _ _ _ hR hS (lv_sub hl [] rfl) hf
def f_X1_roomOf_b46  (h : HP) (t0 : Int32) (r0 : Nat) (r1 : Nat) (x2 : Int32) : Option XR :=
  x_rc h r1 0 <| x_cI (f_X0_part h r1 x2 3) fun h2 i1 =>
  x_gR h2 r0 1 1 fun a3 =>
  x_aI h2 100 a3 x2 fun i4 =>
  some (h2, xi ((if i1 < t0 then t0 else i1) - i4))
def f_X1_roomOf_b10  (h : HP) (t0 : Int32) (r0 : Nat) (r1 : Nat) (x2 : Int32) (x3 : Int32) : Option XR :=
  x_rc h r1 0 <| x_cI (f_X0_part h r1 x2 2) fun h2 i1 =>
  if i1 = t0 then
    (
      if x3 = 1 then
        (
          x_gR h2 r0 1 1 fun a5 =>
          x_aI h2 100 a5 x2 fun i6 =>
          f_X1_roomOf_b46 h2 i6 r0 r1 x2
        )
      else
        (
          x_gR h2 r1 0 4 fun a3 =>
          x_aI h2 100 a3 x2 fun i4 =>
          f_X1_roomOf_b46 h2 i4 r0 r1 x2
        )
    )
  else
    (
      some (h2, xi 1000000)
    )
def f_X1_roomOf (h : HP) (r0 : Nat) (r1 : Nat) (x2 : Int32) (x3 : Int32) : Option XR :=
  if x3 = 1 then
    (
      f_X1_roomOf_b10 h 0 r0 r1 x2 x3
    )
  else
    (
      f_X1_roomOf_b10 h 4 r0 r1 x2 x3
    )
set_option maxRecDepth 100000 in
set_option maxHeartbeats 4000000 in
theorem s_X1_roomOf_b46 {p : Program} {l : Launch} {e : Env} {s : State} {m : MethodId} {args : Array Value} {below : List Frame} {meth : Method} {c : Code} {E : XE} {z : XR} (C0 : x_C E p l s m meth c args cX1_roomOf 6 "GridEngine$Contributions" "roomOf" (some .int)) (hxt : ∀ x ∈ c.exceptionTable.toList, False)  : ∀ (h : HP) (t0 : Int32) (r0 : Nat) (r1 : Nat) (x2 : Int32) (H : Heap) (locs : List Loc) (ls : Array Slot), x_Rep E h H → va_S (x_A E) s.heap H locs → lv_has ls 6 [(0, .ref (xa E r0)), (1, .ref (xa E r1)), (2, .int x2)] → f_X1_roomOf_b46 h t0 r0 r1 x2 = some z → W p l e ({ frames := 10, cells := 0, slots := 0, locals := 177 } : Room) s m args below meth c H locs 0 0 (x_Q E below args s 0 0 z) (F0 m 46 ls [.int t0]) := by
  intro h t0 r0 r1 x2 H locs ls hR hS hl hf
  obtain ⟨hx, hb, -⟩ := id C0
  unfold f_X1_roomOf_b46 at hf
  have h0 : x_by cX1_roomOf 46 [54, 5, 43, 28, 6, 182, 0, 41, 21, 5, 184, 0, 62, 42, 180, 0, 9, 28, 46, 100, 172] := by unfold x_by; decide +kernel
  obtain ⟨d46, h0⟩ := de_istore h0
  obtain ⟨d48, h0⟩ := de_aload_n1 h0
  obtain ⟨d49, h0⟩ := de_iload_n2 h0
  obtain ⟨d50, h0⟩ := de_iconst_3 h0
  obtain ⟨d51, h0⟩ := de_invokevirtual 41 (by decide) h0
  obtain ⟨d54, h0⟩ := de_iload h0
  obtain ⟨d56, h0⟩ := de_invokestatic 62 (by decide) h0
  obtain ⟨d59, h0⟩ := de_aload_n0 h0
  obtain ⟨d60, h0⟩ := de_getfield 9 (by decide) h0
  obtain ⟨d63, h0⟩ := de_iload_n2 h0
  obtain ⟨d64, h0⟩ := de_iaload h0
  obtain ⟨d65, h0⟩ := de_isub h0
  obtain ⟨d66, h0⟩ := de_ireturn h0
  refine lv_istore (lv' := [(5, .int t0), (0, .ref (xa E r0)), (1, .ref (xa E r1)), (2, .int x2)]) hx hb d46 hl (by decide) rfl (fun ls hl => ?_)
  refine lv_aload_n hx hb d48 rfl (lv_at hl 2 rfl) ?_
  refine lv_iload_n hx hb d49 rfl (lv_at hl 3 rfl) ?_
  refine lv_iconst (v := 3) hx hb d50 (by decide) ?_
  obtain ⟨hs9, hf⟩ := x_if hf
  refine x_thenI C0 hxt hS hf (fun z0 e0 => x_runV C0 hR hS me_X0_part wi_X0_part wl_X0_part ml_X1_41 hs9 xcl_0 (As := [.int x2, .int 3]) (ct_X0_part E l C0.2.2.2.2.2.2.2.1 _ r1 x2 3) rfl rfl hl.1 (Nat.le_of_ble_eq_true rfl) d51 ⟨(Nat.le_of_ble_eq_true rfl), (Nat.le_of_ble_eq_true rfl)⟩ ⟨(Nat.le_of_ble_eq_true rfl), (Nat.le_of_ble_eq_true rfl)⟩ e0) (Nat.le_of_ble_eq_true rfl) (Nat.le_of_ble_eq_true rfl) (fun h9 i1 H locs hR hS hf => ?_)
  refine lv_iload hx hb d54 (lv_at hl 0 rfl) ?_
  refine x_mmax C0 hl.1 ml_X1_62 lib_max (Nat.le_of_ble_eq_true rfl) (Nat.le_of_ble_eq_true rfl) (Nat.le_of_ble_eq_true rfl) (Nat.le_of_ble_eq_true rfl) d56 ?_
  refine lv_aload_n hx hb d59 rfl (lv_at hl 1 rfl) ?_
  refine x_getR C0 hR hf xcl_1 (Nat.le_of_ble_eq_true rfl) rfl fl_X1_9 d60 (fun a3 hf => ?_)
  refine lv_iload_n hx hb d63 rfl (lv_at hl 3 rfl) ?_
  refine x_iald C0 hR hf d64 (fun i4 hf => ?_)
  refine lv_isub hx hb d65 ?_
  exact x_iret C0 hR hS hf (Nat.le_of_ble_eq_true rfl) (Nat.le_of_ble_eq_true rfl) d66
set_option maxRecDepth 100000 in
set_option maxHeartbeats 4000000 in
theorem s_X1_roomOf_b10 {p : Program} {l : Launch} {e : Env} {s : State} {m : MethodId} {args : Array Value} {below : List Frame} {meth : Method} {c : Code} {E : XE} {z : XR} (C0 : x_C E p l s m meth c args cX1_roomOf 6 "GridEngine$Contributions" "roomOf" (some .int)) (hxt : ∀ x ∈ c.exceptionTable.toList, False)  : ∀ (h : HP) (t0 : Int32) (r0 : Nat) (r1 : Nat) (x2 : Int32) (x3 : Int32) (H : Heap) (locs : List Loc) (ls : Array Slot), x_Rep E h H → va_S (x_A E) s.heap H locs → lv_has ls 6 [(0, .ref (xa E r0)), (1, .ref (xa E r1)), (2, .int x2), (3, .int x3)] → f_X1_roomOf_b10 h t0 r0 r1 x2 x3 = some z → W p l e ({ frames := 10, cells := 0, slots := 0, locals := 177 } : Room) s m args below meth c H locs 0 0 (x_Q E below args s 0 0 z) (F0 m 10 ls [.int t0]) := by
  intro h t0 r0 r1 x2 x3 H locs ls hR hS hl hf
  obtain ⟨hx, hb, -⟩ := id C0
  unfold f_X1_roomOf_b10 at hf
  have h0 : x_by cX1_roomOf 10 [54, 4, 43, 28, 5, 182, 0, 41, 21, 4, 159, 0, 6] := by unfold x_by; decide +kernel
  obtain ⟨d10, h0⟩ := de_istore h0
  obtain ⟨d12, h0⟩ := de_aload_n1 h0
  obtain ⟨d13, h0⟩ := de_iload_n2 h0
  obtain ⟨d14, h0⟩ := de_iconst_2 h0
  obtain ⟨d15, h0⟩ := de_invokevirtual 41 (by decide) h0
  obtain ⟨d18, h0⟩ := de_iload h0
  obtain ⟨d20, h0⟩ := de_icmp_eq (6) (by decide) h0
  refine lv_istore (lv' := [(4, .int t0), (0, .ref (xa E r0)), (1, .ref (xa E r1)), (2, .int x2), (3, .int x3)]) hx hb d10 hl (by decide) rfl (fun ls hl => ?_)
  refine lv_aload_n hx hb d12 rfl (lv_at hl 2 rfl) ?_
  refine lv_iload_n hx hb d13 rfl (lv_at hl 3 rfl) ?_
  refine lv_iconst (v := 2) hx hb d14 (by decide) ?_
  obtain ⟨hs9, hf⟩ := x_if hf
  refine x_thenI C0 hxt hS hf (fun z0 e0 => x_runV C0 hR hS me_X0_part wi_X0_part wl_X0_part ml_X1_41 hs9 xcl_0 (As := [.int x2, .int 2]) (ct_X0_part E l C0.2.2.2.2.2.2.2.1 _ r1 x2 2) rfl rfl hl.1 (Nat.le_of_ble_eq_true rfl) d15 ⟨(Nat.le_of_ble_eq_true rfl), (Nat.le_of_ble_eq_true rfl)⟩ ⟨(Nat.le_of_ble_eq_true rfl), (Nat.le_of_ble_eq_true rfl)⟩ e0) (Nat.le_of_ble_eq_true rfl) (Nat.le_of_ble_eq_true rfl) (fun h9 i1 H locs hR hS hf => ?_)
  refine lv_iload hx hb d18 (lv_at hl 0 rfl) ?_
  refine lv_icmp_eq (tgt := 26) hx hb d20 (by decide) (fun q => ?_) (fun q => ?_)
  · have hf := x_pos q hf
    have h0 : x_by cX1_roomOf 26 [29, 4, 160, 0, 12] := by unfold x_by; decide +kernel
    obtain ⟨d26, h0⟩ := de_iload_n3 h0
    obtain ⟨d27, h0⟩ := de_iconst_1 h0
    obtain ⟨d28, h0⟩ := de_icmp_ne (12) (by decide) h0
    refine lv_iload_n hx hb d26 rfl (lv_at hl 4 rfl) ?_
    refine lv_iconst (v := 1) hx hb d27 (by decide) ?_
    refine lv_icmp_ne (tgt := 40) hx hb d28 (by decide) (fun q => ?_) (fun q => ?_)
    · have hf := x_neg q hf
      have h0 : x_by cX1_roomOf 40 [43, 180, 0, 22, 28, 46] := by unfold x_by; decide +kernel
      obtain ⟨d40, h0⟩ := de_aload_n1 h0
      obtain ⟨d41, h0⟩ := de_getfield 22 (by decide) h0
      obtain ⟨d44, h0⟩ := de_iload_n2 h0
      obtain ⟨d45, h0⟩ := de_iaload h0
      refine lv_aload_n hx hb d40 rfl (lv_at hl 2 rfl) ?_
      refine x_getR C0 hR hf xcl_0 (Nat.le_of_ble_eq_true rfl) rfl fl_X1_22 d41 (fun a3 hf => ?_)
      refine lv_iload_n hx hb d44 rfl (lv_at hl 3 rfl) ?_
      refine x_iald C0 hR hf d45 (fun i4 hf => ?_)
      exact s_X1_roomOf_b46 C0 hxt _ _ _ _ _ _ _ _ hR hS (lv_sub hl [1, 2, 3] rfl) hf
    · have hf := x_pos q hf
      have h0 : x_by cX1_roomOf 31 [42, 180, 0, 9, 28, 46, 167, 0, 9] := by unfold x_by; decide +kernel
      obtain ⟨d31, h0⟩ := de_aload_n0 h0
      obtain ⟨d32, h0⟩ := de_getfield 9 (by decide) h0
      obtain ⟨d35, h0⟩ := de_iload_n2 h0
      obtain ⟨d36, h0⟩ := de_iaload h0
      obtain ⟨d37, h0⟩ := de_goto (9) (by decide) h0
      refine lv_aload_n hx hb d31 rfl (lv_at hl 1 rfl) ?_
      refine x_getR C0 hR hf xcl_1 (Nat.le_of_ble_eq_true rfl) rfl fl_X1_9 d32 (fun a5 hf => ?_)
      refine lv_iload_n hx hb d35 rfl (lv_at hl 3 rfl) ?_
      refine x_iald C0 hR hf d36 (fun i6 hf => ?_)
      refine lv_goto (tgt := 46) hx hb d37 (by decide) ?_
      exact s_X1_roomOf_b46 C0 hxt _ _ _ _ _ _ _ _ hR hS (lv_sub hl [1, 2, 3] rfl) hf
  · have hf := x_neg q hf
    have h0 : x_by cX1_roomOf 23 [18, 127, 172] := by unfold x_by; decide +kernel
    obtain ⟨d23, h0⟩ := de_ldc h0
    obtain ⟨d25, h0⟩ := de_ireturn h0
    refine lv_ldc hx hb C0.2.2.2.1 (C0.2.2.2.2.1 _ ki_X1_127) d23 ?_
    exact x_iret C0 hR hS hf (Nat.le_of_ble_eq_true rfl) (Nat.le_of_ble_eq_true rfl) d25
set_option maxRecDepth 100000 in
set_option maxHeartbeats 4000000 in
theorem ct_X1_roomOf (E : XE) (l : Launch) (hl0 : l.stackTraces = false) (h : HP) (r0 : Nat) (r1 : Nat) (x2 : Int32) (x3 : Int32) : x_ct E l yX1_roomOf (Cond.code yX1_roomOf cX1_roomOf 6 (some .int)) 10 177 0 0 [.ref (xa E r0), .ref (xa E r1), .int x2, .int x3] h (f_X1_roomOf h r0 r1 x2 x3) := by
  refine x_ofW hl0 (by decide +kernel) ?_
  intro z hf p e s m args below meth c C0 hxt hargs hR
  subst hargs
  have C0 : x_C E p l s m meth c ([.ref (xa E r0), .ref (xa E r1), .int x2, .int x3] : List Value).toArray cX1_roomOf 6 "GridEngine$Contributions" "roomOf" (some .int) := C0
  obtain ⟨hx, hb, -⟩ := id C0
  have hS : va_S (x_A E) s.heap s.heap [] := va_S.rf
  have hl := lv_entry ([.ref (xa E r0), .ref (xa E r1), .int x2, .int x3]) (n := 6) (Nat.le_of_ble_eq_true rfl)
  rw [lg_entry_eq]
  generalize (lg_sl ([.ref (xa E r0), .ref (xa E r1), .int x2, .int x3]) ++ List.replicate (6 - (lg_sl ([.ref (xa E r0), .ref (xa E r1), .int x2, .int x3])).length) Slot.unset).toArray = ls at hl ⊢
  have hl : lv_has ls 6 [(0, .ref (xa E r0)), (1, .ref (xa E r1)), (2, .int x2), (3, .int x3)] := hl
  unfold f_X1_roomOf at hf
  have h0 : x_by cX1_roomOf 0 [29, 4, 160, 0, 7] := by unfold x_by; decide +kernel
  obtain ⟨d0, h0⟩ := de_iload_n3 h0
  obtain ⟨d1, h0⟩ := de_iconst_1 h0
  obtain ⟨d2, h0⟩ := de_icmp_ne (7) (by decide) h0
  refine lv_iload_n hx hb d0 rfl (lv_at hl 3 rfl) ?_
  refine lv_iconst (v := 1) hx hb d1 (by decide) ?_
  refine lv_icmp_ne (tgt := 9) hx hb d2 (by decide) (fun q => ?_) (fun q => ?_)
  · have hf := x_neg q hf
    have h0 : x_by cX1_roomOf 9 [7] := by unfold x_by; decide +kernel
    obtain ⟨d9, h0⟩ := de_iconst_4 h0
    refine lv_iconst (v := 4) hx hb d9 (by decide) ?_
    exact s_X1_roomOf_b10 C0 hxt _ _ _ _ _ _ _ _ _ hR hS (lv_sub hl [0, 1, 2, 3] rfl) hf
  · have hf := x_pos q hf
    have h0 : x_by cX1_roomOf 5 [3, 167, 0, 4] := by unfold x_by; decide +kernel
    obtain ⟨d5, h0⟩ := de_iconst_0 h0
    obtain ⟨d6, h0⟩ := de_goto (4) (by decide) h0
    refine lv_iconst (v := 0) hx hb d5 (by decide) ?_
    refine lv_goto (tgt := 10) hx hb d6 (by decide) ?_
    exact s_X1_roomOf_b10 C0 hxt _ _ _ _ _ _ _ _ _ hR hS (lv_sub hl [0, 1, 2, 3] rfl) hf
def f_X1_admitTracks_b125 (k31 : HP → Nat → Nat → Int32 → Int32 → Int32 → Int32 → Int32 → Option XR) (h : HP) (r0 : Nat) (r1 : Nat) (x2 : Int32) (x3 : Int32) (x4 : Int32) (x5 : Int32) (x6 : Int32) : Option XR :=
  k31 h r0 r1 x2 x3 x4 x5 (x6 + 1)
def f_X1_admitTracks_b104 (k31 : HP → Nat → Nat → Int32 → Int32 → Int32 → Int32 → Int32 → Option XR) (h : HP) (t0 : Int32) (r0 : Nat) (r1 : Nat) (x2 : Int32) (x3 : Int32) (x4 : Int32) (x5 : Int32) (x6 : Int32) : Option XR :=
  x_gR h r0 1 0 fun a1 =>
  x_rc h r0 1 <| x_cI (f_X1_roomOf h r0 r1 x6 x3) fun h3 i2 =>
  x_rc h3 a1 2 <| x_cV (f_X2_admit h3 a1 x6 t0 i2) fun h4 =>
  f_X1_admitTracks_b125 k31 h4 r0 r1 x2 x3 x4 x5 x6
def f_X1_admitTracks_b88 (k31 : HP → Nat → Nat → Int32 → Int32 → Int32 → Int32 → Int32 → Option XR) (h : HP) (r0 : Nat) (r1 : Nat) (x2 : Int32) (x3 : Int32) (x4 : Int32) (x5 : Int32) (x6 : Int32) : Option XR :=
  if x5 = 0 then
    (
      f_X1_admitTracks_b104 k31 h 1 r0 r1 x2 x3 x4 x5 x6
    )
  else
    (
      x_rc h r1 0 <| x_cI (f_X0_part h r1 x6 3) fun h2 i1 =>
      f_X1_admitTracks_b104 k31 h2 i1 r0 r1 x2 x3 x4 x5 x6
    )
def f_X1_admitTracks_b67 (k31 : HP → Nat → Nat → Int32 → Int32 → Int32 → Int32 → Int32 → Option XR) (h : HP) (t0 : Int32) (r0 : Nat) (r1 : Nat) (x2 : Int32) (x3 : Int32) (x4 : Int32) (x5 : Int32) (x6 : Int32) : Option XR :=
  if t0 = 0 then
    (
      f_X1_admitTracks_b125 k31 h r0 r1 x2 x3 x4 x5 x6
    )
  else
    (
      if x5 = 0 then
        (
          f_X1_admitTracks_b88 k31 h r0 r1 x2 x3 x4 x5 x6
        )
      else
        (
          x_rc h r1 0 <| x_cI (f_X0_isFlexible h r1 x6) fun h2 i1 =>
          if i1 = 0 then
            (
              f_X1_admitTracks_b125 k31 h2 r0 r1 x2 x3 x4 x5 x6
            )
          else
            (
              f_X1_admitTracks_b88 k31 h2 r0 r1 x2 x3 x4 x5 x6
            )
        )
    )
def f_X1_admitTracks_b31 (k31 : HP → Nat → Nat → Int32 → Int32 → Int32 → Int32 → Int32 → Option XR) (h : HP) (r0 : Nat) (r1 : Nat) (x2 : Int32) (x3 : Int32) (x4 : Int32) (x5 : Int32) (x6 : Int32) : Option XR :=
  x_rc h r1 0 <| x_cI (f_X0_lastTrack h r1 x2) fun h2 i1 =>
  if i1 < x6 then
    (
      some (h2, xv)
    )
  else
    (
      if x3 = 1 then
        (
          x_rc h2 r0 1 <| x_cI (f_X1_isBaseAsked h2 r0 r1 x6 x4) fun h6 i5 =>
          f_X1_admitTracks_b67 k31 h6 i5 r0 r1 x2 x3 x4 x5 x6
        )
      else
        (
          x_rc h2 r0 1 <| x_cI (f_X1_isLimitAsked h2 r0 r1 x6 x4) fun h4 i3 =>
          f_X1_admitTracks_b67 k31 h4 i3 r0 r1 x2 x3 x4 x5 x6
        )
    )
def f_X1_admitTracks_L31  : Nat → HP → Nat → Nat → Int32 → Int32 → Int32 → Int32 → Int32 → Option XR
  | 0 => fun _ _ _ _ _ _ _ _ => none
  | n + 1 => f_X1_admitTracks_b31 (f_X1_admitTracks_L31 n)
def f_X1_admitTracks_b15  (h : HP) (t0 : Int32) (r0 : Nat) (r1 : Nat) (x2 : Int32) (x3 : Int32) (x4 : Int32) : Option XR :=
  x_gR h r0 1 0 fun a1 =>
  x_rc h a1 2 <| x_cV (f_X2_startAnew h a1) fun h2 =>
  x_rc h2 r1 0 <| x_cI (f_X0_firstTrack h2 r1 x2) fun h4 i3 =>
  f_X1_admitTracks_L31 FU h4 r0 r1 x2 x3 x4 t0 i3
def f_X1_admitTracks (h : HP) (r0 : Nat) (r1 : Nat) (x2 : Int32) (x3 : Int32) (x4 : Int32) : Option XR :=
  x_gR h r0 1 2 fun a1 =>
  x_aI h 100 a1 x2 fun i2 =>
  if i2 = 5 then
    (
      f_X1_admitTracks_b15 h 1 r0 r1 x2 x3 x4
    )
  else
    (
      f_X1_admitTracks_b15 h 0 r0 r1 x2 x3 x4
    )
set_option maxRecDepth 100000 in
set_option maxHeartbeats 4000000 in
theorem s_X1_admitTracks_b125 {p : Program} {l : Launch} {e : Env} {s : State} {m : MethodId} {args : Array Value} {below : List Frame} {meth : Method} {c : Code} {E : XE} {z : XR} (C0 : x_C E p l s m meth c args cX1_admitTracks 9 "GridEngine$Contributions" "admitTracks" none) (hxt : ∀ x ∈ c.exceptionTable.toList, False) {k31 : HP → Nat → Nat → Int32 → Int32 → Int32 → Int32 → Int32 → Option XR} (hk31 : ∀ (h : HP) (r0 : Nat) (r1 : Nat) (x2 : Int32) (x3 : Int32) (x4 : Int32) (x5 : Int32) (x6 : Int32) (H : Heap) (locs : List Loc) (ls : Array Slot), x_Rep E h H → va_S (x_A E) s.heap H locs → lv_has ls 9 [(0, .ref (xa E r0)), (1, .ref (xa E r1)), (2, .int x2), (3, .int x3), (4, .int x4), (5, .int x5), (6, .int x6)] → k31 h r0 r1 x2 x3 x4 x5 x6 = some z → W p l e ({ frames := 11, cells := 0, slots := 0, locals := 202 } : Room) s m args below meth c H locs 0 0 (x_Q E below args s 0 0 z) (F0 m 31 ls [])) : ∀ (h : HP) (r0 : Nat) (r1 : Nat) (x2 : Int32) (x3 : Int32) (x4 : Int32) (x5 : Int32) (x6 : Int32) (H : Heap) (locs : List Loc) (ls : Array Slot), x_Rep E h H → va_S (x_A E) s.heap H locs → lv_has ls 9 [(0, .ref (xa E r0)), (1, .ref (xa E r1)), (2, .int x2), (3, .int x3), (4, .int x4), (5, .int x5), (6, .int x6)] → f_X1_admitTracks_b125 k31 h r0 r1 x2 x3 x4 x5 x6 = some z → W p l e ({ frames := 11, cells := 0, slots := 0, locals := 202 } : Room) s m args below meth c H locs 0 0 (x_Q E below args s 0 0 z) (F0 m 125 ls []) := by
  intro h r0 r1 x2 x3 x4 x5 x6 H locs ls hR hS hl hf
  obtain ⟨hx, hb, -⟩ := id C0
  unfold f_X1_admitTracks_b125 at hf
  have h0 : x_by cX1_admitTracks 125 [132, 6, 1, 167, 255, 159] := by unfold x_by; decide +kernel
  obtain ⟨d125, h0⟩ := de_iinc (1) (by decide) h0
  obtain ⟨d128, h0⟩ := de_goto (-97) (by decide) h0
  refine lv_iinc (v := (x6 + 1)) (lv' := [(6, .int (x6 + 1)), (0, .ref (xa E r0)), (1, .ref (xa E r1)), (2, .int x2), (3, .int x3), (4, .int x4), (5, .int x5)]) hx hb d125 hl (k := 6) rfl rfl (by decide) rfl (fun ls hl => ?_)
  refine lv_goto (tgt := 31) hx hb d128 (by decide) ?_
  exact hk31 _ _ _ _ _ _ _ _ _ _ _ hR hS (lv_sub hl [1, 2, 3, 4, 5, 6, 0] rfl) hf
set_option maxRecDepth 100000 in
set_option maxHeartbeats 4000000 in
theorem s_X1_admitTracks_b104 {p : Program} {l : Launch} {e : Env} {s : State} {m : MethodId} {args : Array Value} {below : List Frame} {meth : Method} {c : Code} {E : XE} {z : XR} (C0 : x_C E p l s m meth c args cX1_admitTracks 9 "GridEngine$Contributions" "admitTracks" none) (hxt : ∀ x ∈ c.exceptionTable.toList, False) {k31 : HP → Nat → Nat → Int32 → Int32 → Int32 → Int32 → Int32 → Option XR} (hk31 : ∀ (h : HP) (r0 : Nat) (r1 : Nat) (x2 : Int32) (x3 : Int32) (x4 : Int32) (x5 : Int32) (x6 : Int32) (H : Heap) (locs : List Loc) (ls : Array Slot), x_Rep E h H → va_S (x_A E) s.heap H locs → lv_has ls 9 [(0, .ref (xa E r0)), (1, .ref (xa E r1)), (2, .int x2), (3, .int x3), (4, .int x4), (5, .int x5), (6, .int x6)] → k31 h r0 r1 x2 x3 x4 x5 x6 = some z → W p l e ({ frames := 11, cells := 0, slots := 0, locals := 202 } : Room) s m args below meth c H locs 0 0 (x_Q E below args s 0 0 z) (F0 m 31 ls [])) : ∀ (h : HP) (t0 : Int32) (r0 : Nat) (r1 : Nat) (x2 : Int32) (x3 : Int32) (x4 : Int32) (x5 : Int32) (x6 : Int32) (H : Heap) (locs : List Loc) (ls : Array Slot), x_Rep E h H → va_S (x_A E) s.heap H locs → lv_has ls 9 [(0, .ref (xa E r0)), (1, .ref (xa E r1)), (2, .int x2), (3, .int x3), (4, .int x4), (5, .int x5), (6, .int x6)] → f_X1_admitTracks_b104 k31 h t0 r0 r1 x2 x3 x4 x5 x6 = some z → W p l e ({ frames := 11, cells := 0, slots := 0, locals := 202 } : Room) s m args below meth c H locs 0 0 (x_Q E below args s 0 0 z) (F0 m 104 ls [.int t0]) := by
  intro h t0 r0 r1 x2 x3 x4 x5 x6 H locs ls hR hS hl hf
  obtain ⟨hx, hb, -⟩ := id C0
  unfold f_X1_admitTracks_b104 at hf
  have h0 : x_by cX1_admitTracks 104 [54, 8, 42, 180, 0, 18, 21, 6, 21, 8, 42, 43, 21, 6, 29, 182, 0, 119, 182, 0, 123] := by unfold x_by; decide +kernel
  obtain ⟨d104, h0⟩ := de_istore h0
  obtain ⟨d106, h0⟩ := de_aload_n0 h0
  obtain ⟨d107, h0⟩ := de_getfield 18 (by decide) h0
  obtain ⟨d110, h0⟩ := de_iload h0
  obtain ⟨d112, h0⟩ := de_iload h0
  obtain ⟨d114, h0⟩ := de_aload_n0 h0
  obtain ⟨d115, h0⟩ := de_aload_n1 h0
  obtain ⟨d116, h0⟩ := de_iload h0
  obtain ⟨d118, h0⟩ := de_iload_n3 h0
  obtain ⟨d119, h0⟩ := de_invokevirtual 119 (by decide) h0
  obtain ⟨d122, h0⟩ := de_invokevirtual 123 (by decide) h0
  refine lv_istore (lv' := [(8, .int t0), (0, .ref (xa E r0)), (1, .ref (xa E r1)), (2, .int x2), (3, .int x3), (4, .int x4), (5, .int x5), (6, .int x6)]) hx hb d104 hl (by decide) rfl (fun ls hl => ?_)
  refine lv_aload_n hx hb d106 rfl (lv_at hl 1 rfl) ?_
  refine x_getR C0 hR hf xcl_1 (Nat.le_of_ble_eq_true rfl) rfl fl_X1_18 d107 (fun a1 hf => ?_)
  refine lv_iload hx hb d110 (lv_at hl 7 rfl) ?_
  refine lv_iload hx hb d112 (lv_at hl 0 rfl) ?_
  refine lv_aload_n hx hb d114 rfl (lv_at hl 1 rfl) ?_
  refine lv_aload_n hx hb d115 rfl (lv_at hl 2 rfl) ?_
  refine lv_iload hx hb d116 (lv_at hl 7 rfl) ?_
  refine lv_iload_n hx hb d118 rfl (lv_at hl 4 rfl) ?_
  obtain ⟨hs9, hf⟩ := x_if hf
  refine x_thenI C0 hxt hS hf (fun z0 e0 => x_runV C0 hR hS me_X1_roomOf wi_X1_roomOf wl_X1_roomOf ml_X1_119 hs9 xcl_1 (As := [.ref (xa E r1), .int x6, .int x3]) (ct_X1_roomOf E l C0.2.2.2.2.2.2.2.1 _ r0 r1 x6 x3) rfl rfl hl.1 (Nat.le_of_ble_eq_true rfl) d119 ⟨(Nat.le_of_ble_eq_true rfl), (Nat.le_of_ble_eq_true rfl)⟩ ⟨(Nat.le_of_ble_eq_true rfl), (Nat.le_of_ble_eq_true rfl)⟩ e0) (Nat.le_of_ble_eq_true rfl) (Nat.le_of_ble_eq_true rfl) (fun h9 i2 H locs hR hS hf => ?_)
  obtain ⟨hs9, hf⟩ := x_if hf
  refine x_thenV C0 hxt hS hf (fun z0 e0 => x_runV C0 hR hS me_X2_admit wi_X2_admit wl_X2_admit ml_X1_123 hs9 xcl_2 (As := [.int x6, .int t0, .int i2]) (ct_X2_admit E l C0.2.2.2.2.2.2.2.1 _ a1 x6 t0 i2) rfl rfl hl.1 (Nat.le_of_ble_eq_true rfl) d122 ⟨(Nat.le_of_ble_eq_true rfl), (Nat.le_of_ble_eq_true rfl)⟩ ⟨(Nat.le_of_ble_eq_true rfl), (Nat.le_of_ble_eq_true rfl)⟩ e0) (Nat.le_of_ble_eq_true rfl) (Nat.le_of_ble_eq_true rfl) (fun h9 H locs hR hS hf => ?_)
  exact s_X1_admitTracks_b125 C0 hxt hk31 _ _ _ _ _ _ _ _ _ _ _ hR hS (lv_sub hl [1, 2, 3, 4, 5, 6, 7] rfl) hf
set_option maxRecDepth 100000 in
set_option maxHeartbeats 4000000 in
theorem s_X1_admitTracks_b88 {p : Program} {l : Launch} {e : Env} {s : State} {m : MethodId} {args : Array Value} {below : List Frame} {meth : Method} {c : Code} {E : XE} {z : XR} (C0 : x_C E p l s m meth c args cX1_admitTracks 9 "GridEngine$Contributions" "admitTracks" none) (hxt : ∀ x ∈ c.exceptionTable.toList, False) {k31 : HP → Nat → Nat → Int32 → Int32 → Int32 → Int32 → Int32 → Option XR} (hk31 : ∀ (h : HP) (r0 : Nat) (r1 : Nat) (x2 : Int32) (x3 : Int32) (x4 : Int32) (x5 : Int32) (x6 : Int32) (H : Heap) (locs : List Loc) (ls : Array Slot), x_Rep E h H → va_S (x_A E) s.heap H locs → lv_has ls 9 [(0, .ref (xa E r0)), (1, .ref (xa E r1)), (2, .int x2), (3, .int x3), (4, .int x4), (5, .int x5), (6, .int x6)] → k31 h r0 r1 x2 x3 x4 x5 x6 = some z → W p l e ({ frames := 11, cells := 0, slots := 0, locals := 202 } : Room) s m args below meth c H locs 0 0 (x_Q E below args s 0 0 z) (F0 m 31 ls [])) : ∀ (h : HP) (r0 : Nat) (r1 : Nat) (x2 : Int32) (x3 : Int32) (x4 : Int32) (x5 : Int32) (x6 : Int32) (H : Heap) (locs : List Loc) (ls : Array Slot), x_Rep E h H → va_S (x_A E) s.heap H locs → lv_has ls 9 [(0, .ref (xa E r0)), (1, .ref (xa E r1)), (2, .int x2), (3, .int x3), (4, .int x4), (5, .int x5), (6, .int x6)] → f_X1_admitTracks_b88 k31 h r0 r1 x2 x3 x4 x5 x6 = some z → W p l e ({ frames := 11, cells := 0, slots := 0, locals := 202 } : Room) s m args below meth c H locs 0 0 (x_Q E below args s 0 0 z) (F0 m 88 ls []) := by
  intro h r0 r1 x2 x3 x4 x5 x6 H locs ls hR hS hl hf
  obtain ⟨hx, hb, -⟩ := id C0
  unfold f_X1_admitTracks_b88 at hf
  have h0 : x_by cX1_admitTracks 88 [21, 5, 153, 0, 13] := by unfold x_by; decide +kernel
  obtain ⟨d88, h0⟩ := de_iload h0
  obtain ⟨d90, h0⟩ := de_if_eq (13) (by decide) h0
  refine lv_iload hx hb d88 (lv_at hl 5 rfl) ?_
  refine lv_if_eq (tgt := 103) hx hb d90 (by decide) (fun q => ?_) (fun q => ?_)
  · have hf := x_pos q hf
    have h0 : x_by cX1_admitTracks 103 [4] := by unfold x_by; decide +kernel
    obtain ⟨d103, h0⟩ := de_iconst_1 h0
    refine lv_iconst (v := 1) hx hb d103 (by decide) ?_
    exact s_X1_admitTracks_b104 C0 hxt hk31 _ _ _ _ _ _ _ _ _ _ _ _ hR hS (lv_sub hl [0, 1, 2, 3, 4, 5, 6] rfl) hf
  · have hf := x_neg q hf
    have h0 : x_by cX1_admitTracks 93 [43, 21, 6, 6, 182, 0, 41, 167, 0, 4] := by unfold x_by; decide +kernel
    obtain ⟨d93, h0⟩ := de_aload_n1 h0
    obtain ⟨d94, h0⟩ := de_iload h0
    obtain ⟨d96, h0⟩ := de_iconst_3 h0
    obtain ⟨d97, h0⟩ := de_invokevirtual 41 (by decide) h0
    obtain ⟨d100, h0⟩ := de_goto (4) (by decide) h0
    refine lv_aload_n hx hb d93 rfl (lv_at hl 1 rfl) ?_
    refine lv_iload hx hb d94 (lv_at hl 6 rfl) ?_
    refine lv_iconst (v := 3) hx hb d96 (by decide) ?_
    obtain ⟨hs9, hf⟩ := x_if hf
    refine x_thenI C0 hxt hS hf (fun z0 e0 => x_runV C0 hR hS me_X0_part wi_X0_part wl_X0_part ml_X1_41 hs9 xcl_0 (As := [.int x6, .int 3]) (ct_X0_part E l C0.2.2.2.2.2.2.2.1 _ r1 x6 3) rfl rfl hl.1 (Nat.le_of_ble_eq_true rfl) d97 ⟨(Nat.le_of_ble_eq_true rfl), (Nat.le_of_ble_eq_true rfl)⟩ ⟨(Nat.le_of_ble_eq_true rfl), (Nat.le_of_ble_eq_true rfl)⟩ e0) (Nat.le_of_ble_eq_true rfl) (Nat.le_of_ble_eq_true rfl) (fun h9 i1 H locs hR hS hf => ?_)
    refine lv_goto (tgt := 104) hx hb d100 (by decide) ?_
    exact s_X1_admitTracks_b104 C0 hxt hk31 _ _ _ _ _ _ _ _ _ _ _ _ hR hS (lv_sub hl [0, 1, 2, 3, 4, 5, 6] rfl) hf
set_option maxRecDepth 100000 in
set_option maxHeartbeats 4000000 in
theorem s_X1_admitTracks_b67 {p : Program} {l : Launch} {e : Env} {s : State} {m : MethodId} {args : Array Value} {below : List Frame} {meth : Method} {c : Code} {E : XE} {z : XR} (C0 : x_C E p l s m meth c args cX1_admitTracks 9 "GridEngine$Contributions" "admitTracks" none) (hxt : ∀ x ∈ c.exceptionTable.toList, False) {k31 : HP → Nat → Nat → Int32 → Int32 → Int32 → Int32 → Int32 → Option XR} (hk31 : ∀ (h : HP) (r0 : Nat) (r1 : Nat) (x2 : Int32) (x3 : Int32) (x4 : Int32) (x5 : Int32) (x6 : Int32) (H : Heap) (locs : List Loc) (ls : Array Slot), x_Rep E h H → va_S (x_A E) s.heap H locs → lv_has ls 9 [(0, .ref (xa E r0)), (1, .ref (xa E r1)), (2, .int x2), (3, .int x3), (4, .int x4), (5, .int x5), (6, .int x6)] → k31 h r0 r1 x2 x3 x4 x5 x6 = some z → W p l e ({ frames := 11, cells := 0, slots := 0, locals := 202 } : Room) s m args below meth c H locs 0 0 (x_Q E below args s 0 0 z) (F0 m 31 ls [])) : ∀ (h : HP) (t0 : Int32) (r0 : Nat) (r1 : Nat) (x2 : Int32) (x3 : Int32) (x4 : Int32) (x5 : Int32) (x6 : Int32) (H : Heap) (locs : List Loc) (ls : Array Slot), x_Rep E h H → va_S (x_A E) s.heap H locs → lv_has ls 9 [(0, .ref (xa E r0)), (1, .ref (xa E r1)), (2, .int x2), (3, .int x3), (4, .int x4), (5, .int x5), (6, .int x6)] → f_X1_admitTracks_b67 k31 h t0 r0 r1 x2 x3 x4 x5 x6 = some z → W p l e ({ frames := 11, cells := 0, slots := 0, locals := 202 } : Room) s m args below meth c H locs 0 0 (x_Q E below args s 0 0 z) (F0 m 67 ls [.int t0]) := by
  intro h t0 r0 r1 x2 x3 x4 x5 x6 H locs ls hR hS hl hf
  obtain ⟨hx, hb, -⟩ := id C0
  unfold f_X1_admitTracks_b67 at hf
  have h0 : x_by cX1_admitTracks 67 [54, 7, 21, 7, 153, 0, 54] := by unfold x_by; decide +kernel
  obtain ⟨d67, h0⟩ := de_istore h0
  obtain ⟨d69, h0⟩ := de_iload h0
  obtain ⟨d71, h0⟩ := de_if_eq (54) (by decide) h0
  refine lv_istore (lv' := [(7, .int t0), (0, .ref (xa E r0)), (1, .ref (xa E r1)), (2, .int x2), (3, .int x3), (4, .int x4), (5, .int x5), (6, .int x6)]) hx hb d67 hl (by decide) rfl (fun ls hl => ?_)
  refine lv_iload hx hb d69 (lv_at hl 0 rfl) ?_
  refine lv_if_eq (tgt := 125) hx hb d71 (by decide) (fun q => ?_) (fun q => ?_)
  · have hf := x_pos q hf
    exact s_X1_admitTracks_b125 C0 hxt hk31 _ _ _ _ _ _ _ _ _ _ _ hR hS (lv_sub hl [1, 2, 3, 4, 5, 6, 7] rfl) hf
  · have hf := x_neg q hf
    have h0 : x_by cX1_admitTracks 74 [21, 5, 153, 0, 12] := by unfold x_by; decide +kernel
    obtain ⟨d74, h0⟩ := de_iload h0
    obtain ⟨d76, h0⟩ := de_if_eq (12) (by decide) h0
    refine lv_iload hx hb d74 (lv_at hl 6 rfl) ?_
    refine lv_if_eq (tgt := 88) hx hb d76 (by decide) (fun q => ?_) (fun q => ?_)
    · have hf := x_pos q hf
      exact s_X1_admitTracks_b88 C0 hxt hk31 _ _ _ _ _ _ _ _ _ _ _ hR hS (lv_sub hl [1, 2, 3, 4, 5, 6, 7] rfl) hf
    · have hf := x_neg q hf
      have h0 : x_by cX1_admitTracks 79 [43, 21, 6, 182, 0, 116, 153, 0, 40] := by unfold x_by; decide +kernel
      obtain ⟨d79, h0⟩ := de_aload_n1 h0
      obtain ⟨d80, h0⟩ := de_iload h0
      obtain ⟨d82, h0⟩ := de_invokevirtual 116 (by decide) h0
      obtain ⟨d85, h0⟩ := de_if_eq (40) (by decide) h0
      refine lv_aload_n hx hb d79 rfl (lv_at hl 2 rfl) ?_
      refine lv_iload hx hb d80 (lv_at hl 7 rfl) ?_
      obtain ⟨hs9, hf⟩ := x_if hf
      refine x_thenI C0 hxt hS hf (fun z0 e0 => x_runV C0 hR hS me_X0_isFlexible wi_X0_isFlexible wl_X0_isFlexible ml_X1_116 hs9 xcl_0 (As := [.int x6]) (ct_X0_isFlexible E l C0.2.2.2.2.2.2.2.1 _ r1 x6) rfl rfl hl.1 (Nat.le_of_ble_eq_true rfl) d82 ⟨(Nat.le_of_ble_eq_true rfl), (Nat.le_of_ble_eq_true rfl)⟩ ⟨(Nat.le_of_ble_eq_true rfl), (Nat.le_of_ble_eq_true rfl)⟩ e0) (Nat.le_of_ble_eq_true rfl) (Nat.le_of_ble_eq_true rfl) (fun h9 i1 H locs hR hS hf => ?_)
      refine lv_if_eq (tgt := 125) hx hb d85 (by decide) (fun q => ?_) (fun q => ?_)
      · have hf := x_pos q hf
        exact s_X1_admitTracks_b125 C0 hxt hk31 _ _ _ _ _ _ _ _ _ _ _ hR hS (lv_sub hl [1, 2, 3, 4, 5, 6, 7] rfl) hf
      · have hf := x_neg q hf
        exact s_X1_admitTracks_b88 C0 hxt hk31 _ _ _ _ _ _ _ _ _ _ _ hR hS (lv_sub hl [1, 2, 3, 4, 5, 6, 7] rfl) hf
set_option maxRecDepth 100000 in
set_option maxHeartbeats 4000000 in
theorem s_X1_admitTracks_b31 {p : Program} {l : Launch} {e : Env} {s : State} {m : MethodId} {args : Array Value} {below : List Frame} {meth : Method} {c : Code} {E : XE} {z : XR} (C0 : x_C E p l s m meth c args cX1_admitTracks 9 "GridEngine$Contributions" "admitTracks" none) (hxt : ∀ x ∈ c.exceptionTable.toList, False) {k31 : HP → Nat → Nat → Int32 → Int32 → Int32 → Int32 → Int32 → Option XR} (hk31 : ∀ (h : HP) (r0 : Nat) (r1 : Nat) (x2 : Int32) (x3 : Int32) (x4 : Int32) (x5 : Int32) (x6 : Int32) (H : Heap) (locs : List Loc) (ls : Array Slot), x_Rep E h H → va_S (x_A E) s.heap H locs → lv_has ls 9 [(0, .ref (xa E r0)), (1, .ref (xa E r1)), (2, .int x2), (3, .int x3), (4, .int x4), (5, .int x5), (6, .int x6)] → k31 h r0 r1 x2 x3 x4 x5 x6 = some z → W p l e ({ frames := 11, cells := 0, slots := 0, locals := 202 } : Room) s m args below meth c H locs 0 0 (x_Q E below args s 0 0 z) (F0 m 31 ls [])) : ∀ (h : HP) (r0 : Nat) (r1 : Nat) (x2 : Int32) (x3 : Int32) (x4 : Int32) (x5 : Int32) (x6 : Int32) (H : Heap) (locs : List Loc) (ls : Array Slot), x_Rep E h H → va_S (x_A E) s.heap H locs → lv_has ls 9 [(0, .ref (xa E r0)), (1, .ref (xa E r1)), (2, .int x2), (3, .int x3), (4, .int x4), (5, .int x5), (6, .int x6)] → f_X1_admitTracks_b31 k31 h r0 r1 x2 x3 x4 x5 x6 = some z → W p l e ({ frames := 11, cells := 0, slots := 0, locals := 202 } : Room) s m args below meth c H locs 0 0 (x_Q E below args s 0 0 z) (F0 m 31 ls []) := by
  intro h r0 r1 x2 x3 x4 x5 x6 H locs ls hR hS hl hf
  obtain ⟨hx, hb, -⟩ := id C0
  unfold f_X1_admitTracks_b31 at hf
  have h0 : x_by cX1_admitTracks 31 [21, 6, 43, 28, 182, 0, 103, 163, 0, 93] := by unfold x_by; decide +kernel
  obtain ⟨d31, h0⟩ := de_iload h0
  obtain ⟨d33, h0⟩ := de_aload_n1 h0
  obtain ⟨d34, h0⟩ := de_iload_n2 h0
  obtain ⟨d35, h0⟩ := de_invokevirtual 103 (by decide) h0
  obtain ⟨d38, h0⟩ := de_icmp_gt (93) (by decide) h0
  refine lv_iload hx hb d31 (lv_at hl 6 rfl) ?_
  refine lv_aload_n hx hb d33 rfl (lv_at hl 1 rfl) ?_
  refine lv_iload_n hx hb d34 rfl (lv_at hl 2 rfl) ?_
  obtain ⟨hs9, hf⟩ := x_if hf
  refine x_thenI C0 hxt hS hf (fun z0 e0 => x_runV C0 hR hS me_X0_lastTrack wi_X0_lastTrack wl_X0_lastTrack ml_X1_103 hs9 xcl_0 (As := [.int x2]) (ct_X0_lastTrack E l C0.2.2.2.2.2.2.2.1 _ r1 x2) rfl rfl hl.1 (Nat.le_of_ble_eq_true rfl) d35 ⟨(Nat.le_of_ble_eq_true rfl), (Nat.le_of_ble_eq_true rfl)⟩ ⟨(Nat.le_of_ble_eq_true rfl), (Nat.le_of_ble_eq_true rfl)⟩ e0) (Nat.le_of_ble_eq_true rfl) (Nat.le_of_ble_eq_true rfl) (fun h9 i1 H locs hR hS hf => ?_)
  refine lv_icmp_gt (tgt := 131) hx hb d38 (by decide) (fun q => ?_) (fun q => ?_)
  · have hf := x_pos q hf
    have h0 : x_by cX1_admitTracks 131 [177] := by unfold x_by; decide +kernel
    obtain ⟨d131, h0⟩ := de_return h0
    exact x_vret C0 hR hS hf (Nat.le_of_ble_eq_true rfl) (Nat.le_of_ble_eq_true rfl) d131
  · have hf := x_neg q hf
    have h0 : x_by cX1_admitTracks 41 [29, 4, 160, 0, 15] := by unfold x_by; decide +kernel
    obtain ⟨d41, h0⟩ := de_iload_n3 h0
    obtain ⟨d42, h0⟩ := de_iconst_1 h0
    obtain ⟨d43, h0⟩ := de_icmp_ne (15) (by decide) h0
    refine lv_iload_n hx hb d41 rfl (lv_at hl 3 rfl) ?_
    refine lv_iconst (v := 1) hx hb d42 (by decide) ?_
    refine lv_icmp_ne (tgt := 58) hx hb d43 (by decide) (fun q => ?_) (fun q => ?_)
    · have hf := x_neg q hf
      have h0 : x_by cX1_admitTracks 58 [42, 43, 21, 6, 21, 4, 182, 0, 113] := by unfold x_by; decide +kernel
      obtain ⟨d58, h0⟩ := de_aload_n0 h0
      obtain ⟨d59, h0⟩ := de_aload_n1 h0
      obtain ⟨d60, h0⟩ := de_iload h0
      obtain ⟨d62, h0⟩ := de_iload h0
      obtain ⟨d64, h0⟩ := de_invokevirtual 113 (by decide) h0
      refine lv_aload_n hx hb d58 rfl (lv_at hl 0 rfl) ?_
      refine lv_aload_n hx hb d59 rfl (lv_at hl 1 rfl) ?_
      refine lv_iload hx hb d60 (lv_at hl 6 rfl) ?_
      refine lv_iload hx hb d62 (lv_at hl 4 rfl) ?_
      obtain ⟨hs9, hf⟩ := x_if hf
      refine x_thenI C0 hxt hS hf (fun z0 e0 => x_runV C0 hR hS me_X1_isLimitAsked wi_X1_isLimitAsked wl_X1_isLimitAsked ml_X1_113 hs9 xcl_1 (As := [.ref (xa E r1), .int x6, .int x4]) (ct_X1_isLimitAsked E l C0.2.2.2.2.2.2.2.1 _ r0 r1 x6 x4) rfl rfl hl.1 (Nat.le_of_ble_eq_true rfl) d64 ⟨(Nat.le_of_ble_eq_true rfl), (Nat.le_of_ble_eq_true rfl)⟩ ⟨(Nat.le_of_ble_eq_true rfl), (Nat.le_of_ble_eq_true rfl)⟩ e0) (Nat.le_of_ble_eq_true rfl) (Nat.le_of_ble_eq_true rfl) (fun h9 i3 H locs hR hS hf => ?_)
      exact s_X1_admitTracks_b67 C0 hxt hk31 _ _ _ _ _ _ _ _ _ _ _ _ hR hS (lv_sub hl [0, 1, 2, 3, 4, 5, 6] rfl) hf
    · have hf := x_pos q hf
      have h0 : x_by cX1_admitTracks 46 [42, 43, 21, 6, 21, 4, 182, 0, 109, 167, 0, 12] := by unfold x_by; decide +kernel
      obtain ⟨d46, h0⟩ := de_aload_n0 h0
      obtain ⟨d47, h0⟩ := de_aload_n1 h0
      obtain ⟨d48, h0⟩ := de_iload h0
      obtain ⟨d50, h0⟩ := de_iload h0
      obtain ⟨d52, h0⟩ := de_invokevirtual 109 (by decide) h0
      obtain ⟨d55, h0⟩ := de_goto (12) (by decide) h0
      refine lv_aload_n hx hb d46 rfl (lv_at hl 0 rfl) ?_
      refine lv_aload_n hx hb d47 rfl (lv_at hl 1 rfl) ?_
      refine lv_iload hx hb d48 (lv_at hl 6 rfl) ?_
      refine lv_iload hx hb d50 (lv_at hl 4 rfl) ?_
      obtain ⟨hs9, hf⟩ := x_if hf
      refine x_thenI C0 hxt hS hf (fun z0 e0 => x_runV C0 hR hS me_X1_isBaseAsked wi_X1_isBaseAsked wl_X1_isBaseAsked ml_X1_109 hs9 xcl_1 (As := [.ref (xa E r1), .int x6, .int x4]) (ct_X1_isBaseAsked E l C0.2.2.2.2.2.2.2.1 _ r0 r1 x6 x4) rfl rfl hl.1 (Nat.le_of_ble_eq_true rfl) d52 ⟨(Nat.le_of_ble_eq_true rfl), (Nat.le_of_ble_eq_true rfl)⟩ ⟨(Nat.le_of_ble_eq_true rfl), (Nat.le_of_ble_eq_true rfl)⟩ e0) (Nat.le_of_ble_eq_true rfl) (Nat.le_of_ble_eq_true rfl) (fun h9 i5 H locs hR hS hf => ?_)
      refine lv_goto (tgt := 67) hx hb d55 (by decide) ?_
      exact s_X1_admitTracks_b67 C0 hxt hk31 _ _ _ _ _ _ _ _ _ _ _ _ hR hS (lv_sub hl [0, 1, 2, 3, 4, 5, 6] rfl) hf
theorem s_X1_admitTracks_L31 {p : Program} {l : Launch} {e : Env} {s : State} {m : MethodId} {args : Array Value} {below : List Frame} {meth : Method} {c : Code} {E : XE} {z : XR} (C0 : x_C E p l s m meth c args cX1_admitTracks 9 "GridEngine$Contributions" "admitTracks" none) (hxt : ∀ x ∈ c.exceptionTable.toList, False)  : ∀ n : Nat, ∀ (h : HP) (r0 : Nat) (r1 : Nat) (x2 : Int32) (x3 : Int32) (x4 : Int32) (x5 : Int32) (x6 : Int32) (H : Heap) (locs : List Loc) (ls : Array Slot), x_Rep E h H → va_S (x_A E) s.heap H locs → lv_has ls 9 [(0, .ref (xa E r0)), (1, .ref (xa E r1)), (2, .int x2), (3, .int x3), (4, .int x4), (5, .int x5), (6, .int x6)] → f_X1_admitTracks_L31 n h r0 r1 x2 x3 x4 x5 x6 = some z → W p l e ({ frames := 11, cells := 0, slots := 0, locals := 202 } : Room) s m args below meth c H locs 0 0 (x_Q E below args s 0 0 z) (F0 m 31 ls []) := by
  intro n
  induction n with
  | zero => intro h r0 r1 x2 x3 x4 x5 x6 H locs ls hR hS hl hf; cases (show (none : Option XR) = some z from hf)
  | succ n ih => intro h r0 r1 x2 x3 x4 x5 x6 H locs ls hR hS hl hf; exact s_X1_admitTracks_b31 C0 hxt ih h r0 r1 x2 x3 x4 x5 x6 H locs ls hR hS hl (show f_X1_admitTracks_b31 (f_X1_admitTracks_L31 n) h r0 r1 x2 x3 x4 x5 x6 = some z from hf)
set_option maxRecDepth 100000 in
set_option maxHeartbeats 4000000 in
theorem s_X1_admitTracks_b15 {p : Program} {l : Launch} {e : Env} {s : State} {m : MethodId} {args : Array Value} {below : List Frame} {meth : Method} {c : Code} {E : XE} {z : XR} (C0 : x_C E p l s m meth c args cX1_admitTracks 9 "GridEngine$Contributions" "admitTracks" none) (hxt : ∀ x ∈ c.exceptionTable.toList, False)  : ∀ (h : HP) (t0 : Int32) (r0 : Nat) (r1 : Nat) (x2 : Int32) (x3 : Int32) (x4 : Int32) (H : Heap) (locs : List Loc) (ls : Array Slot), x_Rep E h H → va_S (x_A E) s.heap H locs → lv_has ls 9 [(0, .ref (xa E r0)), (1, .ref (xa E r1)), (2, .int x2), (3, .int x3), (4, .int x4)] → f_X1_admitTracks_b15 h t0 r0 r1 x2 x3 x4 = some z → W p l e ({ frames := 11, cells := 0, slots := 0, locals := 202 } : Room) s m args below meth c H locs 0 0 (x_Q E below args s 0 0 z) (F0 m 15 ls [.int t0]) := by
  intro h t0 r0 r1 x2 x3 x4 H locs ls hR hS hl hf
  obtain ⟨hx, hb, -⟩ := id C0
  unfold f_X1_admitTracks_b15 at hf
  have h0 : x_by cX1_admitTracks 15 [54, 5, 42, 180, 0, 18, 182, 0, 106, 43, 28, 182, 0, 100, 54, 6] := by unfold x_by; decide +kernel
  obtain ⟨d15, h0⟩ := de_istore h0
  obtain ⟨d17, h0⟩ := de_aload_n0 h0
  obtain ⟨d18, h0⟩ := de_getfield 18 (by decide) h0
  obtain ⟨d21, h0⟩ := de_invokevirtual 106 (by decide) h0
  obtain ⟨d24, h0⟩ := de_aload_n1 h0
  obtain ⟨d25, h0⟩ := de_iload_n2 h0
  obtain ⟨d26, h0⟩ := de_invokevirtual 100 (by decide) h0
  obtain ⟨d29, h0⟩ := de_istore h0
  refine lv_istore (lv' := [(5, .int t0), (0, .ref (xa E r0)), (1, .ref (xa E r1)), (2, .int x2), (3, .int x3), (4, .int x4)]) hx hb d15 hl (by decide) rfl (fun ls hl => ?_)
  refine lv_aload_n hx hb d17 rfl (lv_at hl 1 rfl) ?_
  refine x_getR C0 hR hf xcl_1 (Nat.le_of_ble_eq_true rfl) rfl fl_X1_18 d18 (fun a1 hf => ?_)
  obtain ⟨hs9, hf⟩ := x_if hf
  refine x_thenV C0 hxt hS hf (fun z0 e0 => x_runV C0 hR hS me_X2_startAnew wi_X2_startAnew wl_X2_startAnew ml_X1_106 hs9 xcl_2 (As := []) (ct_X2_startAnew E l C0.2.2.2.2.2.2.2.1 _ a1) rfl rfl hl.1 (Nat.le_of_ble_eq_true rfl) d21 ⟨(Nat.le_of_ble_eq_true rfl), (Nat.le_of_ble_eq_true rfl)⟩ ⟨(Nat.le_of_ble_eq_true rfl), (Nat.le_of_ble_eq_true rfl)⟩ e0) (Nat.le_of_ble_eq_true rfl) (Nat.le_of_ble_eq_true rfl) (fun h9 H locs hR hS hf => ?_)
  refine lv_aload_n hx hb d24 rfl (lv_at hl 2 rfl) ?_
  refine lv_iload_n hx hb d25 rfl (lv_at hl 3 rfl) ?_
  obtain ⟨hs9, hf⟩ := x_if hf
  refine x_thenI C0 hxt hS hf (fun z0 e0 => x_runV C0 hR hS me_X0_firstTrack wi_X0_firstTrack wl_X0_firstTrack ml_X1_100 hs9 xcl_0 (As := [.int x2]) (ct_X0_firstTrack E l C0.2.2.2.2.2.2.2.1 _ r1 x2) rfl rfl hl.1 (Nat.le_of_ble_eq_true rfl) d26 ⟨(Nat.le_of_ble_eq_true rfl), (Nat.le_of_ble_eq_true rfl)⟩ ⟨(Nat.le_of_ble_eq_true rfl), (Nat.le_of_ble_eq_true rfl)⟩ e0) (Nat.le_of_ble_eq_true rfl) (Nat.le_of_ble_eq_true rfl) (fun h9 i3 H locs hR hS hf => ?_)
  refine lv_istore (lv' := [(6, .int i3), (5, .int t0), (0, .ref (xa E r0)), (1, .ref (xa E r1)), (2, .int x2), (3, .int x3), (4, .int x4)]) hx hb d29 hl (by decide) rfl (fun ls hl => ?_)
  exact s_X1_admitTracks_L31 C0 hxt FU _ _ _ _ _ _ _ _ _ _ _ hR hS (lv_sub hl [2, 3, 4, 5, 6, 1, 0] rfl) hf
set_option maxRecDepth 100000 in
set_option maxHeartbeats 4000000 in
theorem ct_X1_admitTracks (E : XE) (l : Launch) (hl0 : l.stackTraces = false) (h : HP) (r0 : Nat) (r1 : Nat) (x2 : Int32) (x3 : Int32) (x4 : Int32) : x_ct E l yX1_admitTracks (Cond.code yX1_admitTracks cX1_admitTracks 9 none) 11 202 0 0 [.ref (xa E r0), .ref (xa E r1), .int x2, .int x3, .int x4] h (f_X1_admitTracks h r0 r1 x2 x3 x4) := by
  refine x_ofW hl0 (by decide +kernel) ?_
  intro z hf p e s m args below meth c C0 hxt hargs hR
  subst hargs
  have C0 : x_C E p l s m meth c ([.ref (xa E r0), .ref (xa E r1), .int x2, .int x3, .int x4] : List Value).toArray cX1_admitTracks 9 "GridEngine$Contributions" "admitTracks" none := C0
  obtain ⟨hx, hb, -⟩ := id C0
  have hS : va_S (x_A E) s.heap s.heap [] := va_S.rf
  have hl := lv_entry ([.ref (xa E r0), .ref (xa E r1), .int x2, .int x3, .int x4]) (n := 9) (Nat.le_of_ble_eq_true rfl)
  rw [lg_entry_eq]
  generalize (lg_sl ([.ref (xa E r0), .ref (xa E r1), .int x2, .int x3, .int x4]) ++ List.replicate (9 - (lg_sl ([.ref (xa E r0), .ref (xa E r1), .int x2, .int x3, .int x4])).length) Slot.unset).toArray = ls at hl ⊢
  have hl : lv_has ls 9 [(0, .ref (xa E r0)), (1, .ref (xa E r1)), (2, .int x2), (3, .int x3), (4, .int x4)] := hl
  unfold f_X1_admitTracks at hf
  have h0 : x_by cX1_admitTracks 0 [42, 180, 0, 15, 28, 46, 8, 160, 0, 7] := by unfold x_by; decide +kernel
  obtain ⟨d0, h0⟩ := de_aload_n0 h0
  obtain ⟨d1, h0⟩ := de_getfield 15 (by decide) h0
  obtain ⟨d4, h0⟩ := de_iload_n2 h0
  obtain ⟨d5, h0⟩ := de_iaload h0
  obtain ⟨d6, h0⟩ := de_iconst_5 h0
  obtain ⟨d7, h0⟩ := de_icmp_ne (7) (by decide) h0
  refine lv_aload_n hx hb d0 rfl (lv_at hl 0 rfl) ?_
  refine x_getR C0 hR hf xcl_1 (Nat.le_of_ble_eq_true rfl) rfl fl_X1_15 d1 (fun a1 hf => ?_)
  refine lv_iload_n hx hb d4 rfl (lv_at hl 2 rfl) ?_
  refine x_iald C0 hR hf d5 (fun i2 hf => ?_)
  refine lv_iconst (v := 5) hx hb d6 (by decide) ?_
  refine lv_icmp_ne (tgt := 14) hx hb d7 (by decide) (fun q => ?_) (fun q => ?_)
  · have hf := x_neg q hf
    have h0 : x_by cX1_admitTracks 14 [3] := by unfold x_by; decide +kernel
    obtain ⟨d14, h0⟩ := de_iconst_0 h0
    refine lv_iconst (v := 0) hx hb d14 (by decide) ?_
    exact s_X1_admitTracks_b15 C0 hxt _ _ _ _ _ _ _ _ _ _ hR hS (lv_sub hl [0, 1, 2, 3, 4] rfl) hf
  · have hf := x_pos q hf
    have h0 : x_by cX1_admitTracks 10 [4, 167, 0, 4] := by unfold x_by; decide +kernel
    obtain ⟨d10, h0⟩ := de_iconst_1 h0
    obtain ⟨d11, h0⟩ := de_goto (4) (by decide) h0
    refine lv_iconst (v := 1) hx hb d10 (by decide) ?_
    refine lv_goto (tgt := 15) hx hb d11 (by decide) ?_
    exact s_X1_admitTracks_b15 C0 hxt _ _ _ _ _ _ _ _ _ _ hR hS (lv_sub hl [0, 1, 2, 3, 4] rfl) hf
def f_X1_spaceOf_b13 (k13 : HP → Nat → Nat → Int32 → Int32 → Int32 → Option XR) (h : HP) (r0 : Nat) (r1 : Nat) (x2 : Int32) (x3 : Int32) (x4 : Int32) : Option XR :=
  x_rc h r1 0 <| x_cI (f_X0_lastTrack h r1 x2) fun h2 i1 =>
  if i1 < x4 then
    (
      some (h2, xi x3)
    )
  else
    (
      x_gR h2 r0 1 1 fun a3 =>
      x_aI h2 100 a3 x4 fun i4 =>
      x_lI (x3 + i4) fun i5 =>
      k13 h2 r0 r1 x2 i5 (x4 + 1)
    )
def f_X1_spaceOf_L13  : Nat → HP → Nat → Nat → Int32 → Int32 → Int32 → Option XR
  | 0 => fun _ _ _ _ _ _ => none
  | n + 1 => f_X1_spaceOf_b13 (f_X1_spaceOf_L13 n)
def f_X1_spaceOf (h : HP) (r0 : Nat) (r1 : Nat) (x2 : Int32) : Option XR :=
  x_rc h r1 0 <| x_cI (f_X0_guttersWithin h r1 x2) fun h2 i1 =>
  x_rc h2 r1 0 <| x_cI (f_X0_firstTrack h2 r1 x2) fun h4 i3 =>
  f_X1_spaceOf_L13 FU h4 r0 r1 x2 i1 i3
set_option maxRecDepth 100000 in
set_option maxHeartbeats 4000000 in
theorem s_X1_spaceOf_b13 {p : Program} {l : Launch} {e : Env} {s : State} {m : MethodId} {args : Array Value} {below : List Frame} {meth : Method} {c : Code} {E : XE} {z : XR} (C0 : x_C E p l s m meth c args cX1_spaceOf 5 "GridEngine$Contributions" "spaceOf" (some .int)) (hxt : ∀ x ∈ c.exceptionTable.toList, False) {k13 : HP → Nat → Nat → Int32 → Int32 → Int32 → Option XR} (hk13 : ∀ (h : HP) (r0 : Nat) (r1 : Nat) (x2 : Int32) (x3 : Int32) (x4 : Int32) (H : Heap) (locs : List Loc) (ls : Array Slot), x_Rep E h H → va_S (x_A E) s.heap H locs → lv_has ls 5 [(0, .ref (xa E r0)), (1, .ref (xa E r1)), (2, .int x2), (3, .int x3), (4, .int x4)] → k13 h r0 r1 x2 x3 x4 = some z → W p l e ({ frames := 11, cells := 0, slots := 0, locals := 197 } : Room) s m args below meth c H locs 0 0 (x_Q E below args s 0 0 z) (F0 m 13 ls [])) : ∀ (h : HP) (r0 : Nat) (r1 : Nat) (x2 : Int32) (x3 : Int32) (x4 : Int32) (H : Heap) (locs : List Loc) (ls : Array Slot), x_Rep E h H → va_S (x_A E) s.heap H locs → lv_has ls 5 [(0, .ref (xa E r0)), (1, .ref (xa E r1)), (2, .int x2), (3, .int x3), (4, .int x4)] → f_X1_spaceOf_b13 k13 h r0 r1 x2 x3 x4 = some z → W p l e ({ frames := 11, cells := 0, slots := 0, locals := 197 } : Room) s m args below meth c H locs 0 0 (x_Q E below args s 0 0 z) (F0 m 13 ls []) := by
  intro h r0 r1 x2 x3 x4 H locs ls hR hS hl hf
  obtain ⟨hx, hb, -⟩ := id C0
  unfold f_X1_spaceOf_b13 at hf
  have h0 : x_by cX1_spaceOf 13 [21, 4, 43, 28, 182, 0, 103, 163, 0, 19] := by unfold x_by; decide +kernel
  obtain ⟨d13, h0⟩ := de_iload h0
  obtain ⟨d15, h0⟩ := de_aload_n1 h0
  obtain ⟨d16, h0⟩ := de_iload_n2 h0
  obtain ⟨d17, h0⟩ := de_invokevirtual 103 (by decide) h0
  obtain ⟨d20, h0⟩ := de_icmp_gt (19) (by decide) h0
  refine lv_iload hx hb d13 (lv_at hl 4 rfl) ?_
  refine lv_aload_n hx hb d15 rfl (lv_at hl 1 rfl) ?_
  refine lv_iload_n hx hb d16 rfl (lv_at hl 2 rfl) ?_
  obtain ⟨hs9, hf⟩ := x_if hf
  refine x_thenI C0 hxt hS hf (fun z0 e0 => x_runV C0 hR hS me_X0_lastTrack wi_X0_lastTrack wl_X0_lastTrack ml_X1_103 hs9 xcl_0 (As := [.int x2]) (ct_X0_lastTrack E l C0.2.2.2.2.2.2.2.1 _ r1 x2) rfl rfl hl.1 (Nat.le_of_ble_eq_true rfl) d17 ⟨(Nat.le_of_ble_eq_true rfl), (Nat.le_of_ble_eq_true rfl)⟩ ⟨(Nat.le_of_ble_eq_true rfl), (Nat.le_of_ble_eq_true rfl)⟩ e0) (Nat.le_of_ble_eq_true rfl) (Nat.le_of_ble_eq_true rfl) (fun h9 i1 H locs hR hS hf => ?_)
  refine lv_icmp_gt (tgt := 39) hx hb d20 (by decide) (fun q => ?_) (fun q => ?_)
  · have hf := x_pos q hf
    have h0 : x_by cX1_spaceOf 39 [29, 172] := by unfold x_by; decide +kernel
    obtain ⟨d39, h0⟩ := de_iload_n3 h0
    obtain ⟨d40, h0⟩ := de_ireturn h0
    refine lv_iload_n hx hb d39 rfl (lv_at hl 3 rfl) ?_
    exact x_iret C0 hR hS hf (Nat.le_of_ble_eq_true rfl) (Nat.le_of_ble_eq_true rfl) d40
  · have hf := x_neg q hf
    have h0 : x_by cX1_spaceOf 23 [29, 42, 180, 0, 9, 21, 4, 46, 96, 62, 132, 4, 1, 167, 255, 233] := by unfold x_by; decide +kernel
    obtain ⟨d23, h0⟩ := de_iload_n3 h0
    obtain ⟨d24, h0⟩ := de_aload_n0 h0
    obtain ⟨d25, h0⟩ := de_getfield 9 (by decide) h0
    obtain ⟨d28, h0⟩ := de_iload h0
    obtain ⟨d30, h0⟩ := de_iaload h0
    obtain ⟨d31, h0⟩ := de_iadd h0
    obtain ⟨d32, h0⟩ := de_istore_n3 h0
    obtain ⟨d33, h0⟩ := de_iinc (1) (by decide) h0
    obtain ⟨d36, h0⟩ := de_goto (-23) (by decide) h0
    refine lv_iload_n hx hb d23 rfl (lv_at hl 3 rfl) ?_
    refine lv_aload_n hx hb d24 rfl (lv_at hl 0 rfl) ?_
    refine x_getR C0 hR hf xcl_1 (Nat.le_of_ble_eq_true rfl) rfl fl_X1_9 d25 (fun a3 hf => ?_)
    refine lv_iload hx hb d28 (lv_at hl 4 rfl) ?_
    refine x_iald C0 hR hf d30 (fun i4 hf => ?_)
    refine lv_iadd hx hb d31 ?_
    refine lv_topi (fun i5 ei5 => ?_)
    have hf := x_lI_el ei5 hf
    refine lv_istore_n (lv' := [(3, .int i5), (0, .ref (xa E r0)), (1, .ref (xa E r1)), (2, .int x2), (4, .int x4)]) hx hb d32 rfl hl (by decide) rfl (fun ls hl => ?_)
    refine lv_iinc (v := (x4 + 1)) (lv' := [(4, .int (x4 + 1)), (3, .int i5), (0, .ref (xa E r0)), (1, .ref (xa E r1)), (2, .int x2)]) hx hb d33 hl (k := 4) rfl rfl (by decide) rfl (fun ls hl => ?_)
    refine lv_goto (tgt := 13) hx hb d36 (by decide) ?_
    exact hk13 _ _ _ _ _ _ _ _ _ hR hS (lv_sub hl [2, 3, 4, 1, 0] rfl) hf
theorem s_X1_spaceOf_L13 {p : Program} {l : Launch} {e : Env} {s : State} {m : MethodId} {args : Array Value} {below : List Frame} {meth : Method} {c : Code} {E : XE} {z : XR} (C0 : x_C E p l s m meth c args cX1_spaceOf 5 "GridEngine$Contributions" "spaceOf" (some .int)) (hxt : ∀ x ∈ c.exceptionTable.toList, False)  : ∀ n : Nat, ∀ (h : HP) (r0 : Nat) (r1 : Nat) (x2 : Int32) (x3 : Int32) (x4 : Int32) (H : Heap) (locs : List Loc) (ls : Array Slot), x_Rep E h H → va_S (x_A E) s.heap H locs → lv_has ls 5 [(0, .ref (xa E r0)), (1, .ref (xa E r1)), (2, .int x2), (3, .int x3), (4, .int x4)] → f_X1_spaceOf_L13 n h r0 r1 x2 x3 x4 = some z → W p l e ({ frames := 11, cells := 0, slots := 0, locals := 197 } : Room) s m args below meth c H locs 0 0 (x_Q E below args s 0 0 z) (F0 m 13 ls []) := by
  intro n
  induction n with
  | zero => intro h r0 r1 x2 x3 x4 H locs ls hR hS hl hf; cases (show (none : Option XR) = some z from hf)
  | succ n ih => intro h r0 r1 x2 x3 x4 H locs ls hR hS hl hf; exact s_X1_spaceOf_b13 C0 hxt ih h r0 r1 x2 x3 x4 H locs ls hR hS hl (show f_X1_spaceOf_b13 (f_X1_spaceOf_L13 n) h r0 r1 x2 x3 x4 = some z from hf)
set_option maxRecDepth 100000 in
set_option maxHeartbeats 4000000 in
theorem ct_X1_spaceOf (E : XE) (l : Launch) (hl0 : l.stackTraces = false) (h : HP) (r0 : Nat) (r1 : Nat) (x2 : Int32) : x_ct E l yX1_spaceOf (Cond.code yX1_spaceOf cX1_spaceOf 5 (some .int)) 11 197 0 0 [.ref (xa E r0), .ref (xa E r1), .int x2] h (f_X1_spaceOf h r0 r1 x2) := by
  refine x_ofW hl0 (by decide +kernel) ?_
  intro z hf p e s m args below meth c C0 hxt hargs hR
  subst hargs
  have C0 : x_C E p l s m meth c ([.ref (xa E r0), .ref (xa E r1), .int x2] : List Value).toArray cX1_spaceOf 5 "GridEngine$Contributions" "spaceOf" (some .int) := C0
  obtain ⟨hx, hb, -⟩ := id C0
  have hS : va_S (x_A E) s.heap s.heap [] := va_S.rf
  have hl := lv_entry ([.ref (xa E r0), .ref (xa E r1), .int x2]) (n := 5) (Nat.le_of_ble_eq_true rfl)
  rw [lg_entry_eq]
  generalize (lg_sl ([.ref (xa E r0), .ref (xa E r1), .int x2]) ++ List.replicate (5 - (lg_sl ([.ref (xa E r0), .ref (xa E r1), .int x2])).length) Slot.unset).toArray = ls at hl ⊢
  have hl : lv_has ls 5 [(0, .ref (xa E r0)), (1, .ref (xa E r1)), (2, .int x2)] := hl
  unfold f_X1_spaceOf at hf
  have h0 : x_by cX1_spaceOf 0 [43, 28, 182, 0, 97, 62, 43, 28, 182, 0, 100, 54, 4] := by unfold x_by; decide +kernel
  obtain ⟨d0, h0⟩ := de_aload_n1 h0
  obtain ⟨d1, h0⟩ := de_iload_n2 h0
  obtain ⟨d2, h0⟩ := de_invokevirtual 97 (by decide) h0
  obtain ⟨d5, h0⟩ := de_istore_n3 h0
  obtain ⟨d6, h0⟩ := de_aload_n1 h0
  obtain ⟨d7, h0⟩ := de_iload_n2 h0
  obtain ⟨d8, h0⟩ := de_invokevirtual 100 (by decide) h0
  obtain ⟨d11, h0⟩ := de_istore h0
  refine lv_aload_n hx hb d0 rfl (lv_at hl 1 rfl) ?_
  refine lv_iload_n hx hb d1 rfl (lv_at hl 2 rfl) ?_
  obtain ⟨hs9, hf⟩ := x_if hf
  refine x_thenI C0 hxt hS hf (fun z0 e0 => x_runV C0 hR hS me_X0_guttersWithin wi_X0_guttersWithin wl_X0_guttersWithin ml_X1_97 hs9 xcl_0 (As := [.int x2]) (ct_X0_guttersWithin E l C0.2.2.2.2.2.2.2.1 _ r1 x2) rfl rfl hl.1 (Nat.le_of_ble_eq_true rfl) d2 ⟨(Nat.le_of_ble_eq_true rfl), (Nat.le_of_ble_eq_true rfl)⟩ ⟨(Nat.le_of_ble_eq_true rfl), (Nat.le_of_ble_eq_true rfl)⟩ e0) (Nat.le_of_ble_eq_true rfl) (Nat.le_of_ble_eq_true rfl) (fun h9 i1 H locs hR hS hf => ?_)
  refine lv_istore_n (lv' := [(3, .int i1), (0, .ref (xa E r0)), (1, .ref (xa E r1)), (2, .int x2)]) hx hb d5 rfl hl (by decide) rfl (fun ls hl => ?_)
  refine lv_aload_n hx hb d6 rfl (lv_at hl 2 rfl) ?_
  refine lv_iload_n hx hb d7 rfl (lv_at hl 3 rfl) ?_
  obtain ⟨hs9, hf⟩ := x_if hf
  refine x_thenI C0 hxt hS hf (fun z0 e0 => x_runV C0 hR hS me_X0_firstTrack wi_X0_firstTrack wl_X0_firstTrack ml_X1_100 hs9 xcl_0 (As := [.int x2]) (ct_X0_firstTrack E l C0.2.2.2.2.2.2.2.1 _ r1 x2) rfl rfl hl.1 (Nat.le_of_ble_eq_true rfl) d8 ⟨(Nat.le_of_ble_eq_true rfl), (Nat.le_of_ble_eq_true rfl)⟩ ⟨(Nat.le_of_ble_eq_true rfl), (Nat.le_of_ble_eq_true rfl)⟩ e0) (Nat.le_of_ble_eq_true rfl) (Nat.le_of_ble_eq_true rfl) (fun h9 i3 H locs hR hS hf => ?_)
  refine lv_istore (lv' := [(4, .int i3), (3, .int i1), (0, .ref (xa E r0)), (1, .ref (xa E r1)), (2, .int x2)]) hx hb d11 hl (by decide) rfl (fun ls hl => ?_)
  exact s_X1_spaceOf_L13 C0 hxt FU _ _ _ _ _ _ _ _ _ hR hS (lv_sub hl [2, 3, 4, 1, 0] rfl) hf
def f_X1_processGroup_b163 (k37 : HP → Nat → Nat → Int32 → Int32 → Int32 → Nat → Int32 → Option XR) (h : HP) (r0 : Nat) (r1 : Nat) (x2 : Int32) (x3 : Int32) (x4 : Int32) (r5 : Nat) (x6 : Int32) : Option XR :=
  k37 h r0 r1 x2 x3 x4 r5 (x6 + 1)
def f_X1_processGroup_b150 (k37 : HP → Nat → Nat → Int32 → Int32 → Int32 → Nat → Int32 → Option XR) (h : HP) (r0 : Nat) (r1 : Nat) (x2 : Int32) (x3 : Int32) (x4 : Int32) (r5 : Nat) (x6 : Int32) : Option XR :=
  x_gR h r0 1 0 fun a1 =>
  x_gR h r0 1 1 fun a2 =>
  x_rc h a1 2 <| x_cV (f_X2_raise h a1 a2 r5) fun h3 =>
  f_X1_processGroup_b163 k37 h3 r0 r1 x2 x3 x4 r5 x6
def f_X1_processGroup_b66 (k37 : HP → Nat → Nat → Int32 → Int32 → Int32 → Nat → Int32 → Option XR) (h : HP) (t0 : Int32) (t1 : Int32) (t2 : Nat) (r0 : Nat) (r1 : Nat) (x2 : Int32) (x3 : Int32) (x4 : Int32) (r5 : Nat) (x6 : Int32) : Option XR :=
  x_rc h t2 0 <| x_cI (f_X0_itemField h t2 t1 t0) fun h2 i1 =>
  x_gR h2 r0 1 2 fun a3 =>
  x_aI h2 100 a3 x6 fun i4 =>
  if i4 = x2 then
    (
      x_rc h2 r0 1 <| x_cI (f_X1_spaceOf h2 r0 r1 x6) fun h6 i5 =>
      if i1 ≤ i5 then
        (
          f_X1_processGroup_b163 k37 h6 r0 r1 x2 x3 x4 r5 x6
        )
      else
        (
          x_rc h6 r0 1 <| x_cV (f_X1_admitTracks h6 r0 r1 x6 x3 x4) fun h7 =>
          x_gR h7 r0 1 0 fun a8 =>
          x_rc h7 r0 1 <| x_cI (f_X1_spaceOf h7 r0 r1 x6) fun h10 i9 =>
          x_rc h10 a8 2 <| x_cI (f_X2_pour h10 a8 (i1 - i9)) fun h12 i11 =>
          if x3 = 1 then
            (
              if i11 ≤ 0 then
                (
                  f_X1_processGroup_b150 k37 h12 r0 r1 x2 x3 x4 r5 x6
                )
              else
                (
                  x_gR h12 r0 1 0 fun a13 =>
                  x_rc h12 a13 2 <| x_cV (f_X2_dropBounds h12 a13) fun h14 =>
                  x_gR h14 r0 1 0 fun a15 =>
                  x_rc h14 a15 2 <| x_cI (f_X2_pour h14 a15 i11) fun h17 i16 =>
                  f_X1_processGroup_b150 k37 h17 r0 r1 x2 x3 x4 r5 x6
                )
            )
          else
            (
              f_X1_processGroup_b150 k37 h12 r0 r1 x2 x3 x4 r5 x6
            )
        )
    )
  else
    (
      f_X1_processGroup_b163 k37 h2 r0 r1 x2 x3 x4 r5 x6
    )
def f_X1_processGroup_b169  (h : HP)  : Option XR :=
  some (h, xv)
def f_X1_processGroup_b37 (k37 : HP → Nat → Nat → Int32 → Int32 → Int32 → Nat → Int32 → Option XR) (h : HP) (r0 : Nat) (r1 : Nat) (x2 : Int32) (x3 : Int32) (x4 : Int32) (r5 : Nat) (x6 : Int32) : Option XR :=
  x_rc h r1 0 <| x_cI (f_X0_itemCount h r1) fun h2 i1 =>
  if i1 ≤ x6 then
    (
      f_X1_processGroup_b169 h2
    )
  else
    (
      if 12 ≤ x6 then
        (
          f_X1_processGroup_b169 h2
        )
      else
        (
          if x4 = 0 then
            (
              f_X1_processGroup_b66 k37 h2 0 x6 r1 r0 r1 x2 x3 x4 r5 x6
            )
          else
            (
              f_X1_processGroup_b66 k37 h2 1 x6 r1 r0 r1 x2 x3 x4 r5 x6
            )
        )
    )
def f_X1_processGroup_L37  : Nat → HP → Nat → Nat → Int32 → Int32 → Int32 → Nat → Int32 → Option XR
  | 0 => fun _ _ _ _ _ _ _ _ => none
  | n + 1 => f_X1_processGroup_b37 (f_X1_processGroup_L37 n)
def f_X1_processGroup_b16  (h : HP) (t0 : Nat) (r0 : Nat) (r1 : Nat) (x2 : Int32) (x3 : Int32) (x4 : Int32) : Option XR :=
  x_gR h r0 1 1 fun a1 =>
  x_gR h r0 1 1 fun a2 =>
  x_ln h a2 fun i3 =>
  x_cp h t0 0 a1 0 i3 fun h4 =>
  f_X1_processGroup_L37 FU h4 r0 r1 x2 x3 x4 t0 0
def f_X1_processGroup (h : HP) (r0 : Nat) (r1 : Nat) (x2 : Int32) (x3 : Int32) (x4 : Int32) : Option XR :=
  if x3 = 1 then
    (
      x_gR h r1 0 4 fun a2 =>
      f_X1_processGroup_b16 h a2 r0 r1 x2 x3 x4
    )
  else
    (
      x_gR h r1 0 5 fun a1 =>
      f_X1_processGroup_b16 h a1 r0 r1 x2 x3 x4
    )
set_option maxRecDepth 100000 in
set_option maxHeartbeats 4000000 in
theorem s_X1_processGroup_b163 {p : Program} {l : Launch} {e : Env} {s : State} {m : MethodId} {args : Array Value} {below : List Frame} {meth : Method} {c : Code} {E : XE} {z : XR} (C0 : x_C E p l s m meth c args cX1_processGroup 9 "GridEngine$Contributions" "processGroup" none) (hxt : ∀ x ∈ c.exceptionTable.toList, False) {k37 : HP → Nat → Nat → Int32 → Int32 → Int32 → Nat → Int32 → Option XR} (hk37 : ∀ (h : HP) (r0 : Nat) (r1 : Nat) (x2 : Int32) (x3 : Int32) (x4 : Int32) (r5 : Nat) (x6 : Int32) (H : Heap) (locs : List Loc) (ls : Array Slot), x_Rep E h H → va_S (x_A E) s.heap H locs → lv_has ls 9 [(0, .ref (xa E r0)), (1, .ref (xa E r1)), (2, .int x2), (3, .int x3), (4, .int x4), (5, .ref (xa E r5)), (6, .int x6)] → k37 h r0 r1 x2 x3 x4 r5 x6 = some z → W p l e ({ frames := 12, cells := 0, slots := 0, locals := 230 } : Room) s m args below meth c H locs 0 0 (x_Q E below args s 0 0 z) (F0 m 37 ls [])) : ∀ (h : HP) (r0 : Nat) (r1 : Nat) (x2 : Int32) (x3 : Int32) (x4 : Int32) (r5 : Nat) (x6 : Int32) (H : Heap) (locs : List Loc) (ls : Array Slot), x_Rep E h H → va_S (x_A E) s.heap H locs → lv_has ls 9 [(0, .ref (xa E r0)), (1, .ref (xa E r1)), (2, .int x2), (3, .int x3), (4, .int x4), (5, .ref (xa E r5)), (6, .int x6)] → f_X1_processGroup_b163 k37 h r0 r1 x2 x3 x4 r5 x6 = some z → W p l e ({ frames := 12, cells := 0, slots := 0, locals := 230 } : Room) s m args below meth c H locs 0 0 (x_Q E below args s 0 0 z) (F0 m 163 ls []) := by
  intro h r0 r1 x2 x3 x4 r5 x6 H locs ls hR hS hl hf
  obtain ⟨hx, hb, -⟩ := id C0
  unfold f_X1_processGroup_b163 at hf
  have h0 : x_by cX1_processGroup 163 [132, 6, 1, 167, 255, 127] := by unfold x_by; decide +kernel
  obtain ⟨d163, h0⟩ := de_iinc (1) (by decide) h0
  obtain ⟨d166, h0⟩ := de_goto (-129) (by decide) h0
  refine lv_iinc (v := (x6 + 1)) (lv' := [(6, .int (x6 + 1)), (0, .ref (xa E r0)), (1, .ref (xa E r1)), (2, .int x2), (3, .int x3), (4, .int x4), (5, .ref (xa E r5))]) hx hb d163 hl (k := 6) rfl rfl (by decide) rfl (fun ls hl => ?_)
  refine lv_goto (tgt := 37) hx hb d166 (by decide) ?_
  exact hk37 _ _ _ _ _ _ _ _ _ _ _ hR hS (lv_sub hl [1, 2, 3, 4, 5, 6, 0] rfl) hf
set_option maxRecDepth 100000 in
set_option maxHeartbeats 4000000 in
theorem s_X1_processGroup_b150 {p : Program} {l : Launch} {e : Env} {s : State} {m : MethodId} {args : Array Value} {below : List Frame} {meth : Method} {c : Code} {E : XE} {z : XR} (C0 : x_C E p l s m meth c args cX1_processGroup 9 "GridEngine$Contributions" "processGroup" none) (hxt : ∀ x ∈ c.exceptionTable.toList, False) {k37 : HP → Nat → Nat → Int32 → Int32 → Int32 → Nat → Int32 → Option XR} (hk37 : ∀ (h : HP) (r0 : Nat) (r1 : Nat) (x2 : Int32) (x3 : Int32) (x4 : Int32) (r5 : Nat) (x6 : Int32) (H : Heap) (locs : List Loc) (ls : Array Slot), x_Rep E h H → va_S (x_A E) s.heap H locs → lv_has ls 9 [(0, .ref (xa E r0)), (1, .ref (xa E r1)), (2, .int x2), (3, .int x3), (4, .int x4), (5, .ref (xa E r5)), (6, .int x6)] → k37 h r0 r1 x2 x3 x4 r5 x6 = some z → W p l e ({ frames := 12, cells := 0, slots := 0, locals := 230 } : Room) s m args below meth c H locs 0 0 (x_Q E below args s 0 0 z) (F0 m 37 ls [])) : ∀ (h : HP) (r0 : Nat) (r1 : Nat) (x2 : Int32) (x3 : Int32) (x4 : Int32) (r5 : Nat) (x6 : Int32) (H : Heap) (locs : List Loc) (ls : Array Slot), x_Rep E h H → va_S (x_A E) s.heap H locs → lv_has ls 9 [(0, .ref (xa E r0)), (1, .ref (xa E r1)), (2, .int x2), (3, .int x3), (4, .int x4), (5, .ref (xa E r5)), (6, .int x6)] → f_X1_processGroup_b150 k37 h r0 r1 x2 x3 x4 r5 x6 = some z → W p l e ({ frames := 12, cells := 0, slots := 0, locals := 230 } : Room) s m args below meth c H locs 0 0 (x_Q E below args s 0 0 z) (F0 m 150 ls []) := by
  intro h r0 r1 x2 x3 x4 r5 x6 H locs ls hR hS hl hf
  obtain ⟨hx, hb, -⟩ := id C0
  unfold f_X1_processGroup_b150 at hf
  have h0 : x_by cX1_processGroup 150 [42, 180, 0, 18, 42, 180, 0, 9, 25, 5, 182, 0, 93] := by unfold x_by; decide +kernel
  obtain ⟨d150, h0⟩ := de_aload_n0 h0
  obtain ⟨d151, h0⟩ := de_getfield 18 (by decide) h0
  obtain ⟨d154, h0⟩ := de_aload_n0 h0
  obtain ⟨d155, h0⟩ := de_getfield 9 (by decide) h0
  obtain ⟨d158, h0⟩ := de_aload h0
  obtain ⟨d160, h0⟩ := de_invokevirtual 93 (by decide) h0
  refine lv_aload_n hx hb d150 rfl (lv_at hl 0 rfl) ?_
  refine x_getR C0 hR hf xcl_1 (Nat.le_of_ble_eq_true rfl) rfl fl_X1_18 d151 (fun a1 hf => ?_)
  refine lv_aload_n hx hb d154 rfl (lv_at hl 0 rfl) ?_
  refine x_getR C0 hR hf xcl_1 (Nat.le_of_ble_eq_true rfl) rfl fl_X1_9 d155 (fun a2 hf => ?_)
  refine lv_aload hx hb d158 (lv_at hl 5 rfl) ?_
  obtain ⟨hs9, hf⟩ := x_if hf
  refine x_thenV C0 hxt hS hf (fun z0 e0 => x_runV C0 hR hS me_X2_raise wi_X2_raise wl_X2_raise ml_X1_93 hs9 xcl_2 (As := [.ref (xa E a2), .ref (xa E r5)]) (ct_X2_raise E l C0.2.2.2.2.2.2.2.1 _ a1 a2 r5) rfl rfl hl.1 (Nat.le_of_ble_eq_true rfl) d160 ⟨(Nat.le_of_ble_eq_true rfl), (Nat.le_of_ble_eq_true rfl)⟩ ⟨(Nat.le_of_ble_eq_true rfl), (Nat.le_of_ble_eq_true rfl)⟩ e0) (Nat.le_of_ble_eq_true rfl) (Nat.le_of_ble_eq_true rfl) (fun h9 H locs hR hS hf => ?_)
  exact s_X1_processGroup_b163 C0 hxt hk37 _ _ _ _ _ _ _ _ _ _ _ hR hS (lv_sub hl [0, 1, 2, 3, 4, 5, 6] rfl) hf
set_option maxRecDepth 100000 in
set_option maxHeartbeats 4000000 in
theorem s_X1_processGroup_b66 {p : Program} {l : Launch} {e : Env} {s : State} {m : MethodId} {args : Array Value} {below : List Frame} {meth : Method} {c : Code} {E : XE} {z : XR} (C0 : x_C E p l s m meth c args cX1_processGroup 9 "GridEngine$Contributions" "processGroup" none) (hxt : ∀ x ∈ c.exceptionTable.toList, False) {k37 : HP → Nat → Nat → Int32 → Int32 → Int32 → Nat → Int32 → Option XR} (hk37 : ∀ (h : HP) (r0 : Nat) (r1 : Nat) (x2 : Int32) (x3 : Int32) (x4 : Int32) (r5 : Nat) (x6 : Int32) (H : Heap) (locs : List Loc) (ls : Array Slot), x_Rep E h H → va_S (x_A E) s.heap H locs → lv_has ls 9 [(0, .ref (xa E r0)), (1, .ref (xa E r1)), (2, .int x2), (3, .int x3), (4, .int x4), (5, .ref (xa E r5)), (6, .int x6)] → k37 h r0 r1 x2 x3 x4 r5 x6 = some z → W p l e ({ frames := 12, cells := 0, slots := 0, locals := 230 } : Room) s m args below meth c H locs 0 0 (x_Q E below args s 0 0 z) (F0 m 37 ls [])) : ∀ (h : HP) (t0 : Int32) (t1 : Int32) (t2 : Nat) (r0 : Nat) (r1 : Nat) (x2 : Int32) (x3 : Int32) (x4 : Int32) (r5 : Nat) (x6 : Int32) (H : Heap) (locs : List Loc) (ls : Array Slot), x_Rep E h H → va_S (x_A E) s.heap H locs → lv_has ls 9 [(0, .ref (xa E r0)), (1, .ref (xa E r1)), (2, .int x2), (3, .int x3), (4, .int x4), (5, .ref (xa E r5)), (6, .int x6)] → f_X1_processGroup_b66 k37 h t0 t1 t2 r0 r1 x2 x3 x4 r5 x6 = some z → W p l e ({ frames := 12, cells := 0, slots := 0, locals := 230 } : Room) s m args below meth c H locs 0 0 (x_Q E below args s 0 0 z) (F0 m 66 ls [.int t0, .int t1, .ref (xa E t2)]) := by
  intro h t0 t1 t2 r0 r1 x2 x3 x4 r5 x6 H locs ls hR hS hl hf
  obtain ⟨hx, hb, -⟩ := id C0
  unfold f_X1_processGroup_b66 at hf
  have h0 : x_by cX1_processGroup 66 [182, 0, 74, 54, 7, 42, 180, 0, 15, 21, 6, 46, 28, 160, 0, 84] := by unfold x_by; decide +kernel
  obtain ⟨d66, h0⟩ := de_invokevirtual 74 (by decide) h0
  obtain ⟨d69, h0⟩ := de_istore h0
  obtain ⟨d71, h0⟩ := de_aload_n0 h0
  obtain ⟨d72, h0⟩ := de_getfield 15 (by decide) h0
  obtain ⟨d75, h0⟩ := de_iload h0
  obtain ⟨d77, h0⟩ := de_iaload h0
  obtain ⟨d78, h0⟩ := de_iload_n2 h0
  obtain ⟨d79, h0⟩ := de_icmp_ne (84) (by decide) h0
  obtain ⟨hs9, hf⟩ := x_if hf
  refine x_thenI C0 hxt hS hf (fun z0 e0 => x_runV C0 hR hS me_X0_itemField wi_X0_itemField wl_X0_itemField ml_X1_74 hs9 xcl_0 (As := [.int t1, .int t0]) (ct_X0_itemField E l C0.2.2.2.2.2.2.2.1 _ t2 t1 t0) rfl rfl hl.1 (Nat.le_of_ble_eq_true rfl) d66 ⟨(Nat.le_of_ble_eq_true rfl), (Nat.le_of_ble_eq_true rfl)⟩ ⟨(Nat.le_of_ble_eq_true rfl), (Nat.le_of_ble_eq_true rfl)⟩ e0) (Nat.le_of_ble_eq_true rfl) (Nat.le_of_ble_eq_true rfl) (fun h9 i1 H locs hR hS hf => ?_)
  refine lv_istore (lv' := [(7, .int i1), (0, .ref (xa E r0)), (1, .ref (xa E r1)), (2, .int x2), (3, .int x3), (4, .int x4), (5, .ref (xa E r5)), (6, .int x6)]) hx hb d69 hl (by decide) rfl (fun ls hl => ?_)
  refine lv_aload_n hx hb d71 rfl (lv_at hl 1 rfl) ?_
  refine x_getR C0 hR hf xcl_1 (Nat.le_of_ble_eq_true rfl) rfl fl_X1_15 d72 (fun a3 hf => ?_)
  refine lv_iload hx hb d75 (lv_at hl 7 rfl) ?_
  refine x_iald C0 hR hf d77 (fun i4 hf => ?_)
  refine lv_iload_n hx hb d78 rfl (lv_at hl 3 rfl) ?_
  refine lv_icmp_ne (tgt := 163) hx hb d79 (by decide) (fun q => ?_) (fun q => ?_)
  · have hf := x_neg q hf
    exact s_X1_processGroup_b163 C0 hxt hk37 _ _ _ _ _ _ _ _ _ _ _ hR hS (lv_sub hl [1, 2, 3, 4, 5, 6, 7] rfl) hf
  · have hf := x_pos q hf
    have h0 : x_by cX1_processGroup 82 [21, 7, 42, 43, 21, 6, 182, 0, 77, 164, 0, 72] := by unfold x_by; decide +kernel
    obtain ⟨d82, h0⟩ := de_iload h0
    obtain ⟨d84, h0⟩ := de_aload_n0 h0
    obtain ⟨d85, h0⟩ := de_aload_n1 h0
    obtain ⟨d86, h0⟩ := de_iload h0
    obtain ⟨d88, h0⟩ := de_invokevirtual 77 (by decide) h0
    obtain ⟨d91, h0⟩ := de_icmp_le (72) (by decide) h0
    refine lv_iload hx hb d82 (lv_at hl 0 rfl) ?_
    refine lv_aload_n hx hb d84 rfl (lv_at hl 1 rfl) ?_
    refine lv_aload_n hx hb d85 rfl (lv_at hl 2 rfl) ?_
    refine lv_iload hx hb d86 (lv_at hl 7 rfl) ?_
    obtain ⟨hs9, hf⟩ := x_if hf
    refine x_thenI C0 hxt hS hf (fun z0 e0 => x_runV C0 hR hS me_X1_spaceOf wi_X1_spaceOf wl_X1_spaceOf ml_X1_77 hs9 xcl_1 (As := [.ref (xa E r1), .int x6]) (ct_X1_spaceOf E l C0.2.2.2.2.2.2.2.1 _ r0 r1 x6) rfl rfl hl.1 (Nat.le_of_ble_eq_true rfl) d88 ⟨(Nat.le_of_ble_eq_true rfl), (Nat.le_of_ble_eq_true rfl)⟩ ⟨(Nat.le_of_ble_eq_true rfl), (Nat.le_of_ble_eq_true rfl)⟩ e0) (Nat.le_of_ble_eq_true rfl) (Nat.le_of_ble_eq_true rfl) (fun h9 i5 H locs hR hS hf => ?_)
    refine lv_icmp_le (tgt := 163) hx hb d91 (by decide) (fun q => ?_) (fun q => ?_)
    · have hf := x_pos q hf
      exact s_X1_processGroup_b163 C0 hxt hk37 _ _ _ _ _ _ _ _ _ _ _ hR hS (lv_sub hl [1, 2, 3, 4, 5, 6, 7] rfl) hf
    · have hf := x_neg q hf
      have h0 : x_by cX1_processGroup 94 [42, 43, 21, 6, 29, 21, 4, 182, 0, 81, 42, 180, 0, 18, 21, 7, 42, 43, 21, 6, 182, 0, 77, 100, 182, 0, 84, 54, 8, 29, 4, 160, 0, 25] := by unfold x_by; decide +kernel
      obtain ⟨d94, h0⟩ := de_aload_n0 h0
      obtain ⟨d95, h0⟩ := de_aload_n1 h0
      obtain ⟨d96, h0⟩ := de_iload h0
      obtain ⟨d98, h0⟩ := de_iload_n3 h0
      obtain ⟨d99, h0⟩ := de_iload h0
      obtain ⟨d101, h0⟩ := de_invokevirtual 81 (by decide) h0
      obtain ⟨d104, h0⟩ := de_aload_n0 h0
      obtain ⟨d105, h0⟩ := de_getfield 18 (by decide) h0
      obtain ⟨d108, h0⟩ := de_iload h0
      obtain ⟨d110, h0⟩ := de_aload_n0 h0
      obtain ⟨d111, h0⟩ := de_aload_n1 h0
      obtain ⟨d112, h0⟩ := de_iload h0
      obtain ⟨d114, h0⟩ := de_invokevirtual 77 (by decide) h0
      obtain ⟨d117, h0⟩ := de_isub h0
      obtain ⟨d118, h0⟩ := de_invokevirtual 84 (by decide) h0
      obtain ⟨d121, h0⟩ := de_istore h0
      obtain ⟨d123, h0⟩ := de_iload_n3 h0
      obtain ⟨d124, h0⟩ := de_iconst_1 h0
      obtain ⟨d125, h0⟩ := de_icmp_ne (25) (by decide) h0
      refine lv_aload_n hx hb d94 rfl (lv_at hl 1 rfl) ?_
      refine lv_aload_n hx hb d95 rfl (lv_at hl 2 rfl) ?_
      refine lv_iload hx hb d96 (lv_at hl 7 rfl) ?_
      refine lv_iload_n hx hb d98 rfl (lv_at hl 4 rfl) ?_
      refine lv_iload hx hb d99 (lv_at hl 5 rfl) ?_
      obtain ⟨hs9, hf⟩ := x_if hf
      refine x_thenV C0 hxt hS hf (fun z0 e0 => x_runV C0 hR hS me_X1_admitTracks wi_X1_admitTracks wl_X1_admitTracks ml_X1_81 hs9 xcl_1 (As := [.ref (xa E r1), .int x6, .int x3, .int x4]) (ct_X1_admitTracks E l C0.2.2.2.2.2.2.2.1 _ r0 r1 x6 x3 x4) rfl rfl hl.1 (Nat.le_of_ble_eq_true rfl) d101 ⟨(Nat.le_of_ble_eq_true rfl), (Nat.le_of_ble_eq_true rfl)⟩ ⟨(Nat.le_of_ble_eq_true rfl), (Nat.le_of_ble_eq_true rfl)⟩ e0) (Nat.le_of_ble_eq_true rfl) (Nat.le_of_ble_eq_true rfl) (fun h9 H locs hR hS hf => ?_)
      refine lv_aload_n hx hb d104 rfl (lv_at hl 1 rfl) ?_
      refine x_getR C0 hR hf xcl_1 (Nat.le_of_ble_eq_true rfl) rfl fl_X1_18 d105 (fun a8 hf => ?_)
      refine lv_iload hx hb d108 (lv_at hl 0 rfl) ?_
      refine lv_aload_n hx hb d110 rfl (lv_at hl 1 rfl) ?_
      refine lv_aload_n hx hb d111 rfl (lv_at hl 2 rfl) ?_
      refine lv_iload hx hb d112 (lv_at hl 7 rfl) ?_
      obtain ⟨hs9, hf⟩ := x_if hf
      refine x_thenI C0 hxt hS hf (fun z0 e0 => x_runV C0 hR hS me_X1_spaceOf wi_X1_spaceOf wl_X1_spaceOf ml_X1_77 hs9 xcl_1 (As := [.ref (xa E r1), .int x6]) (ct_X1_spaceOf E l C0.2.2.2.2.2.2.2.1 _ r0 r1 x6) rfl rfl hl.1 (Nat.le_of_ble_eq_true rfl) d114 ⟨(Nat.le_of_ble_eq_true rfl), (Nat.le_of_ble_eq_true rfl)⟩ ⟨(Nat.le_of_ble_eq_true rfl), (Nat.le_of_ble_eq_true rfl)⟩ e0) (Nat.le_of_ble_eq_true rfl) (Nat.le_of_ble_eq_true rfl) (fun h9 i9 H locs hR hS hf => ?_)
      refine lv_isub hx hb d117 ?_
      obtain ⟨hs9, hf⟩ := x_if hf
      refine x_thenI C0 hxt hS hf (fun z0 e0 => x_runV C0 hR hS me_X2_pour wi_X2_pour wl_X2_pour ml_X1_84 hs9 xcl_2 (As := [.int (i1 - i9)]) (ct_X2_pour E l C0.2.2.2.2.2.2.2.1 _ a8 (i1 - i9)) rfl rfl hl.1 (Nat.le_of_ble_eq_true rfl) d118 ⟨(Nat.le_of_ble_eq_true rfl), (Nat.le_of_ble_eq_true rfl)⟩ ⟨(Nat.le_of_ble_eq_true rfl), (Nat.le_of_ble_eq_true rfl)⟩ e0) (Nat.le_of_ble_eq_true rfl) (Nat.le_of_ble_eq_true rfl) (fun h9 i11 H locs hR hS hf => ?_)
      refine lv_istore (lv' := [(8, .int i11), (7, .int i1), (0, .ref (xa E r0)), (1, .ref (xa E r1)), (2, .int x2), (3, .int x3), (4, .int x4), (5, .ref (xa E r5)), (6, .int x6)]) hx hb d121 hl (by decide) rfl (fun ls hl => ?_)
      refine lv_iload_n hx hb d123 rfl (lv_at hl 5 rfl) ?_
      refine lv_iconst (v := 1) hx hb d124 (by decide) ?_
      refine lv_icmp_ne (tgt := 150) hx hb d125 (by decide) (fun q => ?_) (fun q => ?_)
      · have hf := x_neg q hf
        exact s_X1_processGroup_b150 C0 hxt hk37 _ _ _ _ _ _ _ _ _ _ _ hR hS (lv_sub hl [2, 3, 4, 5, 6, 7, 8] rfl) hf
      · have hf := x_pos q hf
        have h0 : x_by cX1_processGroup 128 [21, 8, 158, 0, 20] := by unfold x_by; decide +kernel
        obtain ⟨d128, h0⟩ := de_iload h0
        obtain ⟨d130, h0⟩ := de_if_le (20) (by decide) h0
        refine lv_iload hx hb d128 (lv_at hl 0 rfl) ?_
        refine lv_if_le (tgt := 150) hx hb d130 (by decide) (fun q => ?_) (fun q => ?_)
        · have hf := x_pos q hf
          exact s_X1_processGroup_b150 C0 hxt hk37 _ _ _ _ _ _ _ _ _ _ _ hR hS (lv_sub hl [2, 3, 4, 5, 6, 7, 8] rfl) hf
        · have hf := x_neg q hf
          have h0 : x_by cX1_processGroup 133 [42, 180, 0, 18, 182, 0, 90, 42, 180, 0, 18, 21, 8, 182, 0, 84, 87] := by unfold x_by; decide +kernel
          obtain ⟨d133, h0⟩ := de_aload_n0 h0
          obtain ⟨d134, h0⟩ := de_getfield 18 (by decide) h0
          obtain ⟨d137, h0⟩ := de_invokevirtual 90 (by decide) h0
          obtain ⟨d140, h0⟩ := de_aload_n0 h0
          obtain ⟨d141, h0⟩ := de_getfield 18 (by decide) h0
          obtain ⟨d144, h0⟩ := de_iload h0
          obtain ⟨d146, h0⟩ := de_invokevirtual 84 (by decide) h0
          obtain ⟨d149, h0⟩ := de_pop h0
          refine lv_aload_n hx hb d133 rfl (lv_at hl 2 rfl) ?_
          refine x_getR C0 hR hf xcl_1 (Nat.le_of_ble_eq_true rfl) rfl fl_X1_18 d134 (fun a13 hf => ?_)
          obtain ⟨hs9, hf⟩ := x_if hf
          refine x_thenV C0 hxt hS hf (fun z0 e0 => x_runV C0 hR hS me_X2_dropBounds wi_X2_dropBounds wl_X2_dropBounds ml_X1_90 hs9 xcl_2 (As := []) (ct_X2_dropBounds E l C0.2.2.2.2.2.2.2.1 _ a13) rfl rfl hl.1 (Nat.le_of_ble_eq_true rfl) d137 ⟨(Nat.le_of_ble_eq_true rfl), (Nat.le_of_ble_eq_true rfl)⟩ ⟨(Nat.le_of_ble_eq_true rfl), (Nat.le_of_ble_eq_true rfl)⟩ e0) (Nat.le_of_ble_eq_true rfl) (Nat.le_of_ble_eq_true rfl) (fun h9 H locs hR hS hf => ?_)
          refine lv_aload_n hx hb d140 rfl (lv_at hl 2 rfl) ?_
          refine x_getR C0 hR hf xcl_1 (Nat.le_of_ble_eq_true rfl) rfl fl_X1_18 d141 (fun a15 hf => ?_)
          refine lv_iload hx hb d144 (lv_at hl 0 rfl) ?_
          obtain ⟨hs9, hf⟩ := x_if hf
          refine x_thenI C0 hxt hS hf (fun z0 e0 => x_runV C0 hR hS me_X2_pour wi_X2_pour wl_X2_pour ml_X1_84 hs9 xcl_2 (As := [.int i11]) (ct_X2_pour E l C0.2.2.2.2.2.2.2.1 _ a15 i11) rfl rfl hl.1 (Nat.le_of_ble_eq_true rfl) d146 ⟨(Nat.le_of_ble_eq_true rfl), (Nat.le_of_ble_eq_true rfl)⟩ ⟨(Nat.le_of_ble_eq_true rfl), (Nat.le_of_ble_eq_true rfl)⟩ e0) (Nat.le_of_ble_eq_true rfl) (Nat.le_of_ble_eq_true rfl) (fun h9 i16 H locs hR hS hf => ?_)
          refine lv_pop hx hb d149 rfl ?_
          exact s_X1_processGroup_b150 C0 hxt hk37 _ _ _ _ _ _ _ _ _ _ _ hR hS (lv_sub hl [2, 3, 4, 5, 6, 7, 8] rfl) hf
set_option maxRecDepth 100000 in
set_option maxHeartbeats 4000000 in
theorem s_X1_processGroup_b169 {p : Program} {l : Launch} {e : Env} {s : State} {m : MethodId} {args : Array Value} {below : List Frame} {meth : Method} {c : Code} {E : XE} {z : XR} (C0 : x_C E p l s m meth c args cX1_processGroup 9 "GridEngine$Contributions" "processGroup" none) (hxt : ∀ x ∈ c.exceptionTable.toList, False)  : ∀ (h : HP)  (H : Heap) (locs : List Loc) (ls : Array Slot), x_Rep E h H → va_S (x_A E) s.heap H locs → lv_has ls 9 [] → f_X1_processGroup_b169 h  = some z → W p l e ({ frames := 12, cells := 0, slots := 0, locals := 230 } : Room) s m args below meth c H locs 0 0 (x_Q E below args s 0 0 z) (F0 m 169 ls []) := by
  intro h  H locs ls hR hS hl hf
  obtain ⟨hx, hb, -⟩ := id C0
  unfold f_X1_processGroup_b169 at hf
  have h0 : x_by cX1_processGroup 169 [177] := by unfold x_by; decide +kernel
  obtain ⟨d169, h0⟩ := de_return h0
  exact x_vret C0 hR hS hf (Nat.le_of_ble_eq_true rfl) (Nat.le_of_ble_eq_true rfl) d169
set_option maxRecDepth 100000 in
set_option maxHeartbeats 4000000 in
theorem s_X1_processGroup_b37 {p : Program} {l : Launch} {e : Env} {s : State} {m : MethodId} {args : Array Value} {below : List Frame} {meth : Method} {c : Code} {E : XE} {z : XR} (C0 : x_C E p l s m meth c args cX1_processGroup 9 "GridEngine$Contributions" "processGroup" none) (hxt : ∀ x ∈ c.exceptionTable.toList, False) {k37 : HP → Nat → Nat → Int32 → Int32 → Int32 → Nat → Int32 → Option XR} (hk37 : ∀ (h : HP) (r0 : Nat) (r1 : Nat) (x2 : Int32) (x3 : Int32) (x4 : Int32) (r5 : Nat) (x6 : Int32) (H : Heap) (locs : List Loc) (ls : Array Slot), x_Rep E h H → va_S (x_A E) s.heap H locs → lv_has ls 9 [(0, .ref (xa E r0)), (1, .ref (xa E r1)), (2, .int x2), (3, .int x3), (4, .int x4), (5, .ref (xa E r5)), (6, .int x6)] → k37 h r0 r1 x2 x3 x4 r5 x6 = some z → W p l e ({ frames := 12, cells := 0, slots := 0, locals := 230 } : Room) s m args below meth c H locs 0 0 (x_Q E below args s 0 0 z) (F0 m 37 ls [])) : ∀ (h : HP) (r0 : Nat) (r1 : Nat) (x2 : Int32) (x3 : Int32) (x4 : Int32) (r5 : Nat) (x6 : Int32) (H : Heap) (locs : List Loc) (ls : Array Slot), x_Rep E h H → va_S (x_A E) s.heap H locs → lv_has ls 9 [(0, .ref (xa E r0)), (1, .ref (xa E r1)), (2, .int x2), (3, .int x3), (4, .int x4), (5, .ref (xa E r5)), (6, .int x6)] → f_X1_processGroup_b37 k37 h r0 r1 x2 x3 x4 r5 x6 = some z → W p l e ({ frames := 12, cells := 0, slots := 0, locals := 230 } : Room) s m args below meth c H locs 0 0 (x_Q E below args s 0 0 z) (F0 m 37 ls []) := by
  intro h r0 r1 x2 x3 x4 r5 x6 H locs ls hR hS hl hf
  obtain ⟨hx, hb, -⟩ := id C0
  unfold f_X1_processGroup_b37 at hf
  have h0 : x_by cX1_processGroup 37 [21, 6, 43, 182, 0, 67, 162, 0, 126] := by unfold x_by; decide +kernel
  obtain ⟨d37, h0⟩ := de_iload h0
  obtain ⟨d39, h0⟩ := de_aload_n1 h0
  obtain ⟨d40, h0⟩ := de_invokevirtual 67 (by decide) h0
  obtain ⟨d43, h0⟩ := de_icmp_ge (126) (by decide) h0
  refine lv_iload hx hb d37 (lv_at hl 6 rfl) ?_
  refine lv_aload_n hx hb d39 rfl (lv_at hl 1 rfl) ?_
  obtain ⟨hs9, hf⟩ := x_if hf
  refine x_thenI C0 hxt hS hf (fun z0 e0 => x_runV C0 hR hS me_X0_itemCount wi_X0_itemCount wl_X0_itemCount ml_X1_67 hs9 xcl_0 (As := []) (ct_X0_itemCount E l C0.2.2.2.2.2.2.2.1 _ r1) rfl rfl hl.1 (Nat.le_of_ble_eq_true rfl) d40 ⟨(Nat.le_of_ble_eq_true rfl), (Nat.le_of_ble_eq_true rfl)⟩ ⟨(Nat.le_of_ble_eq_true rfl), (Nat.le_of_ble_eq_true rfl)⟩ e0) (Nat.le_of_ble_eq_true rfl) (Nat.le_of_ble_eq_true rfl) (fun h9 i1 H locs hR hS hf => ?_)
  refine lv_icmp_ge (tgt := 169) hx hb d43 (by decide) (fun q => ?_) (fun q => ?_)
  · have hf := x_pos q hf
    exact s_X1_processGroup_b169 C0 hxt _ _ _ _ hR hS (lv_sub hl [] rfl) hf
  · have hf := x_neg q hf
    have h0 : x_by cX1_processGroup 46 [21, 6, 16, 12, 162, 0, 119] := by unfold x_by; decide +kernel
    obtain ⟨d46, h0⟩ := de_iload h0
    obtain ⟨d48, h0⟩ := de_bipush (12) (by decide) h0
    obtain ⟨d50, h0⟩ := de_icmp_ge (119) (by decide) h0
    refine lv_iload hx hb d46 (lv_at hl 6 rfl) ?_
    refine lv_bipush (v := 12) hx hb d48 (by decide) ?_
    refine lv_icmp_ge (tgt := 169) hx hb d50 (by decide) (fun q => ?_) (fun q => ?_)
    · have hf := x_pos q hf
      exact s_X1_processGroup_b169 C0 hxt _ _ _ _ hR hS (lv_sub hl [] rfl) hf
    · have hf := x_neg q hf
      have h0 : x_by cX1_processGroup 53 [43, 21, 6, 21, 4, 153, 0, 7] := by unfold x_by; decide +kernel
      obtain ⟨d53, h0⟩ := de_aload_n1 h0
      obtain ⟨d54, h0⟩ := de_iload h0
      obtain ⟨d56, h0⟩ := de_iload h0
      obtain ⟨d58, h0⟩ := de_if_eq (7) (by decide) h0
      refine lv_aload_n hx hb d53 rfl (lv_at hl 1 rfl) ?_
      refine lv_iload hx hb d54 (lv_at hl 6 rfl) ?_
      refine lv_iload hx hb d56 (lv_at hl 4 rfl) ?_
      refine lv_if_eq (tgt := 65) hx hb d58 (by decide) (fun q => ?_) (fun q => ?_)
      · have hf := x_pos q hf
        have h0 : x_by cX1_processGroup 65 [3] := by unfold x_by; decide +kernel
        obtain ⟨d65, h0⟩ := de_iconst_0 h0
        refine lv_iconst (v := 0) hx hb d65 (by decide) ?_
        exact s_X1_processGroup_b66 C0 hxt hk37 _ _ _ _ _ _ _ _ _ _ _ _ _ _ hR hS (lv_sub hl [0, 1, 2, 3, 4, 5, 6] rfl) hf
      · have hf := x_neg q hf
        have h0 : x_by cX1_processGroup 61 [4, 167, 0, 4] := by unfold x_by; decide +kernel
        obtain ⟨d61, h0⟩ := de_iconst_1 h0
        obtain ⟨d62, h0⟩ := de_goto (4) (by decide) h0
        refine lv_iconst (v := 1) hx hb d61 (by decide) ?_
        refine lv_goto (tgt := 66) hx hb d62 (by decide) ?_
        exact s_X1_processGroup_b66 C0 hxt hk37 _ _ _ _ _ _ _ _ _ _ _ _ _ _ hR hS (lv_sub hl [0, 1, 2, 3, 4, 5, 6] rfl) hf
theorem s_X1_processGroup_L37 {p : Program} {l : Launch} {e : Env} {s : State} {m : MethodId} {args : Array Value} {below : List Frame} {meth : Method} {c : Code} {E : XE} {z : XR} (C0 : x_C E p l s m meth c args cX1_processGroup 9 "GridEngine$Contributions" "processGroup" none) (hxt : ∀ x ∈ c.exceptionTable.toList, False)  : ∀ n : Nat, ∀ (h : HP) (r0 : Nat) (r1 : Nat) (x2 : Int32) (x3 : Int32) (x4 : Int32) (r5 : Nat) (x6 : Int32) (H : Heap) (locs : List Loc) (ls : Array Slot), x_Rep E h H → va_S (x_A E) s.heap H locs → lv_has ls 9 [(0, .ref (xa E r0)), (1, .ref (xa E r1)), (2, .int x2), (3, .int x3), (4, .int x4), (5, .ref (xa E r5)), (6, .int x6)] → f_X1_processGroup_L37 n h r0 r1 x2 x3 x4 r5 x6 = some z → W p l e ({ frames := 12, cells := 0, slots := 0, locals := 230 } : Room) s m args below meth c H locs 0 0 (x_Q E below args s 0 0 z) (F0 m 37 ls []) := by
  intro n
  induction n with
  | zero => intro h r0 r1 x2 x3 x4 r5 x6 H locs ls hR hS hl hf; cases (show (none : Option XR) = some z from hf)
  | succ n ih => intro h r0 r1 x2 x3 x4 r5 x6 H locs ls hR hS hl hf; exact s_X1_processGroup_b37 C0 hxt ih h r0 r1 x2 x3 x4 r5 x6 H locs ls hR hS hl (show f_X1_processGroup_b37 (f_X1_processGroup_L37 n) h r0 r1 x2 x3 x4 r5 x6 = some z from hf)
set_option maxRecDepth 100000 in
set_option maxHeartbeats 4000000 in
theorem s_X1_processGroup_b16 {p : Program} {l : Launch} {e : Env} {s : State} {m : MethodId} {args : Array Value} {below : List Frame} {meth : Method} {c : Code} {E : XE} {z : XR} (C0 : x_C E p l s m meth c args cX1_processGroup 9 "GridEngine$Contributions" "processGroup" none) (hxt : ∀ x ∈ c.exceptionTable.toList, False)  : ∀ (h : HP) (t0 : Nat) (r0 : Nat) (r1 : Nat) (x2 : Int32) (x3 : Int32) (x4 : Int32) (H : Heap) (locs : List Loc) (ls : Array Slot), x_Rep E h H → va_S (x_A E) s.heap H locs → lv_has ls 9 [(0, .ref (xa E r0)), (1, .ref (xa E r1)), (2, .int x2), (3, .int x3), (4, .int x4)] → f_X1_processGroup_b16 h t0 r0 r1 x2 x3 x4 = some z → W p l e ({ frames := 12, cells := 0, slots := 0, locals := 230 } : Room) s m args below meth c H locs 0 0 (x_Q E below args s 0 0 z) (F0 m 16 ls [.ref (xa E t0)]) := by
  intro h t0 r0 r1 x2 x3 x4 H locs ls hR hS hl hf
  obtain ⟨hx, hb, -⟩ := id C0
  unfold f_X1_processGroup_b16 at hf
  have h0 : x_by cX1_processGroup 16 [58, 5, 25, 5, 3, 42, 180, 0, 9, 3, 42, 180, 0, 9, 190, 184, 0, 56, 3, 54, 6] := by unfold x_by; decide +kernel
  obtain ⟨d16, h0⟩ := de_astore h0
  obtain ⟨d18, h0⟩ := de_aload h0
  obtain ⟨d20, h0⟩ := de_iconst_0 h0
  obtain ⟨d21, h0⟩ := de_aload_n0 h0
  obtain ⟨d22, h0⟩ := de_getfield 9 (by decide) h0
  obtain ⟨d25, h0⟩ := de_iconst_0 h0
  obtain ⟨d26, h0⟩ := de_aload_n0 h0
  obtain ⟨d27, h0⟩ := de_getfield 9 (by decide) h0
  obtain ⟨d30, h0⟩ := de_arraylength h0
  obtain ⟨d31, h0⟩ := de_invokestatic 56 (by decide) h0
  obtain ⟨d34, h0⟩ := de_iconst_0 h0
  obtain ⟨d35, h0⟩ := de_istore h0
  refine lv_astore (lv' := [(5, .ref (xa E t0)), (0, .ref (xa E r0)), (1, .ref (xa E r1)), (2, .int x2), (3, .int x3), (4, .int x4)]) hx hb d16 hl (by decide) rfl (fun ls hl => ?_)
  refine lv_aload hx hb d18 (lv_at hl 0 rfl) ?_
  refine lv_iconst (v := 0) hx hb d20 (by decide) ?_
  refine lv_aload_n hx hb d21 rfl (lv_at hl 1 rfl) ?_
  refine x_getR C0 hR hf xcl_1 (Nat.le_of_ble_eq_true rfl) rfl fl_X1_9 d22 (fun a1 hf => ?_)
  refine lv_iconst (v := 0) hx hb d25 (by decide) ?_
  refine lv_aload_n hx hb d26 rfl (lv_at hl 1 rfl) ?_
  refine x_getR C0 hR hf xcl_1 (Nat.le_of_ble_eq_true rfl) rfl fl_X1_9 d27 (fun a2 hf => ?_)
  refine x_alen C0 hR hf d30 (fun i3 hf => ?_)
  refine x_acopy C0 hR hS hl.1 hf ml_X1_56 lib_acopy (Nat.le_of_ble_eq_true rfl) (Nat.le_of_ble_eq_true rfl) d31 (fun H locs hR hS hf => ?_)
  refine lv_iconst (v := 0) hx hb d34 (by decide) ?_
  refine lv_istore (lv' := [(6, .int 0), (5, .ref (xa E t0)), (0, .ref (xa E r0)), (1, .ref (xa E r1)), (2, .int x2), (3, .int x3), (4, .int x4)]) hx hb d35 hl (by decide) rfl (fun ls hl => ?_)
  exact s_X1_processGroup_L37 C0 hxt FU _ _ _ _ _ _ _ _ _ _ _ hR hS (lv_sub hl [2, 3, 4, 5, 6, 1, 0] rfl) hf
set_option maxRecDepth 100000 in
set_option maxHeartbeats 4000000 in
theorem ct_X1_processGroup (E : XE) (l : Launch) (hl0 : l.stackTraces = false) (h : HP) (r0 : Nat) (r1 : Nat) (x2 : Int32) (x3 : Int32) (x4 : Int32) : x_ct E l yX1_processGroup (Cond.code yX1_processGroup cX1_processGroup 9 none) 12 230 0 0 [.ref (xa E r0), .ref (xa E r1), .int x2, .int x3, .int x4] h (f_X1_processGroup h r0 r1 x2 x3 x4) := by
  refine x_ofW hl0 (by decide +kernel) ?_
  intro z hf p e s m args below meth c C0 hxt hargs hR
  subst hargs
  have C0 : x_C E p l s m meth c ([.ref (xa E r0), .ref (xa E r1), .int x2, .int x3, .int x4] : List Value).toArray cX1_processGroup 9 "GridEngine$Contributions" "processGroup" none := C0
  obtain ⟨hx, hb, -⟩ := id C0
  have hS : va_S (x_A E) s.heap s.heap [] := va_S.rf
  have hl := lv_entry ([.ref (xa E r0), .ref (xa E r1), .int x2, .int x3, .int x4]) (n := 9) (Nat.le_of_ble_eq_true rfl)
  rw [lg_entry_eq]
  generalize (lg_sl ([.ref (xa E r0), .ref (xa E r1), .int x2, .int x3, .int x4]) ++ List.replicate (9 - (lg_sl ([.ref (xa E r0), .ref (xa E r1), .int x2, .int x3, .int x4])).length) Slot.unset).toArray = ls at hl ⊢
  have hl : lv_has ls 9 [(0, .ref (xa E r0)), (1, .ref (xa E r1)), (2, .int x2), (3, .int x3), (4, .int x4)] := hl
  unfold f_X1_processGroup at hf
  have h0 : x_by cX1_processGroup 0 [29, 4, 160, 0, 10] := by unfold x_by; decide +kernel
  obtain ⟨d0, h0⟩ := de_iload_n3 h0
  obtain ⟨d1, h0⟩ := de_iconst_1 h0
  obtain ⟨d2, h0⟩ := de_icmp_ne (10) (by decide) h0
  refine lv_iload_n hx hb d0 rfl (lv_at hl 3 rfl) ?_
  refine lv_iconst (v := 1) hx hb d1 (by decide) ?_
  refine lv_icmp_ne (tgt := 12) hx hb d2 (by decide) (fun q => ?_) (fun q => ?_)
  · have hf := x_neg q hf
    have h0 : x_by cX1_processGroup 12 [43, 180, 0, 53] := by unfold x_by; decide +kernel
    obtain ⟨d12, h0⟩ := de_aload_n1 h0
    obtain ⟨d13, h0⟩ := de_getfield 53 (by decide) h0
    refine lv_aload_n hx hb d12 rfl (lv_at hl 1 rfl) ?_
    refine x_getR C0 hR hf xcl_0 (Nat.le_of_ble_eq_true rfl) rfl fl_X1_53 d13 (fun a1 hf => ?_)
    exact s_X1_processGroup_b16 C0 hxt _ _ _ _ _ _ _ _ _ _ hR hS (lv_sub hl [0, 1, 2, 3, 4] rfl) hf
  · have hf := x_pos q hf
    have h0 : x_by cX1_processGroup 5 [43, 180, 0, 22, 167, 0, 7] := by unfold x_by; decide +kernel
    obtain ⟨d5, h0⟩ := de_aload_n1 h0
    obtain ⟨d6, h0⟩ := de_getfield 22 (by decide) h0
    obtain ⟨d9, h0⟩ := de_goto (7) (by decide) h0
    refine lv_aload_n hx hb d5 rfl (lv_at hl 1 rfl) ?_
    refine x_getR C0 hR hf xcl_0 (Nat.le_of_ble_eq_true rfl) rfl fl_X1_22 d6 (fun a2 hf => ?_)
    refine lv_goto (tgt := 16) hx hb d9 (by decide) ?_
    exact s_X1_processGroup_b16 C0 hxt _ _ _ _ _ _ _ _ _ _ hR hS (lv_sub hl [0, 1, 2, 3, 4] rfl) hf
def f_X1_findBases_b47 (k10 : HP → Nat → Nat → Int32 → Option XR) (h : HP) (r0 : Nat) (r1 : Nat) (x2 : Int32) : Option XR :=
  k10 h r0 r1 (x2 + 1)
def f_X1_findBases_b60 (k60 : HP → Nat → Nat → Int32 → Option XR) (h : HP) (r0 : Nat) (r1 : Nat) (x2 : Int32) : Option XR :=
  if 5 < x2 then
    (
      some (h, xv)
    )
  else
    (
      x_rc h r0 1 <| x_cV (f_X1_processGroup h r0 r1 x2 1 0) fun h1 =>
      x_rc h1 r0 1 <| x_cV (f_X1_processGroup h1 r0 r1 x2 1 1) fun h2 =>
      k60 h2 r0 r1 (x2 + 1)
    )
def f_X1_findBases_L60  : Nat → HP → Nat → Nat → Int32 → Option XR
  | 0 => fun _ _ _ _ => none
  | n + 1 => f_X1_findBases_b60 (f_X1_findBases_L60 n)
def f_X1_findBases_b10 (k10 : HP → Nat → Nat → Int32 → Option XR) (h : HP) (r0 : Nat) (r1 : Nat) (x2 : Int32) : Option XR :=
  x_gI h r1 0 10 fun i1 =>
  if i1 < x2 then
    (
      x_rc h r0 1 <| x_cV (f_X1_findGroups h r0 r1) fun h2 =>
      f_X1_findBases_L60 FU h2 r0 r1 1
    )
  else
    (
      x_rc h r1 0 <| x_cI (f_X0_isOpen h r1 x2) fun h4 i3 =>
      if i3 = 0 then
        (
          f_X1_findBases_b47 k10 h4 r0 r1 x2
        )
      else
        (
          x_rc h4 r1 0 <| x_cI (f_X0_part h4 r1 x2 0) fun h6 i5 =>
          if i5 = 0 then
            (
              x_gR h6 r1 0 4 fun a7 =>
              x_rc h6 r1 0 <| x_cI (f_X0_part h6 r1 x2 1) fun h9 i8 =>
              x_sI h9 a7 x2 i8 fun h10 =>
              f_X1_findBases_b47 k10 h10 r0 r1 x2
            )
          else
            (
              f_X1_findBases_b47 k10 h6 r0 r1 x2
            )
        )
    )
def f_X1_findBases_L10  : Nat → HP → Nat → Nat → Int32 → Option XR
  | 0 => fun _ _ _ _ => none
  | n + 1 => f_X1_findBases_b10 (f_X1_findBases_L10 n)
def f_X1_findBases (h : HP) (r0 : Nat) (r1 : Nat) : Option XR :=
  x_gR h r1 0 4 fun a1 =>
  x_cV (f_J7_fill_53178 h a1 0) fun h2 =>
  f_X1_findBases_L10 FU h2 r0 r1 1
set_option maxRecDepth 100000 in
set_option maxHeartbeats 4000000 in
theorem s_X1_findBases_b47 {p : Program} {l : Launch} {e : Env} {s : State} {m : MethodId} {args : Array Value} {below : List Frame} {meth : Method} {c : Code} {E : XE} {z : XR} (C0 : x_C E p l s m meth c args cX1_findBases 3 "GridEngine$Contributions" "findBases" none) (hxt : ∀ x ∈ c.exceptionTable.toList, False) {k10 : HP → Nat → Nat → Int32 → Option XR} (hk10 : ∀ (h : HP) (r0 : Nat) (r1 : Nat) (x2 : Int32) (H : Heap) (locs : List Loc) (ls : Array Slot), x_Rep E h H → va_S (x_A E) s.heap H locs → lv_has ls 3 [(0, .ref (xa E r0)), (1, .ref (xa E r1)), (2, .int x2)] → k10 h r0 r1 x2 = some z → W p l e ({ frames := 13, cells := 0, slots := 0, locals := 258 } : Room) s m args below meth c H locs 0 0 (x_Q E below args s 0 0 z) (F0 m 10 ls [])) : ∀ (h : HP) (r0 : Nat) (r1 : Nat) (x2 : Int32) (H : Heap) (locs : List Loc) (ls : Array Slot), x_Rep E h H → va_S (x_A E) s.heap H locs → lv_has ls 3 [(0, .ref (xa E r0)), (1, .ref (xa E r1)), (2, .int x2)] → f_X1_findBases_b47 k10 h r0 r1 x2 = some z → W p l e ({ frames := 13, cells := 0, slots := 0, locals := 258 } : Room) s m args below meth c H locs 0 0 (x_Q E below args s 0 0 z) (F0 m 47 ls []) := by
  intro h r0 r1 x2 H locs ls hR hS hl hf
  obtain ⟨hx, hb, -⟩ := id C0
  unfold f_X1_findBases_b47 at hf
  have h0 : x_by cX1_findBases 47 [132, 2, 1, 167, 255, 216] := by unfold x_by; decide +kernel
  obtain ⟨d47, h0⟩ := de_iinc (1) (by decide) h0
  obtain ⟨d50, h0⟩ := de_goto (-40) (by decide) h0
  refine lv_iinc (v := (x2 + 1)) (lv' := [(2, .int (x2 + 1)), (0, .ref (xa E r0)), (1, .ref (xa E r1))]) hx hb d47 hl (k := 2) rfl rfl (by decide) rfl (fun ls hl => ?_)
  refine lv_goto (tgt := 10) hx hb d50 (by decide) ?_
  exact hk10 _ _ _ _ _ _ _ hR hS (lv_sub hl [1, 2, 0] rfl) hf
set_option maxRecDepth 100000 in
set_option maxHeartbeats 4000000 in
theorem s_X1_findBases_b60 {p : Program} {l : Launch} {e : Env} {s : State} {m : MethodId} {args : Array Value} {below : List Frame} {meth : Method} {c : Code} {E : XE} {z : XR} (C0 : x_C E p l s m meth c args cX1_findBases 3 "GridEngine$Contributions" "findBases" none) (hxt : ∀ x ∈ c.exceptionTable.toList, False) {k60 : HP → Nat → Nat → Int32 → Option XR} (hk60 : ∀ (h : HP) (r0 : Nat) (r1 : Nat) (x2 : Int32) (H : Heap) (locs : List Loc) (ls : Array Slot), x_Rep E h H → va_S (x_A E) s.heap H locs → lv_has ls 3 [(0, .ref (xa E r0)), (1, .ref (xa E r1)), (2, .int x2)] → k60 h r0 r1 x2 = some z → W p l e ({ frames := 13, cells := 0, slots := 0, locals := 258 } : Room) s m args below meth c H locs 0 0 (x_Q E below args s 0 0 z) (F0 m 60 ls [])) : ∀ (h : HP) (r0 : Nat) (r1 : Nat) (x2 : Int32) (H : Heap) (locs : List Loc) (ls : Array Slot), x_Rep E h H → va_S (x_A E) s.heap H locs → lv_has ls 3 [(0, .ref (xa E r0)), (1, .ref (xa E r1)), (2, .int x2)] → f_X1_findBases_b60 k60 h r0 r1 x2 = some z → W p l e ({ frames := 13, cells := 0, slots := 0, locals := 258 } : Room) s m args below meth c H locs 0 0 (x_Q E below args s 0 0 z) (F0 m 60 ls []) := by
  intro h r0 r1 x2 H locs ls hR hS hl hf
  obtain ⟨hx, hb, -⟩ := id C0
  unfold f_X1_findBases_b60 at hf
  have h0 : x_by cX1_findBases 60 [28, 8, 163, 0, 25] := by unfold x_by; decide +kernel
  obtain ⟨d60, h0⟩ := de_iload_n2 h0
  obtain ⟨d61, h0⟩ := de_iconst_5 h0
  obtain ⟨d62, h0⟩ := de_icmp_gt (25) (by decide) h0
  refine lv_iload_n hx hb d60 rfl (lv_at hl 2 rfl) ?_
  refine lv_iconst (v := 5) hx hb d61 (by decide) ?_
  refine lv_icmp_gt (tgt := 87) hx hb d62 (by decide) (fun q => ?_) (fun q => ?_)
  · have hf := x_pos q hf
    have h0 : x_by cX1_findBases 87 [177] := by unfold x_by; decide +kernel
    obtain ⟨d87, h0⟩ := de_return h0
    exact x_vret C0 hR hS hf (Nat.le_of_ble_eq_true rfl) (Nat.le_of_ble_eq_true rfl) d87
  · have hf := x_neg q hf
    have h0 : x_by cX1_findBases 65 [42, 43, 28, 4, 3, 182, 0, 49, 42, 43, 28, 4, 4, 182, 0, 49, 132, 2, 1, 167, 255, 232] := by unfold x_by; decide +kernel
    obtain ⟨d65, h0⟩ := de_aload_n0 h0
    obtain ⟨d66, h0⟩ := de_aload_n1 h0
    obtain ⟨d67, h0⟩ := de_iload_n2 h0
    obtain ⟨d68, h0⟩ := de_iconst_1 h0
    obtain ⟨d69, h0⟩ := de_iconst_0 h0
    obtain ⟨d70, h0⟩ := de_invokevirtual 49 (by decide) h0
    obtain ⟨d73, h0⟩ := de_aload_n0 h0
    obtain ⟨d74, h0⟩ := de_aload_n1 h0
    obtain ⟨d75, h0⟩ := de_iload_n2 h0
    obtain ⟨d76, h0⟩ := de_iconst_1 h0
    obtain ⟨d77, h0⟩ := de_iconst_1 h0
    obtain ⟨d78, h0⟩ := de_invokevirtual 49 (by decide) h0
    obtain ⟨d81, h0⟩ := de_iinc (1) (by decide) h0
    obtain ⟨d84, h0⟩ := de_goto (-24) (by decide) h0
    refine lv_aload_n hx hb d65 rfl (lv_at hl 0 rfl) ?_
    refine lv_aload_n hx hb d66 rfl (lv_at hl 1 rfl) ?_
    refine lv_iload_n hx hb d67 rfl (lv_at hl 2 rfl) ?_
    refine lv_iconst (v := 1) hx hb d68 (by decide) ?_
    refine lv_iconst (v := 0) hx hb d69 (by decide) ?_
    obtain ⟨hs9, hf⟩ := x_if hf
    refine x_thenV C0 hxt hS hf (fun z0 e0 => x_runV C0 hR hS me_X1_processGroup wi_X1_processGroup wl_X1_processGroup ml_X1_49 hs9 xcl_1 (As := [.ref (xa E r1), .int x2, .int 1, .int 0]) (ct_X1_processGroup E l C0.2.2.2.2.2.2.2.1 _ r0 r1 x2 1 0) rfl rfl hl.1 (Nat.le_of_ble_eq_true rfl) d70 ⟨(Nat.le_of_ble_eq_true rfl), (Nat.le_of_ble_eq_true rfl)⟩ ⟨(Nat.le_of_ble_eq_true rfl), (Nat.le_of_ble_eq_true rfl)⟩ e0) (Nat.le_of_ble_eq_true rfl) (Nat.le_of_ble_eq_true rfl) (fun h9 H locs hR hS hf => ?_)
    refine lv_aload_n hx hb d73 rfl (lv_at hl 0 rfl) ?_
    refine lv_aload_n hx hb d74 rfl (lv_at hl 1 rfl) ?_
    refine lv_iload_n hx hb d75 rfl (lv_at hl 2 rfl) ?_
    refine lv_iconst (v := 1) hx hb d76 (by decide) ?_
    refine lv_iconst (v := 1) hx hb d77 (by decide) ?_
    obtain ⟨hs9, hf⟩ := x_if hf
    refine x_thenV C0 hxt hS hf (fun z0 e0 => x_runV C0 hR hS me_X1_processGroup wi_X1_processGroup wl_X1_processGroup ml_X1_49 hs9 xcl_1 (As := [.ref (xa E r1), .int x2, .int 1, .int 1]) (ct_X1_processGroup E l C0.2.2.2.2.2.2.2.1 _ r0 r1 x2 1 1) rfl rfl hl.1 (Nat.le_of_ble_eq_true rfl) d78 ⟨(Nat.le_of_ble_eq_true rfl), (Nat.le_of_ble_eq_true rfl)⟩ ⟨(Nat.le_of_ble_eq_true rfl), (Nat.le_of_ble_eq_true rfl)⟩ e0) (Nat.le_of_ble_eq_true rfl) (Nat.le_of_ble_eq_true rfl) (fun h9 H locs hR hS hf => ?_)
    refine lv_iinc (v := (x2 + 1)) (lv' := [(2, .int (x2 + 1)), (0, .ref (xa E r0)), (1, .ref (xa E r1))]) hx hb d81 hl (k := 2) rfl rfl (by decide) rfl (fun ls hl => ?_)
    refine lv_goto (tgt := 60) hx hb d84 (by decide) ?_
    exact hk60 _ _ _ _ _ _ _ hR hS (lv_sub hl [1, 2, 0] rfl) hf
theorem s_X1_findBases_L60 {p : Program} {l : Launch} {e : Env} {s : State} {m : MethodId} {args : Array Value} {below : List Frame} {meth : Method} {c : Code} {E : XE} {z : XR} (C0 : x_C E p l s m meth c args cX1_findBases 3 "GridEngine$Contributions" "findBases" none) (hxt : ∀ x ∈ c.exceptionTable.toList, False)  : ∀ n : Nat, ∀ (h : HP) (r0 : Nat) (r1 : Nat) (x2 : Int32) (H : Heap) (locs : List Loc) (ls : Array Slot), x_Rep E h H → va_S (x_A E) s.heap H locs → lv_has ls 3 [(0, .ref (xa E r0)), (1, .ref (xa E r1)), (2, .int x2)] → f_X1_findBases_L60 n h r0 r1 x2 = some z → W p l e ({ frames := 13, cells := 0, slots := 0, locals := 258 } : Room) s m args below meth c H locs 0 0 (x_Q E below args s 0 0 z) (F0 m 60 ls []) := by
  intro n
  induction n with
  | zero => intro h r0 r1 x2 H locs ls hR hS hl hf; cases (show (none : Option XR) = some z from hf)
  | succ n ih => intro h r0 r1 x2 H locs ls hR hS hl hf; exact s_X1_findBases_b60 C0 hxt ih h r0 r1 x2 H locs ls hR hS hl (show f_X1_findBases_b60 (f_X1_findBases_L60 n) h r0 r1 x2 = some z from hf)
set_option maxRecDepth 100000 in
set_option maxHeartbeats 4000000 in
theorem s_X1_findBases_b10 {p : Program} {l : Launch} {e : Env} {s : State} {m : MethodId} {args : Array Value} {below : List Frame} {meth : Method} {c : Code} {E : XE} {z : XR} (C0 : x_C E p l s m meth c args cX1_findBases 3 "GridEngine$Contributions" "findBases" none) (hxt : ∀ x ∈ c.exceptionTable.toList, False) {k10 : HP → Nat → Nat → Int32 → Option XR} (hk10 : ∀ (h : HP) (r0 : Nat) (r1 : Nat) (x2 : Int32) (H : Heap) (locs : List Loc) (ls : Array Slot), x_Rep E h H → va_S (x_A E) s.heap H locs → lv_has ls 3 [(0, .ref (xa E r0)), (1, .ref (xa E r1)), (2, .int x2)] → k10 h r0 r1 x2 = some z → W p l e ({ frames := 13, cells := 0, slots := 0, locals := 258 } : Room) s m args below meth c H locs 0 0 (x_Q E below args s 0 0 z) (F0 m 10 ls [])) : ∀ (h : HP) (r0 : Nat) (r1 : Nat) (x2 : Int32) (H : Heap) (locs : List Loc) (ls : Array Slot), x_Rep E h H → va_S (x_A E) s.heap H locs → lv_has ls 3 [(0, .ref (xa E r0)), (1, .ref (xa E r1)), (2, .int x2)] → f_X1_findBases_b10 k10 h r0 r1 x2 = some z → W p l e ({ frames := 13, cells := 0, slots := 0, locals := 258 } : Room) s m args below meth c H locs 0 0 (x_Q E below args s 0 0 z) (F0 m 10 ls []) := by
  intro h r0 r1 x2 H locs ls hR hS hl hf
  obtain ⟨hx, hb, -⟩ := id C0
  unfold f_X1_findBases_b10 at hf
  have h0 : x_by cX1_findBases 10 [28, 43, 180, 0, 33, 163, 0, 38] := by unfold x_by; decide +kernel
  obtain ⟨d10, h0⟩ := de_iload_n2 h0
  obtain ⟨d11, h0⟩ := de_aload_n1 h0
  obtain ⟨d12, h0⟩ := de_getfield 33 (by decide) h0
  obtain ⟨d15, h0⟩ := de_icmp_gt (38) (by decide) h0
  refine lv_iload_n hx hb d10 rfl (lv_at hl 2 rfl) ?_
  refine lv_aload_n hx hb d11 rfl (lv_at hl 1 rfl) ?_
  refine x_getI C0 hR hf xcl_0 (Nat.le_of_ble_eq_true rfl) rfl fl_X1_33 d12 (fun i1 hf => ?_)
  refine lv_icmp_gt (tgt := 53) hx hb d15 (by decide) (fun q => ?_) (fun q => ?_)
  · have hf := x_pos q hf
    have h0 : x_by cX1_findBases 53 [42, 43, 182, 0, 45, 4, 61] := by unfold x_by; decide +kernel
    obtain ⟨d53, h0⟩ := de_aload_n0 h0
    obtain ⟨d54, h0⟩ := de_aload_n1 h0
    obtain ⟨d55, h0⟩ := de_invokevirtual 45 (by decide) h0
    obtain ⟨d58, h0⟩ := de_iconst_1 h0
    obtain ⟨d59, h0⟩ := de_istore_n2 h0
    refine lv_aload_n hx hb d53 rfl (lv_at hl 0 rfl) ?_
    refine lv_aload_n hx hb d54 rfl (lv_at hl 1 rfl) ?_
    obtain ⟨hs9, hf⟩ := x_if hf
    refine x_thenV C0 hxt hS hf (fun z0 e0 => x_runV C0 hR hS me_X1_findGroups wi_X1_findGroups wl_X1_findGroups ml_X1_45 hs9 xcl_1 (As := [.ref (xa E r1)]) (ct_X1_findGroups E l C0.2.2.2.2.2.2.2.1 _ r0 r1) rfl rfl hl.1 (Nat.le_of_ble_eq_true rfl) d55 ⟨(Nat.le_of_ble_eq_true rfl), (Nat.le_of_ble_eq_true rfl)⟩ ⟨(Nat.le_of_ble_eq_true rfl), (Nat.le_of_ble_eq_true rfl)⟩ e0) (Nat.le_of_ble_eq_true rfl) (Nat.le_of_ble_eq_true rfl) (fun h9 H locs hR hS hf => ?_)
    refine lv_iconst (v := 1) hx hb d58 (by decide) ?_
    refine lv_istore_n (lv' := [(2, .int 1), (0, .ref (xa E r0)), (1, .ref (xa E r1))]) hx hb d59 rfl hl (by decide) rfl (fun ls hl => ?_)
    exact s_X1_findBases_L60 C0 hxt FU _ _ _ _ _ _ _ hR hS (lv_sub hl [1, 2, 0] rfl) hf
  · have hf := x_neg q hf
    have h0 : x_by cX1_findBases 18 [43, 28, 182, 0, 37, 153, 0, 24] := by unfold x_by; decide +kernel
    obtain ⟨d18, h0⟩ := de_aload_n1 h0
    obtain ⟨d19, h0⟩ := de_iload_n2 h0
    obtain ⟨d20, h0⟩ := de_invokevirtual 37 (by decide) h0
    obtain ⟨d23, h0⟩ := de_if_eq (24) (by decide) h0
    refine lv_aload_n hx hb d18 rfl (lv_at hl 1 rfl) ?_
    refine lv_iload_n hx hb d19 rfl (lv_at hl 2 rfl) ?_
    obtain ⟨hs9, hf⟩ := x_if hf
    refine x_thenI C0 hxt hS hf (fun z0 e0 => x_runV C0 hR hS me_X0_isOpen wi_X0_isOpen wl_X0_isOpen ml_X1_37 hs9 xcl_0 (As := [.int x2]) (ct_X0_isOpen E l C0.2.2.2.2.2.2.2.1 _ r1 x2) rfl rfl hl.1 (Nat.le_of_ble_eq_true rfl) d20 ⟨(Nat.le_of_ble_eq_true rfl), (Nat.le_of_ble_eq_true rfl)⟩ ⟨(Nat.le_of_ble_eq_true rfl), (Nat.le_of_ble_eq_true rfl)⟩ e0) (Nat.le_of_ble_eq_true rfl) (Nat.le_of_ble_eq_true rfl) (fun h9 i3 H locs hR hS hf => ?_)
    refine lv_if_eq (tgt := 47) hx hb d23 (by decide) (fun q => ?_) (fun q => ?_)
    · have hf := x_pos q hf
      exact s_X1_findBases_b47 C0 hxt hk10 _ _ _ _ _ _ _ hR hS (lv_sub hl [0, 1, 2] rfl) hf
    · have hf := x_neg q hf
      have h0 : x_by cX1_findBases 26 [43, 28, 3, 182, 0, 41, 154, 0, 15] := by unfold x_by; decide +kernel
      obtain ⟨d26, h0⟩ := de_aload_n1 h0
      obtain ⟨d27, h0⟩ := de_iload_n2 h0
      obtain ⟨d28, h0⟩ := de_iconst_0 h0
      obtain ⟨d29, h0⟩ := de_invokevirtual 41 (by decide) h0
      obtain ⟨d32, h0⟩ := de_if_ne (15) (by decide) h0
      refine lv_aload_n hx hb d26 rfl (lv_at hl 1 rfl) ?_
      refine lv_iload_n hx hb d27 rfl (lv_at hl 2 rfl) ?_
      refine lv_iconst (v := 0) hx hb d28 (by decide) ?_
      obtain ⟨hs9, hf⟩ := x_if hf
      refine x_thenI C0 hxt hS hf (fun z0 e0 => x_runV C0 hR hS me_X0_part wi_X0_part wl_X0_part ml_X1_41 hs9 xcl_0 (As := [.int x2, .int 0]) (ct_X0_part E l C0.2.2.2.2.2.2.2.1 _ r1 x2 0) rfl rfl hl.1 (Nat.le_of_ble_eq_true rfl) d29 ⟨(Nat.le_of_ble_eq_true rfl), (Nat.le_of_ble_eq_true rfl)⟩ ⟨(Nat.le_of_ble_eq_true rfl), (Nat.le_of_ble_eq_true rfl)⟩ e0) (Nat.le_of_ble_eq_true rfl) (Nat.le_of_ble_eq_true rfl) (fun h9 i5 H locs hR hS hf => ?_)
      refine lv_if_ne (tgt := 47) hx hb d32 (by decide) (fun q => ?_) (fun q => ?_)
      · have hf := x_neg q hf
        exact s_X1_findBases_b47 C0 hxt hk10 _ _ _ _ _ _ _ hR hS (lv_sub hl [0, 1, 2] rfl) hf
      · have hf := x_pos q hf
        have h0 : x_by cX1_findBases 35 [43, 180, 0, 22, 28, 43, 28, 4, 182, 0, 41, 79] := by unfold x_by; decide +kernel
        obtain ⟨d35, h0⟩ := de_aload_n1 h0
        obtain ⟨d36, h0⟩ := de_getfield 22 (by decide) h0
        obtain ⟨d39, h0⟩ := de_iload_n2 h0
        obtain ⟨d40, h0⟩ := de_aload_n1 h0
        obtain ⟨d41, h0⟩ := de_iload_n2 h0
        obtain ⟨d42, h0⟩ := de_iconst_1 h0
        obtain ⟨d43, h0⟩ := de_invokevirtual 41 (by decide) h0
        obtain ⟨d46, h0⟩ := de_iastore h0
        refine lv_aload_n hx hb d35 rfl (lv_at hl 1 rfl) ?_
        refine x_getR C0 hR hf xcl_0 (Nat.le_of_ble_eq_true rfl) rfl fl_X1_22 d36 (fun a7 hf => ?_)
        refine lv_iload_n hx hb d39 rfl (lv_at hl 2 rfl) ?_
        refine lv_aload_n hx hb d40 rfl (lv_at hl 1 rfl) ?_
        refine lv_iload_n hx hb d41 rfl (lv_at hl 2 rfl) ?_
        refine lv_iconst (v := 1) hx hb d42 (by decide) ?_
        obtain ⟨hs9, hf⟩ := x_if hf
        refine x_thenI C0 hxt hS hf (fun z0 e0 => x_runV C0 hR hS me_X0_part wi_X0_part wl_X0_part ml_X1_41 hs9 xcl_0 (As := [.int x2, .int 1]) (ct_X0_part E l C0.2.2.2.2.2.2.2.1 _ r1 x2 1) rfl rfl hl.1 (Nat.le_of_ble_eq_true rfl) d43 ⟨(Nat.le_of_ble_eq_true rfl), (Nat.le_of_ble_eq_true rfl)⟩ ⟨(Nat.le_of_ble_eq_true rfl), (Nat.le_of_ble_eq_true rfl)⟩ e0) (Nat.le_of_ble_eq_true rfl) (Nat.le_of_ble_eq_true rfl) (fun h9 i8 H locs hR hS hf => ?_)
        refine x_iast C0 hR hS hf d46 (fun H locs hR hS hf => ?_)
        exact s_X1_findBases_b47 C0 hxt hk10 _ _ _ _ _ _ _ hR hS (lv_sub hl [0, 1, 2] rfl) hf
theorem s_X1_findBases_L10 {p : Program} {l : Launch} {e : Env} {s : State} {m : MethodId} {args : Array Value} {below : List Frame} {meth : Method} {c : Code} {E : XE} {z : XR} (C0 : x_C E p l s m meth c args cX1_findBases 3 "GridEngine$Contributions" "findBases" none) (hxt : ∀ x ∈ c.exceptionTable.toList, False)  : ∀ n : Nat, ∀ (h : HP) (r0 : Nat) (r1 : Nat) (x2 : Int32) (H : Heap) (locs : List Loc) (ls : Array Slot), x_Rep E h H → va_S (x_A E) s.heap H locs → lv_has ls 3 [(0, .ref (xa E r0)), (1, .ref (xa E r1)), (2, .int x2)] → f_X1_findBases_L10 n h r0 r1 x2 = some z → W p l e ({ frames := 13, cells := 0, slots := 0, locals := 258 } : Room) s m args below meth c H locs 0 0 (x_Q E below args s 0 0 z) (F0 m 10 ls []) := by
  intro n
  induction n with
  | zero => intro h r0 r1 x2 H locs ls hR hS hl hf; cases (show (none : Option XR) = some z from hf)
  | succ n ih => intro h r0 r1 x2 H locs ls hR hS hl hf; exact s_X1_findBases_b10 C0 hxt ih h r0 r1 x2 H locs ls hR hS hl (show f_X1_findBases_b10 (f_X1_findBases_L10 n) h r0 r1 x2 = some z from hf)
set_option maxRecDepth 100000 in
set_option maxHeartbeats 4000000 in
theorem ct_X1_findBases (E : XE) (l : Launch) (hl0 : l.stackTraces = false) (h : HP) (r0 : Nat) (r1 : Nat) : x_ct E l yX1_findBases (Cond.code yX1_findBases cX1_findBases 3 none) 13 258 0 0 [.ref (xa E r0), .ref (xa E r1)] h (f_X1_findBases h r0 r1) := by
  refine x_ofW hl0 (by decide +kernel) ?_
  intro z hf p e s m args below meth c C0 hxt hargs hR
  subst hargs
  have C0 : x_C E p l s m meth c ([.ref (xa E r0), .ref (xa E r1)] : List Value).toArray cX1_findBases 3 "GridEngine$Contributions" "findBases" none := C0
  obtain ⟨hx, hb, -⟩ := id C0
  have hS : va_S (x_A E) s.heap s.heap [] := va_S.rf
  have hl := lv_entry ([.ref (xa E r0), .ref (xa E r1)]) (n := 3) (Nat.le_of_ble_eq_true rfl)
  rw [lg_entry_eq]
  generalize (lg_sl ([.ref (xa E r0), .ref (xa E r1)]) ++ List.replicate (3 - (lg_sl ([.ref (xa E r0), .ref (xa E r1)])).length) Slot.unset).toArray = ls at hl ⊢
  have hl : lv_has ls 3 [(0, .ref (xa E r0)), (1, .ref (xa E r1))] := hl
  unfold f_X1_findBases at hf
  have h0 : x_by cX1_findBases 0 [43, 180, 0, 22, 3, 184, 0, 27, 4, 61] := by unfold x_by; decide +kernel
  obtain ⟨d0, h0⟩ := de_aload_n1 h0
  obtain ⟨d1, h0⟩ := de_getfield 22 (by decide) h0
  obtain ⟨d4, h0⟩ := de_iconst_0 h0
  obtain ⟨d5, h0⟩ := de_invokestatic 27 (by decide) h0
  obtain ⟨d8, h0⟩ := de_iconst_1 h0
  obtain ⟨d9, h0⟩ := de_istore_n2 h0
  refine lv_aload_n hx hb d0 rfl (lv_at hl 1 rfl) ?_
  refine x_getR C0 hR hf xcl_0 (Nat.le_of_ble_eq_true rfl) rfl fl_X1_22 d1 (fun a1 hf => ?_)
  refine lv_iconst (v := 0) hx hb d4 (by decide) ?_
  refine x_thenV C0 hxt hS hf (fun z0 e0 => x_runS C0 hR hS me_J7_fill_53178 wt_J7_fill_53178 ml_X1_27 (As := [.ref (xa E a1), .int 0]) (ct_J7_fill_53178 E l C0.2.2.2.2.2.2.2.1 _ a1 0) rfl rfl hl.1 (Nat.le_of_ble_eq_true rfl) d5 ⟨(Nat.le_of_ble_eq_true rfl), (Nat.le_of_ble_eq_true rfl)⟩ ⟨(Nat.le_of_ble_eq_true rfl), (Nat.le_of_ble_eq_true rfl)⟩ e0) (Nat.le_of_ble_eq_true rfl) (Nat.le_of_ble_eq_true rfl) (fun h9 H locs hR hS hf => ?_)
  refine lv_iconst (v := 1) hx hb d8 (by decide) ?_
  refine lv_istore_n (lv' := [(2, .int 1), (0, .ref (xa E r0)), (1, .ref (xa E r1))]) hx hb d9 rfl hl (by decide) rfl (fun ls hl => ?_)
  exact s_X1_findBases_L10 C0 hxt FU _ _ _ _ _ _ _ hR hS (lv_sub hl [1, 2, 0] rfl) hf
def f_X1_findLimits_b68 (k20 : HP → Nat → Nat → Int32 → Option XR) (h : HP) (r0 : Nat) (r1 : Nat) (x2 : Int32) : Option XR :=
  k20 h r0 r1 (x2 + 1)
def f_X1_findLimits_b76 (k76 : HP → Nat → Nat → Int32 → Option XR) (h : HP) (r0 : Nat) (r1 : Nat) (x2 : Int32) : Option XR :=
  if 5 ≤ x2 then
    (
      some (h, xv)
    )
  else
    (
      x_rc h r0 1 <| x_cV (f_X1_processGroup h r0 r1 x2 2 0) fun h1 =>
      x_rc h1 r0 1 <| x_cV (f_X1_processGroup h1 r0 r1 x2 2 1) fun h2 =>
      k76 h2 r0 r1 (x2 + 1)
    )
def f_X1_findLimits_L76  : Nat → HP → Nat → Nat → Int32 → Option XR
  | 0 => fun _ _ _ _ => none
  | n + 1 => f_X1_findLimits_b76 (f_X1_findLimits_L76 n)
def f_X1_findLimits_b20 (k20 : HP → Nat → Nat → Int32 → Option XR) (h : HP) (r0 : Nat) (r1 : Nat) (x2 : Int32) : Option XR :=
  x_gI h r1 0 10 fun i1 =>
  if i1 < x2 then
    (
      f_X1_findLimits_L76 FU h r0 r1 1
    )
  else
    (
      x_rc h r1 0 <| x_cI (f_X0_isOpen h r1 x2) fun h3 i2 =>
      if i2 = 0 then
        (
          f_X1_findLimits_b68 k20 h3 r0 r1 x2
        )
      else
        (
          x_rc h3 r1 0 <| x_cI (f_X0_part h3 r1 x2 2) fun h5 i4 =>
          if i4 = 0 then
            (
              x_rc h5 r1 0 <| x_cI (f_X0_part h5 r1 x2 3) fun h7 i6 =>
              x_gR h7 r1 0 5 fun a8 =>
              x_gR h7 r1 0 4 fun a9 =>
              x_aI h7 100 a9 x2 fun i10 =>
              x_sI h7 a8 x2 (if i10 < i6 then i6 else i10) fun h11 =>
              f_X1_findLimits_b68 k20 h11 r0 r1 x2
            )
          else
            (
              f_X1_findLimits_b68 k20 h5 r0 r1 x2
            )
        )
    )
def f_X1_findLimits_L20  : Nat → HP → Nat → Nat → Int32 → Option XR
  | 0 => fun _ _ _ _ => none
  | n + 1 => f_X1_findLimits_b20 (f_X1_findLimits_L20 n)
def f_X1_findLimits (h : HP) (r0 : Nat) (r1 : Nat) : Option XR :=
  x_gR h r1 0 4 fun a1 =>
  x_gR h r1 0 5 fun a2 =>
  x_gR h r1 0 5 fun a3 =>
  x_ln h a3 fun i4 =>
  x_cp h a1 0 a2 0 i4 fun h5 =>
  f_X1_findLimits_L20 FU h5 r0 r1 1
set_option maxRecDepth 100000 in
set_option maxHeartbeats 4000000 in
theorem s_X1_findLimits_b68 {p : Program} {l : Launch} {e : Env} {s : State} {m : MethodId} {args : Array Value} {below : List Frame} {meth : Method} {c : Code} {E : XE} {z : XR} (C0 : x_C E p l s m meth c args cX1_findLimits 4 "GridEngine$Contributions" "findLimits" none) (hxt : ∀ x ∈ c.exceptionTable.toList, False) {k20 : HP → Nat → Nat → Int32 → Option XR} (hk20 : ∀ (h : HP) (r0 : Nat) (r1 : Nat) (x2 : Int32) (H : Heap) (locs : List Loc) (ls : Array Slot), x_Rep E h H → va_S (x_A E) s.heap H locs → lv_has ls 4 [(0, .ref (xa E r0)), (1, .ref (xa E r1)), (2, .int x2)] → k20 h r0 r1 x2 = some z → W p l e ({ frames := 13, cells := 0, slots := 0, locals := 258 } : Room) s m args below meth c H locs 0 0 (x_Q E below args s 0 0 z) (F0 m 20 ls [])) : ∀ (h : HP) (r0 : Nat) (r1 : Nat) (x2 : Int32) (H : Heap) (locs : List Loc) (ls : Array Slot), x_Rep E h H → va_S (x_A E) s.heap H locs → lv_has ls 4 [(0, .ref (xa E r0)), (1, .ref (xa E r1)), (2, .int x2)] → f_X1_findLimits_b68 k20 h r0 r1 x2 = some z → W p l e ({ frames := 13, cells := 0, slots := 0, locals := 258 } : Room) s m args below meth c H locs 0 0 (x_Q E below args s 0 0 z) (F0 m 68 ls []) := by
  intro h r0 r1 x2 H locs ls hR hS hl hf
  obtain ⟨hx, hb, -⟩ := id C0
  unfold f_X1_findLimits_b68 at hf
  have h0 : x_by cX1_findLimits 68 [132, 2, 1, 167, 255, 205] := by unfold x_by; decide +kernel
  obtain ⟨d68, h0⟩ := de_iinc (1) (by decide) h0
  obtain ⟨d71, h0⟩ := de_goto (-51) (by decide) h0
  refine lv_iinc (v := (x2 + 1)) (lv' := [(2, .int (x2 + 1)), (0, .ref (xa E r0)), (1, .ref (xa E r1))]) hx hb d68 hl (k := 2) rfl rfl (by decide) rfl (fun ls hl => ?_)
  refine lv_goto (tgt := 20) hx hb d71 (by decide) ?_
  exact hk20 _ _ _ _ _ _ _ hR hS (lv_sub hl [1, 2, 0] rfl) hf
set_option maxRecDepth 100000 in
set_option maxHeartbeats 4000000 in
theorem s_X1_findLimits_b76 {p : Program} {l : Launch} {e : Env} {s : State} {m : MethodId} {args : Array Value} {below : List Frame} {meth : Method} {c : Code} {E : XE} {z : XR} (C0 : x_C E p l s m meth c args cX1_findLimits 4 "GridEngine$Contributions" "findLimits" none) (hxt : ∀ x ∈ c.exceptionTable.toList, False) {k76 : HP → Nat → Nat → Int32 → Option XR} (hk76 : ∀ (h : HP) (r0 : Nat) (r1 : Nat) (x2 : Int32) (H : Heap) (locs : List Loc) (ls : Array Slot), x_Rep E h H → va_S (x_A E) s.heap H locs → lv_has ls 4 [(0, .ref (xa E r0)), (1, .ref (xa E r1)), (2, .int x2)] → k76 h r0 r1 x2 = some z → W p l e ({ frames := 13, cells := 0, slots := 0, locals := 258 } : Room) s m args below meth c H locs 0 0 (x_Q E below args s 0 0 z) (F0 m 76 ls [])) : ∀ (h : HP) (r0 : Nat) (r1 : Nat) (x2 : Int32) (H : Heap) (locs : List Loc) (ls : Array Slot), x_Rep E h H → va_S (x_A E) s.heap H locs → lv_has ls 4 [(0, .ref (xa E r0)), (1, .ref (xa E r1)), (2, .int x2)] → f_X1_findLimits_b76 k76 h r0 r1 x2 = some z → W p l e ({ frames := 13, cells := 0, slots := 0, locals := 258 } : Room) s m args below meth c H locs 0 0 (x_Q E below args s 0 0 z) (F0 m 76 ls []) := by
  intro h r0 r1 x2 H locs ls hR hS hl hf
  obtain ⟨hx, hb, -⟩ := id C0
  unfold f_X1_findLimits_b76 at hf
  have h0 : x_by cX1_findLimits 76 [28, 8, 162, 0, 25] := by unfold x_by; decide +kernel
  obtain ⟨d76, h0⟩ := de_iload_n2 h0
  obtain ⟨d77, h0⟩ := de_iconst_5 h0
  obtain ⟨d78, h0⟩ := de_icmp_ge (25) (by decide) h0
  refine lv_iload_n hx hb d76 rfl (lv_at hl 2 rfl) ?_
  refine lv_iconst (v := 5) hx hb d77 (by decide) ?_
  refine lv_icmp_ge (tgt := 103) hx hb d78 (by decide) (fun q => ?_) (fun q => ?_)
  · have hf := x_pos q hf
    have h0 : x_by cX1_findLimits 103 [177] := by unfold x_by; decide +kernel
    obtain ⟨d103, h0⟩ := de_return h0
    exact x_vret C0 hR hS hf (Nat.le_of_ble_eq_true rfl) (Nat.le_of_ble_eq_true rfl) d103
  · have hf := x_neg q hf
    have h0 : x_by cX1_findLimits 81 [42, 43, 28, 5, 3, 182, 0, 49, 42, 43, 28, 5, 4, 182, 0, 49, 132, 2, 1, 167, 255, 232] := by unfold x_by; decide +kernel
    obtain ⟨d81, h0⟩ := de_aload_n0 h0
    obtain ⟨d82, h0⟩ := de_aload_n1 h0
    obtain ⟨d83, h0⟩ := de_iload_n2 h0
    obtain ⟨d84, h0⟩ := de_iconst_2 h0
    obtain ⟨d85, h0⟩ := de_iconst_0 h0
    obtain ⟨d86, h0⟩ := de_invokevirtual 49 (by decide) h0
    obtain ⟨d89, h0⟩ := de_aload_n0 h0
    obtain ⟨d90, h0⟩ := de_aload_n1 h0
    obtain ⟨d91, h0⟩ := de_iload_n2 h0
    obtain ⟨d92, h0⟩ := de_iconst_2 h0
    obtain ⟨d93, h0⟩ := de_iconst_1 h0
    obtain ⟨d94, h0⟩ := de_invokevirtual 49 (by decide) h0
    obtain ⟨d97, h0⟩ := de_iinc (1) (by decide) h0
    obtain ⟨d100, h0⟩ := de_goto (-24) (by decide) h0
    refine lv_aload_n hx hb d81 rfl (lv_at hl 0 rfl) ?_
    refine lv_aload_n hx hb d82 rfl (lv_at hl 1 rfl) ?_
    refine lv_iload_n hx hb d83 rfl (lv_at hl 2 rfl) ?_
    refine lv_iconst (v := 2) hx hb d84 (by decide) ?_
    refine lv_iconst (v := 0) hx hb d85 (by decide) ?_
    obtain ⟨hs9, hf⟩ := x_if hf
    refine x_thenV C0 hxt hS hf (fun z0 e0 => x_runV C0 hR hS me_X1_processGroup wi_X1_processGroup wl_X1_processGroup ml_X1_49 hs9 xcl_1 (As := [.ref (xa E r1), .int x2, .int 2, .int 0]) (ct_X1_processGroup E l C0.2.2.2.2.2.2.2.1 _ r0 r1 x2 2 0) rfl rfl hl.1 (Nat.le_of_ble_eq_true rfl) d86 ⟨(Nat.le_of_ble_eq_true rfl), (Nat.le_of_ble_eq_true rfl)⟩ ⟨(Nat.le_of_ble_eq_true rfl), (Nat.le_of_ble_eq_true rfl)⟩ e0) (Nat.le_of_ble_eq_true rfl) (Nat.le_of_ble_eq_true rfl) (fun h9 H locs hR hS hf => ?_)
    refine lv_aload_n hx hb d89 rfl (lv_at hl 0 rfl) ?_
    refine lv_aload_n hx hb d90 rfl (lv_at hl 1 rfl) ?_
    refine lv_iload_n hx hb d91 rfl (lv_at hl 2 rfl) ?_
    refine lv_iconst (v := 2) hx hb d92 (by decide) ?_
    refine lv_iconst (v := 1) hx hb d93 (by decide) ?_
    obtain ⟨hs9, hf⟩ := x_if hf
    refine x_thenV C0 hxt hS hf (fun z0 e0 => x_runV C0 hR hS me_X1_processGroup wi_X1_processGroup wl_X1_processGroup ml_X1_49 hs9 xcl_1 (As := [.ref (xa E r1), .int x2, .int 2, .int 1]) (ct_X1_processGroup E l C0.2.2.2.2.2.2.2.1 _ r0 r1 x2 2 1) rfl rfl hl.1 (Nat.le_of_ble_eq_true rfl) d94 ⟨(Nat.le_of_ble_eq_true rfl), (Nat.le_of_ble_eq_true rfl)⟩ ⟨(Nat.le_of_ble_eq_true rfl), (Nat.le_of_ble_eq_true rfl)⟩ e0) (Nat.le_of_ble_eq_true rfl) (Nat.le_of_ble_eq_true rfl) (fun h9 H locs hR hS hf => ?_)
    refine lv_iinc (v := (x2 + 1)) (lv' := [(2, .int (x2 + 1)), (0, .ref (xa E r0)), (1, .ref (xa E r1))]) hx hb d97 hl (k := 2) rfl rfl (by decide) rfl (fun ls hl => ?_)
    refine lv_goto (tgt := 76) hx hb d100 (by decide) ?_
    exact hk76 _ _ _ _ _ _ _ hR hS (lv_sub hl [1, 2, 0] rfl) hf
theorem s_X1_findLimits_L76 {p : Program} {l : Launch} {e : Env} {s : State} {m : MethodId} {args : Array Value} {below : List Frame} {meth : Method} {c : Code} {E : XE} {z : XR} (C0 : x_C E p l s m meth c args cX1_findLimits 4 "GridEngine$Contributions" "findLimits" none) (hxt : ∀ x ∈ c.exceptionTable.toList, False)  : ∀ n : Nat, ∀ (h : HP) (r0 : Nat) (r1 : Nat) (x2 : Int32) (H : Heap) (locs : List Loc) (ls : Array Slot), x_Rep E h H → va_S (x_A E) s.heap H locs → lv_has ls 4 [(0, .ref (xa E r0)), (1, .ref (xa E r1)), (2, .int x2)] → f_X1_findLimits_L76 n h r0 r1 x2 = some z → W p l e ({ frames := 13, cells := 0, slots := 0, locals := 258 } : Room) s m args below meth c H locs 0 0 (x_Q E below args s 0 0 z) (F0 m 76 ls []) := by
  intro n
  induction n with
  | zero => intro h r0 r1 x2 H locs ls hR hS hl hf; cases (show (none : Option XR) = some z from hf)
  | succ n ih => intro h r0 r1 x2 H locs ls hR hS hl hf; exact s_X1_findLimits_b76 C0 hxt ih h r0 r1 x2 H locs ls hR hS hl (show f_X1_findLimits_b76 (f_X1_findLimits_L76 n) h r0 r1 x2 = some z from hf)
set_option maxRecDepth 100000 in
set_option maxHeartbeats 4000000 in
theorem s_X1_findLimits_b20 {p : Program} {l : Launch} {e : Env} {s : State} {m : MethodId} {args : Array Value} {below : List Frame} {meth : Method} {c : Code} {E : XE} {z : XR} (C0 : x_C E p l s m meth c args cX1_findLimits 4 "GridEngine$Contributions" "findLimits" none) (hxt : ∀ x ∈ c.exceptionTable.toList, False) {k20 : HP → Nat → Nat → Int32 → Option XR} (hk20 : ∀ (h : HP) (r0 : Nat) (r1 : Nat) (x2 : Int32) (H : Heap) (locs : List Loc) (ls : Array Slot), x_Rep E h H → va_S (x_A E) s.heap H locs → lv_has ls 4 [(0, .ref (xa E r0)), (1, .ref (xa E r1)), (2, .int x2)] → k20 h r0 r1 x2 = some z → W p l e ({ frames := 13, cells := 0, slots := 0, locals := 258 } : Room) s m args below meth c H locs 0 0 (x_Q E below args s 0 0 z) (F0 m 20 ls [])) : ∀ (h : HP) (r0 : Nat) (r1 : Nat) (x2 : Int32) (H : Heap) (locs : List Loc) (ls : Array Slot), x_Rep E h H → va_S (x_A E) s.heap H locs → lv_has ls 4 [(0, .ref (xa E r0)), (1, .ref (xa E r1)), (2, .int x2)] → f_X1_findLimits_b20 k20 h r0 r1 x2 = some z → W p l e ({ frames := 13, cells := 0, slots := 0, locals := 258 } : Room) s m args below meth c H locs 0 0 (x_Q E below args s 0 0 z) (F0 m 20 ls []) := by
  intro h r0 r1 x2 H locs ls hR hS hl hf
  obtain ⟨hx, hb, -⟩ := id C0
  unfold f_X1_findLimits_b20 at hf
  have h0 : x_by cX1_findLimits 20 [28, 43, 180, 0, 33, 163, 0, 49] := by unfold x_by; decide +kernel
  obtain ⟨d20, h0⟩ := de_iload_n2 h0
  obtain ⟨d21, h0⟩ := de_aload_n1 h0
  obtain ⟨d22, h0⟩ := de_getfield 33 (by decide) h0
  obtain ⟨d25, h0⟩ := de_icmp_gt (49) (by decide) h0
  refine lv_iload_n hx hb d20 rfl (lv_at hl 2 rfl) ?_
  refine lv_aload_n hx hb d21 rfl (lv_at hl 1 rfl) ?_
  refine x_getI C0 hR hf xcl_0 (Nat.le_of_ble_eq_true rfl) rfl fl_X1_33 d22 (fun i1 hf => ?_)
  refine lv_icmp_gt (tgt := 74) hx hb d25 (by decide) (fun q => ?_) (fun q => ?_)
  · have hf := x_pos q hf
    have h0 : x_by cX1_findLimits 74 [4, 61] := by unfold x_by; decide +kernel
    obtain ⟨d74, h0⟩ := de_iconst_1 h0
    obtain ⟨d75, h0⟩ := de_istore_n2 h0
    refine lv_iconst (v := 1) hx hb d74 (by decide) ?_
    refine lv_istore_n (lv' := [(2, .int 1), (0, .ref (xa E r0)), (1, .ref (xa E r1))]) hx hb d75 rfl hl (by decide) rfl (fun ls hl => ?_)
    exact s_X1_findLimits_L76 C0 hxt FU _ _ _ _ _ _ _ hR hS (lv_sub hl [1, 2, 0] rfl) hf
  · have hf := x_neg q hf
    have h0 : x_by cX1_findLimits 28 [43, 28, 182, 0, 37, 153, 0, 35] := by unfold x_by; decide +kernel
    obtain ⟨d28, h0⟩ := de_aload_n1 h0
    obtain ⟨d29, h0⟩ := de_iload_n2 h0
    obtain ⟨d30, h0⟩ := de_invokevirtual 37 (by decide) h0
    obtain ⟨d33, h0⟩ := de_if_eq (35) (by decide) h0
    refine lv_aload_n hx hb d28 rfl (lv_at hl 1 rfl) ?_
    refine lv_iload_n hx hb d29 rfl (lv_at hl 2 rfl) ?_
    obtain ⟨hs9, hf⟩ := x_if hf
    refine x_thenI C0 hxt hS hf (fun z0 e0 => x_runV C0 hR hS me_X0_isOpen wi_X0_isOpen wl_X0_isOpen ml_X1_37 hs9 xcl_0 (As := [.int x2]) (ct_X0_isOpen E l C0.2.2.2.2.2.2.2.1 _ r1 x2) rfl rfl hl.1 (Nat.le_of_ble_eq_true rfl) d30 ⟨(Nat.le_of_ble_eq_true rfl), (Nat.le_of_ble_eq_true rfl)⟩ ⟨(Nat.le_of_ble_eq_true rfl), (Nat.le_of_ble_eq_true rfl)⟩ e0) (Nat.le_of_ble_eq_true rfl) (Nat.le_of_ble_eq_true rfl) (fun h9 i2 H locs hR hS hf => ?_)
    refine lv_if_eq (tgt := 68) hx hb d33 (by decide) (fun q => ?_) (fun q => ?_)
    · have hf := x_pos q hf
      exact s_X1_findLimits_b68 C0 hxt hk20 _ _ _ _ _ _ _ hR hS (lv_sub hl [0, 1, 2] rfl) hf
    · have hf := x_neg q hf
      have h0 : x_by cX1_findLimits 36 [43, 28, 5, 182, 0, 41, 154, 0, 26] := by unfold x_by; decide +kernel
      obtain ⟨d36, h0⟩ := de_aload_n1 h0
      obtain ⟨d37, h0⟩ := de_iload_n2 h0
      obtain ⟨d38, h0⟩ := de_iconst_2 h0
      obtain ⟨d39, h0⟩ := de_invokevirtual 41 (by decide) h0
      obtain ⟨d42, h0⟩ := de_if_ne (26) (by decide) h0
      refine lv_aload_n hx hb d36 rfl (lv_at hl 1 rfl) ?_
      refine lv_iload_n hx hb d37 rfl (lv_at hl 2 rfl) ?_
      refine lv_iconst (v := 2) hx hb d38 (by decide) ?_
      obtain ⟨hs9, hf⟩ := x_if hf
      refine x_thenI C0 hxt hS hf (fun z0 e0 => x_runV C0 hR hS me_X0_part wi_X0_part wl_X0_part ml_X1_41 hs9 xcl_0 (As := [.int x2, .int 2]) (ct_X0_part E l C0.2.2.2.2.2.2.2.1 _ r1 x2 2) rfl rfl hl.1 (Nat.le_of_ble_eq_true rfl) d39 ⟨(Nat.le_of_ble_eq_true rfl), (Nat.le_of_ble_eq_true rfl)⟩ ⟨(Nat.le_of_ble_eq_true rfl), (Nat.le_of_ble_eq_true rfl)⟩ e0) (Nat.le_of_ble_eq_true rfl) (Nat.le_of_ble_eq_true rfl) (fun h9 i4 H locs hR hS hf => ?_)
      refine lv_if_ne (tgt := 68) hx hb d42 (by decide) (fun q => ?_) (fun q => ?_)
      · have hf := x_neg q hf
        exact s_X1_findLimits_b68 C0 hxt hk20 _ _ _ _ _ _ _ hR hS (lv_sub hl [0, 1, 2] rfl) hf
      · have hf := x_pos q hf
        have h0 : x_by cX1_findLimits 45 [43, 28, 6, 182, 0, 41, 62, 43, 180, 0, 53, 28, 43, 180, 0, 22, 28, 46, 29, 184, 0, 62, 79] := by unfold x_by; decide +kernel
        obtain ⟨d45, h0⟩ := de_aload_n1 h0
        obtain ⟨d46, h0⟩ := de_iload_n2 h0
        obtain ⟨d47, h0⟩ := de_iconst_3 h0
        obtain ⟨d48, h0⟩ := de_invokevirtual 41 (by decide) h0
        obtain ⟨d51, h0⟩ := de_istore_n3 h0
        obtain ⟨d52, h0⟩ := de_aload_n1 h0
        obtain ⟨d53, h0⟩ := de_getfield 53 (by decide) h0
        obtain ⟨d56, h0⟩ := de_iload_n2 h0
        obtain ⟨d57, h0⟩ := de_aload_n1 h0
        obtain ⟨d58, h0⟩ := de_getfield 22 (by decide) h0
        obtain ⟨d61, h0⟩ := de_iload_n2 h0
        obtain ⟨d62, h0⟩ := de_iaload h0
        obtain ⟨d63, h0⟩ := de_iload_n3 h0
        obtain ⟨d64, h0⟩ := de_invokestatic 62 (by decide) h0
        obtain ⟨d67, h0⟩ := de_iastore h0
        refine lv_aload_n hx hb d45 rfl (lv_at hl 1 rfl) ?_
        refine lv_iload_n hx hb d46 rfl (lv_at hl 2 rfl) ?_
        refine lv_iconst (v := 3) hx hb d47 (by decide) ?_
        obtain ⟨hs9, hf⟩ := x_if hf
        refine x_thenI C0 hxt hS hf (fun z0 e0 => x_runV C0 hR hS me_X0_part wi_X0_part wl_X0_part ml_X1_41 hs9 xcl_0 (As := [.int x2, .int 3]) (ct_X0_part E l C0.2.2.2.2.2.2.2.1 _ r1 x2 3) rfl rfl hl.1 (Nat.le_of_ble_eq_true rfl) d48 ⟨(Nat.le_of_ble_eq_true rfl), (Nat.le_of_ble_eq_true rfl)⟩ ⟨(Nat.le_of_ble_eq_true rfl), (Nat.le_of_ble_eq_true rfl)⟩ e0) (Nat.le_of_ble_eq_true rfl) (Nat.le_of_ble_eq_true rfl) (fun h9 i6 H locs hR hS hf => ?_)
        refine lv_istore_n (lv' := [(3, .int i6), (0, .ref (xa E r0)), (1, .ref (xa E r1)), (2, .int x2)]) hx hb d51 rfl hl (by decide) rfl (fun ls hl => ?_)
        refine lv_aload_n hx hb d52 rfl (lv_at hl 2 rfl) ?_
        refine x_getR C0 hR hf xcl_0 (Nat.le_of_ble_eq_true rfl) rfl fl_X1_53 d53 (fun a8 hf => ?_)
        refine lv_iload_n hx hb d56 rfl (lv_at hl 3 rfl) ?_
        refine lv_aload_n hx hb d57 rfl (lv_at hl 2 rfl) ?_
        refine x_getR C0 hR hf xcl_0 (Nat.le_of_ble_eq_true rfl) rfl fl_X1_22 d58 (fun a9 hf => ?_)
        refine lv_iload_n hx hb d61 rfl (lv_at hl 3 rfl) ?_
        refine x_iald C0 hR hf d62 (fun i10 hf => ?_)
        refine lv_iload_n hx hb d63 rfl (lv_at hl 0 rfl) ?_
        refine x_mmax C0 hl.1 ml_X1_62 lib_max (Nat.le_of_ble_eq_true rfl) (Nat.le_of_ble_eq_true rfl) (Nat.le_of_ble_eq_true rfl) (Nat.le_of_ble_eq_true rfl) d64 ?_
        refine x_iast C0 hR hS hf d67 (fun H locs hR hS hf => ?_)
        exact s_X1_findLimits_b68 C0 hxt hk20 _ _ _ _ _ _ _ hR hS (lv_sub hl [1, 2, 3] rfl) hf
theorem s_X1_findLimits_L20 {p : Program} {l : Launch} {e : Env} {s : State} {m : MethodId} {args : Array Value} {below : List Frame} {meth : Method} {c : Code} {E : XE} {z : XR} (C0 : x_C E p l s m meth c args cX1_findLimits 4 "GridEngine$Contributions" "findLimits" none) (hxt : ∀ x ∈ c.exceptionTable.toList, False)  : ∀ n : Nat, ∀ (h : HP) (r0 : Nat) (r1 : Nat) (x2 : Int32) (H : Heap) (locs : List Loc) (ls : Array Slot), x_Rep E h H → va_S (x_A E) s.heap H locs → lv_has ls 4 [(0, .ref (xa E r0)), (1, .ref (xa E r1)), (2, .int x2)] → f_X1_findLimits_L20 n h r0 r1 x2 = some z → W p l e ({ frames := 13, cells := 0, slots := 0, locals := 258 } : Room) s m args below meth c H locs 0 0 (x_Q E below args s 0 0 z) (F0 m 20 ls []) := by
  intro n
  induction n with
  | zero => intro h r0 r1 x2 H locs ls hR hS hl hf; cases (show (none : Option XR) = some z from hf)
  | succ n ih => intro h r0 r1 x2 H locs ls hR hS hl hf; exact s_X1_findLimits_b20 C0 hxt ih h r0 r1 x2 H locs ls hR hS hl (show f_X1_findLimits_b20 (f_X1_findLimits_L20 n) h r0 r1 x2 = some z from hf)
set_option maxRecDepth 100000 in
set_option maxHeartbeats 4000000 in
theorem ct_X1_findLimits (E : XE) (l : Launch) (hl0 : l.stackTraces = false) (h : HP) (r0 : Nat) (r1 : Nat) : x_ct E l yX1_findLimits (Cond.code yX1_findLimits cX1_findLimits 4 none) 13 258 0 0 [.ref (xa E r0), .ref (xa E r1)] h (f_X1_findLimits h r0 r1) := by
  refine x_ofW hl0 (by decide +kernel) ?_
  intro z hf p e s m args below meth c C0 hxt hargs hR
  subst hargs
  have C0 : x_C E p l s m meth c ([.ref (xa E r0), .ref (xa E r1)] : List Value).toArray cX1_findLimits 4 "GridEngine$Contributions" "findLimits" none := C0
  obtain ⟨hx, hb, -⟩ := id C0
  have hS : va_S (x_A E) s.heap s.heap [] := va_S.rf
  have hl := lv_entry ([.ref (xa E r0), .ref (xa E r1)]) (n := 4) (Nat.le_of_ble_eq_true rfl)
  rw [lg_entry_eq]
  generalize (lg_sl ([.ref (xa E r0), .ref (xa E r1)]) ++ List.replicate (4 - (lg_sl ([.ref (xa E r0), .ref (xa E r1)])).length) Slot.unset).toArray = ls at hl ⊢
  have hl : lv_has ls 4 [(0, .ref (xa E r0)), (1, .ref (xa E r1))] := hl
  unfold f_X1_findLimits at hf
  have h0 : x_by cX1_findLimits 0 [43, 180, 0, 22, 3, 43, 180, 0, 53, 3, 43, 180, 0, 53, 190, 184, 0, 56, 4, 61] := by unfold x_by; decide +kernel
  obtain ⟨d0, h0⟩ := de_aload_n1 h0
  obtain ⟨d1, h0⟩ := de_getfield 22 (by decide) h0
  obtain ⟨d4, h0⟩ := de_iconst_0 h0
  obtain ⟨d5, h0⟩ := de_aload_n1 h0
  obtain ⟨d6, h0⟩ := de_getfield 53 (by decide) h0
  obtain ⟨d9, h0⟩ := de_iconst_0 h0
  obtain ⟨d10, h0⟩ := de_aload_n1 h0
  obtain ⟨d11, h0⟩ := de_getfield 53 (by decide) h0
  obtain ⟨d14, h0⟩ := de_arraylength h0
  obtain ⟨d15, h0⟩ := de_invokestatic 56 (by decide) h0
  obtain ⟨d18, h0⟩ := de_iconst_1 h0
  obtain ⟨d19, h0⟩ := de_istore_n2 h0
  refine lv_aload_n hx hb d0 rfl (lv_at hl 1 rfl) ?_
  refine x_getR C0 hR hf xcl_0 (Nat.le_of_ble_eq_true rfl) rfl fl_X1_22 d1 (fun a1 hf => ?_)
  refine lv_iconst (v := 0) hx hb d4 (by decide) ?_
  refine lv_aload_n hx hb d5 rfl (lv_at hl 1 rfl) ?_
  refine x_getR C0 hR hf xcl_0 (Nat.le_of_ble_eq_true rfl) rfl fl_X1_53 d6 (fun a2 hf => ?_)
  refine lv_iconst (v := 0) hx hb d9 (by decide) ?_
  refine lv_aload_n hx hb d10 rfl (lv_at hl 1 rfl) ?_
  refine x_getR C0 hR hf xcl_0 (Nat.le_of_ble_eq_true rfl) rfl fl_X1_53 d11 (fun a3 hf => ?_)
  refine x_alen C0 hR hf d14 (fun i4 hf => ?_)
  refine x_acopy C0 hR hS hl.1 hf ml_X1_56 lib_acopy (Nat.le_of_ble_eq_true rfl) (Nat.le_of_ble_eq_true rfl) d15 (fun H locs hR hS hf => ?_)
  refine lv_iconst (v := 1) hx hb d18 (by decide) ?_
  refine lv_istore_n (lv' := [(2, .int 1), (0, .ref (xa E r0)), (1, .ref (xa E r1))]) hx hb d19 rfl hl (by decide) rfl (fun ls hl => ?_)
  exact s_X1_findLimits_L20 C0 hxt FU _ _ _ _ _ _ _ hR hS (lv_sub hl [1, 2, 0] rfl) hf

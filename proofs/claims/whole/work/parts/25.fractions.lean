def f_X3_init (h : HP) (r0 : Nat) : Option XR :=
  x_na h 2 65 fun h2 a1 =>
  x_pR h2 r0 3 0 a1 fun h3 =>
  x_na h3 3 65 fun h5 a4 =>
  x_pR h5 r0 3 1 a4 fun h6 =>
  x_pJ h6 r0 3 2 0 fun h7 =>
  x_pJ h7 r0 3 3 0 fun h8 =>
  x_pJ h8 r0 3 4 0 fun h9 =>
  x_pJ h9 r0 3 5 1 fun h10 =>
  some (h10, xv)
set_option maxRecDepth 100000 in
set_option maxHeartbeats 4000000 in
theorem ct_X3_init (E : XE) (l : Launch) (hl0 : l.stackTraces = false) (h : HP) (r0 : Nat) : x_ct E l yX3_init (Cond.code yX3_init cX3_init 1 none) 8 130 2 130 [.ref (xa E r0)] h (f_X3_init h r0) := by
  refine x_ofW hl0 (by decide +kernel) ?_
  intro z hf p e s m args below meth c C0 hxt hargs hR
  subst hargs
  have C0 : x_C E p l s m meth c ([.ref (xa E r0)] : List Value).toArray cX3_init 1 "GridEngine$Fractions" "<init>" none := C0
  obtain ⟨hx, hb, -⟩ := id C0
  have hS : va_S (x_A E) s.heap s.heap [] := va_S.rf
  have hl := lv_entry ([.ref (xa E r0)]) (n := 1) (Nat.le_of_ble_eq_true rfl)
  rw [lg_entry_eq]
  generalize (lg_sl ([.ref (xa E r0)]) ++ List.replicate (1 - (lg_sl ([.ref (xa E r0)])).length) Slot.unset).toArray = ls at hl ⊢
  have hl : lv_has ls 1 [(0, .ref (xa E r0))] := hl
  unfold f_X3_init at hf
  have h0 : x_by cX3_init 0 [42, 183, 0, 3, 42, 16, 65, 188, 4, 181, 0, 9, 42, 16, 65, 188, 11, 181, 0, 15, 42, 9, 181, 0, 19, 42, 9, 181, 0, 23, 42, 9, 181, 0, 26, 42, 10, 181, 0, 29, 177] := by unfold x_by; decide +kernel
  obtain ⟨d0, h0⟩ := de_aload_n0 h0
  obtain ⟨d1, h0⟩ := de_invokespecial 3 (by decide) h0
  obtain ⟨d4, h0⟩ := de_aload_n0 h0
  obtain ⟨d5, h0⟩ := de_bipush (65) (by decide) h0
  obtain ⟨d7, h0⟩ := de_newarray_boolean h0
  obtain ⟨d9, h0⟩ := de_putfield 9 (by decide) h0
  obtain ⟨d12, h0⟩ := de_aload_n0 h0
  obtain ⟨d13, h0⟩ := de_bipush (65) (by decide) h0
  obtain ⟨d15, h0⟩ := de_newarray_long h0
  obtain ⟨d17, h0⟩ := de_putfield 15 (by decide) h0
  obtain ⟨d20, h0⟩ := de_aload_n0 h0
  obtain ⟨d21, h0⟩ := de_lconst_0 h0
  obtain ⟨d22, h0⟩ := de_putfield 19 (by decide) h0
  obtain ⟨d25, h0⟩ := de_aload_n0 h0
  obtain ⟨d26, h0⟩ := de_lconst_0 h0
  obtain ⟨d27, h0⟩ := de_putfield 23 (by decide) h0
  obtain ⟨d30, h0⟩ := de_aload_n0 h0
  obtain ⟨d31, h0⟩ := de_lconst_0 h0
  obtain ⟨d32, h0⟩ := de_putfield 26 (by decide) h0
  obtain ⟨d35, h0⟩ := de_aload_n0 h0
  obtain ⟨d36, h0⟩ := de_lconst_1 h0
  obtain ⟨d37, h0⟩ := de_putfield 29 (by decide) h0
  obtain ⟨d40, h0⟩ := de_return h0
  refine lv_aload_n hx hb d0 rfl (lv_at hl 0 rfl) ?_
  refine x_oinit C0 hl.1 ml_X3_3 lib_oinit (Nat.le_of_ble_eq_true rfl) (Nat.le_of_ble_eq_true rfl) d1 ?_
  refine lv_aload_n hx hb d4 rfl (lv_at hl 0 rfl) ?_
  refine lv_bipush (v := 65) hx hb d5 (by decide) ?_
  refine x_newa (t := 2) C0 hR hS hf rfl (by decide) ac_2 (N := 65) (by decide) (Nat.le_of_ble_eq_true rfl) (Nat.le_of_ble_eq_true rfl) d7 (fun H a1 hR hS hf => ?_)
  refine x_putR C0 hR hS hf xcl_3 (Nat.le_of_ble_eq_true rfl) rfl fl_X3_9 (Or.inr ⟨rfl, rfl, fm_X3_9⟩) d9 (fun H locs hR hS hf => ?_)
  refine lv_aload_n hx hb d12 rfl (lv_at hl 0 rfl) ?_
  refine lv_bipush (v := 65) hx hb d13 (by decide) ?_
  refine x_newa (t := 3) C0 hR hS hf rfl (by decide) ac_3 (N := 65) (by decide) (Nat.le_of_ble_eq_true rfl) (Nat.le_of_ble_eq_true rfl) d15 (fun H a4 hR hS hf => ?_)
  refine x_putR C0 hR hS hf xcl_3 (Nat.le_of_ble_eq_true rfl) rfl fl_X3_15 (Or.inr ⟨rfl, rfl, fm_X3_15⟩) d17 (fun H locs hR hS hf => ?_)
  refine lv_aload_n hx hb d20 rfl (lv_at hl 0 rfl) ?_
  refine lv_lconst (v := 0) hx hb d21 (by decide) ?_
  refine x_putJ C0 hR hS hf xcl_3 (Nat.le_of_ble_eq_true rfl) rfl fl_X3_19 (Or.inl rfl) d22 (fun H locs hR hS hf => ?_)
  refine lv_aload_n hx hb d25 rfl (lv_at hl 0 rfl) ?_
  refine lv_lconst (v := 0) hx hb d26 (by decide) ?_
  refine x_putJ C0 hR hS hf xcl_3 (Nat.le_of_ble_eq_true rfl) rfl fl_X3_23 (Or.inl rfl) d27 (fun H locs hR hS hf => ?_)
  refine lv_aload_n hx hb d30 rfl (lv_at hl 0 rfl) ?_
  refine lv_lconst (v := 0) hx hb d31 (by decide) ?_
  refine x_putJ C0 hR hS hf xcl_3 (Nat.le_of_ble_eq_true rfl) rfl fl_X3_26 (Or.inl rfl) d32 (fun H locs hR hS hf => ?_)
  refine lv_aload_n hx hb d35 rfl (lv_at hl 0 rfl) ?_
  refine lv_lconst (v := 1) hx hb d36 (by decide) ?_
  refine x_putJ C0 hR hS hf xcl_3 (Nat.le_of_ble_eq_true rfl) rfl fl_X3_29 (Or.inl rfl) d37 (fun H locs hR hS hf => ?_)
  exact x_vret C0 hR hS hf (Nat.le_of_ble_eq_true rfl) (Nat.le_of_ble_eq_true rfl) d40
def f_X3_findLeftover_b73 (k21 : HP → Nat → Nat → Int32 → Option XR) (h : HP) (r0 : Nat) (r1 : Nat) (x2 : Int32) : Option XR :=
  k21 h r0 r1 (x2 + 1)
def f_X3_findLeftover_b21 (k21 : HP → Nat → Nat → Int32 → Option XR) (h : HP) (r0 : Nat) (r1 : Nat) (x2 : Int32) : Option XR :=
  x_gI h r1 0 10 fun i1 =>
  if i1 < x2 then
    (
      some (h, xv)
    )
  else
    (
      x_gR h r0 3 0 fun a2 =>
      x_aI h 102 a2 x2 fun i3 =>
      if i3 = 0 then
        (
          x_gJ h r0 3 2 fun j4 =>
          x_rc h r1 0 <| x_cI (f_X0_trackSize h r1 x2 3) fun h6 i5 =>
          x_pJ h6 r0 3 2 (j4 - (i5 : Int32).toInt64) fun h7 =>
          f_X3_findLeftover_b73 k21 h7 r0 r1 x2
        )
      else
        (
          x_gJ h r0 3 3 fun j8 =>
          x_rc h r1 0 <| x_cI (f_X0_part h r1 x2 3) fun h10 i9 =>
          x_pJ h10 r0 3 3 (j8 + (i9 : Int32).toInt64) fun h11 =>
          f_X3_findLeftover_b73 k21 h11 r0 r1 x2
        )
    )
def f_X3_findLeftover_L21  : Nat → HP → Nat → Nat → Int32 → Option XR
  | 0 => fun _ _ _ _ => none
  | n + 1 => f_X3_findLeftover_b21 (f_X3_findLeftover_L21 n)
def f_X3_findLeftover (h : HP) (r0 : Nat) (r1 : Nat) : Option XR :=
  x_gI h r1 0 14 fun i1 =>
  x_gI h r1 0 13 fun i2 =>
  x_pJ h r0 3 2 (((i1 - i2) : Int32).toInt64) fun h3 =>
  x_pJ h3 r0 3 3 0 fun h4 =>
  f_X3_findLeftover_L21 FU h4 r0 r1 1
set_option maxRecDepth 100000 in
set_option maxHeartbeats 4000000 in
theorem s_X3_findLeftover_b73 {p : Program} {l : Launch} {e : Env} {s : State} {m : MethodId} {args : Array Value} {below : List Frame} {meth : Method} {c : Code} {E : XE} {z : XR} (C0 : x_C E p l s m meth c args cX3_findLeftover 3 "GridEngine$Fractions" "findLeftover" none) (hxt : ∀ x ∈ c.exceptionTable.toList, False) {k21 : HP → Nat → Nat → Int32 → Option XR} (hk21 : ∀ (h : HP) (r0 : Nat) (r1 : Nat) (x2 : Int32) (H : Heap) (locs : List Loc) (ls : Array Slot), x_Rep E h H → va_S (x_A E) s.heap H locs → lv_has ls 3 [(0, .ref (xa E r0)), (1, .ref (xa E r1)), (2, .int x2)] → k21 h r0 r1 x2 = some z → W p l e ({ frames := 10, cells := 0, slots := 0, locals := 177 } : Room) s m args below meth c H locs 0 0 (x_Q E below args s 0 0 z) (F0 m 21 ls [])) : ∀ (h : HP) (r0 : Nat) (r1 : Nat) (x2 : Int32) (H : Heap) (locs : List Loc) (ls : Array Slot), x_Rep E h H → va_S (x_A E) s.heap H locs → lv_has ls 3 [(0, .ref (xa E r0)), (1, .ref (xa E r1)), (2, .int x2)] → f_X3_findLeftover_b73 k21 h r0 r1 x2 = some z → W p l e ({ frames := 10, cells := 0, slots := 0, locals := 177 } : Room) s m args below meth c H locs 0 0 (x_Q E below args s 0 0 z) (F0 m 73 ls []) := by
  intro h r0 r1 x2 H locs ls hR hS hl hf
  obtain ⟨hx, hb, -⟩ := id C0
  unfold f_X3_findLeftover_b73 at hf
  have h0 : x_by cX3_findLeftover 73 [132, 2, 1, 167, 255, 201] := by unfold x_by; decide +kernel
  obtain ⟨d73, h0⟩ := de_iinc (1) (by decide) h0
  obtain ⟨d76, h0⟩ := de_goto (-55) (by decide) h0
  refine lv_iinc (v := (x2 + 1)) (lv' := [(2, .int (x2 + 1)), (0, .ref (xa E r0)), (1, .ref (xa E r1))]) hx hb d73 hl (k := 2) rfl rfl (by decide) rfl (fun ls hl => ?_)
  refine lv_goto (tgt := 21) hx hb d76 (by decide) ?_
  exact hk21 _ _ _ _ _ _ _ hR hS (lv_sub hl [1, 2, 0] rfl) hf
set_option maxRecDepth 100000 in
set_option maxHeartbeats 4000000 in
theorem s_X3_findLeftover_b21 {p : Program} {l : Launch} {e : Env} {s : State} {m : MethodId} {args : Array Value} {below : List Frame} {meth : Method} {c : Code} {E : XE} {z : XR} (C0 : x_C E p l s m meth c args cX3_findLeftover 3 "GridEngine$Fractions" "findLeftover" none) (hxt : ∀ x ∈ c.exceptionTable.toList, False) {k21 : HP → Nat → Nat → Int32 → Option XR} (hk21 : ∀ (h : HP) (r0 : Nat) (r1 : Nat) (x2 : Int32) (H : Heap) (locs : List Loc) (ls : Array Slot), x_Rep E h H → va_S (x_A E) s.heap H locs → lv_has ls 3 [(0, .ref (xa E r0)), (1, .ref (xa E r1)), (2, .int x2)] → k21 h r0 r1 x2 = some z → W p l e ({ frames := 10, cells := 0, slots := 0, locals := 177 } : Room) s m args below meth c H locs 0 0 (x_Q E below args s 0 0 z) (F0 m 21 ls [])) : ∀ (h : HP) (r0 : Nat) (r1 : Nat) (x2 : Int32) (H : Heap) (locs : List Loc) (ls : Array Slot), x_Rep E h H → va_S (x_A E) s.heap H locs → lv_has ls 3 [(0, .ref (xa E r0)), (1, .ref (xa E r1)), (2, .int x2)] → f_X3_findLeftover_b21 k21 h r0 r1 x2 = some z → W p l e ({ frames := 10, cells := 0, slots := 0, locals := 177 } : Room) s m args below meth c H locs 0 0 (x_Q E below args s 0 0 z) (F0 m 21 ls []) := by
  intro h r0 r1 x2 H locs ls hR hS hl hf
  obtain ⟨hx, hb, -⟩ := id C0
  unfold f_X3_findLeftover_b21 at hf
  have h0 : x_by cX3_findLeftover 21 [28, 43, 180, 0, 47, 163, 0, 53] := by unfold x_by; decide +kernel
  obtain ⟨d21, h0⟩ := de_iload_n2 h0
  obtain ⟨d22, h0⟩ := de_aload_n1 h0
  obtain ⟨d23, h0⟩ := de_getfield 47 (by decide) h0
  obtain ⟨d26, h0⟩ := de_icmp_gt (53) (by decide) h0
  refine lv_iload_n hx hb d21 rfl (lv_at hl 2 rfl) ?_
  refine lv_aload_n hx hb d22 rfl (lv_at hl 1 rfl) ?_
  refine x_getI C0 hR hf xcl_0 (Nat.le_of_ble_eq_true rfl) rfl fl_X3_47 d23 (fun i1 hf => ?_)
  refine lv_icmp_gt (tgt := 79) hx hb d26 (by decide) (fun q => ?_) (fun q => ?_)
  · have hf := x_pos q hf
    have h0 : x_by cX3_findLeftover 79 [177] := by unfold x_by; decide +kernel
    obtain ⟨d79, h0⟩ := de_return h0
    exact x_vret C0 hR hS hf (Nat.le_of_ble_eq_true rfl) (Nat.le_of_ble_eq_true rfl) d79
  · have hf := x_neg q hf
    have h0 : x_by cX3_findLeftover 29 [42, 180, 0, 9, 28, 51, 153, 0, 22] := by unfold x_by; decide +kernel
    obtain ⟨d29, h0⟩ := de_aload_n0 h0
    obtain ⟨d30, h0⟩ := de_getfield 9 (by decide) h0
    obtain ⟨d33, h0⟩ := de_iload_n2 h0
    obtain ⟨d34, h0⟩ := de_baload h0
    obtain ⟨d35, h0⟩ := de_if_eq (22) (by decide) h0
    refine lv_aload_n hx hb d29 rfl (lv_at hl 0 rfl) ?_
    refine x_getR C0 hR hf xcl_3 (Nat.le_of_ble_eq_true rfl) rfl fl_X3_9 d30 (fun a2 hf => ?_)
    refine lv_iload_n hx hb d33 rfl (lv_at hl 2 rfl) ?_
    refine x_zald C0 hR hf d34 (fun i3 hf => ?_)
    refine lv_if_eq (tgt := 57) hx hb d35 (by decide) (fun q => ?_) (fun q => ?_)
    · have hf := x_pos q hf
      have h0 : x_by cX3_findLeftover 57 [42, 89, 180, 0, 19, 43, 28, 6, 182, 0, 88, 133, 101, 181, 0, 19] := by unfold x_by; decide +kernel
      obtain ⟨d57, h0⟩ := de_aload_n0 h0
      obtain ⟨d58, h0⟩ := de_dup h0
      obtain ⟨d59, h0⟩ := de_getfield 19 (by decide) h0
      obtain ⟨d62, h0⟩ := de_aload_n1 h0
      obtain ⟨d63, h0⟩ := de_iload_n2 h0
      obtain ⟨d64, h0⟩ := de_iconst_3 h0
      obtain ⟨d65, h0⟩ := de_invokevirtual 88 (by decide) h0
      obtain ⟨d68, h0⟩ := de_i2l h0
      obtain ⟨d69, h0⟩ := de_lsub h0
      obtain ⟨d70, h0⟩ := de_putfield 19 (by decide) h0
      refine lv_aload_n hx hb d57 rfl (lv_at hl 0 rfl) ?_
      refine lv_dup hx hb d58 rfl ?_
      refine x_getJ C0 hR hf xcl_3 (Nat.le_of_ble_eq_true rfl) rfl fl_X3_19 d59 (fun j4 hf => ?_)
      refine lv_aload_n hx hb d62 rfl (lv_at hl 1 rfl) ?_
      refine lv_iload_n hx hb d63 rfl (lv_at hl 2 rfl) ?_
      refine lv_iconst (v := 3) hx hb d64 (by decide) ?_
      obtain ⟨hs9, hf⟩ := x_if hf
      refine x_thenI C0 hxt hS hf (fun z0 e0 => x_runV C0 hR hS me_X0_trackSize wi_X0_trackSize wl_X0_trackSize ml_X3_88 hs9 xcl_0 (As := [.int x2, .int 3]) (ct_X0_trackSize E l C0.2.2.2.2.2.2.2.1 _ r1 x2 3) rfl rfl hl.1 (Nat.le_of_ble_eq_true rfl) d65 ⟨(Nat.le_of_ble_eq_true rfl), (Nat.le_of_ble_eq_true rfl)⟩ ⟨(Nat.le_of_ble_eq_true rfl), (Nat.le_of_ble_eq_true rfl)⟩ e0) (Nat.le_of_ble_eq_true rfl) (Nat.le_of_ble_eq_true rfl) (fun h9 i5 H locs hR hS hf => ?_)
      refine lv_i2l hx hb d68 rfl ?_
      refine lv_lsub hx hb d69 ?_
      refine x_putJ C0 hR hS hf xcl_3 (Nat.le_of_ble_eq_true rfl) rfl fl_X3_19 (Or.inl rfl) d70 (fun H locs hR hS hf => ?_)
      exact s_X3_findLeftover_b73 C0 hxt hk21 _ _ _ _ _ _ _ hR hS (lv_sub hl [0, 1, 2] rfl) hf
    · have hf := x_neg q hf
      have h0 : x_by cX3_findLeftover 38 [42, 89, 180, 0, 23, 43, 28, 6, 182, 0, 84, 133, 97, 181, 0, 23, 167, 0, 19] := by unfold x_by; decide +kernel
      obtain ⟨d38, h0⟩ := de_aload_n0 h0
      obtain ⟨d39, h0⟩ := de_dup h0
      obtain ⟨d40, h0⟩ := de_getfield 23 (by decide) h0
      obtain ⟨d43, h0⟩ := de_aload_n1 h0
      obtain ⟨d44, h0⟩ := de_iload_n2 h0
      obtain ⟨d45, h0⟩ := de_iconst_3 h0
      obtain ⟨d46, h0⟩ := de_invokevirtual 84 (by decide) h0
      obtain ⟨d49, h0⟩ := de_i2l h0
      obtain ⟨d50, h0⟩ := de_ladd h0
      obtain ⟨d51, h0⟩ := de_putfield 23 (by decide) h0
      obtain ⟨d54, h0⟩ := de_goto (19) (by decide) h0
      refine lv_aload_n hx hb d38 rfl (lv_at hl 0 rfl) ?_
      refine lv_dup hx hb d39 rfl ?_
      refine x_getJ C0 hR hf xcl_3 (Nat.le_of_ble_eq_true rfl) rfl fl_X3_23 d40 (fun j8 hf => ?_)
      refine lv_aload_n hx hb d43 rfl (lv_at hl 1 rfl) ?_
      refine lv_iload_n hx hb d44 rfl (lv_at hl 2 rfl) ?_
      refine lv_iconst (v := 3) hx hb d45 (by decide) ?_
      obtain ⟨hs9, hf⟩ := x_if hf
      refine x_thenI C0 hxt hS hf (fun z0 e0 => x_runV C0 hR hS me_X0_part wi_X0_part wl_X0_part ml_X3_84 hs9 xcl_0 (As := [.int x2, .int 3]) (ct_X0_part E l C0.2.2.2.2.2.2.2.1 _ r1 x2 3) rfl rfl hl.1 (Nat.le_of_ble_eq_true rfl) d46 ⟨(Nat.le_of_ble_eq_true rfl), (Nat.le_of_ble_eq_true rfl)⟩ ⟨(Nat.le_of_ble_eq_true rfl), (Nat.le_of_ble_eq_true rfl)⟩ e0) (Nat.le_of_ble_eq_true rfl) (Nat.le_of_ble_eq_true rfl) (fun h9 i9 H locs hR hS hf => ?_)
      refine lv_i2l hx hb d49 rfl ?_
      refine lv_ladd hx hb d50 ?_
      refine x_putJ C0 hR hS hf xcl_3 (Nat.le_of_ble_eq_true rfl) rfl fl_X3_23 (Or.inl rfl) d51 (fun H locs hR hS hf => ?_)
      refine lv_goto (tgt := 73) hx hb d54 (by decide) ?_
      exact s_X3_findLeftover_b73 C0 hxt hk21 _ _ _ _ _ _ _ hR hS (lv_sub hl [0, 1, 2] rfl) hf
theorem s_X3_findLeftover_L21 {p : Program} {l : Launch} {e : Env} {s : State} {m : MethodId} {args : Array Value} {below : List Frame} {meth : Method} {c : Code} {E : XE} {z : XR} (C0 : x_C E p l s m meth c args cX3_findLeftover 3 "GridEngine$Fractions" "findLeftover" none) (hxt : ∀ x ∈ c.exceptionTable.toList, False)  : ∀ n : Nat, ∀ (h : HP) (r0 : Nat) (r1 : Nat) (x2 : Int32) (H : Heap) (locs : List Loc) (ls : Array Slot), x_Rep E h H → va_S (x_A E) s.heap H locs → lv_has ls 3 [(0, .ref (xa E r0)), (1, .ref (xa E r1)), (2, .int x2)] → f_X3_findLeftover_L21 n h r0 r1 x2 = some z → W p l e ({ frames := 10, cells := 0, slots := 0, locals := 177 } : Room) s m args below meth c H locs 0 0 (x_Q E below args s 0 0 z) (F0 m 21 ls []) := by
  intro n
  induction n with
  | zero => intro h r0 r1 x2 H locs ls hR hS hl hf; cases (show (none : Option XR) = some z from hf)
  | succ n ih => intro h r0 r1 x2 H locs ls hR hS hl hf; exact s_X3_findLeftover_b21 C0 hxt ih h r0 r1 x2 H locs ls hR hS hl (show f_X3_findLeftover_b21 (f_X3_findLeftover_L21 n) h r0 r1 x2 = some z from hf)
set_option maxRecDepth 100000 in
set_option maxHeartbeats 4000000 in
theorem ct_X3_findLeftover (E : XE) (l : Launch) (hl0 : l.stackTraces = false) (h : HP) (r0 : Nat) (r1 : Nat) : x_ct E l yX3_findLeftover (Cond.code yX3_findLeftover cX3_findLeftover 3 none) 10 177 0 0 [.ref (xa E r0), .ref (xa E r1)] h (f_X3_findLeftover h r0 r1) := by
  refine x_ofW hl0 (by decide +kernel) ?_
  intro z hf p e s m args below meth c C0 hxt hargs hR
  subst hargs
  have C0 : x_C E p l s m meth c ([.ref (xa E r0), .ref (xa E r1)] : List Value).toArray cX3_findLeftover 3 "GridEngine$Fractions" "findLeftover" none := C0
  obtain ⟨hx, hb, -⟩ := id C0
  have hS : va_S (x_A E) s.heap s.heap [] := va_S.rf
  have hl := lv_entry ([.ref (xa E r0), .ref (xa E r1)]) (n := 3) (Nat.le_of_ble_eq_true rfl)
  rw [lg_entry_eq]
  generalize (lg_sl ([.ref (xa E r0), .ref (xa E r1)]) ++ List.replicate (3 - (lg_sl ([.ref (xa E r0), .ref (xa E r1)])).length) Slot.unset).toArray = ls at hl ⊢
  have hl : lv_has ls 3 [(0, .ref (xa E r0)), (1, .ref (xa E r1))] := hl
  unfold f_X3_findLeftover at hf
  have h0 : x_by cX3_findLeftover 0 [42, 43, 180, 0, 58, 43, 180, 0, 81, 100, 133, 181, 0, 19, 42, 9, 181, 0, 23, 4, 61] := by unfold x_by; decide +kernel
  obtain ⟨d0, h0⟩ := de_aload_n0 h0
  obtain ⟨d1, h0⟩ := de_aload_n1 h0
  obtain ⟨d2, h0⟩ := de_getfield 58 (by decide) h0
  obtain ⟨d5, h0⟩ := de_aload_n1 h0
  obtain ⟨d6, h0⟩ := de_getfield 81 (by decide) h0
  obtain ⟨d9, h0⟩ := de_isub h0
  obtain ⟨d10, h0⟩ := de_i2l h0
  obtain ⟨d11, h0⟩ := de_putfield 19 (by decide) h0
  obtain ⟨d14, h0⟩ := de_aload_n0 h0
  obtain ⟨d15, h0⟩ := de_lconst_0 h0
  obtain ⟨d16, h0⟩ := de_putfield 23 (by decide) h0
  obtain ⟨d19, h0⟩ := de_iconst_1 h0
  obtain ⟨d20, h0⟩ := de_istore_n2 h0
  refine lv_aload_n hx hb d0 rfl (lv_at hl 0 rfl) ?_
  refine lv_aload_n hx hb d1 rfl (lv_at hl 1 rfl) ?_
  refine x_getI C0 hR hf xcl_0 (Nat.le_of_ble_eq_true rfl) rfl fl_X3_58 d2 (fun i1 hf => ?_)
  refine lv_aload_n hx hb d5 rfl (lv_at hl 1 rfl) ?_
  refine x_getI C0 hR hf xcl_0 (Nat.le_of_ble_eq_true rfl) rfl fl_X3_81 d6 (fun i2 hf => ?_)
  refine lv_isub hx hb d9 ?_
  refine lv_i2l hx hb d10 rfl ?_
  refine x_putJ C0 hR hS hf xcl_3 (Nat.le_of_ble_eq_true rfl) rfl fl_X3_19 (Or.inl rfl) d11 (fun H locs hR hS hf => ?_)
  refine lv_aload_n hx hb d14 rfl (lv_at hl 0 rfl) ?_
  refine lv_lconst (v := 0) hx hb d15 (by decide) ?_
  refine x_putJ C0 hR hS hf xcl_3 (Nat.le_of_ble_eq_true rfl) rfl fl_X3_23 (Or.inl rfl) d16 (fun H locs hR hS hf => ?_)
  refine lv_iconst (v := 1) hx hb d19 (by decide) ?_
  refine lv_istore_n (lv' := [(2, .int 1), (0, .ref (xa E r0)), (1, .ref (xa E r1))]) hx hb d20 rfl hl (by decide) rfl (fun ls hl => ?_)
  exact s_X3_findLeftover_L21 C0 hxt FU _ _ _ _ _ _ _ hR hS (lv_sub hl [1, 2, 0] rfl) hf
def f_X3_stopLargeTracks_b62 (k4 : HP → Nat → Nat → Int32 → Int32 → Option XR) (h : HP) (r0 : Nat) (r1 : Nat) (x2 : Int32) (x3 : Int32) : Option XR :=
  k4 h r0 r1 x2 (x3 + 1)
def f_X3_stopLargeTracks_b4 (k4 : HP → Nat → Nat → Int32 → Int32 → Option XR) (h : HP) (r0 : Nat) (r1 : Nat) (x2 : Int32) (x3 : Int32) : Option XR :=
  x_gI h r1 0 10 fun i1 =>
  if i1 < x3 then
    (
      x_rZ h x2
    )
  else
    (
      x_gJ h r0 3 2 fun j2 =>
      x_rc h r1 0 <| x_cI (f_X0_part h r1 x3 3) fun h4 i3 =>
      x_lJ (j2 * (i3 : Int32).toInt64) fun j5 =>
      x_gR h4 r0 3 0 fun a6 =>
      x_aI h4 102 a6 x3 fun i7 =>
      if i7 = 0 then
        (
          f_X3_stopLargeTracks_b62 k4 h4 r0 r1 x2 x3
        )
      else
        (
          x_gR h4 r1 0 6 fun a8 =>
          x_aI h4 100 a8 x3 fun i9 =>
          x_gJ h4 r0 3 3 fun j10 =>
          if (lg_cmp ((i9 : Int32).toInt64 * j10) j5) ≤ 0 then
            (
              f_X3_stopLargeTracks_b62 k4 h4 r0 r1 x2 x3
            )
          else
            (
              x_gR h4 r0 3 0 fun a11 =>
              x_sZ h4 a11 x3 0 fun h12 =>
              f_X3_stopLargeTracks_b62 k4 h12 r0 r1 1 x3
            )
        )
    )
def f_X3_stopLargeTracks_L4  : Nat → HP → Nat → Nat → Int32 → Int32 → Option XR
  | 0 => fun _ _ _ _ _ => none
  | n + 1 => f_X3_stopLargeTracks_b4 (f_X3_stopLargeTracks_L4 n)
def f_X3_stopLargeTracks (h : HP) (r0 : Nat) (r1 : Nat) : Option XR :=
  f_X3_stopLargeTracks_L4 FU h r0 r1 0 1
set_option maxRecDepth 100000 in
set_option maxHeartbeats 4000000 in
theorem s_X3_stopLargeTracks_b62 {p : Program} {l : Launch} {e : Env} {s : State} {m : MethodId} {args : Array Value} {below : List Frame} {meth : Method} {c : Code} {E : XE} {z : XR} (C0 : x_C E p l s m meth c args cX3_stopLargeTracks 6 "GridEngine$Fractions" "stopLargeTracks" (some .boolean)) (hxt : ∀ x ∈ c.exceptionTable.toList, False) {k4 : HP → Nat → Nat → Int32 → Int32 → Option XR} (hk4 : ∀ (h : HP) (r0 : Nat) (r1 : Nat) (x2 : Int32) (x3 : Int32) (H : Heap) (locs : List Loc) (ls : Array Slot), x_Rep E h H → va_S (x_A E) s.heap H locs → lv_has ls 6 [(0, .ref (xa E r0)), (1, .ref (xa E r1)), (2, .int x2), (3, .int x3)] → k4 h r0 r1 x2 x3 = some z → W p l e ({ frames := 10, cells := 0, slots := 0, locals := 177 } : Room) s m args below meth c H locs 0 0 (x_Q E below args s 0 0 z) (F0 m 4 ls [])) : ∀ (h : HP) (r0 : Nat) (r1 : Nat) (x2 : Int32) (x3 : Int32) (H : Heap) (locs : List Loc) (ls : Array Slot), x_Rep E h H → va_S (x_A E) s.heap H locs → lv_has ls 6 [(0, .ref (xa E r0)), (1, .ref (xa E r1)), (2, .int x2), (3, .int x3)] → f_X3_stopLargeTracks_b62 k4 h r0 r1 x2 x3 = some z → W p l e ({ frames := 10, cells := 0, slots := 0, locals := 177 } : Room) s m args below meth c H locs 0 0 (x_Q E below args s 0 0 z) (F0 m 62 ls []) := by
  intro h r0 r1 x2 x3 H locs ls hR hS hl hf
  obtain ⟨hx, hb, -⟩ := id C0
  unfold f_X3_stopLargeTracks_b62 at hf
  have h0 : x_by cX3_stopLargeTracks 62 [132, 3, 1, 167, 255, 195] := by unfold x_by; decide +kernel
  obtain ⟨d62, h0⟩ := de_iinc (1) (by decide) h0
  obtain ⟨d65, h0⟩ := de_goto (-61) (by decide) h0
  refine lv_iinc (v := (x3 + 1)) (lv' := [(3, .int (x3 + 1)), (0, .ref (xa E r0)), (1, .ref (xa E r1)), (2, .int x2)]) hx hb d62 hl (k := 3) rfl rfl (by decide) rfl (fun ls hl => ?_)
  refine lv_goto (tgt := 4) hx hb d65 (by decide) ?_
  exact hk4 _ _ _ _ _ _ _ _ hR hS (lv_sub hl [1, 2, 3, 0] rfl) hf
set_option maxRecDepth 100000 in
set_option maxHeartbeats 4000000 in
theorem s_X3_stopLargeTracks_b4 {p : Program} {l : Launch} {e : Env} {s : State} {m : MethodId} {args : Array Value} {below : List Frame} {meth : Method} {c : Code} {E : XE} {z : XR} (C0 : x_C E p l s m meth c args cX3_stopLargeTracks 6 "GridEngine$Fractions" "stopLargeTracks" (some .boolean)) (hxt : ∀ x ∈ c.exceptionTable.toList, False) {k4 : HP → Nat → Nat → Int32 → Int32 → Option XR} (hk4 : ∀ (h : HP) (r0 : Nat) (r1 : Nat) (x2 : Int32) (x3 : Int32) (H : Heap) (locs : List Loc) (ls : Array Slot), x_Rep E h H → va_S (x_A E) s.heap H locs → lv_has ls 6 [(0, .ref (xa E r0)), (1, .ref (xa E r1)), (2, .int x2), (3, .int x3)] → k4 h r0 r1 x2 x3 = some z → W p l e ({ frames := 10, cells := 0, slots := 0, locals := 177 } : Room) s m args below meth c H locs 0 0 (x_Q E below args s 0 0 z) (F0 m 4 ls [])) : ∀ (h : HP) (r0 : Nat) (r1 : Nat) (x2 : Int32) (x3 : Int32) (H : Heap) (locs : List Loc) (ls : Array Slot), x_Rep E h H → va_S (x_A E) s.heap H locs → lv_has ls 6 [(0, .ref (xa E r0)), (1, .ref (xa E r1)), (2, .int x2), (3, .int x3)] → f_X3_stopLargeTracks_b4 k4 h r0 r1 x2 x3 = some z → W p l e ({ frames := 10, cells := 0, slots := 0, locals := 177 } : Room) s m args below meth c H locs 0 0 (x_Q E below args s 0 0 z) (F0 m 4 ls []) := by
  intro h r0 r1 x2 x3 H locs ls hR hS hl hf
  obtain ⟨hx, hb, -⟩ := id C0
  unfold f_X3_stopLargeTracks_b4 at hf
  have h0 : x_by cX3_stopLargeTracks 4 [29, 43, 180, 0, 47, 163, 0, 59] := by unfold x_by; decide +kernel
  obtain ⟨d4, h0⟩ := de_iload_n3 h0
  obtain ⟨d5, h0⟩ := de_aload_n1 h0
  obtain ⟨d6, h0⟩ := de_getfield 47 (by decide) h0
  obtain ⟨d9, h0⟩ := de_icmp_gt (59) (by decide) h0
  refine lv_iload_n hx hb d4 rfl (lv_at hl 3 rfl) ?_
  refine lv_aload_n hx hb d5 rfl (lv_at hl 1 rfl) ?_
  refine x_getI C0 hR hf xcl_0 (Nat.le_of_ble_eq_true rfl) rfl fl_X3_47 d6 (fun i1 hf => ?_)
  refine lv_icmp_gt (tgt := 68) hx hb d9 (by decide) (fun q => ?_) (fun q => ?_)
  · have hf := x_pos q hf
    have h0 : x_by cX3_stopLargeTracks 68 [28, 172] := by unfold x_by; decide +kernel
    obtain ⟨d68, h0⟩ := de_iload_n2 h0
    obtain ⟨d69, h0⟩ := de_ireturn h0
    refine lv_iload_n hx hb d68 rfl (lv_at hl 2 rfl) ?_
    exact x_zret C0 hR hS hf (Nat.le_of_ble_eq_true rfl) (Nat.le_of_ble_eq_true rfl) d69
  · have hf := x_neg q hf
    have h0 : x_by cX3_stopLargeTracks 12 [42, 180, 0, 19, 43, 29, 6, 182, 0, 84, 133, 105, 55, 4, 42, 180, 0, 9, 29, 51, 153, 0, 30] := by unfold x_by; decide +kernel
    obtain ⟨d12, h0⟩ := de_aload_n0 h0
    obtain ⟨d13, h0⟩ := de_getfield 19 (by decide) h0
    obtain ⟨d16, h0⟩ := de_aload_n1 h0
    obtain ⟨d17, h0⟩ := de_iload_n3 h0
    obtain ⟨d18, h0⟩ := de_iconst_3 h0
    obtain ⟨d19, h0⟩ := de_invokevirtual 84 (by decide) h0
    obtain ⟨d22, h0⟩ := de_i2l h0
    obtain ⟨d23, h0⟩ := de_lmul h0
    obtain ⟨d24, h0⟩ := de_lstore h0
    obtain ⟨d26, h0⟩ := de_aload_n0 h0
    obtain ⟨d27, h0⟩ := de_getfield 9 (by decide) h0
    obtain ⟨d30, h0⟩ := de_iload_n3 h0
    obtain ⟨d31, h0⟩ := de_baload h0
    obtain ⟨d32, h0⟩ := de_if_eq (30) (by decide) h0
    refine lv_aload_n hx hb d12 rfl (lv_at hl 0 rfl) ?_
    refine x_getJ C0 hR hf xcl_3 (Nat.le_of_ble_eq_true rfl) rfl fl_X3_19 d13 (fun j2 hf => ?_)
    refine lv_aload_n hx hb d16 rfl (lv_at hl 1 rfl) ?_
    refine lv_iload_n hx hb d17 rfl (lv_at hl 3 rfl) ?_
    refine lv_iconst (v := 3) hx hb d18 (by decide) ?_
    obtain ⟨hs9, hf⟩ := x_if hf
    refine x_thenI C0 hxt hS hf (fun z0 e0 => x_runV C0 hR hS me_X0_part wi_X0_part wl_X0_part ml_X3_84 hs9 xcl_0 (As := [.int x3, .int 3]) (ct_X0_part E l C0.2.2.2.2.2.2.2.1 _ r1 x3 3) rfl rfl hl.1 (Nat.le_of_ble_eq_true rfl) d19 ⟨(Nat.le_of_ble_eq_true rfl), (Nat.le_of_ble_eq_true rfl)⟩ ⟨(Nat.le_of_ble_eq_true rfl), (Nat.le_of_ble_eq_true rfl)⟩ e0) (Nat.le_of_ble_eq_true rfl) (Nat.le_of_ble_eq_true rfl) (fun h9 i3 H locs hR hS hf => ?_)
    refine lv_i2l hx hb d22 rfl ?_
    refine lv_lmul hx hb d23 ?_
    refine lv_topl (fun j5 ej5 => ?_)
    have hf := x_lJ_el ej5 hf
    refine lv_lstore (lv' := [(4, .long j5), (0, .ref (xa E r0)), (1, .ref (xa E r1)), (2, .int x2), (3, .int x3)]) hx hb d24 hl (by decide) rfl (fun ls hl => ?_)
    refine lv_aload_n hx hb d26 rfl (lv_at hl 1 rfl) ?_
    refine x_getR C0 hR hf xcl_3 (Nat.le_of_ble_eq_true rfl) rfl fl_X3_9 d27 (fun a6 hf => ?_)
    refine lv_iload_n hx hb d30 rfl (lv_at hl 4 rfl) ?_
    refine x_zald C0 hR hf d31 (fun i7 hf => ?_)
    refine lv_if_eq (tgt := 62) hx hb d32 (by decide) (fun q => ?_) (fun q => ?_)
    · have hf := x_pos q hf
      exact s_X3_stopLargeTracks_b62 C0 hxt hk4 _ _ _ _ _ _ _ _ hR hS (lv_sub hl [1, 2, 3, 4] rfl) hf
    · have hf := x_neg q hf
      have h0 : x_by cX3_stopLargeTracks 35 [43, 180, 0, 32, 29, 46, 133, 42, 180, 0, 23, 105, 22, 4, 148, 158, 0, 12] := by unfold x_by; decide +kernel
      obtain ⟨d35, h0⟩ := de_aload_n1 h0
      obtain ⟨d36, h0⟩ := de_getfield 32 (by decide) h0
      obtain ⟨d39, h0⟩ := de_iload_n3 h0
      obtain ⟨d40, h0⟩ := de_iaload h0
      obtain ⟨d41, h0⟩ := de_i2l h0
      obtain ⟨d42, h0⟩ := de_aload_n0 h0
      obtain ⟨d43, h0⟩ := de_getfield 23 (by decide) h0
      obtain ⟨d46, h0⟩ := de_lmul h0
      obtain ⟨d47, h0⟩ := de_lload h0
      obtain ⟨d49, h0⟩ := de_lcmp h0
      obtain ⟨d50, h0⟩ := de_if_le (12) (by decide) h0
      refine lv_aload_n hx hb d35 rfl (lv_at hl 2 rfl) ?_
      refine x_getR C0 hR hf xcl_0 (Nat.le_of_ble_eq_true rfl) rfl fl_X3_32 d36 (fun a8 hf => ?_)
      refine lv_iload_n hx hb d39 rfl (lv_at hl 4 rfl) ?_
      refine x_iald C0 hR hf d40 (fun i9 hf => ?_)
      refine lv_i2l hx hb d41 rfl ?_
      refine lv_aload_n hx hb d42 rfl (lv_at hl 1 rfl) ?_
      refine x_getJ C0 hR hf xcl_3 (Nat.le_of_ble_eq_true rfl) rfl fl_X3_23 d43 (fun j10 hf => ?_)
      refine lv_lmul hx hb d46 ?_
      refine lv_lload hx hb d47 (lv_at hl 0 rfl) ?_
      refine W.lcmp hx hb d49 ?_
      refine lv_if_le (tgt := 62) hx hb d50 (by decide) (fun q => ?_) (fun q => ?_)
      · have hf := x_pos q hf
        exact s_X3_stopLargeTracks_b62 C0 hxt hk4 _ _ _ _ _ _ _ _ hR hS (lv_sub hl [1, 2, 3, 4] rfl) hf
      · have hf := x_neg q hf
        have h0 : x_by cX3_stopLargeTracks 53 [42, 180, 0, 9, 29, 3, 84, 4, 61] := by unfold x_by; decide +kernel
        obtain ⟨d53, h0⟩ := de_aload_n0 h0
        obtain ⟨d54, h0⟩ := de_getfield 9 (by decide) h0
        obtain ⟨d57, h0⟩ := de_iload_n3 h0
        obtain ⟨d58, h0⟩ := de_iconst_0 h0
        obtain ⟨d59, h0⟩ := de_bastore h0
        obtain ⟨d60, h0⟩ := de_iconst_1 h0
        obtain ⟨d61, h0⟩ := de_istore_n2 h0
        refine lv_aload_n hx hb d53 rfl (lv_at hl 1 rfl) ?_
        refine x_getR C0 hR hf xcl_3 (Nat.le_of_ble_eq_true rfl) rfl fl_X3_9 d54 (fun a11 hf => ?_)
        refine lv_iload_n hx hb d57 rfl (lv_at hl 4 rfl) ?_
        refine lv_iconst (v := 0) hx hb d58 (by decide) ?_
        refine x_zast C0 hR hS hf d59 (fun H locs hR hS hf => ?_)
        refine lv_iconst (v := 1) hx hb d60 (by decide) ?_
        refine lv_istore_n (lv' := [(2, .int 1), (4, .long j5), (0, .ref (xa E r0)), (1, .ref (xa E r1)), (3, .int x3)]) hx hb d61 rfl hl (by decide) rfl (fun ls hl => ?_)
        exact s_X3_stopLargeTracks_b62 C0 hxt hk4 _ _ _ _ _ _ _ _ hR hS (lv_sub hl [2, 3, 0, 4] rfl) hf
theorem s_X3_stopLargeTracks_L4 {p : Program} {l : Launch} {e : Env} {s : State} {m : MethodId} {args : Array Value} {below : List Frame} {meth : Method} {c : Code} {E : XE} {z : XR} (C0 : x_C E p l s m meth c args cX3_stopLargeTracks 6 "GridEngine$Fractions" "stopLargeTracks" (some .boolean)) (hxt : ∀ x ∈ c.exceptionTable.toList, False)  : ∀ n : Nat, ∀ (h : HP) (r0 : Nat) (r1 : Nat) (x2 : Int32) (x3 : Int32) (H : Heap) (locs : List Loc) (ls : Array Slot), x_Rep E h H → va_S (x_A E) s.heap H locs → lv_has ls 6 [(0, .ref (xa E r0)), (1, .ref (xa E r1)), (2, .int x2), (3, .int x3)] → f_X3_stopLargeTracks_L4 n h r0 r1 x2 x3 = some z → W p l e ({ frames := 10, cells := 0, slots := 0, locals := 177 } : Room) s m args below meth c H locs 0 0 (x_Q E below args s 0 0 z) (F0 m 4 ls []) := by
  intro n
  induction n with
  | zero => intro h r0 r1 x2 x3 H locs ls hR hS hl hf; cases (show (none : Option XR) = some z from hf)
  | succ n ih => intro h r0 r1 x2 x3 H locs ls hR hS hl hf; exact s_X3_stopLargeTracks_b4 C0 hxt ih h r0 r1 x2 x3 H locs ls hR hS hl (show f_X3_stopLargeTracks_b4 (f_X3_stopLargeTracks_L4 n) h r0 r1 x2 x3 = some z from hf)
set_option maxRecDepth 100000 in
set_option maxHeartbeats 4000000 in
theorem ct_X3_stopLargeTracks (E : XE) (l : Launch) (hl0 : l.stackTraces = false) (h : HP) (r0 : Nat) (r1 : Nat) : x_ct E l yX3_stopLargeTracks (Cond.code yX3_stopLargeTracks cX3_stopLargeTracks 6 (some .boolean)) 10 177 0 0 [.ref (xa E r0), .ref (xa E r1)] h (f_X3_stopLargeTracks h r0 r1) := by
  refine x_ofW hl0 (by decide +kernel) ?_
  intro z hf p e s m args below meth c C0 hxt hargs hR
  subst hargs
  have C0 : x_C E p l s m meth c ([.ref (xa E r0), .ref (xa E r1)] : List Value).toArray cX3_stopLargeTracks 6 "GridEngine$Fractions" "stopLargeTracks" (some .boolean) := C0
  obtain ⟨hx, hb, -⟩ := id C0
  have hS : va_S (x_A E) s.heap s.heap [] := va_S.rf
  have hl := lv_entry ([.ref (xa E r0), .ref (xa E r1)]) (n := 6) (Nat.le_of_ble_eq_true rfl)
  rw [lg_entry_eq]
  generalize (lg_sl ([.ref (xa E r0), .ref (xa E r1)]) ++ List.replicate (6 - (lg_sl ([.ref (xa E r0), .ref (xa E r1)])).length) Slot.unset).toArray = ls at hl ⊢
  have hl : lv_has ls 6 [(0, .ref (xa E r0)), (1, .ref (xa E r1))] := hl
  unfold f_X3_stopLargeTracks at hf
  have h0 : x_by cX3_stopLargeTracks 0 [3, 61, 4, 62] := by unfold x_by; decide +kernel
  obtain ⟨d0, h0⟩ := de_iconst_0 h0
  obtain ⟨d1, h0⟩ := de_istore_n2 h0
  obtain ⟨d2, h0⟩ := de_iconst_1 h0
  obtain ⟨d3, h0⟩ := de_istore_n3 h0
  refine lv_iconst (v := 0) hx hb d0 (by decide) ?_
  refine lv_istore_n (lv' := [(2, .int 0), (0, .ref (xa E r0)), (1, .ref (xa E r1))]) hx hb d1 rfl hl (by decide) rfl (fun ls hl => ?_)
  refine lv_iconst (v := 1) hx hb d2 (by decide) ?_
  refine lv_istore_n (lv' := [(3, .int 1), (2, .int 0), (0, .ref (xa E r0)), (1, .ref (xa E r1))]) hx hb d3 rfl hl (by decide) rfl (fun ls hl => ?_)
  exact s_X3_stopLargeTracks_L4 C0 hxt FU _ _ _ _ _ _ _ _ hR hS (lv_sub hl [2, 3, 1, 0] rfl) hf
def f_X3_findActiveTracks_b31  (h : HP)  : Option XR :=
  some (h, xv)
def f_X3_findActiveTracks_b4 (k4 : HP → Nat → Nat → Int32 → Int32 → Option XR) (h : HP) (r0 : Nat) (r1 : Nat) (x2 : Int32) (x3 : Int32) : Option XR :=
  if 64 < x3 then
    (
      f_X3_findActiveTracks_b31 h
    )
  else
    (
      if x2 = 0 then
        (
          f_X3_findActiveTracks_b31 h
        )
      else
        (
          x_rc h r0 3 <| x_cV (f_X3_findLeftover h r0 r1) fun h1 =>
          x_rc h1 r0 3 <| x_cI (f_X3_stopLargeTracks h1 r0 r1) fun h3 i2 =>
          k4 h3 r0 r1 i2 (x3 + 1)
        )
    )
def f_X3_findActiveTracks_L4  : Nat → HP → Nat → Nat → Int32 → Int32 → Option XR
  | 0 => fun _ _ _ _ _ => none
  | n + 1 => f_X3_findActiveTracks_b4 (f_X3_findActiveTracks_L4 n)
def f_X3_findActiveTracks (h : HP) (r0 : Nat) (r1 : Nat) : Option XR :=
  f_X3_findActiveTracks_L4 FU h r0 r1 1 0
set_option maxRecDepth 100000 in
set_option maxHeartbeats 4000000 in
theorem s_X3_findActiveTracks_b31 {p : Program} {l : Launch} {e : Env} {s : State} {m : MethodId} {args : Array Value} {below : List Frame} {meth : Method} {c : Code} {E : XE} {z : XR} (C0 : x_C E p l s m meth c args cX3_findActiveTracks 4 "GridEngine$Fractions" "findActiveTracks" none) (hxt : ∀ x ∈ c.exceptionTable.toList, False)  : ∀ (h : HP)  (H : Heap) (locs : List Loc) (ls : Array Slot), x_Rep E h H → va_S (x_A E) s.heap H locs → lv_has ls 4 [] → f_X3_findActiveTracks_b31 h  = some z → W p l e ({ frames := 11, cells := 0, slots := 0, locals := 202 } : Room) s m args below meth c H locs 0 0 (x_Q E below args s 0 0 z) (F0 m 31 ls []) := by
  intro h  H locs ls hR hS hl hf
  obtain ⟨hx, hb, -⟩ := id C0
  unfold f_X3_findActiveTracks_b31 at hf
  have h0 : x_by cX3_findActiveTracks 31 [177] := by unfold x_by; decide +kernel
  obtain ⟨d31, h0⟩ := de_return h0
  exact x_vret C0 hR hS hf (Nat.le_of_ble_eq_true rfl) (Nat.le_of_ble_eq_true rfl) d31
set_option maxRecDepth 100000 in
set_option maxHeartbeats 4000000 in
theorem s_X3_findActiveTracks_b4 {p : Program} {l : Launch} {e : Env} {s : State} {m : MethodId} {args : Array Value} {below : List Frame} {meth : Method} {c : Code} {E : XE} {z : XR} (C0 : x_C E p l s m meth c args cX3_findActiveTracks 4 "GridEngine$Fractions" "findActiveTracks" none) (hxt : ∀ x ∈ c.exceptionTable.toList, False) {k4 : HP → Nat → Nat → Int32 → Int32 → Option XR} (hk4 : ∀ (h : HP) (r0 : Nat) (r1 : Nat) (x2 : Int32) (x3 : Int32) (H : Heap) (locs : List Loc) (ls : Array Slot), x_Rep E h H → va_S (x_A E) s.heap H locs → lv_has ls 4 [(0, .ref (xa E r0)), (1, .ref (xa E r1)), (2, .int x2), (3, .int x3)] → k4 h r0 r1 x2 x3 = some z → W p l e ({ frames := 11, cells := 0, slots := 0, locals := 202 } : Room) s m args below meth c H locs 0 0 (x_Q E below args s 0 0 z) (F0 m 4 ls [])) : ∀ (h : HP) (r0 : Nat) (r1 : Nat) (x2 : Int32) (x3 : Int32) (H : Heap) (locs : List Loc) (ls : Array Slot), x_Rep E h H → va_S (x_A E) s.heap H locs → lv_has ls 4 [(0, .ref (xa E r0)), (1, .ref (xa E r1)), (2, .int x2), (3, .int x3)] → f_X3_findActiveTracks_b4 k4 h r0 r1 x2 x3 = some z → W p l e ({ frames := 11, cells := 0, slots := 0, locals := 202 } : Room) s m args below meth c H locs 0 0 (x_Q E below args s 0 0 z) (F0 m 4 ls []) := by
  intro h r0 r1 x2 x3 H locs ls hR hS hl hf
  obtain ⟨hx, hb, -⟩ := id C0
  unfold f_X3_findActiveTracks_b4 at hf
  have h0 : x_by cX3_findActiveTracks 4 [29, 16, 64, 163, 0, 24] := by unfold x_by; decide +kernel
  obtain ⟨d4, h0⟩ := de_iload_n3 h0
  obtain ⟨d5, h0⟩ := de_bipush (64) (by decide) h0
  obtain ⟨d7, h0⟩ := de_icmp_gt (24) (by decide) h0
  refine lv_iload_n hx hb d4 rfl (lv_at hl 3 rfl) ?_
  refine lv_bipush (v := 64) hx hb d5 (by decide) ?_
  refine lv_icmp_gt (tgt := 31) hx hb d7 (by decide) (fun q => ?_) (fun q => ?_)
  · have hf := x_pos q hf
    exact s_X3_findActiveTracks_b31 C0 hxt _ _ _ _ hR hS (lv_sub hl [] rfl) hf
  · have hf := x_neg q hf
    have h0 : x_by cX3_findActiveTracks 10 [28, 153, 0, 20] := by unfold x_by; decide +kernel
    obtain ⟨d10, h0⟩ := de_iload_n2 h0
    obtain ⟨d11, h0⟩ := de_if_eq (20) (by decide) h0
    refine lv_iload_n hx hb d10 rfl (lv_at hl 2 rfl) ?_
    refine lv_if_eq (tgt := 31) hx hb d11 (by decide) (fun q => ?_) (fun q => ?_)
    · have hf := x_pos q hf
      exact s_X3_findActiveTracks_b31 C0 hxt _ _ _ _ hR hS (lv_sub hl [] rfl) hf
    · have hf := x_neg q hf
      have h0 : x_by cX3_findActiveTracks 14 [42, 43, 182, 0, 74, 42, 43, 182, 0, 77, 61, 132, 3, 1, 167, 255, 232] := by unfold x_by; decide +kernel
      obtain ⟨d14, h0⟩ := de_aload_n0 h0
      obtain ⟨d15, h0⟩ := de_aload_n1 h0
      obtain ⟨d16, h0⟩ := de_invokevirtual 74 (by decide) h0
      obtain ⟨d19, h0⟩ := de_aload_n0 h0
      obtain ⟨d20, h0⟩ := de_aload_n1 h0
      obtain ⟨d21, h0⟩ := de_invokevirtual 77 (by decide) h0
      obtain ⟨d24, h0⟩ := de_istore_n2 h0
      obtain ⟨d25, h0⟩ := de_iinc (1) (by decide) h0
      obtain ⟨d28, h0⟩ := de_goto (-24) (by decide) h0
      refine lv_aload_n hx hb d14 rfl (lv_at hl 0 rfl) ?_
      refine lv_aload_n hx hb d15 rfl (lv_at hl 1 rfl) ?_
      obtain ⟨hs9, hf⟩ := x_if hf
      refine x_thenV C0 hxt hS hf (fun z0 e0 => x_runV C0 hR hS me_X3_findLeftover wi_X3_findLeftover wl_X3_findLeftover ml_X3_74 hs9 xcl_3 (As := [.ref (xa E r1)]) (ct_X3_findLeftover E l C0.2.2.2.2.2.2.2.1 _ r0 r1) rfl rfl hl.1 (Nat.le_of_ble_eq_true rfl) d16 ⟨(Nat.le_of_ble_eq_true rfl), (Nat.le_of_ble_eq_true rfl)⟩ ⟨(Nat.le_of_ble_eq_true rfl), (Nat.le_of_ble_eq_true rfl)⟩ e0) (Nat.le_of_ble_eq_true rfl) (Nat.le_of_ble_eq_true rfl) (fun h9 H locs hR hS hf => ?_)
      refine lv_aload_n hx hb d19 rfl (lv_at hl 0 rfl) ?_
      refine lv_aload_n hx hb d20 rfl (lv_at hl 1 rfl) ?_
      obtain ⟨hs9, hf⟩ := x_if hf
      refine x_thenI C0 hxt hS hf (fun z0 e0 => x_runV C0 hR hS me_X3_stopLargeTracks wi_X3_stopLargeTracks wl_X3_stopLargeTracks ml_X3_77 hs9 xcl_3 (As := [.ref (xa E r1)]) (ct_X3_stopLargeTracks E l C0.2.2.2.2.2.2.2.1 _ r0 r1) rfl rfl hl.1 (Nat.le_of_ble_eq_true rfl) d21 ⟨(Nat.le_of_ble_eq_true rfl), (Nat.le_of_ble_eq_true rfl)⟩ ⟨(Nat.le_of_ble_eq_true rfl), (Nat.le_of_ble_eq_true rfl)⟩ e0) (Nat.le_of_ble_eq_true rfl) (Nat.le_of_ble_eq_true rfl) (fun h9 i2 H locs hR hS hf => ?_)
      refine lv_istore_n (lv' := [(2, .int i2), (0, .ref (xa E r0)), (1, .ref (xa E r1)), (3, .int x3)]) hx hb d24 rfl hl (by decide) rfl (fun ls hl => ?_)
      refine lv_iinc (v := (x3 + 1)) (lv' := [(3, .int (x3 + 1)), (2, .int i2), (0, .ref (xa E r0)), (1, .ref (xa E r1))]) hx hb d25 hl (k := 3) rfl rfl (by decide) rfl (fun ls hl => ?_)
      refine lv_goto (tgt := 4) hx hb d28 (by decide) ?_
      exact hk4 _ _ _ _ _ _ _ _ hR hS (lv_sub hl [2, 3, 1, 0] rfl) hf
theorem s_X3_findActiveTracks_L4 {p : Program} {l : Launch} {e : Env} {s : State} {m : MethodId} {args : Array Value} {below : List Frame} {meth : Method} {c : Code} {E : XE} {z : XR} (C0 : x_C E p l s m meth c args cX3_findActiveTracks 4 "GridEngine$Fractions" "findActiveTracks" none) (hxt : ∀ x ∈ c.exceptionTable.toList, False)  : ∀ n : Nat, ∀ (h : HP) (r0 : Nat) (r1 : Nat) (x2 : Int32) (x3 : Int32) (H : Heap) (locs : List Loc) (ls : Array Slot), x_Rep E h H → va_S (x_A E) s.heap H locs → lv_has ls 4 [(0, .ref (xa E r0)), (1, .ref (xa E r1)), (2, .int x2), (3, .int x3)] → f_X3_findActiveTracks_L4 n h r0 r1 x2 x3 = some z → W p l e ({ frames := 11, cells := 0, slots := 0, locals := 202 } : Room) s m args below meth c H locs 0 0 (x_Q E below args s 0 0 z) (F0 m 4 ls []) := by
  intro n
  induction n with
  | zero => intro h r0 r1 x2 x3 H locs ls hR hS hl hf; cases (show (none : Option XR) = some z from hf)
  | succ n ih => intro h r0 r1 x2 x3 H locs ls hR hS hl hf; exact s_X3_findActiveTracks_b4 C0 hxt ih h r0 r1 x2 x3 H locs ls hR hS hl (show f_X3_findActiveTracks_b4 (f_X3_findActiveTracks_L4 n) h r0 r1 x2 x3 = some z from hf)
set_option maxRecDepth 100000 in
set_option maxHeartbeats 4000000 in
theorem ct_X3_findActiveTracks (E : XE) (l : Launch) (hl0 : l.stackTraces = false) (h : HP) (r0 : Nat) (r1 : Nat) : x_ct E l yX3_findActiveTracks (Cond.code yX3_findActiveTracks cX3_findActiveTracks 4 none) 11 202 0 0 [.ref (xa E r0), .ref (xa E r1)] h (f_X3_findActiveTracks h r0 r1) := by
  refine x_ofW hl0 (by decide +kernel) ?_
  intro z hf p e s m args below meth c C0 hxt hargs hR
  subst hargs
  have C0 : x_C E p l s m meth c ([.ref (xa E r0), .ref (xa E r1)] : List Value).toArray cX3_findActiveTracks 4 "GridEngine$Fractions" "findActiveTracks" none := C0
  obtain ⟨hx, hb, -⟩ := id C0
  have hS : va_S (x_A E) s.heap s.heap [] := va_S.rf
  have hl := lv_entry ([.ref (xa E r0), .ref (xa E r1)]) (n := 4) (Nat.le_of_ble_eq_true rfl)
  rw [lg_entry_eq]
  generalize (lg_sl ([.ref (xa E r0), .ref (xa E r1)]) ++ List.replicate (4 - (lg_sl ([.ref (xa E r0), .ref (xa E r1)])).length) Slot.unset).toArray = ls at hl ⊢
  have hl : lv_has ls 4 [(0, .ref (xa E r0)), (1, .ref (xa E r1))] := hl
  unfold f_X3_findActiveTracks at hf
  have h0 : x_by cX3_findActiveTracks 0 [4, 61, 3, 62] := by unfold x_by; decide +kernel
  obtain ⟨d0, h0⟩ := de_iconst_1 h0
  obtain ⟨d1, h0⟩ := de_istore_n2 h0
  obtain ⟨d2, h0⟩ := de_iconst_0 h0
  obtain ⟨d3, h0⟩ := de_istore_n3 h0
  refine lv_iconst (v := 1) hx hb d0 (by decide) ?_
  refine lv_istore_n (lv' := [(2, .int 1), (0, .ref (xa E r0)), (1, .ref (xa E r1))]) hx hb d1 rfl hl (by decide) rfl (fun ls hl => ?_)
  refine lv_iconst (v := 0) hx hb d2 (by decide) ?_
  refine lv_istore_n (lv' := [(3, .int 0), (2, .int 1), (0, .ref (xa E r0)), (1, .ref (xa E r1))]) hx hb d3 rfl hl (by decide) rfl (fun ls hl => ?_)
  exact s_X3_findActiveTracks_L4 C0 hxt FU _ _ _ _ _ _ _ _ hR hS (lv_sub hl [2, 3, 1, 0] rfl) hf
def f_X3_raiseUnit_b32  (h : HP)  : Option XR :=
  some (h, xv)
def f_X3_raiseUnit (h : HP) (r0 : Nat) (y1 : Int64) (y3 : Int64) : Option XR :=
  if (lg_cmp y3 0) ≤ 0 then
    (
      f_X3_raiseUnit_b32 h
    )
  else
    (
      x_gJ h r0 3 5 fun j1 =>
      x_gJ h r0 3 4 fun j2 =>
      if (lg_cmp (y1 * j1) (j2 * y3)) ≤ 0 then
        (
          f_X3_raiseUnit_b32 h
        )
      else
        (
          x_pJ h r0 3 4 y1 fun h3 =>
          x_pJ h3 r0 3 5 y3 fun h4 =>
          f_X3_raiseUnit_b32 h4
        )
    )
set_option maxRecDepth 100000 in
set_option maxHeartbeats 4000000 in
theorem s_X3_raiseUnit_b32 {p : Program} {l : Launch} {e : Env} {s : State} {m : MethodId} {args : Array Value} {below : List Frame} {meth : Method} {c : Code} {E : XE} {z : XR} (C0 : x_C E p l s m meth c args cX3_raiseUnit 5 "GridEngine$Fractions" "raiseUnit" none) (hxt : ∀ x ∈ c.exceptionTable.toList, False)  : ∀ (h : HP)  (H : Heap) (locs : List Loc) (ls : Array Slot), x_Rep E h H → va_S (x_A E) s.heap H locs → lv_has ls 5 [] → f_X3_raiseUnit_b32 h  = some z → W p l e ({ frames := 8, cells := 0, slots := 0, locals := 130 } : Room) s m args below meth c H locs 0 0 (x_Q E below args s 0 0 z) (F0 m 32 ls []) := by
  intro h  H locs ls hR hS hl hf
  obtain ⟨hx, hb, -⟩ := id C0
  unfold f_X3_raiseUnit_b32 at hf
  have h0 : x_by cX3_raiseUnit 32 [177] := by unfold x_by; decide +kernel
  obtain ⟨d32, h0⟩ := de_return h0
  exact x_vret C0 hR hS hf (Nat.le_of_ble_eq_true rfl) (Nat.le_of_ble_eq_true rfl) d32
set_option maxRecDepth 100000 in
set_option maxHeartbeats 4000000 in
theorem ct_X3_raiseUnit (E : XE) (l : Launch) (hl0 : l.stackTraces = false) (h : HP) (r0 : Nat) (y1 : Int64) (y3 : Int64) : x_ct E l yX3_raiseUnit (Cond.code yX3_raiseUnit cX3_raiseUnit 5 none) 8 130 0 0 [.ref (xa E r0), .long y1, .long y3] h (f_X3_raiseUnit h r0 y1 y3) := by
  refine x_ofW hl0 (by decide +kernel) ?_
  intro z hf p e s m args below meth c C0 hxt hargs hR
  subst hargs
  have C0 : x_C E p l s m meth c ([.ref (xa E r0), .long y1, .long y3] : List Value).toArray cX3_raiseUnit 5 "GridEngine$Fractions" "raiseUnit" none := C0
  obtain ⟨hx, hb, -⟩ := id C0
  have hS : va_S (x_A E) s.heap s.heap [] := va_S.rf
  have hl := lv_entry ([.ref (xa E r0), .long y1, .long y3]) (n := 5) (Nat.le_of_ble_eq_true rfl)
  rw [lg_entry_eq]
  generalize (lg_sl ([.ref (xa E r0), .long y1, .long y3]) ++ List.replicate (5 - (lg_sl ([.ref (xa E r0), .long y1, .long y3])).length) Slot.unset).toArray = ls at hl ⊢
  have hl : lv_has ls 5 [(0, .ref (xa E r0)), (1, .long y1), (3, .long y3)] := hl
  unfold f_X3_raiseUnit at hf
  have h0 : x_by cX3_raiseUnit 0 [33, 9, 148, 158, 0, 29] := by unfold x_by; decide +kernel
  obtain ⟨d0, h0⟩ := de_lload_n3 h0
  obtain ⟨d1, h0⟩ := de_lconst_0 h0
  obtain ⟨d2, h0⟩ := de_lcmp h0
  obtain ⟨d3, h0⟩ := de_if_le (29) (by decide) h0
  refine lv_lload_n hx hb d0 rfl (lv_at hl 2 rfl) ?_
  refine lv_lconst (v := 0) hx hb d1 (by decide) ?_
  refine W.lcmp hx hb d2 ?_
  refine lv_if_le (tgt := 32) hx hb d3 (by decide) (fun q => ?_) (fun q => ?_)
  · have hf := x_pos q hf
    exact s_X3_raiseUnit_b32 C0 hxt _ _ _ _ hR hS (lv_sub hl [] rfl) hf
  · have hf := x_neg q hf
    have h0 : x_by cX3_raiseUnit 6 [31, 42, 180, 0, 29, 105, 42, 180, 0, 26, 33, 105, 148, 158, 0, 13] := by unfold x_by; decide +kernel
    obtain ⟨d6, h0⟩ := de_lload_n1 h0
    obtain ⟨d7, h0⟩ := de_aload_n0 h0
    obtain ⟨d8, h0⟩ := de_getfield 29 (by decide) h0
    obtain ⟨d11, h0⟩ := de_lmul h0
    obtain ⟨d12, h0⟩ := de_aload_n0 h0
    obtain ⟨d13, h0⟩ := de_getfield 26 (by decide) h0
    obtain ⟨d16, h0⟩ := de_lload_n3 h0
    obtain ⟨d17, h0⟩ := de_lmul h0
    obtain ⟨d18, h0⟩ := de_lcmp h0
    obtain ⟨d19, h0⟩ := de_if_le (13) (by decide) h0
    refine lv_lload_n hx hb d6 rfl (lv_at hl 1 rfl) ?_
    refine lv_aload_n hx hb d7 rfl (lv_at hl 0 rfl) ?_
    refine x_getJ C0 hR hf xcl_3 (Nat.le_of_ble_eq_true rfl) rfl fl_X3_29 d8 (fun j1 hf => ?_)
    refine lv_lmul hx hb d11 ?_
    refine lv_aload_n hx hb d12 rfl (lv_at hl 0 rfl) ?_
    refine x_getJ C0 hR hf xcl_3 (Nat.le_of_ble_eq_true rfl) rfl fl_X3_26 d13 (fun j2 hf => ?_)
    refine lv_lload_n hx hb d16 rfl (lv_at hl 2 rfl) ?_
    refine lv_lmul hx hb d17 ?_
    refine W.lcmp hx hb d18 ?_
    refine lv_if_le (tgt := 32) hx hb d19 (by decide) (fun q => ?_) (fun q => ?_)
    · have hf := x_pos q hf
      exact s_X3_raiseUnit_b32 C0 hxt _ _ _ _ hR hS (lv_sub hl [] rfl) hf
    · have hf := x_neg q hf
      have h0 : x_by cX3_raiseUnit 22 [42, 31, 181, 0, 26, 42, 33, 181, 0, 29] := by unfold x_by; decide +kernel
      obtain ⟨d22, h0⟩ := de_aload_n0 h0
      obtain ⟨d23, h0⟩ := de_lload_n1 h0
      obtain ⟨d24, h0⟩ := de_putfield 26 (by decide) h0
      obtain ⟨d27, h0⟩ := de_aload_n0 h0
      obtain ⟨d28, h0⟩ := de_lload_n3 h0
      obtain ⟨d29, h0⟩ := de_putfield 29 (by decide) h0
      refine lv_aload_n hx hb d22 rfl (lv_at hl 0 rfl) ?_
      refine lv_lload_n hx hb d23 rfl (lv_at hl 1 rfl) ?_
      refine x_putJ C0 hR hS hf xcl_3 (Nat.le_of_ble_eq_true rfl) rfl fl_X3_26 (Or.inl rfl) d24 (fun H locs hR hS hf => ?_)
      refine lv_aload_n hx hb d27 rfl (lv_at hl 0 rfl) ?_
      refine lv_lload_n hx hb d28 rfl (lv_at hl 2 rfl) ?_
      refine x_putJ C0 hR hS hf xcl_3 (Nat.le_of_ble_eq_true rfl) rfl fl_X3_29 (Or.inl rfl) d29 (fun H locs hR hS hf => ?_)
      exact s_X3_raiseUnit_b32 C0 hxt _ _ _ _ hR hS (lv_sub hl [] rfl) hf
def f_X3_findUnit_b47 (k12 : HP → Nat → Nat → Int32 → Option XR) (h : HP) (r0 : Nat) (r1 : Nat) (x2 : Int32) : Option XR :=
  k12 h r0 r1 (x2 + 1)
def f_X3_findUnit_b135 (k55 : HP → Nat → Nat → Int32 → Option XR) (k93 : HP → Nat → Nat → Int32 → Int32 → Int32 → Int32 → Int32 → Option XR) (h : HP) (r0 : Nat) (r1 : Nat) (x2 : Int32) (x3 : Int32) (x4 : Int32) (x5 : Int32) (x6 : Int32) : Option XR :=
  k93 h r0 r1 x2 x3 x4 x5 (x6 + 1)
def f_X3_findUnit_b93 (k55 : HP → Nat → Nat → Int32 → Option XR) (k93 : HP → Nat → Nat → Int32 → Int32 → Int32 → Int32 → Int32 → Option XR) (h : HP) (r0 : Nat) (r1 : Nat) (x2 : Int32) (x3 : Int32) (x4 : Int32) (x5 : Int32) (x6 : Int32) : Option XR :=
  if x5 < x6 then
    (
      x_rc h r0 3 <| x_cV (f_X3_raiseUnit h r0 ((x3 : Int32).toInt64) ((x4 : Int32).toInt64)) fun h1 =>
      k55 h1 r0 r1 (x2 + 1)
    )
  else
    (
      x_gR h r0 3 0 fun a2 =>
      x_aI h 102 a2 x6 fun i3 =>
      if i3 = 0 then
        (
          x_gR h r1 0 6 fun a4 =>
          x_aI h 100 a4 x6 fun i5 =>
          x_lI (x3 - i5) fun i6 =>
          f_X3_findUnit_b135 k55 k93 h r0 r1 x2 i6 x4 x5 x6
        )
      else
        (
          x_rc h r1 0 <| x_cI (f_X0_part h r1 x6 3) fun h8 i7 =>
          x_lI (x4 + i7) fun i9 =>
          f_X3_findUnit_b135 k55 k93 h8 r0 r1 x2 x3 i9 x5 x6
        )
    )
def f_X3_findUnit_L93 (k55 : HP → Nat → Nat → Int32 → Option XR) : Nat → HP → Nat → Nat → Int32 → Int32 → Int32 → Int32 → Int32 → Option XR
  | 0 => fun _ _ _ _ _ _ _ _ => none
  | n + 1 => f_X3_findUnit_b93 k55 (f_X3_findUnit_L93 k55 n)
def f_X3_findUnit_b55 (k55 : HP → Nat → Nat → Int32 → Option XR) (h : HP) (r0 : Nat) (r1 : Nat) (x2 : Int32) : Option XR :=
  x_rc h r1 0 <| x_cI (f_X0_itemCount h r1) fun h2 i1 =>
  if i1 ≤ x2 then
    (
      some (h2, xv)
    )
  else
    (
      x_rc h2 r1 0 <| x_cI (f_X0_itemField h2 r1 x2 1) fun h4 i3 =>
      x_rc h4 r1 0 <| x_cI (f_X0_guttersWithin h4 r1 x2) fun h6 i5 =>
      x_lI (i3 - i5) fun i7 =>
      x_rc h6 r1 0 <| x_cI (f_X0_lastTrack h6 r1 x2) fun h9 i8 =>
      x_rc h9 r1 0 <| x_cI (f_X0_firstTrack h9 r1 x2) fun h11 i10 =>
      f_X3_findUnit_L93 k55 FU h11 r0 r1 x2 i7 0 i8 i10
    )
def f_X3_findUnit_L55  : Nat → HP → Nat → Nat → Int32 → Option XR
  | 0 => fun _ _ _ _ => none
  | n + 1 => f_X3_findUnit_b55 (f_X3_findUnit_L55 n)
def f_X3_findUnit_b12 (k12 : HP → Nat → Nat → Int32 → Option XR) (h : HP) (r0 : Nat) (r1 : Nat) (x2 : Int32) : Option XR :=
  x_gI h r1 0 10 fun i1 =>
  if i1 < x2 then
    (
      f_X3_findUnit_L55 FU h r0 r1 0
    )
  else
    (
      x_gR h r0 3 0 fun a2 =>
      x_aI h 102 a2 x2 fun i3 =>
      if i3 = 0 then
        (
          f_X3_findUnit_b47 k12 h r0 r1 x2
        )
      else
        (
          x_gR h r1 0 6 fun a4 =>
          x_aI h 100 a4 x2 fun i5 =>
          x_rc h r1 0 <| x_cI (f_X0_part h r1 x2 3) fun h7 i6 =>
          x_rc h7 r0 3 <| x_cV (f_X3_raiseUnit h7 r0 ((i5 : Int32).toInt64) ((i6 : Int32).toInt64)) fun h8 =>
          f_X3_findUnit_b47 k12 h8 r0 r1 x2
        )
    )
def f_X3_findUnit_L12  : Nat → HP → Nat → Nat → Int32 → Option XR
  | 0 => fun _ _ _ _ => none
  | n + 1 => f_X3_findUnit_b12 (f_X3_findUnit_L12 n)
def f_X3_findUnit (h : HP) (r0 : Nat) (r1 : Nat) : Option XR :=
  x_pJ h r0 3 4 0 fun h1 =>
  x_pJ h1 r0 3 5 1 fun h2 =>
  f_X3_findUnit_L12 FU h2 r0 r1 1
set_option maxRecDepth 100000 in
set_option maxHeartbeats 4000000 in
theorem s_X3_findUnit_b47 {p : Program} {l : Launch} {e : Env} {s : State} {m : MethodId} {args : Array Value} {below : List Frame} {meth : Method} {c : Code} {E : XE} {z : XR} (C0 : x_C E p l s m meth c args cX3_findUnit 7 "GridEngine$Fractions" "findUnit" none) (hxt : ∀ x ∈ c.exceptionTable.toList, False) {k12 : HP → Nat → Nat → Int32 → Option XR} (hk12 : ∀ (h : HP) (r0 : Nat) (r1 : Nat) (x2 : Int32) (H : Heap) (locs : List Loc) (ls : Array Slot), x_Rep E h H → va_S (x_A E) s.heap H locs → lv_has ls 7 [(0, .ref (xa E r0)), (1, .ref (xa E r1)), (2, .int x2)] → k12 h r0 r1 x2 = some z → W p l e ({ frames := 11, cells := 0, slots := 0, locals := 197 } : Room) s m args below meth c H locs 0 0 (x_Q E below args s 0 0 z) (F0 m 12 ls [])) : ∀ (h : HP) (r0 : Nat) (r1 : Nat) (x2 : Int32) (H : Heap) (locs : List Loc) (ls : Array Slot), x_Rep E h H → va_S (x_A E) s.heap H locs → lv_has ls 7 [(0, .ref (xa E r0)), (1, .ref (xa E r1)), (2, .int x2)] → f_X3_findUnit_b47 k12 h r0 r1 x2 = some z → W p l e ({ frames := 11, cells := 0, slots := 0, locals := 197 } : Room) s m args below meth c H locs 0 0 (x_Q E below args s 0 0 z) (F0 m 47 ls []) := by
  intro h r0 r1 x2 H locs ls hR hS hl hf
  obtain ⟨hx, hb, -⟩ := id C0
  unfold f_X3_findUnit_b47 at hf
  have h0 : x_by cX3_findUnit 47 [132, 2, 1, 167, 255, 218] := by unfold x_by; decide +kernel
  obtain ⟨d47, h0⟩ := de_iinc (1) (by decide) h0
  obtain ⟨d50, h0⟩ := de_goto (-38) (by decide) h0
  refine lv_iinc (v := (x2 + 1)) (lv' := [(2, .int (x2 + 1)), (0, .ref (xa E r0)), (1, .ref (xa E r1))]) hx hb d47 hl (k := 2) rfl rfl (by decide) rfl (fun ls hl => ?_)
  refine lv_goto (tgt := 12) hx hb d50 (by decide) ?_
  exact hk12 _ _ _ _ _ _ _ hR hS (lv_sub hl [1, 2, 0] rfl) hf
set_option maxRecDepth 100000 in
set_option maxHeartbeats 4000000 in
theorem s_X3_findUnit_b135 {p : Program} {l : Launch} {e : Env} {s : State} {m : MethodId} {args : Array Value} {below : List Frame} {meth : Method} {c : Code} {E : XE} {z : XR} (C0 : x_C E p l s m meth c args cX3_findUnit 7 "GridEngine$Fractions" "findUnit" none) (hxt : ∀ x ∈ c.exceptionTable.toList, False) {k55 : HP → Nat → Nat → Int32 → Option XR} (hk55 : ∀ (h : HP) (r0 : Nat) (r1 : Nat) (x2 : Int32) (H : Heap) (locs : List Loc) (ls : Array Slot), x_Rep E h H → va_S (x_A E) s.heap H locs → lv_has ls 7 [(0, .ref (xa E r0)), (1, .ref (xa E r1)), (2, .int x2)] → k55 h r0 r1 x2 = some z → W p l e ({ frames := 11, cells := 0, slots := 0, locals := 197 } : Room) s m args below meth c H locs 0 0 (x_Q E below args s 0 0 z) (F0 m 55 ls [])) {k93 : HP → Nat → Nat → Int32 → Int32 → Int32 → Int32 → Int32 → Option XR} (hk93 : ∀ (h : HP) (r0 : Nat) (r1 : Nat) (x2 : Int32) (x3 : Int32) (x4 : Int32) (x5 : Int32) (x6 : Int32) (H : Heap) (locs : List Loc) (ls : Array Slot), x_Rep E h H → va_S (x_A E) s.heap H locs → lv_has ls 7 [(0, .ref (xa E r0)), (1, .ref (xa E r1)), (2, .int x2), (3, .int x3), (4, .int x4), (5, .int x5), (6, .int x6)] → k93 h r0 r1 x2 x3 x4 x5 x6 = some z → W p l e ({ frames := 11, cells := 0, slots := 0, locals := 197 } : Room) s m args below meth c H locs 0 0 (x_Q E below args s 0 0 z) (F0 m 93 ls [])) : ∀ (h : HP) (r0 : Nat) (r1 : Nat) (x2 : Int32) (x3 : Int32) (x4 : Int32) (x5 : Int32) (x6 : Int32) (H : Heap) (locs : List Loc) (ls : Array Slot), x_Rep E h H → va_S (x_A E) s.heap H locs → lv_has ls 7 [(0, .ref (xa E r0)), (1, .ref (xa E r1)), (2, .int x2), (3, .int x3), (4, .int x4), (5, .int x5), (6, .int x6)] → f_X3_findUnit_b135 k55 k93 h r0 r1 x2 x3 x4 x5 x6 = some z → W p l e ({ frames := 11, cells := 0, slots := 0, locals := 197 } : Room) s m args below meth c H locs 0 0 (x_Q E below args s 0 0 z) (F0 m 135 ls []) := by
  intro h r0 r1 x2 x3 x4 x5 x6 H locs ls hR hS hl hf
  obtain ⟨hx, hb, -⟩ := id C0
  unfold f_X3_findUnit_b135 at hf
  have h0 : x_by cX3_findUnit 135 [132, 6, 1, 167, 255, 211] := by unfold x_by; decide +kernel
  obtain ⟨d135, h0⟩ := de_iinc (1) (by decide) h0
  obtain ⟨d138, h0⟩ := de_goto (-45) (by decide) h0
  refine lv_iinc (v := (x6 + 1)) (lv' := [(6, .int (x6 + 1)), (0, .ref (xa E r0)), (1, .ref (xa E r1)), (2, .int x2), (3, .int x3), (4, .int x4), (5, .int x5)]) hx hb d135 hl (k := 6) rfl rfl (by decide) rfl (fun ls hl => ?_)
  refine lv_goto (tgt := 93) hx hb d138 (by decide) ?_
  exact hk93 _ _ _ _ _ _ _ _ _ _ _ hR hS (lv_sub hl [1, 2, 3, 4, 5, 6, 0] rfl) hf
set_option maxRecDepth 100000 in
set_option maxHeartbeats 4000000 in
theorem s_X3_findUnit_b93 {p : Program} {l : Launch} {e : Env} {s : State} {m : MethodId} {args : Array Value} {below : List Frame} {meth : Method} {c : Code} {E : XE} {z : XR} (C0 : x_C E p l s m meth c args cX3_findUnit 7 "GridEngine$Fractions" "findUnit" none) (hxt : ∀ x ∈ c.exceptionTable.toList, False) {k55 : HP → Nat → Nat → Int32 → Option XR} (hk55 : ∀ (h : HP) (r0 : Nat) (r1 : Nat) (x2 : Int32) (H : Heap) (locs : List Loc) (ls : Array Slot), x_Rep E h H → va_S (x_A E) s.heap H locs → lv_has ls 7 [(0, .ref (xa E r0)), (1, .ref (xa E r1)), (2, .int x2)] → k55 h r0 r1 x2 = some z → W p l e ({ frames := 11, cells := 0, slots := 0, locals := 197 } : Room) s m args below meth c H locs 0 0 (x_Q E below args s 0 0 z) (F0 m 55 ls [])) {k93 : HP → Nat → Nat → Int32 → Int32 → Int32 → Int32 → Int32 → Option XR} (hk93 : ∀ (h : HP) (r0 : Nat) (r1 : Nat) (x2 : Int32) (x3 : Int32) (x4 : Int32) (x5 : Int32) (x6 : Int32) (H : Heap) (locs : List Loc) (ls : Array Slot), x_Rep E h H → va_S (x_A E) s.heap H locs → lv_has ls 7 [(0, .ref (xa E r0)), (1, .ref (xa E r1)), (2, .int x2), (3, .int x3), (4, .int x4), (5, .int x5), (6, .int x6)] → k93 h r0 r1 x2 x3 x4 x5 x6 = some z → W p l e ({ frames := 11, cells := 0, slots := 0, locals := 197 } : Room) s m args below meth c H locs 0 0 (x_Q E below args s 0 0 z) (F0 m 93 ls [])) : ∀ (h : HP) (r0 : Nat) (r1 : Nat) (x2 : Int32) (x3 : Int32) (x4 : Int32) (x5 : Int32) (x6 : Int32) (H : Heap) (locs : List Loc) (ls : Array Slot), x_Rep E h H → va_S (x_A E) s.heap H locs → lv_has ls 7 [(0, .ref (xa E r0)), (1, .ref (xa E r1)), (2, .int x2), (3, .int x3), (4, .int x4), (5, .int x5), (6, .int x6)] → f_X3_findUnit_b93 k55 k93 h r0 r1 x2 x3 x4 x5 x6 = some z → W p l e ({ frames := 11, cells := 0, slots := 0, locals := 197 } : Room) s m args below meth c H locs 0 0 (x_Q E below args s 0 0 z) (F0 m 93 ls []) := by
  intro h r0 r1 x2 x3 x4 x5 x6 H locs ls hR hS hl hf
  obtain ⟨hx, hb, -⟩ := id C0
  unfold f_X3_findUnit_b93 at hf
  have h0 : x_by cX3_findUnit 93 [21, 6, 21, 5, 163, 0, 44] := by unfold x_by; decide +kernel
  obtain ⟨d93, h0⟩ := de_iload h0
  obtain ⟨d95, h0⟩ := de_iload h0
  obtain ⟨d97, h0⟩ := de_icmp_gt (44) (by decide) h0
  refine lv_iload hx hb d93 (lv_at hl 6 rfl) ?_
  refine lv_iload hx hb d95 (lv_at hl 5 rfl) ?_
  refine lv_icmp_gt (tgt := 141) hx hb d97 (by decide) (fun q => ?_) (fun q => ?_)
  · have hf := x_pos q hf
    have h0 : x_by cX3_findUnit 141 [42, 29, 133, 21, 4, 133, 182, 0, 97, 132, 2, 1, 167, 255, 158] := by unfold x_by; decide +kernel
    obtain ⟨d141, h0⟩ := de_aload_n0 h0
    obtain ⟨d142, h0⟩ := de_iload_n3 h0
    obtain ⟨d143, h0⟩ := de_i2l h0
    obtain ⟨d144, h0⟩ := de_iload h0
    obtain ⟨d146, h0⟩ := de_i2l h0
    obtain ⟨d147, h0⟩ := de_invokevirtual 97 (by decide) h0
    obtain ⟨d150, h0⟩ := de_iinc (1) (by decide) h0
    obtain ⟨d153, h0⟩ := de_goto (-98) (by decide) h0
    refine lv_aload_n hx hb d141 rfl (lv_at hl 0 rfl) ?_
    refine lv_iload_n hx hb d142 rfl (lv_at hl 3 rfl) ?_
    refine lv_i2l hx hb d143 rfl ?_
    refine lv_iload hx hb d144 (lv_at hl 4 rfl) ?_
    refine lv_i2l hx hb d146 rfl ?_
    obtain ⟨hs9, hf⟩ := x_if hf
    refine x_thenV C0 hxt hS hf (fun z0 e0 => x_runV C0 hR hS me_X3_raiseUnit wi_X3_raiseUnit wl_X3_raiseUnit ml_X3_97 hs9 xcl_3 (As := [.long ((x3 : Int32).toInt64), .long ((x4 : Int32).toInt64)]) (ct_X3_raiseUnit E l C0.2.2.2.2.2.2.2.1 _ r0 ((x3 : Int32).toInt64) ((x4 : Int32).toInt64)) rfl rfl hl.1 (Nat.le_of_ble_eq_true rfl) d147 ⟨(Nat.le_of_ble_eq_true rfl), (Nat.le_of_ble_eq_true rfl)⟩ ⟨(Nat.le_of_ble_eq_true rfl), (Nat.le_of_ble_eq_true rfl)⟩ e0) (Nat.le_of_ble_eq_true rfl) (Nat.le_of_ble_eq_true rfl) (fun h9 H locs hR hS hf => ?_)
    refine lv_iinc (v := (x2 + 1)) (lv' := [(2, .int (x2 + 1)), (0, .ref (xa E r0)), (1, .ref (xa E r1)), (3, .int x3), (4, .int x4), (5, .int x5), (6, .int x6)]) hx hb d150 hl (k := 2) rfl rfl (by decide) rfl (fun ls hl => ?_)
    refine lv_goto (tgt := 55) hx hb d153 (by decide) ?_
    exact hk55 _ _ _ _ _ _ _ hR hS (lv_sub hl [1, 2, 0] rfl) hf
  · have hf := x_neg q hf
    have h0 : x_by cX3_findUnit 100 [42, 180, 0, 9, 21, 6, 51, 153, 0, 18] := by unfold x_by; decide +kernel
    obtain ⟨d100, h0⟩ := de_aload_n0 h0
    obtain ⟨d101, h0⟩ := de_getfield 9 (by decide) h0
    obtain ⟨d104, h0⟩ := de_iload h0
    obtain ⟨d106, h0⟩ := de_baload h0
    obtain ⟨d107, h0⟩ := de_if_eq (18) (by decide) h0
    refine lv_aload_n hx hb d100 rfl (lv_at hl 0 rfl) ?_
    refine x_getR C0 hR hf xcl_3 (Nat.le_of_ble_eq_true rfl) rfl fl_X3_9 d101 (fun a2 hf => ?_)
    refine lv_iload hx hb d104 (lv_at hl 6 rfl) ?_
    refine x_zald C0 hR hf d106 (fun i3 hf => ?_)
    refine lv_if_eq (tgt := 125) hx hb d107 (by decide) (fun q => ?_) (fun q => ?_)
    · have hf := x_pos q hf
      have h0 : x_by cX3_findUnit 125 [29, 43, 180, 0, 32, 21, 6, 46, 100, 62] := by unfold x_by; decide +kernel
      obtain ⟨d125, h0⟩ := de_iload_n3 h0
      obtain ⟨d126, h0⟩ := de_aload_n1 h0
      obtain ⟨d127, h0⟩ := de_getfield 32 (by decide) h0
      obtain ⟨d130, h0⟩ := de_iload h0
      obtain ⟨d132, h0⟩ := de_iaload h0
      obtain ⟨d133, h0⟩ := de_isub h0
      obtain ⟨d134, h0⟩ := de_istore_n3 h0
      refine lv_iload_n hx hb d125 rfl (lv_at hl 3 rfl) ?_
      refine lv_aload_n hx hb d126 rfl (lv_at hl 1 rfl) ?_
      refine x_getR C0 hR hf xcl_0 (Nat.le_of_ble_eq_true rfl) rfl fl_X3_32 d127 (fun a4 hf => ?_)
      refine lv_iload hx hb d130 (lv_at hl 6 rfl) ?_
      refine x_iald C0 hR hf d132 (fun i5 hf => ?_)
      refine lv_isub hx hb d133 ?_
      refine lv_topi (fun i6 ei6 => ?_)
      have hf := x_lI_el ei6 hf
      refine lv_istore_n (lv' := [(3, .int i6), (0, .ref (xa E r0)), (1, .ref (xa E r1)), (2, .int x2), (4, .int x4), (5, .int x5), (6, .int x6)]) hx hb d134 rfl hl (by decide) rfl (fun ls hl => ?_)
      exact s_X3_findUnit_b135 C0 hxt hk55 hk93 _ _ _ _ _ _ _ _ _ _ _ hR hS (lv_sub hl [1, 2, 3, 0, 4, 5, 6] rfl) hf
    · have hf := x_neg q hf
      have h0 : x_by cX3_findUnit 110 [21, 4, 43, 21, 6, 6, 182, 0, 84, 96, 54, 4, 167, 0, 13] := by unfold x_by; decide +kernel
      obtain ⟨d110, h0⟩ := de_iload h0
      obtain ⟨d112, h0⟩ := de_aload_n1 h0
      obtain ⟨d113, h0⟩ := de_iload h0
      obtain ⟨d115, h0⟩ := de_iconst_3 h0
      obtain ⟨d116, h0⟩ := de_invokevirtual 84 (by decide) h0
      obtain ⟨d119, h0⟩ := de_iadd h0
      obtain ⟨d120, h0⟩ := de_istore h0
      obtain ⟨d122, h0⟩ := de_goto (13) (by decide) h0
      refine lv_iload hx hb d110 (lv_at hl 4 rfl) ?_
      refine lv_aload_n hx hb d112 rfl (lv_at hl 1 rfl) ?_
      refine lv_iload hx hb d113 (lv_at hl 6 rfl) ?_
      refine lv_iconst (v := 3) hx hb d115 (by decide) ?_
      obtain ⟨hs9, hf⟩ := x_if hf
      refine x_thenI C0 hxt hS hf (fun z0 e0 => x_runV C0 hR hS me_X0_part wi_X0_part wl_X0_part ml_X3_84 hs9 xcl_0 (As := [.int x6, .int 3]) (ct_X0_part E l C0.2.2.2.2.2.2.2.1 _ r1 x6 3) rfl rfl hl.1 (Nat.le_of_ble_eq_true rfl) d116 ⟨(Nat.le_of_ble_eq_true rfl), (Nat.le_of_ble_eq_true rfl)⟩ ⟨(Nat.le_of_ble_eq_true rfl), (Nat.le_of_ble_eq_true rfl)⟩ e0) (Nat.le_of_ble_eq_true rfl) (Nat.le_of_ble_eq_true rfl) (fun h9 i7 H locs hR hS hf => ?_)
      refine lv_iadd hx hb d119 ?_
      refine lv_topi (fun i9 ei9 => ?_)
      have hf := x_lI_el ei9 hf
      refine lv_istore (lv' := [(4, .int i9), (0, .ref (xa E r0)), (1, .ref (xa E r1)), (2, .int x2), (3, .int x3), (5, .int x5), (6, .int x6)]) hx hb d120 hl (by decide) rfl (fun ls hl => ?_)
      refine lv_goto (tgt := 135) hx hb d122 (by decide) ?_
      exact s_X3_findUnit_b135 C0 hxt hk55 hk93 _ _ _ _ _ _ _ _ _ _ _ hR hS (lv_sub hl [1, 2, 3, 4, 0, 5, 6] rfl) hf
theorem s_X3_findUnit_L93 {p : Program} {l : Launch} {e : Env} {s : State} {m : MethodId} {args : Array Value} {below : List Frame} {meth : Method} {c : Code} {E : XE} {z : XR} (C0 : x_C E p l s m meth c args cX3_findUnit 7 "GridEngine$Fractions" "findUnit" none) (hxt : ∀ x ∈ c.exceptionTable.toList, False) {k55 : HP → Nat → Nat → Int32 → Option XR} (hk55 : ∀ (h : HP) (r0 : Nat) (r1 : Nat) (x2 : Int32) (H : Heap) (locs : List Loc) (ls : Array Slot), x_Rep E h H → va_S (x_A E) s.heap H locs → lv_has ls 7 [(0, .ref (xa E r0)), (1, .ref (xa E r1)), (2, .int x2)] → k55 h r0 r1 x2 = some z → W p l e ({ frames := 11, cells := 0, slots := 0, locals := 197 } : Room) s m args below meth c H locs 0 0 (x_Q E below args s 0 0 z) (F0 m 55 ls [])) : ∀ n : Nat, ∀ (h : HP) (r0 : Nat) (r1 : Nat) (x2 : Int32) (x3 : Int32) (x4 : Int32) (x5 : Int32) (x6 : Int32) (H : Heap) (locs : List Loc) (ls : Array Slot), x_Rep E h H → va_S (x_A E) s.heap H locs → lv_has ls 7 [(0, .ref (xa E r0)), (1, .ref (xa E r1)), (2, .int x2), (3, .int x3), (4, .int x4), (5, .int x5), (6, .int x6)] → f_X3_findUnit_L93 k55 n h r0 r1 x2 x3 x4 x5 x6 = some z → W p l e ({ frames := 11, cells := 0, slots := 0, locals := 197 } : Room) s m args below meth c H locs 0 0 (x_Q E below args s 0 0 z) (F0 m 93 ls []) := by
  intro n
  induction n with
  | zero => intro h r0 r1 x2 x3 x4 x5 x6 H locs ls hR hS hl hf; cases (show (none : Option XR) = some z from hf)
  | succ n ih => intro h r0 r1 x2 x3 x4 x5 x6 H locs ls hR hS hl hf; exact s_X3_findUnit_b93 C0 hxt hk55 ih h r0 r1 x2 x3 x4 x5 x6 H locs ls hR hS hl (show f_X3_findUnit_b93 k55 (f_X3_findUnit_L93 k55 n) h r0 r1 x2 x3 x4 x5 x6 = some z from hf)
set_option maxRecDepth 100000 in
set_option maxHeartbeats 4000000 in
theorem s_X3_findUnit_b55 {p : Program} {l : Launch} {e : Env} {s : State} {m : MethodId} {args : Array Value} {below : List Frame} {meth : Method} {c : Code} {E : XE} {z : XR} (C0 : x_C E p l s m meth c args cX3_findUnit 7 "GridEngine$Fractions" "findUnit" none) (hxt : ∀ x ∈ c.exceptionTable.toList, False) {k55 : HP → Nat → Nat → Int32 → Option XR} (hk55 : ∀ (h : HP) (r0 : Nat) (r1 : Nat) (x2 : Int32) (H : Heap) (locs : List Loc) (ls : Array Slot), x_Rep E h H → va_S (x_A E) s.heap H locs → lv_has ls 7 [(0, .ref (xa E r0)), (1, .ref (xa E r1)), (2, .int x2)] → k55 h r0 r1 x2 = some z → W p l e ({ frames := 11, cells := 0, slots := 0, locals := 197 } : Room) s m args below meth c H locs 0 0 (x_Q E below args s 0 0 z) (F0 m 55 ls [])) : ∀ (h : HP) (r0 : Nat) (r1 : Nat) (x2 : Int32) (H : Heap) (locs : List Loc) (ls : Array Slot), x_Rep E h H → va_S (x_A E) s.heap H locs → lv_has ls 7 [(0, .ref (xa E r0)), (1, .ref (xa E r1)), (2, .int x2)] → f_X3_findUnit_b55 k55 h r0 r1 x2 = some z → W p l e ({ frames := 11, cells := 0, slots := 0, locals := 197 } : Room) s m args below meth c H locs 0 0 (x_Q E below args s 0 0 z) (F0 m 55 ls []) := by
  intro h r0 r1 x2 H locs ls hR hS hl hf
  obtain ⟨hx, hb, -⟩ := id C0
  unfold f_X3_findUnit_b55 at hf
  have h0 : x_by cX3_findUnit 55 [28, 43, 182, 0, 101, 162, 0, 96] := by unfold x_by; decide +kernel
  obtain ⟨d55, h0⟩ := de_iload_n2 h0
  obtain ⟨d56, h0⟩ := de_aload_n1 h0
  obtain ⟨d57, h0⟩ := de_invokevirtual 101 (by decide) h0
  obtain ⟨d60, h0⟩ := de_icmp_ge (96) (by decide) h0
  refine lv_iload_n hx hb d55 rfl (lv_at hl 2 rfl) ?_
  refine lv_aload_n hx hb d56 rfl (lv_at hl 1 rfl) ?_
  obtain ⟨hs9, hf⟩ := x_if hf
  refine x_thenI C0 hxt hS hf (fun z0 e0 => x_runV C0 hR hS me_X0_itemCount wi_X0_itemCount wl_X0_itemCount ml_X3_101 hs9 xcl_0 (As := []) (ct_X0_itemCount E l C0.2.2.2.2.2.2.2.1 _ r1) rfl rfl hl.1 (Nat.le_of_ble_eq_true rfl) d57 ⟨(Nat.le_of_ble_eq_true rfl), (Nat.le_of_ble_eq_true rfl)⟩ ⟨(Nat.le_of_ble_eq_true rfl), (Nat.le_of_ble_eq_true rfl)⟩ e0) (Nat.le_of_ble_eq_true rfl) (Nat.le_of_ble_eq_true rfl) (fun h9 i1 H locs hR hS hf => ?_)
  refine lv_icmp_ge (tgt := 156) hx hb d60 (by decide) (fun q => ?_) (fun q => ?_)
  · have hf := x_pos q hf
    have h0 : x_by cX3_findUnit 156 [177] := by unfold x_by; decide +kernel
    obtain ⟨d156, h0⟩ := de_return h0
    exact x_vret C0 hR hS hf (Nat.le_of_ble_eq_true rfl) (Nat.le_of_ble_eq_true rfl) d156
  · have hf := x_neg q hf
    have h0 : x_by cX3_findUnit 63 [43, 28, 4, 182, 0, 105, 43, 28, 182, 0, 108, 100, 62, 3, 54, 4, 43, 28, 182, 0, 111, 54, 5, 43, 28, 182, 0, 114, 54, 6] := by unfold x_by; decide +kernel
    obtain ⟨d63, h0⟩ := de_aload_n1 h0
    obtain ⟨d64, h0⟩ := de_iload_n2 h0
    obtain ⟨d65, h0⟩ := de_iconst_1 h0
    obtain ⟨d66, h0⟩ := de_invokevirtual 105 (by decide) h0
    obtain ⟨d69, h0⟩ := de_aload_n1 h0
    obtain ⟨d70, h0⟩ := de_iload_n2 h0
    obtain ⟨d71, h0⟩ := de_invokevirtual 108 (by decide) h0
    obtain ⟨d74, h0⟩ := de_isub h0
    obtain ⟨d75, h0⟩ := de_istore_n3 h0
    obtain ⟨d76, h0⟩ := de_iconst_0 h0
    obtain ⟨d77, h0⟩ := de_istore h0
    obtain ⟨d79, h0⟩ := de_aload_n1 h0
    obtain ⟨d80, h0⟩ := de_iload_n2 h0
    obtain ⟨d81, h0⟩ := de_invokevirtual 111 (by decide) h0
    obtain ⟨d84, h0⟩ := de_istore h0
    obtain ⟨d86, h0⟩ := de_aload_n1 h0
    obtain ⟨d87, h0⟩ := de_iload_n2 h0
    obtain ⟨d88, h0⟩ := de_invokevirtual 114 (by decide) h0
    obtain ⟨d91, h0⟩ := de_istore h0
    refine lv_aload_n hx hb d63 rfl (lv_at hl 1 rfl) ?_
    refine lv_iload_n hx hb d64 rfl (lv_at hl 2 rfl) ?_
    refine lv_iconst (v := 1) hx hb d65 (by decide) ?_
    obtain ⟨hs9, hf⟩ := x_if hf
    refine x_thenI C0 hxt hS hf (fun z0 e0 => x_runV C0 hR hS me_X0_itemField wi_X0_itemField wl_X0_itemField ml_X3_105 hs9 xcl_0 (As := [.int x2, .int 1]) (ct_X0_itemField E l C0.2.2.2.2.2.2.2.1 _ r1 x2 1) rfl rfl hl.1 (Nat.le_of_ble_eq_true rfl) d66 ⟨(Nat.le_of_ble_eq_true rfl), (Nat.le_of_ble_eq_true rfl)⟩ ⟨(Nat.le_of_ble_eq_true rfl), (Nat.le_of_ble_eq_true rfl)⟩ e0) (Nat.le_of_ble_eq_true rfl) (Nat.le_of_ble_eq_true rfl) (fun h9 i3 H locs hR hS hf => ?_)
    refine lv_aload_n hx hb d69 rfl (lv_at hl 1 rfl) ?_
    refine lv_iload_n hx hb d70 rfl (lv_at hl 2 rfl) ?_
    obtain ⟨hs9, hf⟩ := x_if hf
    refine x_thenI C0 hxt hS hf (fun z0 e0 => x_runV C0 hR hS me_X0_guttersWithin wi_X0_guttersWithin wl_X0_guttersWithin ml_X3_108 hs9 xcl_0 (As := [.int x2]) (ct_X0_guttersWithin E l C0.2.2.2.2.2.2.2.1 _ r1 x2) rfl rfl hl.1 (Nat.le_of_ble_eq_true rfl) d71 ⟨(Nat.le_of_ble_eq_true rfl), (Nat.le_of_ble_eq_true rfl)⟩ ⟨(Nat.le_of_ble_eq_true rfl), (Nat.le_of_ble_eq_true rfl)⟩ e0) (Nat.le_of_ble_eq_true rfl) (Nat.le_of_ble_eq_true rfl) (fun h9 i5 H locs hR hS hf => ?_)
    refine lv_isub hx hb d74 ?_
    refine lv_topi (fun i7 ei7 => ?_)
    have hf := x_lI_el ei7 hf
    refine lv_istore_n (lv' := [(3, .int i7), (0, .ref (xa E r0)), (1, .ref (xa E r1)), (2, .int x2)]) hx hb d75 rfl hl (by decide) rfl (fun ls hl => ?_)
    refine lv_iconst (v := 0) hx hb d76 (by decide) ?_
    refine lv_istore (lv' := [(4, .int 0), (3, .int i7), (0, .ref (xa E r0)), (1, .ref (xa E r1)), (2, .int x2)]) hx hb d77 hl (by decide) rfl (fun ls hl => ?_)
    refine lv_aload_n hx hb d79 rfl (lv_at hl 3 rfl) ?_
    refine lv_iload_n hx hb d80 rfl (lv_at hl 4 rfl) ?_
    obtain ⟨hs9, hf⟩ := x_if hf
    refine x_thenI C0 hxt hS hf (fun z0 e0 => x_runV C0 hR hS me_X0_lastTrack wi_X0_lastTrack wl_X0_lastTrack ml_X3_111 hs9 xcl_0 (As := [.int x2]) (ct_X0_lastTrack E l C0.2.2.2.2.2.2.2.1 _ r1 x2) rfl rfl hl.1 (Nat.le_of_ble_eq_true rfl) d81 ⟨(Nat.le_of_ble_eq_true rfl), (Nat.le_of_ble_eq_true rfl)⟩ ⟨(Nat.le_of_ble_eq_true rfl), (Nat.le_of_ble_eq_true rfl)⟩ e0) (Nat.le_of_ble_eq_true rfl) (Nat.le_of_ble_eq_true rfl) (fun h9 i8 H locs hR hS hf => ?_)
    refine lv_istore (lv' := [(5, .int i8), (4, .int 0), (3, .int i7), (0, .ref (xa E r0)), (1, .ref (xa E r1)), (2, .int x2)]) hx hb d84 hl (by decide) rfl (fun ls hl => ?_)
    refine lv_aload_n hx hb d86 rfl (lv_at hl 4 rfl) ?_
    refine lv_iload_n hx hb d87 rfl (lv_at hl 5 rfl) ?_
    obtain ⟨hs9, hf⟩ := x_if hf
    refine x_thenI C0 hxt hS hf (fun z0 e0 => x_runV C0 hR hS me_X0_firstTrack wi_X0_firstTrack wl_X0_firstTrack ml_X3_114 hs9 xcl_0 (As := [.int x2]) (ct_X0_firstTrack E l C0.2.2.2.2.2.2.2.1 _ r1 x2) rfl rfl hl.1 (Nat.le_of_ble_eq_true rfl) d88 ⟨(Nat.le_of_ble_eq_true rfl), (Nat.le_of_ble_eq_true rfl)⟩ ⟨(Nat.le_of_ble_eq_true rfl), (Nat.le_of_ble_eq_true rfl)⟩ e0) (Nat.le_of_ble_eq_true rfl) (Nat.le_of_ble_eq_true rfl) (fun h9 i10 H locs hR hS hf => ?_)
    refine lv_istore (lv' := [(6, .int i10), (5, .int i8), (4, .int 0), (3, .int i7), (0, .ref (xa E r0)), (1, .ref (xa E r1)), (2, .int x2)]) hx hb d91 hl (by decide) rfl (fun ls hl => ?_)
    exact s_X3_findUnit_L93 C0 hxt hk55 FU _ _ _ _ _ _ _ _ _ _ _ hR hS (lv_sub hl [4, 5, 6, 3, 2, 1, 0] rfl) hf
theorem s_X3_findUnit_L55 {p : Program} {l : Launch} {e : Env} {s : State} {m : MethodId} {args : Array Value} {below : List Frame} {meth : Method} {c : Code} {E : XE} {z : XR} (C0 : x_C E p l s m meth c args cX3_findUnit 7 "GridEngine$Fractions" "findUnit" none) (hxt : ∀ x ∈ c.exceptionTable.toList, False)  : ∀ n : Nat, ∀ (h : HP) (r0 : Nat) (r1 : Nat) (x2 : Int32) (H : Heap) (locs : List Loc) (ls : Array Slot), x_Rep E h H → va_S (x_A E) s.heap H locs → lv_has ls 7 [(0, .ref (xa E r0)), (1, .ref (xa E r1)), (2, .int x2)] → f_X3_findUnit_L55 n h r0 r1 x2 = some z → W p l e ({ frames := 11, cells := 0, slots := 0, locals := 197 } : Room) s m args below meth c H locs 0 0 (x_Q E below args s 0 0 z) (F0 m 55 ls []) := by
  intro n
  induction n with
  | zero => intro h r0 r1 x2 H locs ls hR hS hl hf; cases (show (none : Option XR) = some z from hf)
  | succ n ih => intro h r0 r1 x2 H locs ls hR hS hl hf; exact s_X3_findUnit_b55 C0 hxt ih h r0 r1 x2 H locs ls hR hS hl (show f_X3_findUnit_b55 (f_X3_findUnit_L55 n) h r0 r1 x2 = some z from hf)
set_option maxRecDepth 100000 in
set_option maxHeartbeats 4000000 in
theorem s_X3_findUnit_b12 {p : Program} {l : Launch} {e : Env} {s : State} {m : MethodId} {args : Array Value} {below : List Frame} {meth : Method} {c : Code} {E : XE} {z : XR} (C0 : x_C E p l s m meth c args cX3_findUnit 7 "GridEngine$Fractions" "findUnit" none) (hxt : ∀ x ∈ c.exceptionTable.toList, False) {k12 : HP → Nat → Nat → Int32 → Option XR} (hk12 : ∀ (h : HP) (r0 : Nat) (r1 : Nat) (x2 : Int32) (H : Heap) (locs : List Loc) (ls : Array Slot), x_Rep E h H → va_S (x_A E) s.heap H locs → lv_has ls 7 [(0, .ref (xa E r0)), (1, .ref (xa E r1)), (2, .int x2)] → k12 h r0 r1 x2 = some z → W p l e ({ frames := 11, cells := 0, slots := 0, locals := 197 } : Room) s m args below meth c H locs 0 0 (x_Q E below args s 0 0 z) (F0 m 12 ls [])) : ∀ (h : HP) (r0 : Nat) (r1 : Nat) (x2 : Int32) (H : Heap) (locs : List Loc) (ls : Array Slot), x_Rep E h H → va_S (x_A E) s.heap H locs → lv_has ls 7 [(0, .ref (xa E r0)), (1, .ref (xa E r1)), (2, .int x2)] → f_X3_findUnit_b12 k12 h r0 r1 x2 = some z → W p l e ({ frames := 11, cells := 0, slots := 0, locals := 197 } : Room) s m args below meth c H locs 0 0 (x_Q E below args s 0 0 z) (F0 m 12 ls []) := by
  intro h r0 r1 x2 H locs ls hR hS hl hf
  obtain ⟨hx, hb, -⟩ := id C0
  unfold f_X3_findUnit_b12 at hf
  have h0 : x_by cX3_findUnit 12 [28, 43, 180, 0, 47, 163, 0, 36] := by unfold x_by; decide +kernel
  obtain ⟨d12, h0⟩ := de_iload_n2 h0
  obtain ⟨d13, h0⟩ := de_aload_n1 h0
  obtain ⟨d14, h0⟩ := de_getfield 47 (by decide) h0
  obtain ⟨d17, h0⟩ := de_icmp_gt (36) (by decide) h0
  refine lv_iload_n hx hb d12 rfl (lv_at hl 2 rfl) ?_
  refine lv_aload_n hx hb d13 rfl (lv_at hl 1 rfl) ?_
  refine x_getI C0 hR hf xcl_0 (Nat.le_of_ble_eq_true rfl) rfl fl_X3_47 d14 (fun i1 hf => ?_)
  refine lv_icmp_gt (tgt := 53) hx hb d17 (by decide) (fun q => ?_) (fun q => ?_)
  · have hf := x_pos q hf
    have h0 : x_by cX3_findUnit 53 [3, 61] := by unfold x_by; decide +kernel
    obtain ⟨d53, h0⟩ := de_iconst_0 h0
    obtain ⟨d54, h0⟩ := de_istore_n2 h0
    refine lv_iconst (v := 0) hx hb d53 (by decide) ?_
    refine lv_istore_n (lv' := [(2, .int 0), (0, .ref (xa E r0)), (1, .ref (xa E r1))]) hx hb d54 rfl hl (by decide) rfl (fun ls hl => ?_)
    exact s_X3_findUnit_L55 C0 hxt FU _ _ _ _ _ _ _ hR hS (lv_sub hl [1, 2, 0] rfl) hf
  · have hf := x_neg q hf
    have h0 : x_by cX3_findUnit 20 [42, 180, 0, 9, 28, 51, 153, 0, 21] := by unfold x_by; decide +kernel
    obtain ⟨d20, h0⟩ := de_aload_n0 h0
    obtain ⟨d21, h0⟩ := de_getfield 9 (by decide) h0
    obtain ⟨d24, h0⟩ := de_iload_n2 h0
    obtain ⟨d25, h0⟩ := de_baload h0
    obtain ⟨d26, h0⟩ := de_if_eq (21) (by decide) h0
    refine lv_aload_n hx hb d20 rfl (lv_at hl 0 rfl) ?_
    refine x_getR C0 hR hf xcl_3 (Nat.le_of_ble_eq_true rfl) rfl fl_X3_9 d21 (fun a2 hf => ?_)
    refine lv_iload_n hx hb d24 rfl (lv_at hl 2 rfl) ?_
    refine x_zald C0 hR hf d25 (fun i3 hf => ?_)
    refine lv_if_eq (tgt := 47) hx hb d26 (by decide) (fun q => ?_) (fun q => ?_)
    · have hf := x_pos q hf
      exact s_X3_findUnit_b47 C0 hxt hk12 _ _ _ _ _ _ _ hR hS (lv_sub hl [0, 1, 2] rfl) hf
    · have hf := x_neg q hf
      have h0 : x_by cX3_findUnit 29 [42, 43, 180, 0, 32, 28, 46, 133, 43, 28, 6, 182, 0, 84, 133, 182, 0, 97] := by unfold x_by; decide +kernel
      obtain ⟨d29, h0⟩ := de_aload_n0 h0
      obtain ⟨d30, h0⟩ := de_aload_n1 h0
      obtain ⟨d31, h0⟩ := de_getfield 32 (by decide) h0
      obtain ⟨d34, h0⟩ := de_iload_n2 h0
      obtain ⟨d35, h0⟩ := de_iaload h0
      obtain ⟨d36, h0⟩ := de_i2l h0
      obtain ⟨d37, h0⟩ := de_aload_n1 h0
      obtain ⟨d38, h0⟩ := de_iload_n2 h0
      obtain ⟨d39, h0⟩ := de_iconst_3 h0
      obtain ⟨d40, h0⟩ := de_invokevirtual 84 (by decide) h0
      obtain ⟨d43, h0⟩ := de_i2l h0
      obtain ⟨d44, h0⟩ := de_invokevirtual 97 (by decide) h0
      refine lv_aload_n hx hb d29 rfl (lv_at hl 0 rfl) ?_
      refine lv_aload_n hx hb d30 rfl (lv_at hl 1 rfl) ?_
      refine x_getR C0 hR hf xcl_0 (Nat.le_of_ble_eq_true rfl) rfl fl_X3_32 d31 (fun a4 hf => ?_)
      refine lv_iload_n hx hb d34 rfl (lv_at hl 2 rfl) ?_
      refine x_iald C0 hR hf d35 (fun i5 hf => ?_)
      refine lv_i2l hx hb d36 rfl ?_
      refine lv_aload_n hx hb d37 rfl (lv_at hl 1 rfl) ?_
      refine lv_iload_n hx hb d38 rfl (lv_at hl 2 rfl) ?_
      refine lv_iconst (v := 3) hx hb d39 (by decide) ?_
      obtain ⟨hs9, hf⟩ := x_if hf
      refine x_thenI C0 hxt hS hf (fun z0 e0 => x_runV C0 hR hS me_X0_part wi_X0_part wl_X0_part ml_X3_84 hs9 xcl_0 (As := [.int x2, .int 3]) (ct_X0_part E l C0.2.2.2.2.2.2.2.1 _ r1 x2 3) rfl rfl hl.1 (Nat.le_of_ble_eq_true rfl) d40 ⟨(Nat.le_of_ble_eq_true rfl), (Nat.le_of_ble_eq_true rfl)⟩ ⟨(Nat.le_of_ble_eq_true rfl), (Nat.le_of_ble_eq_true rfl)⟩ e0) (Nat.le_of_ble_eq_true rfl) (Nat.le_of_ble_eq_true rfl) (fun h9 i6 H locs hR hS hf => ?_)
      refine lv_i2l hx hb d43 rfl ?_
      obtain ⟨hs9, hf⟩ := x_if hf
      refine x_thenV C0 hxt hS hf (fun z0 e0 => x_runV C0 hR hS me_X3_raiseUnit wi_X3_raiseUnit wl_X3_raiseUnit ml_X3_97 hs9 xcl_3 (As := [.long ((i5 : Int32).toInt64), .long ((i6 : Int32).toInt64)]) (ct_X3_raiseUnit E l C0.2.2.2.2.2.2.2.1 _ r0 ((i5 : Int32).toInt64) ((i6 : Int32).toInt64)) rfl rfl hl.1 (Nat.le_of_ble_eq_true rfl) d44 ⟨(Nat.le_of_ble_eq_true rfl), (Nat.le_of_ble_eq_true rfl)⟩ ⟨(Nat.le_of_ble_eq_true rfl), (Nat.le_of_ble_eq_true rfl)⟩ e0) (Nat.le_of_ble_eq_true rfl) (Nat.le_of_ble_eq_true rfl) (fun h9 H locs hR hS hf => ?_)
      exact s_X3_findUnit_b47 C0 hxt hk12 _ _ _ _ _ _ _ hR hS (lv_sub hl [0, 1, 2] rfl) hf
theorem s_X3_findUnit_L12 {p : Program} {l : Launch} {e : Env} {s : State} {m : MethodId} {args : Array Value} {below : List Frame} {meth : Method} {c : Code} {E : XE} {z : XR} (C0 : x_C E p l s m meth c args cX3_findUnit 7 "GridEngine$Fractions" "findUnit" none) (hxt : ∀ x ∈ c.exceptionTable.toList, False)  : ∀ n : Nat, ∀ (h : HP) (r0 : Nat) (r1 : Nat) (x2 : Int32) (H : Heap) (locs : List Loc) (ls : Array Slot), x_Rep E h H → va_S (x_A E) s.heap H locs → lv_has ls 7 [(0, .ref (xa E r0)), (1, .ref (xa E r1)), (2, .int x2)] → f_X3_findUnit_L12 n h r0 r1 x2 = some z → W p l e ({ frames := 11, cells := 0, slots := 0, locals := 197 } : Room) s m args below meth c H locs 0 0 (x_Q E below args s 0 0 z) (F0 m 12 ls []) := by
  intro n
  induction n with
  | zero => intro h r0 r1 x2 H locs ls hR hS hl hf; cases (show (none : Option XR) = some z from hf)
  | succ n ih => intro h r0 r1 x2 H locs ls hR hS hl hf; exact s_X3_findUnit_b12 C0 hxt ih h r0 r1 x2 H locs ls hR hS hl (show f_X3_findUnit_b12 (f_X3_findUnit_L12 n) h r0 r1 x2 = some z from hf)
set_option maxRecDepth 100000 in
set_option maxHeartbeats 4000000 in
theorem ct_X3_findUnit (E : XE) (l : Launch) (hl0 : l.stackTraces = false) (h : HP) (r0 : Nat) (r1 : Nat) : x_ct E l yX3_findUnit (Cond.code yX3_findUnit cX3_findUnit 7 none) 11 197 0 0 [.ref (xa E r0), .ref (xa E r1)] h (f_X3_findUnit h r0 r1) := by
  refine x_ofW hl0 (by decide +kernel) ?_
  intro z hf p e s m args below meth c C0 hxt hargs hR
  subst hargs
  have C0 : x_C E p l s m meth c ([.ref (xa E r0), .ref (xa E r1)] : List Value).toArray cX3_findUnit 7 "GridEngine$Fractions" "findUnit" none := C0
  obtain ⟨hx, hb, -⟩ := id C0
  have hS : va_S (x_A E) s.heap s.heap [] := va_S.rf
  have hl := lv_entry ([.ref (xa E r0), .ref (xa E r1)]) (n := 7) (Nat.le_of_ble_eq_true rfl)
  rw [lg_entry_eq]
  generalize (lg_sl ([.ref (xa E r0), .ref (xa E r1)]) ++ List.replicate (7 - (lg_sl ([.ref (xa E r0), .ref (xa E r1)])).length) Slot.unset).toArray = ls at hl ⊢
  have hl : lv_has ls 7 [(0, .ref (xa E r0)), (1, .ref (xa E r1))] := hl
  unfold f_X3_findUnit at hf
  have h0 : x_by cX3_findUnit 0 [42, 9, 181, 0, 26, 42, 10, 181, 0, 29, 4, 61] := by unfold x_by; decide +kernel
  obtain ⟨d0, h0⟩ := de_aload_n0 h0
  obtain ⟨d1, h0⟩ := de_lconst_0 h0
  obtain ⟨d2, h0⟩ := de_putfield 26 (by decide) h0
  obtain ⟨d5, h0⟩ := de_aload_n0 h0
  obtain ⟨d6, h0⟩ := de_lconst_1 h0
  obtain ⟨d7, h0⟩ := de_putfield 29 (by decide) h0
  obtain ⟨d10, h0⟩ := de_iconst_1 h0
  obtain ⟨d11, h0⟩ := de_istore_n2 h0
  refine lv_aload_n hx hb d0 rfl (lv_at hl 0 rfl) ?_
  refine lv_lconst (v := 0) hx hb d1 (by decide) ?_
  refine x_putJ C0 hR hS hf xcl_3 (Nat.le_of_ble_eq_true rfl) rfl fl_X3_26 (Or.inl rfl) d2 (fun H locs hR hS hf => ?_)
  refine lv_aload_n hx hb d5 rfl (lv_at hl 0 rfl) ?_
  refine lv_lconst (v := 1) hx hb d6 (by decide) ?_
  refine x_putJ C0 hR hS hf xcl_3 (Nat.le_of_ble_eq_true rfl) rfl fl_X3_29 (Or.inl rfl) d7 (fun H locs hR hS hf => ?_)
  refine lv_iconst (v := 1) hx hb d10 (by decide) ?_
  refine lv_istore_n (lv' := [(2, .int 1), (0, .ref (xa E r0)), (1, .ref (xa E r1))]) hx hb d11 rfl hl (by decide) rfl (fun ls hl => ?_)
  exact s_X3_findUnit_L12 C0 hxt FU _ _ _ _ _ _ _ hR hS (lv_sub hl [1, 2, 0] rfl) hf
def f_X3_shareByUnit_b75 (k12 : HP → Nat → Nat → Int32 → Option XR) (h : HP) (r0 : Nat) (r1 : Nat) (x2 : Int32) : Option XR :=
  k12 h r0 r1 (x2 + 1)
def f_X3_shareByUnit_b12 (k12 : HP → Nat → Nat → Int32 → Option XR) (h : HP) (r0 : Nat) (r1 : Nat) (x2 : Int32) : Option XR :=
  x_gI h r1 0 10 fun i1 =>
  if i1 < x2 then
    (
      some (h, xv)
    )
  else
    (
      x_gR h r0 3 0 fun a2 =>
      x_aI h 102 a2 x2 fun i3 =>
      if i3 = 0 then
        (
          f_X3_shareByUnit_b75 k12 h r0 r1 x2
        )
      else
        (
          x_rc h r1 0 <| x_cI (f_X0_part h r1 x2 3) fun h5 i4 =>
          x_gJ h5 r0 3 4 fun j6 =>
          x_lJ ((i4 : Int32).toInt64 * j6) fun j7 =>
          x_gJ h5 r0 3 5 fun j8 =>
          x_gJ h5 r0 3 5 fun j9 =>
          x_dJ j9 <|
          x_lI (((((j7 + j8) - 1) / j9) : Int64).toInt32) fun i10 =>
          x_gR h5 r1 0 7 fun a11 =>
          x_gR h5 r1 0 6 fun a12 =>
          x_aI h5 100 a12 x2 fun i13 =>
          x_sI h5 a11 x2 (if i13 < i10 then i10 else i13) fun h14 =>
          f_X3_shareByUnit_b75 k12 h14 r0 r1 x2
        )
    )
def f_X3_shareByUnit_L12  : Nat → HP → Nat → Nat → Int32 → Option XR
  | 0 => fun _ _ _ _ => none
  | n + 1 => f_X3_shareByUnit_b12 (f_X3_shareByUnit_L12 n)
def f_X3_shareByUnit (h : HP) (r0 : Nat) (r1 : Nat) : Option XR :=
  x_gJ h r0 3 5 fun j1 =>
  if 0 < (lg_cmp j1 0) then
    (
      f_X3_shareByUnit_L12 FU h r0 r1 1
    )
  else
    (
      some (h, xv)
    )
set_option maxRecDepth 100000 in
set_option maxHeartbeats 4000000 in
theorem s_X3_shareByUnit_b75 {p : Program} {l : Launch} {e : Env} {s : State} {m : MethodId} {args : Array Value} {below : List Frame} {meth : Method} {c : Code} {E : XE} {z : XR} (C0 : x_C E p l s m meth c args cX3_shareByUnit 6 "GridEngine$Fractions" "shareByUnit" none) (hxt : ∀ x ∈ c.exceptionTable.toList, False) {k12 : HP → Nat → Nat → Int32 → Option XR} (hk12 : ∀ (h : HP) (r0 : Nat) (r1 : Nat) (x2 : Int32) (H : Heap) (locs : List Loc) (ls : Array Slot), x_Rep E h H → va_S (x_A E) s.heap H locs → lv_has ls 6 [(0, .ref (xa E r0)), (1, .ref (xa E r1)), (2, .int x2)] → k12 h r0 r1 x2 = some z → W p l e ({ frames := 10, cells := 0, slots := 0, locals := 177 } : Room) s m args below meth c H locs 0 0 (x_Q E below args s 0 0 z) (F0 m 12 ls [])) : ∀ (h : HP) (r0 : Nat) (r1 : Nat) (x2 : Int32) (H : Heap) (locs : List Loc) (ls : Array Slot), x_Rep E h H → va_S (x_A E) s.heap H locs → lv_has ls 6 [(0, .ref (xa E r0)), (1, .ref (xa E r1)), (2, .int x2)] → f_X3_shareByUnit_b75 k12 h r0 r1 x2 = some z → W p l e ({ frames := 10, cells := 0, slots := 0, locals := 177 } : Room) s m args below meth c H locs 0 0 (x_Q E below args s 0 0 z) (F0 m 75 ls []) := by
  intro h r0 r1 x2 H locs ls hR hS hl hf
  obtain ⟨hx, hb, -⟩ := id C0
  unfold f_X3_shareByUnit_b75 at hf
  have h0 : x_by cX3_shareByUnit 75 [132, 2, 1, 167, 255, 190] := by unfold x_by; decide +kernel
  obtain ⟨d75, h0⟩ := de_iinc (1) (by decide) h0
  obtain ⟨d78, h0⟩ := de_goto (-66) (by decide) h0
  refine lv_iinc (v := (x2 + 1)) (lv' := [(2, .int (x2 + 1)), (0, .ref (xa E r0)), (1, .ref (xa E r1))]) hx hb d75 hl (k := 2) rfl rfl (by decide) rfl (fun ls hl => ?_)
  refine lv_goto (tgt := 12) hx hb d78 (by decide) ?_
  exact hk12 _ _ _ _ _ _ _ hR hS (lv_sub hl [1, 2, 0] rfl) hf
set_option maxRecDepth 100000 in
set_option maxHeartbeats 4000000 in
theorem s_X3_shareByUnit_b12 {p : Program} {l : Launch} {e : Env} {s : State} {m : MethodId} {args : Array Value} {below : List Frame} {meth : Method} {c : Code} {E : XE} {z : XR} (C0 : x_C E p l s m meth c args cX3_shareByUnit 6 "GridEngine$Fractions" "shareByUnit" none) (hxt : ∀ x ∈ c.exceptionTable.toList, False) {k12 : HP → Nat → Nat → Int32 → Option XR} (hk12 : ∀ (h : HP) (r0 : Nat) (r1 : Nat) (x2 : Int32) (H : Heap) (locs : List Loc) (ls : Array Slot), x_Rep E h H → va_S (x_A E) s.heap H locs → lv_has ls 6 [(0, .ref (xa E r0)), (1, .ref (xa E r1)), (2, .int x2)] → k12 h r0 r1 x2 = some z → W p l e ({ frames := 10, cells := 0, slots := 0, locals := 177 } : Room) s m args below meth c H locs 0 0 (x_Q E below args s 0 0 z) (F0 m 12 ls [])) : ∀ (h : HP) (r0 : Nat) (r1 : Nat) (x2 : Int32) (H : Heap) (locs : List Loc) (ls : Array Slot), x_Rep E h H → va_S (x_A E) s.heap H locs → lv_has ls 6 [(0, .ref (xa E r0)), (1, .ref (xa E r1)), (2, .int x2)] → f_X3_shareByUnit_b12 k12 h r0 r1 x2 = some z → W p l e ({ frames := 10, cells := 0, slots := 0, locals := 177 } : Room) s m args below meth c H locs 0 0 (x_Q E below args s 0 0 z) (F0 m 12 ls []) := by
  intro h r0 r1 x2 H locs ls hR hS hl hf
  obtain ⟨hx, hb, -⟩ := id C0
  unfold f_X3_shareByUnit_b12 at hf
  have h0 : x_by cX3_shareByUnit 12 [28, 43, 180, 0, 47, 163, 0, 64] := by unfold x_by; decide +kernel
  obtain ⟨d12, h0⟩ := de_iload_n2 h0
  obtain ⟨d13, h0⟩ := de_aload_n1 h0
  obtain ⟨d14, h0⟩ := de_getfield 47 (by decide) h0
  obtain ⟨d17, h0⟩ := de_icmp_gt (64) (by decide) h0
  refine lv_iload_n hx hb d12 rfl (lv_at hl 2 rfl) ?_
  refine lv_aload_n hx hb d13 rfl (lv_at hl 1 rfl) ?_
  refine x_getI C0 hR hf xcl_0 (Nat.le_of_ble_eq_true rfl) rfl fl_X3_47 d14 (fun i1 hf => ?_)
  refine lv_icmp_gt (tgt := 81) hx hb d17 (by decide) (fun q => ?_) (fun q => ?_)
  · have hf := x_pos q hf
    have h0 : x_by cX3_shareByUnit 81 [177] := by unfold x_by; decide +kernel
    obtain ⟨d81, h0⟩ := de_return h0
    exact x_vret C0 hR hS hf (Nat.le_of_ble_eq_true rfl) (Nat.le_of_ble_eq_true rfl) d81
  · have hf := x_neg q hf
    have h0 : x_by cX3_shareByUnit 20 [42, 180, 0, 9, 28, 51, 153, 0, 49] := by unfold x_by; decide +kernel
    obtain ⟨d20, h0⟩ := de_aload_n0 h0
    obtain ⟨d21, h0⟩ := de_getfield 9 (by decide) h0
    obtain ⟨d24, h0⟩ := de_iload_n2 h0
    obtain ⟨d25, h0⟩ := de_baload h0
    obtain ⟨d26, h0⟩ := de_if_eq (49) (by decide) h0
    refine lv_aload_n hx hb d20 rfl (lv_at hl 0 rfl) ?_
    refine x_getR C0 hR hf xcl_3 (Nat.le_of_ble_eq_true rfl) rfl fl_X3_9 d21 (fun a2 hf => ?_)
    refine lv_iload_n hx hb d24 rfl (lv_at hl 2 rfl) ?_
    refine x_zald C0 hR hf d25 (fun i3 hf => ?_)
    refine lv_if_eq (tgt := 75) hx hb d26 (by decide) (fun q => ?_) (fun q => ?_)
    · have hf := x_pos q hf
      exact s_X3_shareByUnit_b75 C0 hxt hk12 _ _ _ _ _ _ _ hR hS (lv_sub hl [0, 1, 2] rfl) hf
    · have hf := x_neg q hf
      have h0 : x_by cX3_shareByUnit 29 [43, 28, 6, 182, 0, 84, 133, 42, 180, 0, 26, 105, 66, 33, 42, 180, 0, 29, 97, 10, 101, 42, 180, 0, 29, 109, 136, 54, 5, 43, 180, 0, 38, 28, 43, 180, 0, 32, 28, 46, 21, 5, 184, 0, 117, 79] := by unfold x_by; decide +kernel
      obtain ⟨d29, h0⟩ := de_aload_n1 h0
      obtain ⟨d30, h0⟩ := de_iload_n2 h0
      obtain ⟨d31, h0⟩ := de_iconst_3 h0
      obtain ⟨d32, h0⟩ := de_invokevirtual 84 (by decide) h0
      obtain ⟨d35, h0⟩ := de_i2l h0
      obtain ⟨d36, h0⟩ := de_aload_n0 h0
      obtain ⟨d37, h0⟩ := de_getfield 26 (by decide) h0
      obtain ⟨d40, h0⟩ := de_lmul h0
      obtain ⟨d41, h0⟩ := de_lstore_n3 h0
      obtain ⟨d42, h0⟩ := de_lload_n3 h0
      obtain ⟨d43, h0⟩ := de_aload_n0 h0
      obtain ⟨d44, h0⟩ := de_getfield 29 (by decide) h0
      obtain ⟨d47, h0⟩ := de_ladd h0
      obtain ⟨d48, h0⟩ := de_lconst_1 h0
      obtain ⟨d49, h0⟩ := de_lsub h0
      obtain ⟨d50, h0⟩ := de_aload_n0 h0
      obtain ⟨d51, h0⟩ := de_getfield 29 (by decide) h0
      obtain ⟨d54, h0⟩ := de_ldiv h0
      obtain ⟨d55, h0⟩ := de_l2i h0
      obtain ⟨d56, h0⟩ := de_istore h0
      obtain ⟨d58, h0⟩ := de_aload_n1 h0
      obtain ⟨d59, h0⟩ := de_getfield 38 (by decide) h0
      obtain ⟨d62, h0⟩ := de_iload_n2 h0
      obtain ⟨d63, h0⟩ := de_aload_n1 h0
      obtain ⟨d64, h0⟩ := de_getfield 32 (by decide) h0
      obtain ⟨d67, h0⟩ := de_iload_n2 h0
      obtain ⟨d68, h0⟩ := de_iaload h0
      obtain ⟨d69, h0⟩ := de_iload h0
      obtain ⟨d71, h0⟩ := de_invokestatic 117 (by decide) h0
      obtain ⟨d74, h0⟩ := de_iastore h0
      refine lv_aload_n hx hb d29 rfl (lv_at hl 1 rfl) ?_
      refine lv_iload_n hx hb d30 rfl (lv_at hl 2 rfl) ?_
      refine lv_iconst (v := 3) hx hb d31 (by decide) ?_
      obtain ⟨hs9, hf⟩ := x_if hf
      refine x_thenI C0 hxt hS hf (fun z0 e0 => x_runV C0 hR hS me_X0_part wi_X0_part wl_X0_part ml_X3_84 hs9 xcl_0 (As := [.int x2, .int 3]) (ct_X0_part E l C0.2.2.2.2.2.2.2.1 _ r1 x2 3) rfl rfl hl.1 (Nat.le_of_ble_eq_true rfl) d32 ⟨(Nat.le_of_ble_eq_true rfl), (Nat.le_of_ble_eq_true rfl)⟩ ⟨(Nat.le_of_ble_eq_true rfl), (Nat.le_of_ble_eq_true rfl)⟩ e0) (Nat.le_of_ble_eq_true rfl) (Nat.le_of_ble_eq_true rfl) (fun h9 i4 H locs hR hS hf => ?_)
      refine lv_i2l hx hb d35 rfl ?_
      refine lv_aload_n hx hb d36 rfl (lv_at hl 0 rfl) ?_
      refine x_getJ C0 hR hf xcl_3 (Nat.le_of_ble_eq_true rfl) rfl fl_X3_26 d37 (fun j6 hf => ?_)
      refine lv_lmul hx hb d40 ?_
      refine lv_topl (fun j7 ej7 => ?_)
      have hf := x_lJ_el ej7 hf
      refine lv_lstore_n (lv' := [(3, .long j7), (0, .ref (xa E r0)), (1, .ref (xa E r1)), (2, .int x2)]) hx hb d41 rfl hl (by decide) rfl (fun ls hl => ?_)
      refine lv_lload_n hx hb d42 rfl (lv_at hl 0 rfl) ?_
      refine lv_aload_n hx hb d43 rfl (lv_at hl 1 rfl) ?_
      refine x_getJ C0 hR hf xcl_3 (Nat.le_of_ble_eq_true rfl) rfl fl_X3_29 d44 (fun j8 hf => ?_)
      refine lv_ladd hx hb d47 ?_
      refine lv_lconst (v := 1) hx hb d48 (by decide) ?_
      refine lv_lsub hx hb d49 ?_
      refine lv_aload_n hx hb d50 rfl (lv_at hl 1 rfl) ?_
      refine x_getJ C0 hR hf xcl_3 (Nat.le_of_ble_eq_true rfl) rfl fl_X3_29 d51 (fun j9 hf => ?_)
      obtain ⟨hnz, hf⟩ := x_zdJ hf
      refine lv_ldiv hx hb d54 hnz ?_
      refine lv_l2i hx hb d55 rfl ?_
      refine lv_topi (fun i10 ei10 => ?_)
      have hf := x_lI_el ei10 hf
      refine lv_istore (lv' := [(5, .int i10), (3, .long j7), (0, .ref (xa E r0)), (1, .ref (xa E r1)), (2, .int x2)]) hx hb d56 hl (by decide) rfl (fun ls hl => ?_)
      refine lv_aload_n hx hb d58 rfl (lv_at hl 3 rfl) ?_
      refine x_getR C0 hR hf xcl_0 (Nat.le_of_ble_eq_true rfl) rfl fl_X3_38 d59 (fun a11 hf => ?_)
      refine lv_iload_n hx hb d62 rfl (lv_at hl 4 rfl) ?_
      refine lv_aload_n hx hb d63 rfl (lv_at hl 3 rfl) ?_
      refine x_getR C0 hR hf xcl_0 (Nat.le_of_ble_eq_true rfl) rfl fl_X3_32 d64 (fun a12 hf => ?_)
      refine lv_iload_n hx hb d67 rfl (lv_at hl 4 rfl) ?_
      refine x_iald C0 hR hf d68 (fun i13 hf => ?_)
      refine lv_iload hx hb d69 (lv_at hl 0 rfl) ?_
      refine x_mmax C0 hl.1 ml_X3_117 lib_max (Nat.le_of_ble_eq_true rfl) (Nat.le_of_ble_eq_true rfl) (Nat.le_of_ble_eq_true rfl) (Nat.le_of_ble_eq_true rfl) d71 ?_
      refine x_iast C0 hR hS hf d74 (fun H locs hR hS hf => ?_)
      exact s_X3_shareByUnit_b75 C0 hxt hk12 _ _ _ _ _ _ _ hR hS (lv_sub hl [2, 3, 4] rfl) hf
theorem s_X3_shareByUnit_L12 {p : Program} {l : Launch} {e : Env} {s : State} {m : MethodId} {args : Array Value} {below : List Frame} {meth : Method} {c : Code} {E : XE} {z : XR} (C0 : x_C E p l s m meth c args cX3_shareByUnit 6 "GridEngine$Fractions" "shareByUnit" none) (hxt : ∀ x ∈ c.exceptionTable.toList, False)  : ∀ n : Nat, ∀ (h : HP) (r0 : Nat) (r1 : Nat) (x2 : Int32) (H : Heap) (locs : List Loc) (ls : Array Slot), x_Rep E h H → va_S (x_A E) s.heap H locs → lv_has ls 6 [(0, .ref (xa E r0)), (1, .ref (xa E r1)), (2, .int x2)] → f_X3_shareByUnit_L12 n h r0 r1 x2 = some z → W p l e ({ frames := 10, cells := 0, slots := 0, locals := 177 } : Room) s m args below meth c H locs 0 0 (x_Q E below args s 0 0 z) (F0 m 12 ls []) := by
  intro n
  induction n with
  | zero => intro h r0 r1 x2 H locs ls hR hS hl hf; cases (show (none : Option XR) = some z from hf)
  | succ n ih => intro h r0 r1 x2 H locs ls hR hS hl hf; exact s_X3_shareByUnit_b12 C0 hxt ih h r0 r1 x2 H locs ls hR hS hl (show f_X3_shareByUnit_b12 (f_X3_shareByUnit_L12 n) h r0 r1 x2 = some z from hf)
set_option maxRecDepth 100000 in
set_option maxHeartbeats 4000000 in
theorem ct_X3_shareByUnit (E : XE) (l : Launch) (hl0 : l.stackTraces = false) (h : HP) (r0 : Nat) (r1 : Nat) : x_ct E l yX3_shareByUnit (Cond.code yX3_shareByUnit cX3_shareByUnit 6 none) 10 177 0 0 [.ref (xa E r0), .ref (xa E r1)] h (f_X3_shareByUnit h r0 r1) := by
  refine x_ofW hl0 (by decide +kernel) ?_
  intro z hf p e s m args below meth c C0 hxt hargs hR
  subst hargs
  have C0 : x_C E p l s m meth c ([.ref (xa E r0), .ref (xa E r1)] : List Value).toArray cX3_shareByUnit 6 "GridEngine$Fractions" "shareByUnit" none := C0
  obtain ⟨hx, hb, -⟩ := id C0
  have hS : va_S (x_A E) s.heap s.heap [] := va_S.rf
  have hl := lv_entry ([.ref (xa E r0), .ref (xa E r1)]) (n := 6) (Nat.le_of_ble_eq_true rfl)
  rw [lg_entry_eq]
  generalize (lg_sl ([.ref (xa E r0), .ref (xa E r1)]) ++ List.replicate (6 - (lg_sl ([.ref (xa E r0), .ref (xa E r1)])).length) Slot.unset).toArray = ls at hl ⊢
  have hl : lv_has ls 6 [(0, .ref (xa E r0)), (1, .ref (xa E r1))] := hl
  unfold f_X3_shareByUnit at hf
  have h0 : x_by cX3_shareByUnit 0 [42, 180, 0, 29, 9, 148, 157, 0, 4] := by unfold x_by; decide +kernel
  obtain ⟨d0, h0⟩ := de_aload_n0 h0
  obtain ⟨d1, h0⟩ := de_getfield 29 (by decide) h0
  obtain ⟨d4, h0⟩ := de_lconst_0 h0
  obtain ⟨d5, h0⟩ := de_lcmp h0
  obtain ⟨d6, h0⟩ := de_if_gt (4) (by decide) h0
  refine lv_aload_n hx hb d0 rfl (lv_at hl 0 rfl) ?_
  refine x_getJ C0 hR hf xcl_3 (Nat.le_of_ble_eq_true rfl) rfl fl_X3_29 d1 (fun j1 hf => ?_)
  refine lv_lconst (v := 0) hx hb d4 (by decide) ?_
  refine W.lcmp hx hb d5 ?_
  refine lv_if_gt (tgt := 10) hx hb d6 (by decide) (fun q => ?_) (fun q => ?_)
  · have hf := x_pos q hf
    have h0 : x_by cX3_shareByUnit 10 [4, 61] := by unfold x_by; decide +kernel
    obtain ⟨d10, h0⟩ := de_iconst_1 h0
    obtain ⟨d11, h0⟩ := de_istore_n2 h0
    refine lv_iconst (v := 1) hx hb d10 (by decide) ?_
    refine lv_istore_n (lv' := [(2, .int 1), (0, .ref (xa E r0)), (1, .ref (xa E r1))]) hx hb d11 rfl hl (by decide) rfl (fun ls hl => ?_)
    exact s_X3_shareByUnit_L12 C0 hxt FU _ _ _ _ _ _ _ hR hS (lv_sub hl [1, 2, 0] rfl) hf
  · have hf := x_neg q hf
    have h0 : x_by cX3_shareByUnit 9 [177] := by unfold x_by; decide +kernel
    obtain ⟨d9, h0⟩ := de_return h0
    exact x_vret C0 hR hS hf (Nat.le_of_ble_eq_true rfl) (Nat.le_of_ble_eq_true rfl) d9
def f_X3_takeGreatestRemainder_b42 (k4 : HP → Nat → Int32 → Int32 → Int32 → Option XR) (h : HP) (r0 : Nat) (x1 : Int32) (x2 : Int32) (x3 : Int32) : Option XR :=
  k4 h r0 x1 x2 (x3 + 1)
def f_X3_takeGreatestRemainder_b40 (k4 : HP → Nat → Int32 → Int32 → Int32 → Option XR) (h : HP) (r0 : Nat) (x1 : Int32) (x3 : Int32) : Option XR :=
  f_X3_takeGreatestRemainder_b42 k4 h r0 x1 x3 x3
def f_X3_takeGreatestRemainder_b4 (k4 : HP → Nat → Int32 → Int32 → Int32 → Option XR) (h : HP) (r0 : Nat) (x1 : Int32) (x2 : Int32) (x3 : Int32) : Option XR :=
  if x1 < x3 then
    (
      x_gR h r0 3 1 fun a1 =>
      x_sJ h a1 x2 (-1) fun h2 =>
      some (h2, xi x2)
    )
  else
    (
      x_gR h r0 3 1 fun a3 =>
      x_aJ h a3 x3 fun j4 =>
      if (lg_cmp j4 0) < 0 then
        (
          f_X3_takeGreatestRemainder_b42 k4 h r0 x1 x2 x3
        )
      else
        (
          if x2 = 0 then
            (
              f_X3_takeGreatestRemainder_b40 k4 h r0 x1 x3
            )
          else
            (
              x_gR h r0 3 1 fun a5 =>
              x_aJ h a5 x3 fun j6 =>
              x_gR h r0 3 1 fun a7 =>
              x_aJ h a7 x2 fun j8 =>
              if (lg_cmp j6 j8) ≤ 0 then
                (
                  f_X3_takeGreatestRemainder_b42 k4 h r0 x1 x2 x3
                )
              else
                (
                  f_X3_takeGreatestRemainder_b40 k4 h r0 x1 x3
                )
            )
        )
    )
def f_X3_takeGreatestRemainder_L4  : Nat → HP → Nat → Int32 → Int32 → Int32 → Option XR
  | 0 => fun _ _ _ _ _ => none
  | n + 1 => f_X3_takeGreatestRemainder_b4 (f_X3_takeGreatestRemainder_L4 n)
def f_X3_takeGreatestRemainder (h : HP) (r0 : Nat) (x1 : Int32) : Option XR :=
  f_X3_takeGreatestRemainder_L4 FU h r0 x1 0 1
set_option maxRecDepth 100000 in
set_option maxHeartbeats 4000000 in
theorem s_X3_takeGreatestRemainder_b42 {p : Program} {l : Launch} {e : Env} {s : State} {m : MethodId} {args : Array Value} {below : List Frame} {meth : Method} {c : Code} {E : XE} {z : XR} (C0 : x_C E p l s m meth c args cX3_takeGreatestRemainder 4 "GridEngine$Fractions" "takeGreatestRemainder" (some .int)) (hxt : ∀ x ∈ c.exceptionTable.toList, False) {k4 : HP → Nat → Int32 → Int32 → Int32 → Option XR} (hk4 : ∀ (h : HP) (r0 : Nat) (x1 : Int32) (x2 : Int32) (x3 : Int32) (H : Heap) (locs : List Loc) (ls : Array Slot), x_Rep E h H → va_S (x_A E) s.heap H locs → lv_has ls 4 [(0, .ref (xa E r0)), (1, .int x1), (2, .int x2), (3, .int x3)] → k4 h r0 x1 x2 x3 = some z → W p l e ({ frames := 8, cells := 0, slots := 0, locals := 130 } : Room) s m args below meth c H locs 0 0 (x_Q E below args s 0 0 z) (F0 m 4 ls [])) : ∀ (h : HP) (r0 : Nat) (x1 : Int32) (x2 : Int32) (x3 : Int32) (H : Heap) (locs : List Loc) (ls : Array Slot), x_Rep E h H → va_S (x_A E) s.heap H locs → lv_has ls 4 [(0, .ref (xa E r0)), (1, .int x1), (2, .int x2), (3, .int x3)] → f_X3_takeGreatestRemainder_b42 k4 h r0 x1 x2 x3 = some z → W p l e ({ frames := 8, cells := 0, slots := 0, locals := 130 } : Room) s m args below meth c H locs 0 0 (x_Q E below args s 0 0 z) (F0 m 42 ls []) := by
  intro h r0 x1 x2 x3 H locs ls hR hS hl hf
  obtain ⟨hx, hb, -⟩ := id C0
  unfold f_X3_takeGreatestRemainder_b42 at hf
  have h0 : x_by cX3_takeGreatestRemainder 42 [132, 3, 1, 167, 255, 215] := by unfold x_by; decide +kernel
  obtain ⟨d42, h0⟩ := de_iinc (1) (by decide) h0
  obtain ⟨d45, h0⟩ := de_goto (-41) (by decide) h0
  refine lv_iinc (v := (x3 + 1)) (lv' := [(3, .int (x3 + 1)), (0, .ref (xa E r0)), (1, .int x1), (2, .int x2)]) hx hb d42 hl (k := 3) rfl rfl (by decide) rfl (fun ls hl => ?_)
  refine lv_goto (tgt := 4) hx hb d45 (by decide) ?_
  exact hk4 _ _ _ _ _ _ _ _ hR hS (lv_sub hl [1, 2, 3, 0] rfl) hf
set_option maxRecDepth 100000 in
set_option maxHeartbeats 4000000 in
theorem s_X3_takeGreatestRemainder_b40 {p : Program} {l : Launch} {e : Env} {s : State} {m : MethodId} {args : Array Value} {below : List Frame} {meth : Method} {c : Code} {E : XE} {z : XR} (C0 : x_C E p l s m meth c args cX3_takeGreatestRemainder 4 "GridEngine$Fractions" "takeGreatestRemainder" (some .int)) (hxt : ∀ x ∈ c.exceptionTable.toList, False) {k4 : HP → Nat → Int32 → Int32 → Int32 → Option XR} (hk4 : ∀ (h : HP) (r0 : Nat) (x1 : Int32) (x2 : Int32) (x3 : Int32) (H : Heap) (locs : List Loc) (ls : Array Slot), x_Rep E h H → va_S (x_A E) s.heap H locs → lv_has ls 4 [(0, .ref (xa E r0)), (1, .int x1), (2, .int x2), (3, .int x3)] → k4 h r0 x1 x2 x3 = some z → W p l e ({ frames := 8, cells := 0, slots := 0, locals := 130 } : Room) s m args below meth c H locs 0 0 (x_Q E below args s 0 0 z) (F0 m 4 ls [])) : ∀ (h : HP) (r0 : Nat) (x1 : Int32) (x3 : Int32) (H : Heap) (locs : List Loc) (ls : Array Slot), x_Rep E h H → va_S (x_A E) s.heap H locs → lv_has ls 4 [(0, .ref (xa E r0)), (1, .int x1), (3, .int x3)] → f_X3_takeGreatestRemainder_b40 k4 h r0 x1 x3 = some z → W p l e ({ frames := 8, cells := 0, slots := 0, locals := 130 } : Room) s m args below meth c H locs 0 0 (x_Q E below args s 0 0 z) (F0 m 40 ls []) := by
  intro h r0 x1 x3 H locs ls hR hS hl hf
  obtain ⟨hx, hb, -⟩ := id C0
  unfold f_X3_takeGreatestRemainder_b40 at hf
  have h0 : x_by cX3_takeGreatestRemainder 40 [29, 61] := by unfold x_by; decide +kernel
  obtain ⟨d40, h0⟩ := de_iload_n3 h0
  obtain ⟨d41, h0⟩ := de_istore_n2 h0
  refine lv_iload_n hx hb d40 rfl (lv_at hl 2 rfl) ?_
  refine lv_istore_n (lv' := [(2, .int x3), (0, .ref (xa E r0)), (1, .int x1), (3, .int x3)]) hx hb d41 rfl hl (by decide) rfl (fun ls hl => ?_)
  exact s_X3_takeGreatestRemainder_b42 C0 hxt hk4 _ _ _ _ _ _ _ _ hR hS (lv_sub hl [1, 2, 0, 3] rfl) hf
set_option maxRecDepth 100000 in
set_option maxHeartbeats 4000000 in
theorem s_X3_takeGreatestRemainder_b4 {p : Program} {l : Launch} {e : Env} {s : State} {m : MethodId} {args : Array Value} {below : List Frame} {meth : Method} {c : Code} {E : XE} {z : XR} (C0 : x_C E p l s m meth c args cX3_takeGreatestRemainder 4 "GridEngine$Fractions" "takeGreatestRemainder" (some .int)) (hxt : ∀ x ∈ c.exceptionTable.toList, False) {k4 : HP → Nat → Int32 → Int32 → Int32 → Option XR} (hk4 : ∀ (h : HP) (r0 : Nat) (x1 : Int32) (x2 : Int32) (x3 : Int32) (H : Heap) (locs : List Loc) (ls : Array Slot), x_Rep E h H → va_S (x_A E) s.heap H locs → lv_has ls 4 [(0, .ref (xa E r0)), (1, .int x1), (2, .int x2), (3, .int x3)] → k4 h r0 x1 x2 x3 = some z → W p l e ({ frames := 8, cells := 0, slots := 0, locals := 130 } : Room) s m args below meth c H locs 0 0 (x_Q E below args s 0 0 z) (F0 m 4 ls [])) : ∀ (h : HP) (r0 : Nat) (x1 : Int32) (x2 : Int32) (x3 : Int32) (H : Heap) (locs : List Loc) (ls : Array Slot), x_Rep E h H → va_S (x_A E) s.heap H locs → lv_has ls 4 [(0, .ref (xa E r0)), (1, .int x1), (2, .int x2), (3, .int x3)] → f_X3_takeGreatestRemainder_b4 k4 h r0 x1 x2 x3 = some z → W p l e ({ frames := 8, cells := 0, slots := 0, locals := 130 } : Room) s m args below meth c H locs 0 0 (x_Q E below args s 0 0 z) (F0 m 4 ls []) := by
  intro h r0 x1 x2 x3 H locs ls hR hS hl hf
  obtain ⟨hx, hb, -⟩ := id C0
  unfold f_X3_takeGreatestRemainder_b4 at hf
  have h0 : x_by cX3_takeGreatestRemainder 4 [29, 27, 163, 0, 42] := by unfold x_by; decide +kernel
  obtain ⟨d4, h0⟩ := de_iload_n3 h0
  obtain ⟨d5, h0⟩ := de_iload_n1 h0
  obtain ⟨d6, h0⟩ := de_icmp_gt (42) (by decide) h0
  refine lv_iload_n hx hb d4 rfl (lv_at hl 3 rfl) ?_
  refine lv_iload_n hx hb d5 rfl (lv_at hl 1 rfl) ?_
  refine lv_icmp_gt (tgt := 48) hx hb d6 (by decide) (fun q => ?_) (fun q => ?_)
  · have hf := x_pos q hf
    have h0 : x_by cX3_takeGreatestRemainder 48 [42, 180, 0, 15, 28, 20, 0, 91, 80, 28, 172] := by unfold x_by; decide +kernel
    obtain ⟨d48, h0⟩ := de_aload_n0 h0
    obtain ⟨d49, h0⟩ := de_getfield 15 (by decide) h0
    obtain ⟨d52, h0⟩ := de_iload_n2 h0
    obtain ⟨d53, h0⟩ := de_ldc2_w 91 (by decide) h0
    obtain ⟨d56, h0⟩ := de_lastore h0
    obtain ⟨d57, h0⟩ := de_iload_n2 h0
    obtain ⟨d58, h0⟩ := de_ireturn h0
    refine lv_aload_n hx hb d48 rfl (lv_at hl 0 rfl) ?_
    refine x_getR C0 hR hf xcl_3 (Nat.le_of_ble_eq_true rfl) rfl fl_X3_15 d49 (fun a1 hf => ?_)
    refine lv_iload_n hx hb d52 rfl (lv_at hl 2 rfl) ?_
    refine lv_ldc2 hx hb C0.2.2.2.1 (C0.2.2.2.2.1 _ kl_X3_91) d53 ?_
    refine x_last C0 hR hS hf d56 (fun H locs hR hS hf => ?_)
    refine lv_iload_n hx hb d57 rfl (lv_at hl 2 rfl) ?_
    exact x_iret C0 hR hS hf (Nat.le_of_ble_eq_true rfl) (Nat.le_of_ble_eq_true rfl) d58
  · have hf := x_neg q hf
    have h0 : x_by cX3_takeGreatestRemainder 9 [42, 180, 0, 15, 29, 47, 9, 148, 155, 0, 25] := by unfold x_by; decide +kernel
    obtain ⟨d9, h0⟩ := de_aload_n0 h0
    obtain ⟨d10, h0⟩ := de_getfield 15 (by decide) h0
    obtain ⟨d13, h0⟩ := de_iload_n3 h0
    obtain ⟨d14, h0⟩ := de_laload h0
    obtain ⟨d15, h0⟩ := de_lconst_0 h0
    obtain ⟨d16, h0⟩ := de_lcmp h0
    obtain ⟨d17, h0⟩ := de_if_lt (25) (by decide) h0
    refine lv_aload_n hx hb d9 rfl (lv_at hl 0 rfl) ?_
    refine x_getR C0 hR hf xcl_3 (Nat.le_of_ble_eq_true rfl) rfl fl_X3_15 d10 (fun a3 hf => ?_)
    refine lv_iload_n hx hb d13 rfl (lv_at hl 3 rfl) ?_
    refine x_lald C0 hR hf d14 (fun j4 hf => ?_)
    refine lv_lconst (v := 0) hx hb d15 (by decide) ?_
    refine W.lcmp hx hb d16 ?_
    refine lv_if_lt (tgt := 42) hx hb d17 (by decide) (fun q => ?_) (fun q => ?_)
    · have hf := x_pos q hf
      exact s_X3_takeGreatestRemainder_b42 C0 hxt hk4 _ _ _ _ _ _ _ _ hR hS (lv_sub hl [0, 1, 2, 3] rfl) hf
    · have hf := x_neg q hf
      have h0 : x_by cX3_takeGreatestRemainder 20 [28, 153, 0, 19] := by unfold x_by; decide +kernel
      obtain ⟨d20, h0⟩ := de_iload_n2 h0
      obtain ⟨d21, h0⟩ := de_if_eq (19) (by decide) h0
      refine lv_iload_n hx hb d20 rfl (lv_at hl 2 rfl) ?_
      refine lv_if_eq (tgt := 40) hx hb d21 (by decide) (fun q => ?_) (fun q => ?_)
      · have hf := x_pos q hf
        exact s_X3_takeGreatestRemainder_b40 C0 hxt hk4 _ _ _ _ _ _ _ hR hS (lv_sub hl [0, 1, 3] rfl) hf
      · have hf := x_neg q hf
        have h0 : x_by cX3_takeGreatestRemainder 24 [42, 180, 0, 15, 29, 47, 42, 180, 0, 15, 28, 47, 148, 158, 0, 5] := by unfold x_by; decide +kernel
        obtain ⟨d24, h0⟩ := de_aload_n0 h0
        obtain ⟨d25, h0⟩ := de_getfield 15 (by decide) h0
        obtain ⟨d28, h0⟩ := de_iload_n3 h0
        obtain ⟨d29, h0⟩ := de_laload h0
        obtain ⟨d30, h0⟩ := de_aload_n0 h0
        obtain ⟨d31, h0⟩ := de_getfield 15 (by decide) h0
        obtain ⟨d34, h0⟩ := de_iload_n2 h0
        obtain ⟨d35, h0⟩ := de_laload h0
        obtain ⟨d36, h0⟩ := de_lcmp h0
        obtain ⟨d37, h0⟩ := de_if_le (5) (by decide) h0
        refine lv_aload_n hx hb d24 rfl (lv_at hl 0 rfl) ?_
        refine x_getR C0 hR hf xcl_3 (Nat.le_of_ble_eq_true rfl) rfl fl_X3_15 d25 (fun a5 hf => ?_)
        refine lv_iload_n hx hb d28 rfl (lv_at hl 3 rfl) ?_
        refine x_lald C0 hR hf d29 (fun j6 hf => ?_)
        refine lv_aload_n hx hb d30 rfl (lv_at hl 0 rfl) ?_
        refine x_getR C0 hR hf xcl_3 (Nat.le_of_ble_eq_true rfl) rfl fl_X3_15 d31 (fun a7 hf => ?_)
        refine lv_iload_n hx hb d34 rfl (lv_at hl 2 rfl) ?_
        refine x_lald C0 hR hf d35 (fun j8 hf => ?_)
        refine W.lcmp hx hb d36 ?_
        refine lv_if_le (tgt := 42) hx hb d37 (by decide) (fun q => ?_) (fun q => ?_)
        · have hf := x_pos q hf
          exact s_X3_takeGreatestRemainder_b42 C0 hxt hk4 _ _ _ _ _ _ _ _ hR hS (lv_sub hl [0, 1, 2, 3] rfl) hf
        · have hf := x_neg q hf
          exact s_X3_takeGreatestRemainder_b40 C0 hxt hk4 _ _ _ _ _ _ _ hR hS (lv_sub hl [0, 1, 3] rfl) hf
theorem s_X3_takeGreatestRemainder_L4 {p : Program} {l : Launch} {e : Env} {s : State} {m : MethodId} {args : Array Value} {below : List Frame} {meth : Method} {c : Code} {E : XE} {z : XR} (C0 : x_C E p l s m meth c args cX3_takeGreatestRemainder 4 "GridEngine$Fractions" "takeGreatestRemainder" (some .int)) (hxt : ∀ x ∈ c.exceptionTable.toList, False)  : ∀ n : Nat, ∀ (h : HP) (r0 : Nat) (x1 : Int32) (x2 : Int32) (x3 : Int32) (H : Heap) (locs : List Loc) (ls : Array Slot), x_Rep E h H → va_S (x_A E) s.heap H locs → lv_has ls 4 [(0, .ref (xa E r0)), (1, .int x1), (2, .int x2), (3, .int x3)] → f_X3_takeGreatestRemainder_L4 n h r0 x1 x2 x3 = some z → W p l e ({ frames := 8, cells := 0, slots := 0, locals := 130 } : Room) s m args below meth c H locs 0 0 (x_Q E below args s 0 0 z) (F0 m 4 ls []) := by
  intro n
  induction n with
  | zero => intro h r0 x1 x2 x3 H locs ls hR hS hl hf; cases (show (none : Option XR) = some z from hf)
  | succ n ih => intro h r0 x1 x2 x3 H locs ls hR hS hl hf; exact s_X3_takeGreatestRemainder_b4 C0 hxt ih h r0 x1 x2 x3 H locs ls hR hS hl (show f_X3_takeGreatestRemainder_b4 (f_X3_takeGreatestRemainder_L4 n) h r0 x1 x2 x3 = some z from hf)
set_option maxRecDepth 100000 in
set_option maxHeartbeats 4000000 in
theorem ct_X3_takeGreatestRemainder (E : XE) (l : Launch) (hl0 : l.stackTraces = false) (h : HP) (r0 : Nat) (x1 : Int32) : x_ct E l yX3_takeGreatestRemainder (Cond.code yX3_takeGreatestRemainder cX3_takeGreatestRemainder 4 (some .int)) 8 130 0 0 [.ref (xa E r0), .int x1] h (f_X3_takeGreatestRemainder h r0 x1) := by
  refine x_ofW hl0 (by decide +kernel) ?_
  intro z hf p e s m args below meth c C0 hxt hargs hR
  subst hargs
  have C0 : x_C E p l s m meth c ([.ref (xa E r0), .int x1] : List Value).toArray cX3_takeGreatestRemainder 4 "GridEngine$Fractions" "takeGreatestRemainder" (some .int) := C0
  obtain ⟨hx, hb, -⟩ := id C0
  have hS : va_S (x_A E) s.heap s.heap [] := va_S.rf
  have hl := lv_entry ([.ref (xa E r0), .int x1]) (n := 4) (Nat.le_of_ble_eq_true rfl)
  rw [lg_entry_eq]
  generalize (lg_sl ([.ref (xa E r0), .int x1]) ++ List.replicate (4 - (lg_sl ([.ref (xa E r0), .int x1])).length) Slot.unset).toArray = ls at hl ⊢
  have hl : lv_has ls 4 [(0, .ref (xa E r0)), (1, .int x1)] := hl
  unfold f_X3_takeGreatestRemainder at hf
  have h0 : x_by cX3_takeGreatestRemainder 0 [3, 61, 4, 62] := by unfold x_by; decide +kernel
  obtain ⟨d0, h0⟩ := de_iconst_0 h0
  obtain ⟨d1, h0⟩ := de_istore_n2 h0
  obtain ⟨d2, h0⟩ := de_iconst_1 h0
  obtain ⟨d3, h0⟩ := de_istore_n3 h0
  refine lv_iconst (v := 0) hx hb d0 (by decide) ?_
  refine lv_istore_n (lv' := [(2, .int 0), (0, .ref (xa E r0)), (1, .int x1)]) hx hb d1 rfl hl (by decide) rfl (fun ls hl => ?_)
  refine lv_iconst (v := 1) hx hb d2 (by decide) ?_
  refine lv_istore_n (lv' := [(3, .int 1), (2, .int 0), (0, .ref (xa E r0)), (1, .int x1)]) hx hb d3 rfl hl (by decide) rfl (fun ls hl => ?_)
  exact s_X3_takeGreatestRemainder_L4 C0 hxt FU _ _ _ _ _ _ _ _ hR hS (lv_sub hl [2, 3, 1, 0] rfl) hf
def f_X3_shareLeftover_b102 (k18 : HP → Nat → Nat → Int64 → Int32 → Option XR) (h : HP) (r0 : Nat) (r1 : Nat) (y2 : Int64) (x4 : Int32) : Option XR :=
  k18 h r0 r1 y2 (x4 + 1)
def f_X3_shareLeftover_b156 (k111 : HP → Nat → Nat → Int64 → Int32 → Option XR) (h : HP) (r0 : Nat) (r1 : Nat) (y2 : Int64) (x4 : Int32) : Option XR :=
  k111 h r0 r1 y2 (x4 + 1)
def f_X3_shareLeftover_b162  (h : HP)  : Option XR :=
  some (h, xv)
def f_X3_shareLeftover_b111 (k111 : HP → Nat → Nat → Int64 → Int32 → Option XR) (h : HP) (r0 : Nat) (r1 : Nat) (y2 : Int64) (x4 : Int32) : Option XR :=
  x_gI h r1 0 10 fun i1 =>
  if i1 ≤ x4 then
    (
      f_X3_shareLeftover_b162 h
    )
  else
    (
      if (lg_cmp y2 0) ≤ 0 then
        (
          f_X3_shareLeftover_b162 h
        )
      else
        (
          x_gI h r1 0 10 fun i2 =>
          x_rc h r0 3 <| x_cI (f_X3_takeGreatestRemainder h r0 i2) fun h4 i3 =>
          if i3 ≤ 0 then
            (
              f_X3_shareLeftover_b156 k111 h4 r0 r1 y2 x4
            )
          else
            (
              x_gR h4 r1 0 7 fun a5 =>
              x_aI h4 100 a5 i3 fun i6 =>
              x_sI h4 a5 i3 (i6 + 1) fun h7 =>
              x_lJ (y2 - 1) fun j8 =>
              f_X3_shareLeftover_b156 k111 h7 r0 r1 j8 x4
            )
        )
    )
def f_X3_shareLeftover_L111  : Nat → HP → Nat → Nat → Int64 → Int32 → Option XR
  | 0 => fun _ _ _ _ _ => none
  | n + 1 => f_X3_shareLeftover_b111 (f_X3_shareLeftover_L111 n)
def f_X3_shareLeftover_b18 (k18 : HP → Nat → Nat → Int64 → Int32 → Option XR) (h : HP) (r0 : Nat) (r1 : Nat) (y2 : Int64) (x4 : Int32) : Option XR :=
  x_gI h r1 0 10 fun i1 =>
  if i1 < x4 then
    (
      f_X3_shareLeftover_L111 FU h r0 r1 y2 0
    )
  else
    (
      x_gR h r0 3 1 fun a2 =>
      x_sJ h a2 x4 (-1) fun h3 =>
      x_gR h3 r0 3 0 fun a4 =>
      x_aI h3 102 a4 x4 fun i5 =>
      if i5 = 0 then
        (
          f_X3_shareLeftover_b102 k18 h3 r0 r1 y2 x4
        )
      else
        (
          x_gJ h3 r0 3 2 fun j6 =>
          x_rc h3 r1 0 <| x_cI (f_X0_part h3 r1 x4 3) fun h8 i7 =>
          x_lJ (j6 * (i7 : Int32).toInt64) fun j9 =>
          x_gR h8 r1 0 7 fun a10 =>
          x_gJ h8 r0 3 3 fun j11 =>
          x_dJ j11 <|
          x_sI h8 a10 x4 (((j9 / j11) : Int64).toInt32) fun h12 =>
          x_gR h12 r0 3 1 fun a13 =>
          x_gJ h12 r0 3 3 fun j14 =>
          x_dJ j14 <|
          x_sJ h12 a13 x4 (j9 - j9 / j14 * j14) fun h15 =>
          x_gR h15 r1 0 7 fun a16 =>
          x_aI h15 100 a16 x4 fun i17 =>
          x_lJ (y2 - (i17 : Int32).toInt64) fun j18 =>
          f_X3_shareLeftover_b102 k18 h15 r0 r1 j18 x4
        )
    )
def f_X3_shareLeftover_L18  : Nat → HP → Nat → Nat → Int64 → Int32 → Option XR
  | 0 => fun _ _ _ _ _ => none
  | n + 1 => f_X3_shareLeftover_b18 (f_X3_shareLeftover_L18 n)
def f_X3_shareLeftover (h : HP) (r0 : Nat) (r1 : Nat) : Option XR :=
  x_gJ h r0 3 3 fun j1 =>
  if 0 < (lg_cmp j1 0) then
    (
      x_gJ h r0 3 2 fun j2 =>
      f_X3_shareLeftover_L18 FU h r0 r1 j2 1
    )
  else
    (
      some (h, xv)
    )
set_option maxRecDepth 100000 in
set_option maxHeartbeats 4000000 in
theorem s_X3_shareLeftover_b102 {p : Program} {l : Launch} {e : Env} {s : State} {m : MethodId} {args : Array Value} {below : List Frame} {meth : Method} {c : Code} {E : XE} {z : XR} (C0 : x_C E p l s m meth c args cX3_shareLeftover 7 "GridEngine$Fractions" "shareLeftover" none) (hxt : ∀ x ∈ c.exceptionTable.toList, False) {k18 : HP → Nat → Nat → Int64 → Int32 → Option XR} (hk18 : ∀ (h : HP) (r0 : Nat) (r1 : Nat) (y2 : Int64) (x4 : Int32) (H : Heap) (locs : List Loc) (ls : Array Slot), x_Rep E h H → va_S (x_A E) s.heap H locs → lv_has ls 7 [(0, .ref (xa E r0)), (1, .ref (xa E r1)), (2, .long y2), (4, .int x4)] → k18 h r0 r1 y2 x4 = some z → W p l e ({ frames := 10, cells := 0, slots := 0, locals := 177 } : Room) s m args below meth c H locs 0 0 (x_Q E below args s 0 0 z) (F0 m 18 ls [])) : ∀ (h : HP) (r0 : Nat) (r1 : Nat) (y2 : Int64) (x4 : Int32) (H : Heap) (locs : List Loc) (ls : Array Slot), x_Rep E h H → va_S (x_A E) s.heap H locs → lv_has ls 7 [(0, .ref (xa E r0)), (1, .ref (xa E r1)), (2, .long y2), (4, .int x4)] → f_X3_shareLeftover_b102 k18 h r0 r1 y2 x4 = some z → W p l e ({ frames := 10, cells := 0, slots := 0, locals := 177 } : Room) s m args below meth c H locs 0 0 (x_Q E below args s 0 0 z) (F0 m 102 ls []) := by
  intro h r0 r1 y2 x4 H locs ls hR hS hl hf
  obtain ⟨hx, hb, -⟩ := id C0
  unfold f_X3_shareLeftover_b102 at hf
  have h0 : x_by cX3_shareLeftover 102 [132, 4, 1, 167, 255, 169] := by unfold x_by; decide +kernel
  obtain ⟨d102, h0⟩ := de_iinc (1) (by decide) h0
  obtain ⟨d105, h0⟩ := de_goto (-87) (by decide) h0
  refine lv_iinc (v := (x4 + 1)) (lv' := [(4, .int (x4 + 1)), (0, .ref (xa E r0)), (1, .ref (xa E r1)), (2, .long y2)]) hx hb d102 hl (k := 3) rfl rfl (by decide) rfl (fun ls hl => ?_)
  refine lv_goto (tgt := 18) hx hb d105 (by decide) ?_
  exact hk18 _ _ _ _ _ _ _ _ hR hS (lv_sub hl [1, 2, 3, 0] rfl) hf
set_option maxRecDepth 100000 in
set_option maxHeartbeats 4000000 in
theorem s_X3_shareLeftover_b156 {p : Program} {l : Launch} {e : Env} {s : State} {m : MethodId} {args : Array Value} {below : List Frame} {meth : Method} {c : Code} {E : XE} {z : XR} (C0 : x_C E p l s m meth c args cX3_shareLeftover 7 "GridEngine$Fractions" "shareLeftover" none) (hxt : ∀ x ∈ c.exceptionTable.toList, False) {k111 : HP → Nat → Nat → Int64 → Int32 → Option XR} (hk111 : ∀ (h : HP) (r0 : Nat) (r1 : Nat) (y2 : Int64) (x4 : Int32) (H : Heap) (locs : List Loc) (ls : Array Slot), x_Rep E h H → va_S (x_A E) s.heap H locs → lv_has ls 7 [(0, .ref (xa E r0)), (1, .ref (xa E r1)), (2, .long y2), (4, .int x4)] → k111 h r0 r1 y2 x4 = some z → W p l e ({ frames := 10, cells := 0, slots := 0, locals := 177 } : Room) s m args below meth c H locs 0 0 (x_Q E below args s 0 0 z) (F0 m 111 ls [])) : ∀ (h : HP) (r0 : Nat) (r1 : Nat) (y2 : Int64) (x4 : Int32) (H : Heap) (locs : List Loc) (ls : Array Slot), x_Rep E h H → va_S (x_A E) s.heap H locs → lv_has ls 7 [(0, .ref (xa E r0)), (1, .ref (xa E r1)), (2, .long y2), (4, .int x4)] → f_X3_shareLeftover_b156 k111 h r0 r1 y2 x4 = some z → W p l e ({ frames := 10, cells := 0, slots := 0, locals := 177 } : Room) s m args below meth c H locs 0 0 (x_Q E below args s 0 0 z) (F0 m 156 ls []) := by
  intro h r0 r1 y2 x4 H locs ls hR hS hl hf
  obtain ⟨hx, hb, -⟩ := id C0
  unfold f_X3_shareLeftover_b156 at hf
  have h0 : x_by cX3_shareLeftover 156 [132, 4, 1, 167, 255, 208] := by unfold x_by; decide +kernel
  obtain ⟨d156, h0⟩ := de_iinc (1) (by decide) h0
  obtain ⟨d159, h0⟩ := de_goto (-48) (by decide) h0
  refine lv_iinc (v := (x4 + 1)) (lv' := [(4, .int (x4 + 1)), (0, .ref (xa E r0)), (1, .ref (xa E r1)), (2, .long y2)]) hx hb d156 hl (k := 3) rfl rfl (by decide) rfl (fun ls hl => ?_)
  refine lv_goto (tgt := 111) hx hb d159 (by decide) ?_
  exact hk111 _ _ _ _ _ _ _ _ hR hS (lv_sub hl [1, 2, 3, 0] rfl) hf
set_option maxRecDepth 100000 in
set_option maxHeartbeats 4000000 in
theorem s_X3_shareLeftover_b162 {p : Program} {l : Launch} {e : Env} {s : State} {m : MethodId} {args : Array Value} {below : List Frame} {meth : Method} {c : Code} {E : XE} {z : XR} (C0 : x_C E p l s m meth c args cX3_shareLeftover 7 "GridEngine$Fractions" "shareLeftover" none) (hxt : ∀ x ∈ c.exceptionTable.toList, False)  : ∀ (h : HP)  (H : Heap) (locs : List Loc) (ls : Array Slot), x_Rep E h H → va_S (x_A E) s.heap H locs → lv_has ls 7 [] → f_X3_shareLeftover_b162 h  = some z → W p l e ({ frames := 10, cells := 0, slots := 0, locals := 177 } : Room) s m args below meth c H locs 0 0 (x_Q E below args s 0 0 z) (F0 m 162 ls []) := by
  intro h  H locs ls hR hS hl hf
  obtain ⟨hx, hb, -⟩ := id C0
  unfold f_X3_shareLeftover_b162 at hf
  have h0 : x_by cX3_shareLeftover 162 [177] := by unfold x_by; decide +kernel
  obtain ⟨d162, h0⟩ := de_return h0
  exact x_vret C0 hR hS hf (Nat.le_of_ble_eq_true rfl) (Nat.le_of_ble_eq_true rfl) d162
set_option maxRecDepth 100000 in
set_option maxHeartbeats 4000000 in
theorem s_X3_shareLeftover_b111 {p : Program} {l : Launch} {e : Env} {s : State} {m : MethodId} {args : Array Value} {below : List Frame} {meth : Method} {c : Code} {E : XE} {z : XR} (C0 : x_C E p l s m meth c args cX3_shareLeftover 7 "GridEngine$Fractions" "shareLeftover" none) (hxt : ∀ x ∈ c.exceptionTable.toList, False) {k111 : HP → Nat → Nat → Int64 → Int32 → Option XR} (hk111 : ∀ (h : HP) (r0 : Nat) (r1 : Nat) (y2 : Int64) (x4 : Int32) (H : Heap) (locs : List Loc) (ls : Array Slot), x_Rep E h H → va_S (x_A E) s.heap H locs → lv_has ls 7 [(0, .ref (xa E r0)), (1, .ref (xa E r1)), (2, .long y2), (4, .int x4)] → k111 h r0 r1 y2 x4 = some z → W p l e ({ frames := 10, cells := 0, slots := 0, locals := 177 } : Room) s m args below meth c H locs 0 0 (x_Q E below args s 0 0 z) (F0 m 111 ls [])) : ∀ (h : HP) (r0 : Nat) (r1 : Nat) (y2 : Int64) (x4 : Int32) (H : Heap) (locs : List Loc) (ls : Array Slot), x_Rep E h H → va_S (x_A E) s.heap H locs → lv_has ls 7 [(0, .ref (xa E r0)), (1, .ref (xa E r1)), (2, .long y2), (4, .int x4)] → f_X3_shareLeftover_b111 k111 h r0 r1 y2 x4 = some z → W p l e ({ frames := 10, cells := 0, slots := 0, locals := 177 } : Room) s m args below meth c H locs 0 0 (x_Q E below args s 0 0 z) (F0 m 111 ls []) := by
  intro h r0 r1 y2 x4 H locs ls hR hS hl hf
  obtain ⟨hx, hb, -⟩ := id C0
  unfold f_X3_shareLeftover_b111 at hf
  have h0 : x_by cX3_shareLeftover 111 [21, 4, 43, 180, 0, 47, 162, 0, 45] := by unfold x_by; decide +kernel
  obtain ⟨d111, h0⟩ := de_iload h0
  obtain ⟨d113, h0⟩ := de_aload_n1 h0
  obtain ⟨d114, h0⟩ := de_getfield 47 (by decide) h0
  obtain ⟨d117, h0⟩ := de_icmp_ge (45) (by decide) h0
  refine lv_iload hx hb d111 (lv_at hl 3 rfl) ?_
  refine lv_aload_n hx hb d113 rfl (lv_at hl 1 rfl) ?_
  refine x_getI C0 hR hf xcl_0 (Nat.le_of_ble_eq_true rfl) rfl fl_X3_47 d114 (fun i1 hf => ?_)
  refine lv_icmp_ge (tgt := 162) hx hb d117 (by decide) (fun q => ?_) (fun q => ?_)
  · have hf := x_pos q hf
    exact s_X3_shareLeftover_b162 C0 hxt _ _ _ _ hR hS (lv_sub hl [] rfl) hf
  · have hf := x_neg q hf
    have h0 : x_by cX3_shareLeftover 120 [32, 9, 148, 158, 0, 39] := by unfold x_by; decide +kernel
    obtain ⟨d120, h0⟩ := de_lload_n2 h0
    obtain ⟨d121, h0⟩ := de_lconst_0 h0
    obtain ⟨d122, h0⟩ := de_lcmp h0
    obtain ⟨d123, h0⟩ := de_if_le (39) (by decide) h0
    refine lv_lload_n hx hb d120 rfl (lv_at hl 2 rfl) ?_
    refine lv_lconst (v := 0) hx hb d121 (by decide) ?_
    refine W.lcmp hx hb d122 ?_
    refine lv_if_le (tgt := 162) hx hb d123 (by decide) (fun q => ?_) (fun q => ?_)
    · have hf := x_pos q hf
      exact s_X3_shareLeftover_b162 C0 hxt _ _ _ _ hR hS (lv_sub hl [] rfl) hf
    · have hf := x_neg q hf
      have h0 : x_by cX3_shareLeftover 126 [42, 43, 180, 0, 47, 182, 0, 93, 54, 5, 21, 5, 158, 0, 18] := by unfold x_by; decide +kernel
      obtain ⟨d126, h0⟩ := de_aload_n0 h0
      obtain ⟨d127, h0⟩ := de_aload_n1 h0
      obtain ⟨d128, h0⟩ := de_getfield 47 (by decide) h0
      obtain ⟨d131, h0⟩ := de_invokevirtual 93 (by decide) h0
      obtain ⟨d134, h0⟩ := de_istore h0
      obtain ⟨d136, h0⟩ := de_iload h0
      obtain ⟨d138, h0⟩ := de_if_le (18) (by decide) h0
      refine lv_aload_n hx hb d126 rfl (lv_at hl 0 rfl) ?_
      refine lv_aload_n hx hb d127 rfl (lv_at hl 1 rfl) ?_
      refine x_getI C0 hR hf xcl_0 (Nat.le_of_ble_eq_true rfl) rfl fl_X3_47 d128 (fun i2 hf => ?_)
      obtain ⟨hs9, hf⟩ := x_if hf
      refine x_thenI C0 hxt hS hf (fun z0 e0 => x_runV C0 hR hS me_X3_takeGreatestRemainder wi_X3_takeGreatestRemainder wl_X3_takeGreatestRemainder ml_X3_93 hs9 xcl_3 (As := [.int i2]) (ct_X3_takeGreatestRemainder E l C0.2.2.2.2.2.2.2.1 _ r0 i2) rfl rfl hl.1 (Nat.le_of_ble_eq_true rfl) d131 ⟨(Nat.le_of_ble_eq_true rfl), (Nat.le_of_ble_eq_true rfl)⟩ ⟨(Nat.le_of_ble_eq_true rfl), (Nat.le_of_ble_eq_true rfl)⟩ e0) (Nat.le_of_ble_eq_true rfl) (Nat.le_of_ble_eq_true rfl) (fun h9 i3 H locs hR hS hf => ?_)
      refine lv_istore (lv' := [(5, .int i3), (0, .ref (xa E r0)), (1, .ref (xa E r1)), (2, .long y2), (4, .int x4)]) hx hb d134 hl (by decide) rfl (fun ls hl => ?_)
      refine lv_iload hx hb d136 (lv_at hl 0 rfl) ?_
      refine lv_if_le (tgt := 156) hx hb d138 (by decide) (fun q => ?_) (fun q => ?_)
      · have hf := x_pos q hf
        exact s_X3_shareLeftover_b156 C0 hxt hk111 _ _ _ _ _ _ _ _ hR hS (lv_sub hl [1, 2, 3, 4] rfl) hf
      · have hf := x_neg q hf
        have h0 : x_by cX3_shareLeftover 141 [43, 180, 0, 38, 21, 5, 92, 46, 4, 96, 79, 32, 10, 101, 65] := by unfold x_by; decide +kernel
        obtain ⟨d141, h0⟩ := de_aload_n1 h0
        obtain ⟨d142, h0⟩ := de_getfield 38 (by decide) h0
        obtain ⟨d145, h0⟩ := de_iload h0
        obtain ⟨d147, h0⟩ := de_dup2 h0
        obtain ⟨d148, h0⟩ := de_iaload h0
        obtain ⟨d149, h0⟩ := de_iconst_1 h0
        obtain ⟨d150, h0⟩ := de_iadd h0
        obtain ⟨d151, h0⟩ := de_iastore h0
        obtain ⟨d152, h0⟩ := de_lload_n2 h0
        obtain ⟨d153, h0⟩ := de_lconst_1 h0
        obtain ⟨d154, h0⟩ := de_lsub h0
        obtain ⟨d155, h0⟩ := de_lstore_n2 h0
        refine lv_aload_n hx hb d141 rfl (lv_at hl 2 rfl) ?_
        refine x_getR C0 hR hf xcl_0 (Nat.le_of_ble_eq_true rfl) rfl fl_X3_38 d142 (fun a5 hf => ?_)
        refine lv_iload hx hb d145 (lv_at hl 0 rfl) ?_
        refine lv_dup2_11 hx hb d147 rfl rfl ?_
        refine x_iald C0 hR hf d148 (fun i6 hf => ?_)
        refine lv_iconst (v := 1) hx hb d149 (by decide) ?_
        refine lv_iadd hx hb d150 ?_
        refine x_iast C0 hR hS hf d151 (fun H locs hR hS hf => ?_)
        refine lv_lload_n hx hb d152 rfl (lv_at hl 3 rfl) ?_
        refine lv_lconst (v := 1) hx hb d153 (by decide) ?_
        refine lv_lsub hx hb d154 ?_
        refine lv_topl (fun j8 ej8 => ?_)
        have hf := x_lJ_el ej8 hf
        refine lv_lstore_n (lv' := [(2, .long j8), (5, .int i3), (0, .ref (xa E r0)), (1, .ref (xa E r1)), (4, .int x4)]) hx hb d155 rfl hl (by decide) rfl (fun ls hl => ?_)
        exact s_X3_shareLeftover_b156 C0 hxt hk111 _ _ _ _ _ _ _ _ hR hS (lv_sub hl [2, 3, 0, 4] rfl) hf
theorem s_X3_shareLeftover_L111 {p : Program} {l : Launch} {e : Env} {s : State} {m : MethodId} {args : Array Value} {below : List Frame} {meth : Method} {c : Code} {E : XE} {z : XR} (C0 : x_C E p l s m meth c args cX3_shareLeftover 7 "GridEngine$Fractions" "shareLeftover" none) (hxt : ∀ x ∈ c.exceptionTable.toList, False)  : ∀ n : Nat, ∀ (h : HP) (r0 : Nat) (r1 : Nat) (y2 : Int64) (x4 : Int32) (H : Heap) (locs : List Loc) (ls : Array Slot), x_Rep E h H → va_S (x_A E) s.heap H locs → lv_has ls 7 [(0, .ref (xa E r0)), (1, .ref (xa E r1)), (2, .long y2), (4, .int x4)] → f_X3_shareLeftover_L111 n h r0 r1 y2 x4 = some z → W p l e ({ frames := 10, cells := 0, slots := 0, locals := 177 } : Room) s m args below meth c H locs 0 0 (x_Q E below args s 0 0 z) (F0 m 111 ls []) := by
  intro n
  induction n with
  | zero => intro h r0 r1 y2 x4 H locs ls hR hS hl hf; cases (show (none : Option XR) = some z from hf)
  | succ n ih => intro h r0 r1 y2 x4 H locs ls hR hS hl hf; exact s_X3_shareLeftover_b111 C0 hxt ih h r0 r1 y2 x4 H locs ls hR hS hl (show f_X3_shareLeftover_b111 (f_X3_shareLeftover_L111 n) h r0 r1 y2 x4 = some z from hf)
set_option maxRecDepth 100000 in
set_option maxHeartbeats 4000000 in
theorem s_X3_shareLeftover_b18 {p : Program} {l : Launch} {e : Env} {s : State} {m : MethodId} {args : Array Value} {below : List Frame} {meth : Method} {c : Code} {E : XE} {z : XR} (C0 : x_C E p l s m meth c args cX3_shareLeftover 7 "GridEngine$Fractions" "shareLeftover" none) (hxt : ∀ x ∈ c.exceptionTable.toList, False) {k18 : HP → Nat → Nat → Int64 → Int32 → Option XR} (hk18 : ∀ (h : HP) (r0 : Nat) (r1 : Nat) (y2 : Int64) (x4 : Int32) (H : Heap) (locs : List Loc) (ls : Array Slot), x_Rep E h H → va_S (x_A E) s.heap H locs → lv_has ls 7 [(0, .ref (xa E r0)), (1, .ref (xa E r1)), (2, .long y2), (4, .int x4)] → k18 h r0 r1 y2 x4 = some z → W p l e ({ frames := 10, cells := 0, slots := 0, locals := 177 } : Room) s m args below meth c H locs 0 0 (x_Q E below args s 0 0 z) (F0 m 18 ls [])) : ∀ (h : HP) (r0 : Nat) (r1 : Nat) (y2 : Int64) (x4 : Int32) (H : Heap) (locs : List Loc) (ls : Array Slot), x_Rep E h H → va_S (x_A E) s.heap H locs → lv_has ls 7 [(0, .ref (xa E r0)), (1, .ref (xa E r1)), (2, .long y2), (4, .int x4)] → f_X3_shareLeftover_b18 k18 h r0 r1 y2 x4 = some z → W p l e ({ frames := 10, cells := 0, slots := 0, locals := 177 } : Room) s m args below meth c H locs 0 0 (x_Q E below args s 0 0 z) (F0 m 18 ls []) := by
  intro h r0 r1 y2 x4 H locs ls hR hS hl hf
  obtain ⟨hx, hb, -⟩ := id C0
  unfold f_X3_shareLeftover_b18 at hf
  have h0 : x_by cX3_shareLeftover 18 [21, 4, 43, 180, 0, 47, 163, 0, 84] := by unfold x_by; decide +kernel
  obtain ⟨d18, h0⟩ := de_iload h0
  obtain ⟨d20, h0⟩ := de_aload_n1 h0
  obtain ⟨d21, h0⟩ := de_getfield 47 (by decide) h0
  obtain ⟨d24, h0⟩ := de_icmp_gt (84) (by decide) h0
  refine lv_iload hx hb d18 (lv_at hl 3 rfl) ?_
  refine lv_aload_n hx hb d20 rfl (lv_at hl 1 rfl) ?_
  refine x_getI C0 hR hf xcl_0 (Nat.le_of_ble_eq_true rfl) rfl fl_X3_47 d21 (fun i1 hf => ?_)
  refine lv_icmp_gt (tgt := 108) hx hb d24 (by decide) (fun q => ?_) (fun q => ?_)
  · have hf := x_pos q hf
    have h0 : x_by cX3_shareLeftover 108 [3, 54, 4] := by unfold x_by; decide +kernel
    obtain ⟨d108, h0⟩ := de_iconst_0 h0
    obtain ⟨d109, h0⟩ := de_istore h0
    refine lv_iconst (v := 0) hx hb d108 (by decide) ?_
    refine lv_istore (lv' := [(4, .int 0), (0, .ref (xa E r0)), (1, .ref (xa E r1)), (2, .long y2)]) hx hb d109 hl (by decide) rfl (fun ls hl => ?_)
    exact s_X3_shareLeftover_L111 C0 hxt FU _ _ _ _ _ _ _ _ hR hS (lv_sub hl [1, 2, 3, 0] rfl) hf
  · have hf := x_neg q hf
    have h0 : x_by cX3_shareLeftover 27 [42, 180, 0, 15, 21, 4, 20, 0, 91, 80, 42, 180, 0, 9, 21, 4, 51, 153, 0, 58] := by unfold x_by; decide +kernel
    obtain ⟨d27, h0⟩ := de_aload_n0 h0
    obtain ⟨d28, h0⟩ := de_getfield 15 (by decide) h0
    obtain ⟨d31, h0⟩ := de_iload h0
    obtain ⟨d33, h0⟩ := de_ldc2_w 91 (by decide) h0
    obtain ⟨d36, h0⟩ := de_lastore h0
    obtain ⟨d37, h0⟩ := de_aload_n0 h0
    obtain ⟨d38, h0⟩ := de_getfield 9 (by decide) h0
    obtain ⟨d41, h0⟩ := de_iload h0
    obtain ⟨d43, h0⟩ := de_baload h0
    obtain ⟨d44, h0⟩ := de_if_eq (58) (by decide) h0
    refine lv_aload_n hx hb d27 rfl (lv_at hl 0 rfl) ?_
    refine x_getR C0 hR hf xcl_3 (Nat.le_of_ble_eq_true rfl) rfl fl_X3_15 d28 (fun a2 hf => ?_)
    refine lv_iload hx hb d31 (lv_at hl 3 rfl) ?_
    refine lv_ldc2 hx hb C0.2.2.2.1 (C0.2.2.2.2.1 _ kl_X3_91) d33 ?_
    refine x_last C0 hR hS hf d36 (fun H locs hR hS hf => ?_)
    refine lv_aload_n hx hb d37 rfl (lv_at hl 0 rfl) ?_
    refine x_getR C0 hR hf xcl_3 (Nat.le_of_ble_eq_true rfl) rfl fl_X3_9 d38 (fun a4 hf => ?_)
    refine lv_iload hx hb d41 (lv_at hl 3 rfl) ?_
    refine x_zald C0 hR hf d43 (fun i5 hf => ?_)
    refine lv_if_eq (tgt := 102) hx hb d44 (by decide) (fun q => ?_) (fun q => ?_)
    · have hf := x_pos q hf
      exact s_X3_shareLeftover_b102 C0 hxt hk18 _ _ _ _ _ _ _ _ hR hS (lv_sub hl [0, 1, 2, 3] rfl) hf
    · have hf := x_neg q hf
      have h0 : x_by cX3_shareLeftover 47 [42, 180, 0, 19, 43, 21, 4, 6, 182, 0, 84, 133, 105, 55, 5, 43, 180, 0, 38, 21, 4, 22, 5, 42, 180, 0, 23, 109, 136, 79, 42, 180, 0, 15, 21, 4, 22, 5, 42, 180, 0, 23, 113, 80, 32, 43, 180, 0, 38, 21, 4, 46, 133, 101, 65] := by unfold x_by; decide +kernel
      obtain ⟨d47, h0⟩ := de_aload_n0 h0
      obtain ⟨d48, h0⟩ := de_getfield 19 (by decide) h0
      obtain ⟨d51, h0⟩ := de_aload_n1 h0
      obtain ⟨d52, h0⟩ := de_iload h0
      obtain ⟨d54, h0⟩ := de_iconst_3 h0
      obtain ⟨d55, h0⟩ := de_invokevirtual 84 (by decide) h0
      obtain ⟨d58, h0⟩ := de_i2l h0
      obtain ⟨d59, h0⟩ := de_lmul h0
      obtain ⟨d60, h0⟩ := de_lstore h0
      obtain ⟨d62, h0⟩ := de_aload_n1 h0
      obtain ⟨d63, h0⟩ := de_getfield 38 (by decide) h0
      obtain ⟨d66, h0⟩ := de_iload h0
      obtain ⟨d68, h0⟩ := de_lload h0
      obtain ⟨d70, h0⟩ := de_aload_n0 h0
      obtain ⟨d71, h0⟩ := de_getfield 23 (by decide) h0
      obtain ⟨d74, h0⟩ := de_ldiv h0
      obtain ⟨d75, h0⟩ := de_l2i h0
      obtain ⟨d76, h0⟩ := de_iastore h0
      obtain ⟨d77, h0⟩ := de_aload_n0 h0
      obtain ⟨d78, h0⟩ := de_getfield 15 (by decide) h0
      obtain ⟨d81, h0⟩ := de_iload h0
      obtain ⟨d83, h0⟩ := de_lload h0
      obtain ⟨d85, h0⟩ := de_aload_n0 h0
      obtain ⟨d86, h0⟩ := de_getfield 23 (by decide) h0
      obtain ⟨d89, h0⟩ := de_lrem h0
      obtain ⟨d90, h0⟩ := de_lastore h0
      obtain ⟨d91, h0⟩ := de_lload_n2 h0
      obtain ⟨d92, h0⟩ := de_aload_n1 h0
      obtain ⟨d93, h0⟩ := de_getfield 38 (by decide) h0
      obtain ⟨d96, h0⟩ := de_iload h0
      obtain ⟨d98, h0⟩ := de_iaload h0
      obtain ⟨d99, h0⟩ := de_i2l h0
      obtain ⟨d100, h0⟩ := de_lsub h0
      obtain ⟨d101, h0⟩ := de_lstore_n2 h0
      refine lv_aload_n hx hb d47 rfl (lv_at hl 0 rfl) ?_
      refine x_getJ C0 hR hf xcl_3 (Nat.le_of_ble_eq_true rfl) rfl fl_X3_19 d48 (fun j6 hf => ?_)
      refine lv_aload_n hx hb d51 rfl (lv_at hl 1 rfl) ?_
      refine lv_iload hx hb d52 (lv_at hl 3 rfl) ?_
      refine lv_iconst (v := 3) hx hb d54 (by decide) ?_
      obtain ⟨hs9, hf⟩ := x_if hf
      refine x_thenI C0 hxt hS hf (fun z0 e0 => x_runV C0 hR hS me_X0_part wi_X0_part wl_X0_part ml_X3_84 hs9 xcl_0 (As := [.int x4, .int 3]) (ct_X0_part E l C0.2.2.2.2.2.2.2.1 _ r1 x4 3) rfl rfl hl.1 (Nat.le_of_ble_eq_true rfl) d55 ⟨(Nat.le_of_ble_eq_true rfl), (Nat.le_of_ble_eq_true rfl)⟩ ⟨(Nat.le_of_ble_eq_true rfl), (Nat.le_of_ble_eq_true rfl)⟩ e0) (Nat.le_of_ble_eq_true rfl) (Nat.le_of_ble_eq_true rfl) (fun h9 i7 H locs hR hS hf => ?_)
      refine lv_i2l hx hb d58 rfl ?_
      refine lv_lmul hx hb d59 ?_
      refine lv_topl (fun j9 ej9 => ?_)
      have hf := x_lJ_el ej9 hf
      refine lv_lstore (lv' := [(5, .long j9), (0, .ref (xa E r0)), (1, .ref (xa E r1)), (2, .long y2), (4, .int x4)]) hx hb d60 hl (by decide) rfl (fun ls hl => ?_)
      refine lv_aload_n hx hb d62 rfl (lv_at hl 2 rfl) ?_
      refine x_getR C0 hR hf xcl_0 (Nat.le_of_ble_eq_true rfl) rfl fl_X3_38 d63 (fun a10 hf => ?_)
      refine lv_iload hx hb d66 (lv_at hl 4 rfl) ?_
      refine lv_lload hx hb d68 (lv_at hl 0 rfl) ?_
      refine lv_aload_n hx hb d70 rfl (lv_at hl 1 rfl) ?_
      refine x_getJ C0 hR hf xcl_3 (Nat.le_of_ble_eq_true rfl) rfl fl_X3_23 d71 (fun j11 hf => ?_)
      obtain ⟨hnz, hf⟩ := x_zdJ hf
      refine lv_ldiv hx hb d74 hnz ?_
      refine lv_l2i hx hb d75 rfl ?_
      refine x_iast C0 hR hS hf d76 (fun H locs hR hS hf => ?_)
      refine lv_aload_n hx hb d77 rfl (lv_at hl 1 rfl) ?_
      refine x_getR C0 hR hf xcl_3 (Nat.le_of_ble_eq_true rfl) rfl fl_X3_15 d78 (fun a13 hf => ?_)
      refine lv_iload hx hb d81 (lv_at hl 4 rfl) ?_
      refine lv_lload hx hb d83 (lv_at hl 0 rfl) ?_
      refine lv_aload_n hx hb d85 rfl (lv_at hl 1 rfl) ?_
      refine x_getJ C0 hR hf xcl_3 (Nat.le_of_ble_eq_true rfl) rfl fl_X3_23 d86 (fun j14 hf => ?_)
      obtain ⟨hnz, hf⟩ := x_zdJ hf
      refine lv_lrem hx hb d89 hnz ?_
      refine x_last C0 hR hS hf d90 (fun H locs hR hS hf => ?_)
      refine lv_lload_n hx hb d91 rfl (lv_at hl 3 rfl) ?_
      refine lv_aload_n hx hb d92 rfl (lv_at hl 2 rfl) ?_
      refine x_getR C0 hR hf xcl_0 (Nat.le_of_ble_eq_true rfl) rfl fl_X3_38 d93 (fun a16 hf => ?_)
      refine lv_iload hx hb d96 (lv_at hl 4 rfl) ?_
      refine x_iald C0 hR hf d98 (fun i17 hf => ?_)
      refine lv_i2l hx hb d99 rfl ?_
      refine lv_lsub hx hb d100 ?_
      refine lv_topl (fun j18 ej18 => ?_)
      have hf := x_lJ_el ej18 hf
      refine lv_lstore_n (lv' := [(2, .long j18), (5, .long j9), (0, .ref (xa E r0)), (1, .ref (xa E r1)), (4, .int x4)]) hx hb d101 rfl hl (by decide) rfl (fun ls hl => ?_)
      exact s_X3_shareLeftover_b102 C0 hxt hk18 _ _ _ _ _ _ _ _ hR hS (lv_sub hl [2, 3, 0, 4] rfl) hf
theorem s_X3_shareLeftover_L18 {p : Program} {l : Launch} {e : Env} {s : State} {m : MethodId} {args : Array Value} {below : List Frame} {meth : Method} {c : Code} {E : XE} {z : XR} (C0 : x_C E p l s m meth c args cX3_shareLeftover 7 "GridEngine$Fractions" "shareLeftover" none) (hxt : ∀ x ∈ c.exceptionTable.toList, False)  : ∀ n : Nat, ∀ (h : HP) (r0 : Nat) (r1 : Nat) (y2 : Int64) (x4 : Int32) (H : Heap) (locs : List Loc) (ls : Array Slot), x_Rep E h H → va_S (x_A E) s.heap H locs → lv_has ls 7 [(0, .ref (xa E r0)), (1, .ref (xa E r1)), (2, .long y2), (4, .int x4)] → f_X3_shareLeftover_L18 n h r0 r1 y2 x4 = some z → W p l e ({ frames := 10, cells := 0, slots := 0, locals := 177 } : Room) s m args below meth c H locs 0 0 (x_Q E below args s 0 0 z) (F0 m 18 ls []) := by
  intro n
  induction n with
  | zero => intro h r0 r1 y2 x4 H locs ls hR hS hl hf; cases (show (none : Option XR) = some z from hf)
  | succ n ih => intro h r0 r1 y2 x4 H locs ls hR hS hl hf; exact s_X3_shareLeftover_b18 C0 hxt ih h r0 r1 y2 x4 H locs ls hR hS hl (show f_X3_shareLeftover_b18 (f_X3_shareLeftover_L18 n) h r0 r1 y2 x4 = some z from hf)
set_option maxRecDepth 100000 in
set_option maxHeartbeats 4000000 in
theorem ct_X3_shareLeftover (E : XE) (l : Launch) (hl0 : l.stackTraces = false) (h : HP) (r0 : Nat) (r1 : Nat) : x_ct E l yX3_shareLeftover (Cond.code yX3_shareLeftover cX3_shareLeftover 7 none) 10 177 0 0 [.ref (xa E r0), .ref (xa E r1)] h (f_X3_shareLeftover h r0 r1) := by
  refine x_ofW hl0 (by decide +kernel) ?_
  intro z hf p e s m args below meth c C0 hxt hargs hR
  subst hargs
  have C0 : x_C E p l s m meth c ([.ref (xa E r0), .ref (xa E r1)] : List Value).toArray cX3_shareLeftover 7 "GridEngine$Fractions" "shareLeftover" none := C0
  obtain ⟨hx, hb, -⟩ := id C0
  have hS : va_S (x_A E) s.heap s.heap [] := va_S.rf
  have hl := lv_entry ([.ref (xa E r0), .ref (xa E r1)]) (n := 7) (Nat.le_of_ble_eq_true rfl)
  rw [lg_entry_eq]
  generalize (lg_sl ([.ref (xa E r0), .ref (xa E r1)]) ++ List.replicate (7 - (lg_sl ([.ref (xa E r0), .ref (xa E r1)])).length) Slot.unset).toArray = ls at hl ⊢
  have hl : lv_has ls 7 [(0, .ref (xa E r0)), (1, .ref (xa E r1))] := hl
  unfold f_X3_shareLeftover at hf
  have h0 : x_by cX3_shareLeftover 0 [42, 180, 0, 23, 9, 148, 157, 0, 4] := by unfold x_by; decide +kernel
  obtain ⟨d0, h0⟩ := de_aload_n0 h0
  obtain ⟨d1, h0⟩ := de_getfield 23 (by decide) h0
  obtain ⟨d4, h0⟩ := de_lconst_0 h0
  obtain ⟨d5, h0⟩ := de_lcmp h0
  obtain ⟨d6, h0⟩ := de_if_gt (4) (by decide) h0
  refine lv_aload_n hx hb d0 rfl (lv_at hl 0 rfl) ?_
  refine x_getJ C0 hR hf xcl_3 (Nat.le_of_ble_eq_true rfl) rfl fl_X3_23 d1 (fun j1 hf => ?_)
  refine lv_lconst (v := 0) hx hb d4 (by decide) ?_
  refine W.lcmp hx hb d5 ?_
  refine lv_if_gt (tgt := 10) hx hb d6 (by decide) (fun q => ?_) (fun q => ?_)
  · have hf := x_pos q hf
    have h0 : x_by cX3_shareLeftover 10 [42, 180, 0, 19, 65, 4, 54, 4] := by unfold x_by; decide +kernel
    obtain ⟨d10, h0⟩ := de_aload_n0 h0
    obtain ⟨d11, h0⟩ := de_getfield 19 (by decide) h0
    obtain ⟨d14, h0⟩ := de_lstore_n2 h0
    obtain ⟨d15, h0⟩ := de_iconst_1 h0
    obtain ⟨d16, h0⟩ := de_istore h0
    refine lv_aload_n hx hb d10 rfl (lv_at hl 0 rfl) ?_
    refine x_getJ C0 hR hf xcl_3 (Nat.le_of_ble_eq_true rfl) rfl fl_X3_19 d11 (fun j2 hf => ?_)
    refine lv_lstore_n (lv' := [(2, .long j2), (0, .ref (xa E r0)), (1, .ref (xa E r1))]) hx hb d14 rfl hl (by decide) rfl (fun ls hl => ?_)
    refine lv_iconst (v := 1) hx hb d15 (by decide) ?_
    refine lv_istore (lv' := [(4, .int 1), (2, .long j2), (0, .ref (xa E r0)), (1, .ref (xa E r1))]) hx hb d16 hl (by decide) rfl (fun ls hl => ?_)
    exact s_X3_shareLeftover_L18 C0 hxt FU _ _ _ _ _ _ _ _ hR hS (lv_sub hl [2, 3, 1, 0] rfl) hf
  · have hf := x_neg q hf
    have h0 : x_by cX3_shareLeftover 9 [177] := by unfold x_by; decide +kernel
    obtain ⟨d9, h0⟩ := de_return h0
    exact x_vret C0 hR hS hf (Nat.le_of_ble_eq_true rfl) (Nat.le_of_ble_eq_true rfl) d9
def f_X3_shareOut_b54 (k20 : HP → Nat → Nat → Int32 → Option XR) (h : HP) (t0 : Int32) (t1 : Int32) (t2 : Nat) (r0 : Nat) (r1 : Nat) (x2 : Int32) : Option XR :=
  x_sZ h t2 t1 t0 fun h1 =>
  k20 h1 r0 r1 (x2 + 1)
def f_X3_shareOut_b53 (k20 : HP → Nat → Nat → Int32 → Option XR) (h : HP) (t0 : Int32) (t1 : Nat) (r0 : Nat) (r1 : Nat) (x2 : Int32) : Option XR :=
  f_X3_shareOut_b54 k20 h 0 t0 t1 r0 r1 x2
def f_X3_shareOut_b92  (h : HP)  : Option XR :=
  some (h, xv)
def f_X3_shareOut_b20 (k20 : HP → Nat → Nat → Int32 → Option XR) (h : HP) (r0 : Nat) (r1 : Nat) (x2 : Int32) : Option XR :=
  x_gI h r1 0 10 fun i1 =>
  if i1 < x2 then
    (
      x_gI h r1 0 14 fun i2 =>
      if i2 = (-1) then
        (
          x_rc h r0 3 <| x_cV (f_X3_findUnit h r0 r1) fun h5 =>
          x_rc h5 r0 3 <| x_cV (f_X3_shareByUnit h5 r0 r1) fun h6 =>
          f_X3_shareOut_b92 h6
        )
      else
        (
          x_rc h r0 3 <| x_cV (f_X3_findActiveTracks h r0 r1) fun h3 =>
          x_rc h3 r0 3 <| x_cV (f_X3_shareLeftover h3 r0 r1) fun h4 =>
          f_X3_shareOut_b92 h4
        )
    )
  else
    (
      x_gR h r0 3 0 fun a7 =>
      x_rc h r1 0 <| x_cI (f_X0_isOpen h r1 x2) fun h9 i8 =>
      if i8 = 0 then
        (
          f_X3_shareOut_b53 k20 h9 x2 a7 r0 r1 x2
        )
      else
        (
          x_rc h9 r1 0 <| x_cI (f_X0_isFlexible h9 r1 x2) fun h11 i10 =>
          if i10 = 0 then
            (
              f_X3_shareOut_b53 k20 h11 x2 a7 r0 r1 x2
            )
          else
            (
              f_X3_shareOut_b54 k20 h11 1 x2 a7 r0 r1 x2
            )
        )
    )
def f_X3_shareOut_L20  : Nat → HP → Nat → Nat → Int32 → Option XR
  | 0 => fun _ _ _ _ => none
  | n + 1 => f_X3_shareOut_b20 (f_X3_shareOut_L20 n)
def f_X3_shareOut (h : HP) (r0 : Nat) (r1 : Nat) : Option XR :=
  x_gR h r1 0 6 fun a1 =>
  x_gR h r1 0 7 fun a2 =>
  x_gR h r1 0 7 fun a3 =>
  x_ln h a3 fun i4 =>
  x_cp h a1 0 a2 0 i4 fun h5 =>
  f_X3_shareOut_L20 FU h5 r0 r1 1
set_option maxRecDepth 100000 in
set_option maxHeartbeats 4000000 in
theorem s_X3_shareOut_b54 {p : Program} {l : Launch} {e : Env} {s : State} {m : MethodId} {args : Array Value} {below : List Frame} {meth : Method} {c : Code} {E : XE} {z : XR} (C0 : x_C E p l s m meth c args cX3_shareOut 3 "GridEngine$Fractions" "shareOut" none) (hxt : ∀ x ∈ c.exceptionTable.toList, False) {k20 : HP → Nat → Nat → Int32 → Option XR} (hk20 : ∀ (h : HP) (r0 : Nat) (r1 : Nat) (x2 : Int32) (H : Heap) (locs : List Loc) (ls : Array Slot), x_Rep E h H → va_S (x_A E) s.heap H locs → lv_has ls 3 [(0, .ref (xa E r0)), (1, .ref (xa E r1)), (2, .int x2)] → k20 h r0 r1 x2 = some z → W p l e ({ frames := 12, cells := 0, slots := 0, locals := 225 } : Room) s m args below meth c H locs 0 0 (x_Q E below args s 0 0 z) (F0 m 20 ls [])) : ∀ (h : HP) (t0 : Int32) (t1 : Int32) (t2 : Nat) (r0 : Nat) (r1 : Nat) (x2 : Int32) (H : Heap) (locs : List Loc) (ls : Array Slot), x_Rep E h H → va_S (x_A E) s.heap H locs → lv_has ls 3 [(0, .ref (xa E r0)), (1, .ref (xa E r1)), (2, .int x2)] → f_X3_shareOut_b54 k20 h t0 t1 t2 r0 r1 x2 = some z → W p l e ({ frames := 12, cells := 0, slots := 0, locals := 225 } : Room) s m args below meth c H locs 0 0 (x_Q E below args s 0 0 z) (F0 m 54 ls [.int t0, .int t1, .ref (xa E t2)]) := by
  intro h t0 t1 t2 r0 r1 x2 H locs ls hR hS hl hf
  obtain ⟨hx, hb, -⟩ := id C0
  unfold f_X3_shareOut_b54 at hf
  have h0 : x_by cX3_shareOut 54 [84, 132, 2, 1, 167, 255, 218] := by unfold x_by; decide +kernel
  obtain ⟨d54, h0⟩ := de_bastore h0
  obtain ⟨d55, h0⟩ := de_iinc (1) (by decide) h0
  obtain ⟨d58, h0⟩ := de_goto (-38) (by decide) h0
  refine x_zast C0 hR hS hf d54 (fun H locs hR hS hf => ?_)
  refine lv_iinc (v := (x2 + 1)) (lv' := [(2, .int (x2 + 1)), (0, .ref (xa E r0)), (1, .ref (xa E r1))]) hx hb d55 hl (k := 2) rfl rfl (by decide) rfl (fun ls hl => ?_)
  refine lv_goto (tgt := 20) hx hb d58 (by decide) ?_
  exact hk20 _ _ _ _ _ _ _ hR hS (lv_sub hl [1, 2, 0] rfl) hf
set_option maxRecDepth 100000 in
set_option maxHeartbeats 4000000 in
theorem s_X3_shareOut_b53 {p : Program} {l : Launch} {e : Env} {s : State} {m : MethodId} {args : Array Value} {below : List Frame} {meth : Method} {c : Code} {E : XE} {z : XR} (C0 : x_C E p l s m meth c args cX3_shareOut 3 "GridEngine$Fractions" "shareOut" none) (hxt : ∀ x ∈ c.exceptionTable.toList, False) {k20 : HP → Nat → Nat → Int32 → Option XR} (hk20 : ∀ (h : HP) (r0 : Nat) (r1 : Nat) (x2 : Int32) (H : Heap) (locs : List Loc) (ls : Array Slot), x_Rep E h H → va_S (x_A E) s.heap H locs → lv_has ls 3 [(0, .ref (xa E r0)), (1, .ref (xa E r1)), (2, .int x2)] → k20 h r0 r1 x2 = some z → W p l e ({ frames := 12, cells := 0, slots := 0, locals := 225 } : Room) s m args below meth c H locs 0 0 (x_Q E below args s 0 0 z) (F0 m 20 ls [])) : ∀ (h : HP) (t0 : Int32) (t1 : Nat) (r0 : Nat) (r1 : Nat) (x2 : Int32) (H : Heap) (locs : List Loc) (ls : Array Slot), x_Rep E h H → va_S (x_A E) s.heap H locs → lv_has ls 3 [(0, .ref (xa E r0)), (1, .ref (xa E r1)), (2, .int x2)] → f_X3_shareOut_b53 k20 h t0 t1 r0 r1 x2 = some z → W p l e ({ frames := 12, cells := 0, slots := 0, locals := 225 } : Room) s m args below meth c H locs 0 0 (x_Q E below args s 0 0 z) (F0 m 53 ls [.int t0, .ref (xa E t1)]) := by
  intro h t0 t1 r0 r1 x2 H locs ls hR hS hl hf
  obtain ⟨hx, hb, -⟩ := id C0
  unfold f_X3_shareOut_b53 at hf
  have h0 : x_by cX3_shareOut 53 [3] := by unfold x_by; decide +kernel
  obtain ⟨d53, h0⟩ := de_iconst_0 h0
  refine lv_iconst (v := 0) hx hb d53 (by decide) ?_
  exact s_X3_shareOut_b54 C0 hxt hk20 _ _ _ _ _ _ _ _ _ _ hR hS (lv_sub hl [0, 1, 2] rfl) hf
set_option maxRecDepth 100000 in
set_option maxHeartbeats 4000000 in
theorem s_X3_shareOut_b92 {p : Program} {l : Launch} {e : Env} {s : State} {m : MethodId} {args : Array Value} {below : List Frame} {meth : Method} {c : Code} {E : XE} {z : XR} (C0 : x_C E p l s m meth c args cX3_shareOut 3 "GridEngine$Fractions" "shareOut" none) (hxt : ∀ x ∈ c.exceptionTable.toList, False)  : ∀ (h : HP)  (H : Heap) (locs : List Loc) (ls : Array Slot), x_Rep E h H → va_S (x_A E) s.heap H locs → lv_has ls 3 [] → f_X3_shareOut_b92 h  = some z → W p l e ({ frames := 12, cells := 0, slots := 0, locals := 225 } : Room) s m args below meth c H locs 0 0 (x_Q E below args s 0 0 z) (F0 m 92 ls []) := by
  intro h  H locs ls hR hS hl hf
  obtain ⟨hx, hb, -⟩ := id C0
  unfold f_X3_shareOut_b92 at hf
  have h0 : x_by cX3_shareOut 92 [177] := by unfold x_by; decide +kernel
  obtain ⟨d92, h0⟩ := de_return h0
  exact x_vret C0 hR hS hf (Nat.le_of_ble_eq_true rfl) (Nat.le_of_ble_eq_true rfl) d92
set_option maxRecDepth 100000 in
set_option maxHeartbeats 4000000 in
theorem s_X3_shareOut_b20 {p : Program} {l : Launch} {e : Env} {s : State} {m : MethodId} {args : Array Value} {below : List Frame} {meth : Method} {c : Code} {E : XE} {z : XR} (C0 : x_C E p l s m meth c args cX3_shareOut 3 "GridEngine$Fractions" "shareOut" none) (hxt : ∀ x ∈ c.exceptionTable.toList, False) {k20 : HP → Nat → Nat → Int32 → Option XR} (hk20 : ∀ (h : HP) (r0 : Nat) (r1 : Nat) (x2 : Int32) (H : Heap) (locs : List Loc) (ls : Array Slot), x_Rep E h H → va_S (x_A E) s.heap H locs → lv_has ls 3 [(0, .ref (xa E r0)), (1, .ref (xa E r1)), (2, .int x2)] → k20 h r0 r1 x2 = some z → W p l e ({ frames := 12, cells := 0, slots := 0, locals := 225 } : Room) s m args below meth c H locs 0 0 (x_Q E below args s 0 0 z) (F0 m 20 ls [])) : ∀ (h : HP) (r0 : Nat) (r1 : Nat) (x2 : Int32) (H : Heap) (locs : List Loc) (ls : Array Slot), x_Rep E h H → va_S (x_A E) s.heap H locs → lv_has ls 3 [(0, .ref (xa E r0)), (1, .ref (xa E r1)), (2, .int x2)] → f_X3_shareOut_b20 k20 h r0 r1 x2 = some z → W p l e ({ frames := 12, cells := 0, slots := 0, locals := 225 } : Room) s m args below meth c H locs 0 0 (x_Q E below args s 0 0 z) (F0 m 20 ls []) := by
  intro h r0 r1 x2 H locs ls hR hS hl hf
  obtain ⟨hx, hb, -⟩ := id C0
  unfold f_X3_shareOut_b20 at hf
  have h0 : x_by cX3_shareOut 20 [28, 43, 180, 0, 47, 163, 0, 36] := by unfold x_by; decide +kernel
  obtain ⟨d20, h0⟩ := de_iload_n2 h0
  obtain ⟨d21, h0⟩ := de_aload_n1 h0
  obtain ⟨d22, h0⟩ := de_getfield 47 (by decide) h0
  obtain ⟨d25, h0⟩ := de_icmp_gt (36) (by decide) h0
  refine lv_iload_n hx hb d20 rfl (lv_at hl 2 rfl) ?_
  refine lv_aload_n hx hb d21 rfl (lv_at hl 1 rfl) ?_
  refine x_getI C0 hR hf xcl_0 (Nat.le_of_ble_eq_true rfl) rfl fl_X3_47 d22 (fun i1 hf => ?_)
  refine lv_icmp_gt (tgt := 61) hx hb d25 (by decide) (fun q => ?_) (fun q => ?_)
  · have hf := x_pos q hf
    have h0 : x_by cX3_shareOut 61 [43, 180, 0, 58, 2, 160, 0, 16] := by unfold x_by; decide +kernel
    obtain ⟨d61, h0⟩ := de_aload_n1 h0
    obtain ⟨d62, h0⟩ := de_getfield 58 (by decide) h0
    obtain ⟨d65, h0⟩ := de_iconst_m1 h0
    obtain ⟨d66, h0⟩ := de_icmp_ne (16) (by decide) h0
    refine lv_aload_n hx hb d61 rfl (lv_at hl 1 rfl) ?_
    refine x_getI C0 hR hf xcl_0 (Nat.le_of_ble_eq_true rfl) rfl fl_X3_58 d62 (fun i2 hf => ?_)
    refine lv_iconst (v := -1) hx hb d65 (by decide) ?_
    refine lv_icmp_ne (tgt := 82) hx hb d66 (by decide) (fun q => ?_) (fun q => ?_)
    · have hf := x_neg q hf
      have h0 : x_by cX3_shareOut 82 [42, 43, 182, 0, 68, 42, 43, 182, 0, 71] := by unfold x_by; decide +kernel
      obtain ⟨d82, h0⟩ := de_aload_n0 h0
      obtain ⟨d83, h0⟩ := de_aload_n1 h0
      obtain ⟨d84, h0⟩ := de_invokevirtual 68 (by decide) h0
      obtain ⟨d87, h0⟩ := de_aload_n0 h0
      obtain ⟨d88, h0⟩ := de_aload_n1 h0
      obtain ⟨d89, h0⟩ := de_invokevirtual 71 (by decide) h0
      refine lv_aload_n hx hb d82 rfl (lv_at hl 0 rfl) ?_
      refine lv_aload_n hx hb d83 rfl (lv_at hl 1 rfl) ?_
      obtain ⟨hs9, hf⟩ := x_if hf
      refine x_thenV C0 hxt hS hf (fun z0 e0 => x_runV C0 hR hS me_X3_findActiveTracks wi_X3_findActiveTracks wl_X3_findActiveTracks ml_X3_68 hs9 xcl_3 (As := [.ref (xa E r1)]) (ct_X3_findActiveTracks E l C0.2.2.2.2.2.2.2.1 _ r0 r1) rfl rfl hl.1 (Nat.le_of_ble_eq_true rfl) d84 ⟨(Nat.le_of_ble_eq_true rfl), (Nat.le_of_ble_eq_true rfl)⟩ ⟨(Nat.le_of_ble_eq_true rfl), (Nat.le_of_ble_eq_true rfl)⟩ e0) (Nat.le_of_ble_eq_true rfl) (Nat.le_of_ble_eq_true rfl) (fun h9 H locs hR hS hf => ?_)
      refine lv_aload_n hx hb d87 rfl (lv_at hl 0 rfl) ?_
      refine lv_aload_n hx hb d88 rfl (lv_at hl 1 rfl) ?_
      obtain ⟨hs9, hf⟩ := x_if hf
      refine x_thenV C0 hxt hS hf (fun z0 e0 => x_runV C0 hR hS me_X3_shareLeftover wi_X3_shareLeftover wl_X3_shareLeftover ml_X3_71 hs9 xcl_3 (As := [.ref (xa E r1)]) (ct_X3_shareLeftover E l C0.2.2.2.2.2.2.2.1 _ r0 r1) rfl rfl hl.1 (Nat.le_of_ble_eq_true rfl) d89 ⟨(Nat.le_of_ble_eq_true rfl), (Nat.le_of_ble_eq_true rfl)⟩ ⟨(Nat.le_of_ble_eq_true rfl), (Nat.le_of_ble_eq_true rfl)⟩ e0) (Nat.le_of_ble_eq_true rfl) (Nat.le_of_ble_eq_true rfl) (fun h9 H locs hR hS hf => ?_)
      exact s_X3_shareOut_b92 C0 hxt _ _ _ _ hR hS (lv_sub hl [] rfl) hf
    · have hf := x_pos q hf
      have h0 : x_by cX3_shareOut 69 [42, 43, 182, 0, 61, 42, 43, 182, 0, 65, 167, 0, 13] := by unfold x_by; decide +kernel
      obtain ⟨d69, h0⟩ := de_aload_n0 h0
      obtain ⟨d70, h0⟩ := de_aload_n1 h0
      obtain ⟨d71, h0⟩ := de_invokevirtual 61 (by decide) h0
      obtain ⟨d74, h0⟩ := de_aload_n0 h0
      obtain ⟨d75, h0⟩ := de_aload_n1 h0
      obtain ⟨d76, h0⟩ := de_invokevirtual 65 (by decide) h0
      obtain ⟨d79, h0⟩ := de_goto (13) (by decide) h0
      refine lv_aload_n hx hb d69 rfl (lv_at hl 0 rfl) ?_
      refine lv_aload_n hx hb d70 rfl (lv_at hl 1 rfl) ?_
      obtain ⟨hs9, hf⟩ := x_if hf
      refine x_thenV C0 hxt hS hf (fun z0 e0 => x_runV C0 hR hS me_X3_findUnit wi_X3_findUnit wl_X3_findUnit ml_X3_61 hs9 xcl_3 (As := [.ref (xa E r1)]) (ct_X3_findUnit E l C0.2.2.2.2.2.2.2.1 _ r0 r1) rfl rfl hl.1 (Nat.le_of_ble_eq_true rfl) d71 ⟨(Nat.le_of_ble_eq_true rfl), (Nat.le_of_ble_eq_true rfl)⟩ ⟨(Nat.le_of_ble_eq_true rfl), (Nat.le_of_ble_eq_true rfl)⟩ e0) (Nat.le_of_ble_eq_true rfl) (Nat.le_of_ble_eq_true rfl) (fun h9 H locs hR hS hf => ?_)
      refine lv_aload_n hx hb d74 rfl (lv_at hl 0 rfl) ?_
      refine lv_aload_n hx hb d75 rfl (lv_at hl 1 rfl) ?_
      obtain ⟨hs9, hf⟩ := x_if hf
      refine x_thenV C0 hxt hS hf (fun z0 e0 => x_runV C0 hR hS me_X3_shareByUnit wi_X3_shareByUnit wl_X3_shareByUnit ml_X3_65 hs9 xcl_3 (As := [.ref (xa E r1)]) (ct_X3_shareByUnit E l C0.2.2.2.2.2.2.2.1 _ r0 r1) rfl rfl hl.1 (Nat.le_of_ble_eq_true rfl) d76 ⟨(Nat.le_of_ble_eq_true rfl), (Nat.le_of_ble_eq_true rfl)⟩ ⟨(Nat.le_of_ble_eq_true rfl), (Nat.le_of_ble_eq_true rfl)⟩ e0) (Nat.le_of_ble_eq_true rfl) (Nat.le_of_ble_eq_true rfl) (fun h9 H locs hR hS hf => ?_)
      refine lv_goto (tgt := 92) hx hb d79 (by decide) ?_
      exact s_X3_shareOut_b92 C0 hxt _ _ _ _ hR hS (lv_sub hl [] rfl) hf
  · have hf := x_neg q hf
    have h0 : x_by cX3_shareOut 28 [42, 180, 0, 9, 28, 43, 28, 182, 0, 51, 153, 0, 15] := by unfold x_by; decide +kernel
    obtain ⟨d28, h0⟩ := de_aload_n0 h0
    obtain ⟨d29, h0⟩ := de_getfield 9 (by decide) h0
    obtain ⟨d32, h0⟩ := de_iload_n2 h0
    obtain ⟨d33, h0⟩ := de_aload_n1 h0
    obtain ⟨d34, h0⟩ := de_iload_n2 h0
    obtain ⟨d35, h0⟩ := de_invokevirtual 51 (by decide) h0
    obtain ⟨d38, h0⟩ := de_if_eq (15) (by decide) h0
    refine lv_aload_n hx hb d28 rfl (lv_at hl 0 rfl) ?_
    refine x_getR C0 hR hf xcl_3 (Nat.le_of_ble_eq_true rfl) rfl fl_X3_9 d29 (fun a7 hf => ?_)
    refine lv_iload_n hx hb d32 rfl (lv_at hl 2 rfl) ?_
    refine lv_aload_n hx hb d33 rfl (lv_at hl 1 rfl) ?_
    refine lv_iload_n hx hb d34 rfl (lv_at hl 2 rfl) ?_
    obtain ⟨hs9, hf⟩ := x_if hf
    refine x_thenI C0 hxt hS hf (fun z0 e0 => x_runV C0 hR hS me_X0_isOpen wi_X0_isOpen wl_X0_isOpen ml_X3_51 hs9 xcl_0 (As := [.int x2]) (ct_X0_isOpen E l C0.2.2.2.2.2.2.2.1 _ r1 x2) rfl rfl hl.1 (Nat.le_of_ble_eq_true rfl) d35 ⟨(Nat.le_of_ble_eq_true rfl), (Nat.le_of_ble_eq_true rfl)⟩ ⟨(Nat.le_of_ble_eq_true rfl), (Nat.le_of_ble_eq_true rfl)⟩ e0) (Nat.le_of_ble_eq_true rfl) (Nat.le_of_ble_eq_true rfl) (fun h9 i8 H locs hR hS hf => ?_)
    refine lv_if_eq (tgt := 53) hx hb d38 (by decide) (fun q => ?_) (fun q => ?_)
    · have hf := x_pos q hf
      exact s_X3_shareOut_b53 C0 hxt hk20 _ _ _ _ _ _ _ _ _ hR hS (lv_sub hl [0, 1, 2] rfl) hf
    · have hf := x_neg q hf
      have h0 : x_by cX3_shareOut 41 [43, 28, 182, 0, 55, 153, 0, 7] := by unfold x_by; decide +kernel
      obtain ⟨d41, h0⟩ := de_aload_n1 h0
      obtain ⟨d42, h0⟩ := de_iload_n2 h0
      obtain ⟨d43, h0⟩ := de_invokevirtual 55 (by decide) h0
      obtain ⟨d46, h0⟩ := de_if_eq (7) (by decide) h0
      refine lv_aload_n hx hb d41 rfl (lv_at hl 1 rfl) ?_
      refine lv_iload_n hx hb d42 rfl (lv_at hl 2 rfl) ?_
      obtain ⟨hs9, hf⟩ := x_if hf
      refine x_thenI C0 hxt hS hf (fun z0 e0 => x_runV C0 hR hS me_X0_isFlexible wi_X0_isFlexible wl_X0_isFlexible ml_X3_55 hs9 xcl_0 (As := [.int x2]) (ct_X0_isFlexible E l C0.2.2.2.2.2.2.2.1 _ r1 x2) rfl rfl hl.1 (Nat.le_of_ble_eq_true rfl) d43 ⟨(Nat.le_of_ble_eq_true rfl), (Nat.le_of_ble_eq_true rfl)⟩ ⟨(Nat.le_of_ble_eq_true rfl), (Nat.le_of_ble_eq_true rfl)⟩ e0) (Nat.le_of_ble_eq_true rfl) (Nat.le_of_ble_eq_true rfl) (fun h9 i10 H locs hR hS hf => ?_)
      refine lv_if_eq (tgt := 53) hx hb d46 (by decide) (fun q => ?_) (fun q => ?_)
      · have hf := x_pos q hf
        exact s_X3_shareOut_b53 C0 hxt hk20 _ _ _ _ _ _ _ _ _ hR hS (lv_sub hl [0, 1, 2] rfl) hf
      · have hf := x_neg q hf
        have h0 : x_by cX3_shareOut 49 [4, 167, 0, 4] := by unfold x_by; decide +kernel
        obtain ⟨d49, h0⟩ := de_iconst_1 h0
        obtain ⟨d50, h0⟩ := de_goto (4) (by decide) h0
        refine lv_iconst (v := 1) hx hb d49 (by decide) ?_
        refine lv_goto (tgt := 54) hx hb d50 (by decide) ?_
        exact s_X3_shareOut_b54 C0 hxt hk20 _ _ _ _ _ _ _ _ _ _ hR hS (lv_sub hl [0, 1, 2] rfl) hf
theorem s_X3_shareOut_L20 {p : Program} {l : Launch} {e : Env} {s : State} {m : MethodId} {args : Array Value} {below : List Frame} {meth : Method} {c : Code} {E : XE} {z : XR} (C0 : x_C E p l s m meth c args cX3_shareOut 3 "GridEngine$Fractions" "shareOut" none) (hxt : ∀ x ∈ c.exceptionTable.toList, False)  : ∀ n : Nat, ∀ (h : HP) (r0 : Nat) (r1 : Nat) (x2 : Int32) (H : Heap) (locs : List Loc) (ls : Array Slot), x_Rep E h H → va_S (x_A E) s.heap H locs → lv_has ls 3 [(0, .ref (xa E r0)), (1, .ref (xa E r1)), (2, .int x2)] → f_X3_shareOut_L20 n h r0 r1 x2 = some z → W p l e ({ frames := 12, cells := 0, slots := 0, locals := 225 } : Room) s m args below meth c H locs 0 0 (x_Q E below args s 0 0 z) (F0 m 20 ls []) := by
  intro n
  induction n with
  | zero => intro h r0 r1 x2 H locs ls hR hS hl hf; cases (show (none : Option XR) = some z from hf)
  | succ n ih => intro h r0 r1 x2 H locs ls hR hS hl hf; exact s_X3_shareOut_b20 C0 hxt ih h r0 r1 x2 H locs ls hR hS hl (show f_X3_shareOut_b20 (f_X3_shareOut_L20 n) h r0 r1 x2 = some z from hf)
set_option maxRecDepth 100000 in
set_option maxHeartbeats 4000000 in
theorem ct_X3_shareOut (E : XE) (l : Launch) (hl0 : l.stackTraces = false) (h : HP) (r0 : Nat) (r1 : Nat) : x_ct E l yX3_shareOut (Cond.code yX3_shareOut cX3_shareOut 3 none) 12 225 0 0 [.ref (xa E r0), .ref (xa E r1)] h (f_X3_shareOut h r0 r1) := by
  refine x_ofW hl0 (by decide +kernel) ?_
  intro z hf p e s m args below meth c C0 hxt hargs hR
  subst hargs
  have C0 : x_C E p l s m meth c ([.ref (xa E r0), .ref (xa E r1)] : List Value).toArray cX3_shareOut 3 "GridEngine$Fractions" "shareOut" none := C0
  obtain ⟨hx, hb, -⟩ := id C0
  have hS : va_S (x_A E) s.heap s.heap [] := va_S.rf
  have hl := lv_entry ([.ref (xa E r0), .ref (xa E r1)]) (n := 3) (Nat.le_of_ble_eq_true rfl)
  rw [lg_entry_eq]
  generalize (lg_sl ([.ref (xa E r0), .ref (xa E r1)]) ++ List.replicate (3 - (lg_sl ([.ref (xa E r0), .ref (xa E r1)])).length) Slot.unset).toArray = ls at hl ⊢
  have hl : lv_has ls 3 [(0, .ref (xa E r0)), (1, .ref (xa E r1))] := hl
  unfold f_X3_shareOut at hf
  have h0 : x_by cX3_shareOut 0 [43, 180, 0, 32, 3, 43, 180, 0, 38, 3, 43, 180, 0, 38, 190, 184, 0, 41, 4, 61] := by unfold x_by; decide +kernel
  obtain ⟨d0, h0⟩ := de_aload_n1 h0
  obtain ⟨d1, h0⟩ := de_getfield 32 (by decide) h0
  obtain ⟨d4, h0⟩ := de_iconst_0 h0
  obtain ⟨d5, h0⟩ := de_aload_n1 h0
  obtain ⟨d6, h0⟩ := de_getfield 38 (by decide) h0
  obtain ⟨d9, h0⟩ := de_iconst_0 h0
  obtain ⟨d10, h0⟩ := de_aload_n1 h0
  obtain ⟨d11, h0⟩ := de_getfield 38 (by decide) h0
  obtain ⟨d14, h0⟩ := de_arraylength h0
  obtain ⟨d15, h0⟩ := de_invokestatic 41 (by decide) h0
  obtain ⟨d18, h0⟩ := de_iconst_1 h0
  obtain ⟨d19, h0⟩ := de_istore_n2 h0
  refine lv_aload_n hx hb d0 rfl (lv_at hl 1 rfl) ?_
  refine x_getR C0 hR hf xcl_0 (Nat.le_of_ble_eq_true rfl) rfl fl_X3_32 d1 (fun a1 hf => ?_)
  refine lv_iconst (v := 0) hx hb d4 (by decide) ?_
  refine lv_aload_n hx hb d5 rfl (lv_at hl 1 rfl) ?_
  refine x_getR C0 hR hf xcl_0 (Nat.le_of_ble_eq_true rfl) rfl fl_X3_38 d6 (fun a2 hf => ?_)
  refine lv_iconst (v := 0) hx hb d9 (by decide) ?_
  refine lv_aload_n hx hb d10 rfl (lv_at hl 1 rfl) ?_
  refine x_getR C0 hR hf xcl_0 (Nat.le_of_ble_eq_true rfl) rfl fl_X3_38 d11 (fun a3 hf => ?_)
  refine x_alen C0 hR hf d14 (fun i4 hf => ?_)
  refine x_acopy C0 hR hS hl.1 hf ml_X3_41 lib_acopy (Nat.le_of_ble_eq_true rfl) (Nat.le_of_ble_eq_true rfl) d15 (fun H locs hR hS hf => ?_)
  refine lv_iconst (v := 1) hx hb d18 (by decide) ?_
  refine lv_istore_n (lv' := [(2, .int 1), (0, .ref (xa E r0)), (1, .ref (xa E r1))]) hx hb d19 rfl hl (by decide) rfl (fun ls hl => ?_)
  exact s_X3_shareOut_L20 C0 hxt FU _ _ _ _ _ _ _ hR hS (lv_sub hl [1, 2, 0] rfl) hf

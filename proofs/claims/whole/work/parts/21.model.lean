def f_X4_init_b53 (k53 : HP → Nat → Int32 → Option XR) (h : HP) (r0 : Nat) (x1 : Int32) : Option XR :=
  if 2 ≤ x1 then
    (
      some (h, xv)
    )
  else
    (
      x_lI (((x1 * 13) + 12) * 5) fun i1 =>
      x_gR h r0 4 0 fun a2 =>
      x_sI h a2 (i1 + 0) 1 fun h3 =>
      x_gR h3 r0 4 0 fun a4 =>
      x_sI h3 a4 (i1 + 2) 3 fun h5 =>
      x_gR h5 r0 4 2 fun a6 =>
      x_sI h5 a6 ((x1 * 3) + 0) (-1) fun h7 =>
      k53 h7 r0 (x1 + 1)
    )
def f_X4_init_L53  : Nat → HP → Nat → Int32 → Option XR
  | 0 => fun _ _ _ => none
  | n + 1 => f_X4_init_b53 (f_X4_init_L53 n)
def f_X4_init (h : HP) (r0 : Nat) : Option XR :=
  x_na h 0 130 fun h2 a1 =>
  x_pR h2 r0 4 0 a1 fun h3 =>
  x_na h3 0 2 fun h5 a4 =>
  x_pR h5 r0 4 1 a4 fun h6 =>
  x_na h6 0 6 fun h8 a7 =>
  x_pR h8 r0 4 2 a7 fun h9 =>
  x_na h9 0 120 fun h11 a10 =>
  x_pR h11 r0 4 3 a10 fun h12 =>
  x_pI h12 r0 4 4 0 fun h13 =>
  x_pI h13 r0 4 5 0 fun h14 =>
  x_pZ h14 r0 4 6 0 fun h15 =>
  f_X4_init_L53 FU h15 r0 0
set_option maxRecDepth 100000 in
set_option maxHeartbeats 4000000 in
theorem s_X4_init_b53 {p : Program} {l : Launch} {e : Env} {s : State} {m : MethodId} {args : Array Value} {below : List Frame} {meth : Method} {c : Code} {E : XE} {z : XR} (C0 : x_C E p l s m meth c args cX4_init 3 "GridEngine$Model" "<init>" none) (hxt : ∀ x ∈ c.exceptionTable.toList, False) {k53 : HP → Nat → Int32 → Option XR} (hk53 : ∀ (h : HP) (r0 : Nat) (x1 : Int32) (H : Heap) (locs : List Loc) (ls : Array Slot), x_Rep E h H → va_S (x_A E) s.heap H locs → lv_has ls 3 [(0, .ref (xa E r0)), (1, .int x1)] → k53 h r0 x1 = some z → W p l e ({ frames := 8, cells := 4, slots := 258, locals := 130 } : Room) s m args below meth c H locs 4 258 (x_Q E below args s 4 258 z) (F0 m 53 ls [])) : ∀ (h : HP) (r0 : Nat) (x1 : Int32) (H : Heap) (locs : List Loc) (ls : Array Slot), x_Rep E h H → va_S (x_A E) s.heap H locs → lv_has ls 3 [(0, .ref (xa E r0)), (1, .int x1)] → f_X4_init_b53 k53 h r0 x1 = some z → W p l e ({ frames := 8, cells := 4, slots := 258, locals := 130 } : Room) s m args below meth c H locs 4 258 (x_Q E below args s 4 258 z) (F0 m 53 ls []) := by
  intro h r0 x1 H locs ls hR hS hl hf
  obtain ⟨hx, hb, -⟩ := id C0
  unfold f_X4_init_b53 at hf
  have h0 : x_by cX4_init 53 [27, 5, 162, 0, 48] := by unfold x_by; decide +kernel
  obtain ⟨d53, h0⟩ := de_iload_n1 h0
  obtain ⟨d54, h0⟩ := de_iconst_2 h0
  obtain ⟨d55, h0⟩ := de_icmp_ge (48) (by decide) h0
  refine lv_iload_n hx hb d53 rfl (lv_at hl 1 rfl) ?_
  refine lv_iconst (v := 2) hx hb d54 (by decide) ?_
  refine lv_icmp_ge (tgt := 103) hx hb d55 (by decide) (fun q => ?_) (fun q => ?_)
  · have hf := x_pos q hf
    have h0 : x_by cX4_init 103 [177] := by unfold x_by; decide +kernel
    obtain ⟨d103, h0⟩ := de_return h0
    exact x_vret C0 hR hS hf (Nat.le_of_ble_eq_true rfl) (Nat.le_of_ble_eq_true rfl) d103
  · have hf := x_neg q hf
    have h0 : x_by cX4_init 58 [27, 16, 13, 104, 16, 12, 96, 8, 104, 61, 42, 180, 0, 11, 28, 3, 96, 4, 79, 42, 180, 0, 11, 28, 5, 96, 6, 79, 42, 180, 0, 18, 27, 6, 104, 3, 96, 2, 79, 132, 1, 1, 167, 255, 209] := by unfold x_by; decide +kernel
    obtain ⟨d58, h0⟩ := de_iload_n1 h0
    obtain ⟨d59, h0⟩ := de_bipush (13) (by decide) h0
    obtain ⟨d61, h0⟩ := de_imul h0
    obtain ⟨d62, h0⟩ := de_bipush (12) (by decide) h0
    obtain ⟨d64, h0⟩ := de_iadd h0
    obtain ⟨d65, h0⟩ := de_iconst_5 h0
    obtain ⟨d66, h0⟩ := de_imul h0
    obtain ⟨d67, h0⟩ := de_istore_n2 h0
    obtain ⟨d68, h0⟩ := de_aload_n0 h0
    obtain ⟨d69, h0⟩ := de_getfield 11 (by decide) h0
    obtain ⟨d72, h0⟩ := de_iload_n2 h0
    obtain ⟨d73, h0⟩ := de_iconst_0 h0
    obtain ⟨d74, h0⟩ := de_iadd h0
    obtain ⟨d75, h0⟩ := de_iconst_1 h0
    obtain ⟨d76, h0⟩ := de_iastore h0
    obtain ⟨d77, h0⟩ := de_aload_n0 h0
    obtain ⟨d78, h0⟩ := de_getfield 11 (by decide) h0
    obtain ⟨d81, h0⟩ := de_iload_n2 h0
    obtain ⟨d82, h0⟩ := de_iconst_2 h0
    obtain ⟨d83, h0⟩ := de_iadd h0
    obtain ⟨d84, h0⟩ := de_iconst_3 h0
    obtain ⟨d85, h0⟩ := de_iastore h0
    obtain ⟨d86, h0⟩ := de_aload_n0 h0
    obtain ⟨d87, h0⟩ := de_getfield 18 (by decide) h0
    obtain ⟨d90, h0⟩ := de_iload_n1 h0
    obtain ⟨d91, h0⟩ := de_iconst_3 h0
    obtain ⟨d92, h0⟩ := de_imul h0
    obtain ⟨d93, h0⟩ := de_iconst_0 h0
    obtain ⟨d94, h0⟩ := de_iadd h0
    obtain ⟨d95, h0⟩ := de_iconst_m1 h0
    obtain ⟨d96, h0⟩ := de_iastore h0
    obtain ⟨d97, h0⟩ := de_iinc (1) (by decide) h0
    obtain ⟨d100, h0⟩ := de_goto (-47) (by decide) h0
    refine lv_iload_n hx hb d58 rfl (lv_at hl 1 rfl) ?_
    refine lv_bipush (v := 13) hx hb d59 (by decide) ?_
    refine lv_imul hx hb d61 ?_
    refine lv_bipush (v := 12) hx hb d62 (by decide) ?_
    refine lv_iadd hx hb d64 ?_
    refine lv_iconst (v := 5) hx hb d65 (by decide) ?_
    refine lv_imul hx hb d66 ?_
    refine lv_topi (fun i1 ei1 => ?_)
    have hf := x_lI_el ei1 hf
    refine lv_istore_n (lv' := [(2, .int i1), (0, .ref (xa E r0)), (1, .int x1)]) hx hb d67 rfl hl (by decide) rfl (fun ls hl => ?_)
    refine lv_aload_n hx hb d68 rfl (lv_at hl 1 rfl) ?_
    refine x_getR C0 hR hf xcl_4 (Nat.le_of_ble_eq_true rfl) rfl fl_X4_11 d69 (fun a2 hf => ?_)
    refine lv_iload_n hx hb d72 rfl (lv_at hl 0 rfl) ?_
    refine lv_iconst (v := 0) hx hb d73 (by decide) ?_
    refine lv_iadd hx hb d74 ?_
    refine lv_iconst (v := 1) hx hb d75 (by decide) ?_
    refine x_iast C0 hR hS hf d76 (fun H locs hR hS hf => ?_)
    refine lv_aload_n hx hb d77 rfl (lv_at hl 1 rfl) ?_
    refine x_getR C0 hR hf xcl_4 (Nat.le_of_ble_eq_true rfl) rfl fl_X4_11 d78 (fun a4 hf => ?_)
    refine lv_iload_n hx hb d81 rfl (lv_at hl 0 rfl) ?_
    refine lv_iconst (v := 2) hx hb d82 (by decide) ?_
    refine lv_iadd hx hb d83 ?_
    refine lv_iconst (v := 3) hx hb d84 (by decide) ?_
    refine x_iast C0 hR hS hf d85 (fun H locs hR hS hf => ?_)
    refine lv_aload_n hx hb d86 rfl (lv_at hl 1 rfl) ?_
    refine x_getR C0 hR hf xcl_4 (Nat.le_of_ble_eq_true rfl) rfl fl_X4_18 d87 (fun a6 hf => ?_)
    refine lv_iload_n hx hb d90 rfl (lv_at hl 2 rfl) ?_
    refine lv_iconst (v := 3) hx hb d91 (by decide) ?_
    refine lv_imul hx hb d92 ?_
    refine lv_iconst (v := 0) hx hb d93 (by decide) ?_
    refine lv_iadd hx hb d94 ?_
    refine lv_iconst (v := -1) hx hb d95 (by decide) ?_
    refine x_iast C0 hR hS hf d96 (fun H locs hR hS hf => ?_)
    refine lv_iinc (v := (x1 + 1)) (lv' := [(1, .int (x1 + 1)), (2, .int i1), (0, .ref (xa E r0))]) hx hb d97 hl (k := 2) rfl rfl (by decide) rfl (fun ls hl => ?_)
    refine lv_goto (tgt := 53) hx hb d100 (by decide) ?_
    exact hk53 _ _ _ _ _ _ hR hS (lv_sub hl [2, 0] rfl) hf
theorem s_X4_init_L53 {p : Program} {l : Launch} {e : Env} {s : State} {m : MethodId} {args : Array Value} {below : List Frame} {meth : Method} {c : Code} {E : XE} {z : XR} (C0 : x_C E p l s m meth c args cX4_init 3 "GridEngine$Model" "<init>" none) (hxt : ∀ x ∈ c.exceptionTable.toList, False)  : ∀ n : Nat, ∀ (h : HP) (r0 : Nat) (x1 : Int32) (H : Heap) (locs : List Loc) (ls : Array Slot), x_Rep E h H → va_S (x_A E) s.heap H locs → lv_has ls 3 [(0, .ref (xa E r0)), (1, .int x1)] → f_X4_init_L53 n h r0 x1 = some z → W p l e ({ frames := 8, cells := 4, slots := 258, locals := 130 } : Room) s m args below meth c H locs 4 258 (x_Q E below args s 4 258 z) (F0 m 53 ls []) := by
  intro n
  induction n with
  | zero => intro h r0 x1 H locs ls hR hS hl hf; cases (show (none : Option XR) = some z from hf)
  | succ n ih => intro h r0 x1 H locs ls hR hS hl hf; exact s_X4_init_b53 C0 hxt ih h r0 x1 H locs ls hR hS hl (show f_X4_init_b53 (f_X4_init_L53 n) h r0 x1 = some z from hf)
set_option maxRecDepth 100000 in
set_option maxHeartbeats 4000000 in
theorem ct_X4_init (E : XE) (l : Launch) (hl0 : l.stackTraces = false) (h : HP) (r0 : Nat) : x_ct E l yX4_init (Cond.code yX4_init cX4_init 3 none) 8 130 4 258 [.ref (xa E r0)] h (f_X4_init h r0) := by
  refine x_ofW hl0 (by decide +kernel) ?_
  intro z hf p e s m args below meth c C0 hxt hargs hR
  subst hargs
  have C0 : x_C E p l s m meth c ([.ref (xa E r0)] : List Value).toArray cX4_init 3 "GridEngine$Model" "<init>" none := C0
  obtain ⟨hx, hb, -⟩ := id C0
  have hS : va_S (x_A E) s.heap s.heap [] := va_S.rf
  have hl := lv_entry ([.ref (xa E r0)]) (n := 3) (Nat.le_of_ble_eq_true rfl)
  rw [lg_entry_eq]
  generalize (lg_sl ([.ref (xa E r0)]) ++ List.replicate (3 - (lg_sl ([.ref (xa E r0)])).length) Slot.unset).toArray = ls at hl ⊢
  have hl : lv_has ls 3 [(0, .ref (xa E r0))] := hl
  unfold f_X4_init at hf
  have h0 : x_by cX4_init 0 [42, 183, 0, 3, 42, 17, 0, 130, 188, 10, 181, 0, 11, 42, 5, 188, 10, 181, 0, 15, 42, 16, 6, 188, 10, 181, 0, 18, 42, 16, 120, 188, 10, 181, 0, 21, 42, 3, 181, 0, 24, 42, 3, 181, 0, 28, 42, 3, 181, 0, 31, 3, 60] := by unfold x_by; decide +kernel
  obtain ⟨d0, h0⟩ := de_aload_n0 h0
  obtain ⟨d1, h0⟩ := de_invokespecial 3 (by decide) h0
  obtain ⟨d4, h0⟩ := de_aload_n0 h0
  obtain ⟨d5, h0⟩ := de_sipush (130) (by decide) h0
  obtain ⟨d8, h0⟩ := de_newarray_int h0
  obtain ⟨d10, h0⟩ := de_putfield 11 (by decide) h0
  obtain ⟨d13, h0⟩ := de_aload_n0 h0
  obtain ⟨d14, h0⟩ := de_iconst_2 h0
  obtain ⟨d15, h0⟩ := de_newarray_int h0
  obtain ⟨d17, h0⟩ := de_putfield 15 (by decide) h0
  obtain ⟨d20, h0⟩ := de_aload_n0 h0
  obtain ⟨d21, h0⟩ := de_bipush (6) (by decide) h0
  obtain ⟨d23, h0⟩ := de_newarray_int h0
  obtain ⟨d25, h0⟩ := de_putfield 18 (by decide) h0
  obtain ⟨d28, h0⟩ := de_aload_n0 h0
  obtain ⟨d29, h0⟩ := de_bipush (120) (by decide) h0
  obtain ⟨d31, h0⟩ := de_newarray_int h0
  obtain ⟨d33, h0⟩ := de_putfield 21 (by decide) h0
  obtain ⟨d36, h0⟩ := de_aload_n0 h0
  obtain ⟨d37, h0⟩ := de_iconst_0 h0
  obtain ⟨d38, h0⟩ := de_putfield 24 (by decide) h0
  obtain ⟨d41, h0⟩ := de_aload_n0 h0
  obtain ⟨d42, h0⟩ := de_iconst_0 h0
  obtain ⟨d43, h0⟩ := de_putfield 28 (by decide) h0
  obtain ⟨d46, h0⟩ := de_aload_n0 h0
  obtain ⟨d47, h0⟩ := de_iconst_0 h0
  obtain ⟨d48, h0⟩ := de_putfield 31 (by decide) h0
  obtain ⟨d51, h0⟩ := de_iconst_0 h0
  obtain ⟨d52, h0⟩ := de_istore_n1 h0
  refine lv_aload_n hx hb d0 rfl (lv_at hl 0 rfl) ?_
  refine x_oinit C0 hl.1 ml_X4_3 lib_oinit (Nat.le_of_ble_eq_true rfl) (Nat.le_of_ble_eq_true rfl) d1 ?_
  refine lv_aload_n hx hb d4 rfl (lv_at hl 0 rfl) ?_
  refine lv_sipush (v := 130) hx hb d5 (by decide) ?_
  refine x_newa (t := 0) C0 hR hS hf rfl (by decide) ac_0 (N := 130) (by decide) (Nat.le_of_ble_eq_true rfl) (Nat.le_of_ble_eq_true rfl) d8 (fun H a1 hR hS hf => ?_)
  refine x_putR C0 hR hS hf xcl_4 (Nat.le_of_ble_eq_true rfl) rfl fl_X4_11 (Or.inr ⟨rfl, rfl, fm_X4_11⟩) d10 (fun H locs hR hS hf => ?_)
  refine lv_aload_n hx hb d13 rfl (lv_at hl 0 rfl) ?_
  refine lv_iconst (v := 2) hx hb d14 (by decide) ?_
  refine x_newa (t := 0) C0 hR hS hf rfl (by decide) ac_0 (N := 2) (by decide) (Nat.le_of_ble_eq_true rfl) (Nat.le_of_ble_eq_true rfl) d15 (fun H a4 hR hS hf => ?_)
  refine x_putR C0 hR hS hf xcl_4 (Nat.le_of_ble_eq_true rfl) rfl fl_X4_15 (Or.inr ⟨rfl, rfl, fm_X4_15⟩) d17 (fun H locs hR hS hf => ?_)
  refine lv_aload_n hx hb d20 rfl (lv_at hl 0 rfl) ?_
  refine lv_bipush (v := 6) hx hb d21 (by decide) ?_
  refine x_newa (t := 0) C0 hR hS hf rfl (by decide) ac_0 (N := 6) (by decide) (Nat.le_of_ble_eq_true rfl) (Nat.le_of_ble_eq_true rfl) d23 (fun H a7 hR hS hf => ?_)
  refine x_putR C0 hR hS hf xcl_4 (Nat.le_of_ble_eq_true rfl) rfl fl_X4_18 (Or.inr ⟨rfl, rfl, fm_X4_18⟩) d25 (fun H locs hR hS hf => ?_)
  refine lv_aload_n hx hb d28 rfl (lv_at hl 0 rfl) ?_
  refine lv_bipush (v := 120) hx hb d29 (by decide) ?_
  refine x_newa (t := 0) C0 hR hS hf rfl (by decide) ac_0 (N := 120) (by decide) (Nat.le_of_ble_eq_true rfl) (Nat.le_of_ble_eq_true rfl) d31 (fun H a10 hR hS hf => ?_)
  refine x_putR C0 hR hS hf xcl_4 (Nat.le_of_ble_eq_true rfl) rfl fl_X4_21 (Or.inr ⟨rfl, rfl, fm_X4_21⟩) d33 (fun H locs hR hS hf => ?_)
  refine lv_aload_n hx hb d36 rfl (lv_at hl 0 rfl) ?_
  refine lv_iconst (v := 0) hx hb d37 (by decide) ?_
  refine x_putI C0 hR hS hf xcl_4 (Nat.le_of_ble_eq_true rfl) rfl fl_X4_24 (Or.inl rfl) d38 (fun H locs hR hS hf => ?_)
  refine lv_aload_n hx hb d41 rfl (lv_at hl 0 rfl) ?_
  refine lv_iconst (v := 0) hx hb d42 (by decide) ?_
  refine x_putI C0 hR hS hf xcl_4 (Nat.le_of_ble_eq_true rfl) rfl fl_X4_28 (Or.inl rfl) d43 (fun H locs hR hS hf => ?_)
  refine lv_aload_n hx hb d46 rfl (lv_at hl 0 rfl) ?_
  refine lv_iconst (v := 0) hx hb d47 (by decide) ?_
  refine x_putZ C0 hR hS hf xcl_4 (Nat.le_of_ble_eq_true rfl) rfl fl_X4_31 (Or.inl rfl) d48 (fun H locs hR hS hf => ?_)
  refine lv_iconst (v := 0) hx hb d51 (by decide) ?_
  refine lv_istore_n (lv' := [(1, .int 0), (0, .ref (xa E r0))]) hx hb d52 rfl hl (by decide) rfl (fun ls hl => ?_)
  exact s_X4_init_L53 C0 hxt FU _ _ _ _ _ _ hR hS (lv_sub hl [1, 0] rfl) hf
def f_X4_copyFrom (h : HP) (r0 : Nat) (r1 : Nat) : Option XR :=
  x_gR h r1 4 0 fun a1 =>
  x_gR h r0 4 0 fun a2 =>
  x_gR h r0 4 0 fun a3 =>
  x_ln h a3 fun i4 =>
  x_cp h a1 0 a2 0 i4 fun h5 =>
  x_gR h5 r1 4 1 fun a6 =>
  x_gR h5 r0 4 1 fun a7 =>
  x_cp h5 a6 0 a7 0 2 fun h8 =>
  x_gR h8 r1 4 2 fun a9 =>
  x_gR h8 r0 4 2 fun a10 =>
  x_gR h8 r0 4 2 fun a11 =>
  x_ln h8 a11 fun i12 =>
  x_cp h8 a9 0 a10 0 i12 fun h13 =>
  x_gR h13 r1 4 3 fun a14 =>
  x_gR h13 r0 4 3 fun a15 =>
  x_gR h13 r0 4 3 fun a16 =>
  x_ln h13 a16 fun i17 =>
  x_cp h13 a14 0 a15 0 i17 fun h18 =>
  x_gI h18 r1 4 4 fun i19 =>
  x_pI h18 r0 4 4 i19 fun h20 =>
  x_gI h20 r1 4 5 fun i21 =>
  x_pI h20 r0 4 5 i21 fun h22 =>
  x_gI h22 r1 4 6 fun i23 =>
  x_pZ h22 r0 4 6 i23 fun h24 =>
  some (h24, xv)
set_option maxRecDepth 100000 in
set_option maxHeartbeats 4000000 in
theorem ct_X4_copyFrom (E : XE) (l : Launch) (hl0 : l.stackTraces = false) (h : HP) (r0 : Nat) (r1 : Nat) : x_ct E l yX4_copyFrom (Cond.code yX4_copyFrom cX4_copyFrom 2 none) 8 130 0 0 [.ref (xa E r0), .ref (xa E r1)] h (f_X4_copyFrom h r0 r1) := by
  refine x_ofW hl0 (by decide +kernel) ?_
  intro z hf p e s m args below meth c C0 hxt hargs hR
  subst hargs
  have C0 : x_C E p l s m meth c ([.ref (xa E r0), .ref (xa E r1)] : List Value).toArray cX4_copyFrom 2 "GridEngine$Model" "copyFrom" none := C0
  obtain ⟨hx, hb, -⟩ := id C0
  have hS : va_S (x_A E) s.heap s.heap [] := va_S.rf
  have hl := lv_entry ([.ref (xa E r0), .ref (xa E r1)]) (n := 2) (Nat.le_of_ble_eq_true rfl)
  rw [lg_entry_eq]
  generalize (lg_sl ([.ref (xa E r0), .ref (xa E r1)]) ++ List.replicate (2 - (lg_sl ([.ref (xa E r0), .ref (xa E r1)])).length) Slot.unset).toArray = ls at hl ⊢
  have hl : lv_has ls 2 [(0, .ref (xa E r0)), (1, .ref (xa E r1))] := hl
  unfold f_X4_copyFrom at hf
  have h0 : x_by cX4_copyFrom 0 [43, 199, 0, 4] := by unfold x_by; decide +kernel
  obtain ⟨d0, h0⟩ := de_aload_n1 h0
  obtain ⟨d1, h0⟩ := de_ifnonnull (4) (by decide) h0
  refine lv_aload_n hx hb d0 rfl (lv_at hl 1 rfl) ?_
  refine lv_ifnonnull (tgt := 5) hx hb d1 (by decide) ?_
  have h0 : x_by cX4_copyFrom 5 [43, 180, 0, 11, 3, 42, 180, 0, 11, 3, 42, 180, 0, 11, 190, 184, 0, 35, 43, 180, 0, 15, 3, 42, 180, 0, 15, 3, 5, 184, 0, 35, 43, 180, 0, 18, 3, 42, 180, 0, 18, 3, 42, 180, 0, 18, 190, 184, 0, 35, 43, 180, 0, 21, 3, 42, 180, 0, 21, 3, 42, 180, 0, 21, 190, 184, 0, 35, 42, 43, 180, 0, 24, 181, 0, 24, 42, 43, 180, 0, 28, 181, 0, 28, 42, 43, 180, 0, 31, 181, 0, 31, 177] := by unfold x_by; decide +kernel
  obtain ⟨d5, h0⟩ := de_aload_n1 h0
  obtain ⟨d6, h0⟩ := de_getfield 11 (by decide) h0
  obtain ⟨d9, h0⟩ := de_iconst_0 h0
  obtain ⟨d10, h0⟩ := de_aload_n0 h0
  obtain ⟨d11, h0⟩ := de_getfield 11 (by decide) h0
  obtain ⟨d14, h0⟩ := de_iconst_0 h0
  obtain ⟨d15, h0⟩ := de_aload_n0 h0
  obtain ⟨d16, h0⟩ := de_getfield 11 (by decide) h0
  obtain ⟨d19, h0⟩ := de_arraylength h0
  obtain ⟨d20, h0⟩ := de_invokestatic 35 (by decide) h0
  obtain ⟨d23, h0⟩ := de_aload_n1 h0
  obtain ⟨d24, h0⟩ := de_getfield 15 (by decide) h0
  obtain ⟨d27, h0⟩ := de_iconst_0 h0
  obtain ⟨d28, h0⟩ := de_aload_n0 h0
  obtain ⟨d29, h0⟩ := de_getfield 15 (by decide) h0
  obtain ⟨d32, h0⟩ := de_iconst_0 h0
  obtain ⟨d33, h0⟩ := de_iconst_2 h0
  obtain ⟨d34, h0⟩ := de_invokestatic 35 (by decide) h0
  obtain ⟨d37, h0⟩ := de_aload_n1 h0
  obtain ⟨d38, h0⟩ := de_getfield 18 (by decide) h0
  obtain ⟨d41, h0⟩ := de_iconst_0 h0
  obtain ⟨d42, h0⟩ := de_aload_n0 h0
  obtain ⟨d43, h0⟩ := de_getfield 18 (by decide) h0
  obtain ⟨d46, h0⟩ := de_iconst_0 h0
  obtain ⟨d47, h0⟩ := de_aload_n0 h0
  obtain ⟨d48, h0⟩ := de_getfield 18 (by decide) h0
  obtain ⟨d51, h0⟩ := de_arraylength h0
  obtain ⟨d52, h0⟩ := de_invokestatic 35 (by decide) h0
  obtain ⟨d55, h0⟩ := de_aload_n1 h0
  obtain ⟨d56, h0⟩ := de_getfield 21 (by decide) h0
  obtain ⟨d59, h0⟩ := de_iconst_0 h0
  obtain ⟨d60, h0⟩ := de_aload_n0 h0
  obtain ⟨d61, h0⟩ := de_getfield 21 (by decide) h0
  obtain ⟨d64, h0⟩ := de_iconst_0 h0
  obtain ⟨d65, h0⟩ := de_aload_n0 h0
  obtain ⟨d66, h0⟩ := de_getfield 21 (by decide) h0
  obtain ⟨d69, h0⟩ := de_arraylength h0
  obtain ⟨d70, h0⟩ := de_invokestatic 35 (by decide) h0
  obtain ⟨d73, h0⟩ := de_aload_n0 h0
  obtain ⟨d74, h0⟩ := de_aload_n1 h0
  obtain ⟨d75, h0⟩ := de_getfield 24 (by decide) h0
  obtain ⟨d78, h0⟩ := de_putfield 24 (by decide) h0
  obtain ⟨d81, h0⟩ := de_aload_n0 h0
  obtain ⟨d82, h0⟩ := de_aload_n1 h0
  obtain ⟨d83, h0⟩ := de_getfield 28 (by decide) h0
  obtain ⟨d86, h0⟩ := de_putfield 28 (by decide) h0
  obtain ⟨d89, h0⟩ := de_aload_n0 h0
  obtain ⟨d90, h0⟩ := de_aload_n1 h0
  obtain ⟨d91, h0⟩ := de_getfield 31 (by decide) h0
  obtain ⟨d94, h0⟩ := de_putfield 31 (by decide) h0
  obtain ⟨d97, h0⟩ := de_return h0
  refine lv_aload_n hx hb d5 rfl (lv_at hl 1 rfl) ?_
  refine x_getR C0 hR hf xcl_4 (Nat.le_of_ble_eq_true rfl) rfl fl_X4_11 d6 (fun a1 hf => ?_)
  refine lv_iconst (v := 0) hx hb d9 (by decide) ?_
  refine lv_aload_n hx hb d10 rfl (lv_at hl 0 rfl) ?_
  refine x_getR C0 hR hf xcl_4 (Nat.le_of_ble_eq_true rfl) rfl fl_X4_11 d11 (fun a2 hf => ?_)
  refine lv_iconst (v := 0) hx hb d14 (by decide) ?_
  refine lv_aload_n hx hb d15 rfl (lv_at hl 0 rfl) ?_
  refine x_getR C0 hR hf xcl_4 (Nat.le_of_ble_eq_true rfl) rfl fl_X4_11 d16 (fun a3 hf => ?_)
  refine x_alen C0 hR hf d19 (fun i4 hf => ?_)
  refine x_acopy C0 hR hS hl.1 hf ml_X4_35 lib_acopy (Nat.le_of_ble_eq_true rfl) (Nat.le_of_ble_eq_true rfl) d20 (fun H locs hR hS hf => ?_)
  refine lv_aload_n hx hb d23 rfl (lv_at hl 1 rfl) ?_
  refine x_getR C0 hR hf xcl_4 (Nat.le_of_ble_eq_true rfl) rfl fl_X4_15 d24 (fun a6 hf => ?_)
  refine lv_iconst (v := 0) hx hb d27 (by decide) ?_
  refine lv_aload_n hx hb d28 rfl (lv_at hl 0 rfl) ?_
  refine x_getR C0 hR hf xcl_4 (Nat.le_of_ble_eq_true rfl) rfl fl_X4_15 d29 (fun a7 hf => ?_)
  refine lv_iconst (v := 0) hx hb d32 (by decide) ?_
  refine lv_iconst (v := 2) hx hb d33 (by decide) ?_
  refine x_acopy C0 hR hS hl.1 hf ml_X4_35 lib_acopy (Nat.le_of_ble_eq_true rfl) (Nat.le_of_ble_eq_true rfl) d34 (fun H locs hR hS hf => ?_)
  refine lv_aload_n hx hb d37 rfl (lv_at hl 1 rfl) ?_
  refine x_getR C0 hR hf xcl_4 (Nat.le_of_ble_eq_true rfl) rfl fl_X4_18 d38 (fun a9 hf => ?_)
  refine lv_iconst (v := 0) hx hb d41 (by decide) ?_
  refine lv_aload_n hx hb d42 rfl (lv_at hl 0 rfl) ?_
  refine x_getR C0 hR hf xcl_4 (Nat.le_of_ble_eq_true rfl) rfl fl_X4_18 d43 (fun a10 hf => ?_)
  refine lv_iconst (v := 0) hx hb d46 (by decide) ?_
  refine lv_aload_n hx hb d47 rfl (lv_at hl 0 rfl) ?_
  refine x_getR C0 hR hf xcl_4 (Nat.le_of_ble_eq_true rfl) rfl fl_X4_18 d48 (fun a11 hf => ?_)
  refine x_alen C0 hR hf d51 (fun i12 hf => ?_)
  refine x_acopy C0 hR hS hl.1 hf ml_X4_35 lib_acopy (Nat.le_of_ble_eq_true rfl) (Nat.le_of_ble_eq_true rfl) d52 (fun H locs hR hS hf => ?_)
  refine lv_aload_n hx hb d55 rfl (lv_at hl 1 rfl) ?_
  refine x_getR C0 hR hf xcl_4 (Nat.le_of_ble_eq_true rfl) rfl fl_X4_21 d56 (fun a14 hf => ?_)
  refine lv_iconst (v := 0) hx hb d59 (by decide) ?_
  refine lv_aload_n hx hb d60 rfl (lv_at hl 0 rfl) ?_
  refine x_getR C0 hR hf xcl_4 (Nat.le_of_ble_eq_true rfl) rfl fl_X4_21 d61 (fun a15 hf => ?_)
  refine lv_iconst (v := 0) hx hb d64 (by decide) ?_
  refine lv_aload_n hx hb d65 rfl (lv_at hl 0 rfl) ?_
  refine x_getR C0 hR hf xcl_4 (Nat.le_of_ble_eq_true rfl) rfl fl_X4_21 d66 (fun a16 hf => ?_)
  refine x_alen C0 hR hf d69 (fun i17 hf => ?_)
  refine x_acopy C0 hR hS hl.1 hf ml_X4_35 lib_acopy (Nat.le_of_ble_eq_true rfl) (Nat.le_of_ble_eq_true rfl) d70 (fun H locs hR hS hf => ?_)
  refine lv_aload_n hx hb d73 rfl (lv_at hl 0 rfl) ?_
  refine lv_aload_n hx hb d74 rfl (lv_at hl 1 rfl) ?_
  refine x_getI C0 hR hf xcl_4 (Nat.le_of_ble_eq_true rfl) rfl fl_X4_24 d75 (fun i19 hf => ?_)
  refine x_putI C0 hR hS hf xcl_4 (Nat.le_of_ble_eq_true rfl) rfl fl_X4_24 (Or.inl rfl) d78 (fun H locs hR hS hf => ?_)
  refine lv_aload_n hx hb d81 rfl (lv_at hl 0 rfl) ?_
  refine lv_aload_n hx hb d82 rfl (lv_at hl 1 rfl) ?_
  refine x_getI C0 hR hf xcl_4 (Nat.le_of_ble_eq_true rfl) rfl fl_X4_28 d83 (fun i21 hf => ?_)
  refine x_putI C0 hR hS hf xcl_4 (Nat.le_of_ble_eq_true rfl) rfl fl_X4_28 (Or.inl rfl) d86 (fun H locs hR hS hf => ?_)
  refine lv_aload_n hx hb d89 rfl (lv_at hl 0 rfl) ?_
  refine lv_aload_n hx hb d90 rfl (lv_at hl 1 rfl) ?_
  refine x_getI C0 hR hf xcl_4 (Nat.le_of_ble_eq_true rfl) rfl fl_X4_31 d91 (fun i23 hf => ?_)
  refine x_putZ C0 hR hS hf xcl_4 (Nat.le_of_ble_eq_true rfl) rfl fl_X4_31 (Or.inl rfl) d94 (fun H locs hR hS hf => ?_)
  exact x_vret C0 hR hS hf (Nat.le_of_ble_eq_true rfl) (Nat.le_of_ble_eq_true rfl) d97
def f_X4_explicitCount_b19  (h : HP) (t0 : Int32) : Option XR :=
  some (h, xi t0)
def f_X4_explicitCount_b18  (h : HP)  : Option XR :=
  f_X4_explicitCount_b19 h 0
def f_X4_explicitCount (h : HP) (r0 : Nat) (x1 : Int32) : Option XR :=
  if x1 < 0 then
    (
      f_X4_explicitCount_b18 h
    )
  else
    (
      if 2 ≤ x1 then
        (
          f_X4_explicitCount_b18 h
        )
      else
        (
          x_gR h r0 4 1 fun a1 =>
          x_aI h 100 a1 x1 fun i2 =>
          f_X4_explicitCount_b19 h i2
        )
    )
set_option maxRecDepth 100000 in
set_option maxHeartbeats 4000000 in
theorem s_X4_explicitCount_b19 {p : Program} {l : Launch} {e : Env} {s : State} {m : MethodId} {args : Array Value} {below : List Frame} {meth : Method} {c : Code} {E : XE} {z : XR} (C0 : x_C E p l s m meth c args cX4_explicitCount 2 "GridEngine$Model" "explicitCount" (some .int)) (hxt : ∀ x ∈ c.exceptionTable.toList, False)  : ∀ (h : HP) (t0 : Int32) (H : Heap) (locs : List Loc) (ls : Array Slot), x_Rep E h H → va_S (x_A E) s.heap H locs → lv_has ls 2 [] → f_X4_explicitCount_b19 h t0 = some z → W p l e ({ frames := 8, cells := 0, slots := 0, locals := 130 } : Room) s m args below meth c H locs 0 0 (x_Q E below args s 0 0 z) (F0 m 19 ls [.int t0]) := by
  intro h t0 H locs ls hR hS hl hf
  obtain ⟨hx, hb, -⟩ := id C0
  unfold f_X4_explicitCount_b19 at hf
  have h0 : x_by cX4_explicitCount 19 [172] := by unfold x_by; decide +kernel
  obtain ⟨d19, h0⟩ := de_ireturn h0
  exact x_iret C0 hR hS hf (Nat.le_of_ble_eq_true rfl) (Nat.le_of_ble_eq_true rfl) d19
set_option maxRecDepth 100000 in
set_option maxHeartbeats 4000000 in
theorem s_X4_explicitCount_b18 {p : Program} {l : Launch} {e : Env} {s : State} {m : MethodId} {args : Array Value} {below : List Frame} {meth : Method} {c : Code} {E : XE} {z : XR} (C0 : x_C E p l s m meth c args cX4_explicitCount 2 "GridEngine$Model" "explicitCount" (some .int)) (hxt : ∀ x ∈ c.exceptionTable.toList, False)  : ∀ (h : HP)  (H : Heap) (locs : List Loc) (ls : Array Slot), x_Rep E h H → va_S (x_A E) s.heap H locs → lv_has ls 2 [] → f_X4_explicitCount_b18 h  = some z → W p l e ({ frames := 8, cells := 0, slots := 0, locals := 130 } : Room) s m args below meth c H locs 0 0 (x_Q E below args s 0 0 z) (F0 m 18 ls []) := by
  intro h  H locs ls hR hS hl hf
  obtain ⟨hx, hb, -⟩ := id C0
  unfold f_X4_explicitCount_b18 at hf
  have h0 : x_by cX4_explicitCount 18 [3] := by unfold x_by; decide +kernel
  obtain ⟨d18, h0⟩ := de_iconst_0 h0
  refine lv_iconst (v := 0) hx hb d18 (by decide) ?_
  exact s_X4_explicitCount_b19 C0 hxt _ _ _ _ _ hR hS (lv_sub hl [] rfl) hf
set_option maxRecDepth 100000 in
set_option maxHeartbeats 4000000 in
theorem ct_X4_explicitCount (E : XE) (l : Launch) (hl0 : l.stackTraces = false) (h : HP) (r0 : Nat) (x1 : Int32) : x_ct E l yX4_explicitCount (Cond.code yX4_explicitCount cX4_explicitCount 2 (some .int)) 8 130 0 0 [.ref (xa E r0), .int x1] h (f_X4_explicitCount h r0 x1) := by
  refine x_ofW hl0 (by decide +kernel) ?_
  intro z hf p e s m args below meth c C0 hxt hargs hR
  subst hargs
  have C0 : x_C E p l s m meth c ([.ref (xa E r0), .int x1] : List Value).toArray cX4_explicitCount 2 "GridEngine$Model" "explicitCount" (some .int) := C0
  obtain ⟨hx, hb, -⟩ := id C0
  have hS : va_S (x_A E) s.heap s.heap [] := va_S.rf
  have hl := lv_entry ([.ref (xa E r0), .int x1]) (n := 2) (Nat.le_of_ble_eq_true rfl)
  rw [lg_entry_eq]
  generalize (lg_sl ([.ref (xa E r0), .int x1]) ++ List.replicate (2 - (lg_sl ([.ref (xa E r0), .int x1])).length) Slot.unset).toArray = ls at hl ⊢
  have hl : lv_has ls 2 [(0, .ref (xa E r0)), (1, .int x1)] := hl
  unfold f_X4_explicitCount at hf
  have h0 : x_by cX4_explicitCount 0 [27, 155, 0, 17] := by unfold x_by; decide +kernel
  obtain ⟨d0, h0⟩ := de_iload_n1 h0
  obtain ⟨d1, h0⟩ := de_if_lt (17) (by decide) h0
  refine lv_iload_n hx hb d0 rfl (lv_at hl 1 rfl) ?_
  refine lv_if_lt (tgt := 18) hx hb d1 (by decide) (fun q => ?_) (fun q => ?_)
  · have hf := x_pos q hf
    exact s_X4_explicitCount_b18 C0 hxt _ _ _ _ hR hS (lv_sub hl [] rfl) hf
  · have hf := x_neg q hf
    have h0 : x_by cX4_explicitCount 4 [27, 5, 162, 0, 12] := by unfold x_by; decide +kernel
    obtain ⟨d4, h0⟩ := de_iload_n1 h0
    obtain ⟨d5, h0⟩ := de_iconst_2 h0
    obtain ⟨d6, h0⟩ := de_icmp_ge (12) (by decide) h0
    refine lv_iload_n hx hb d4 rfl (lv_at hl 1 rfl) ?_
    refine lv_iconst (v := 2) hx hb d5 (by decide) ?_
    refine lv_icmp_ge (tgt := 18) hx hb d6 (by decide) (fun q => ?_) (fun q => ?_)
    · have hf := x_pos q hf
      exact s_X4_explicitCount_b18 C0 hxt _ _ _ _ hR hS (lv_sub hl [] rfl) hf
    · have hf := x_neg q hf
      have h0 : x_by cX4_explicitCount 9 [42, 180, 0, 15, 27, 46, 167, 0, 4] := by unfold x_by; decide +kernel
      obtain ⟨d9, h0⟩ := de_aload_n0 h0
      obtain ⟨d10, h0⟩ := de_getfield 15 (by decide) h0
      obtain ⟨d13, h0⟩ := de_iload_n1 h0
      obtain ⟨d14, h0⟩ := de_iaload h0
      obtain ⟨d15, h0⟩ := de_goto (4) (by decide) h0
      refine lv_aload_n hx hb d9 rfl (lv_at hl 0 rfl) ?_
      refine x_getR C0 hR hf xcl_4 (Nat.le_of_ble_eq_true rfl) rfl fl_X4_15 d10 (fun a1 hf => ?_)
      refine lv_iload_n hx hb d13 rfl (lv_at hl 1 rfl) ?_
      refine x_iald C0 hR hf d14 (fun i2 hf => ?_)
      refine lv_goto (tgt := 19) hx hb d15 (by decide) ?_
      exact s_X4_explicitCount_b19 C0 hxt _ _ _ _ _ hR hS (lv_sub hl [] rfl) hf
def f_X4_trackPart_b9  (h : HP)  : Option XR :=
  some (h, xi 0)
def f_X4_trackPart_b70  (h : HP) (t0 : Int32) : Option XR :=
  some (h, xi t0)
def f_X4_trackPart_b69  (h : HP)  : Option XR :=
  f_X4_trackPart_b70 h 0
def f_X4_trackPart_b29  (h : HP) (t0 : Int32) (r0 : Nat) (x1 : Int32) (x3 : Int32) : Option XR :=
  x_lI ((((x1 * 13) + t0) * 5) + x3) fun i1 =>
  if i1 < 0 then
    (
      f_X4_trackPart_b69 h
    )
  else
    (
      x_gR h r0 4 0 fun a2 =>
      x_ln h a2 fun i3 =>
      if i3 ≤ i1 then
        (
          f_X4_trackPart_b69 h
        )
      else
        (
          x_gR h r0 4 0 fun a4 =>
          x_aI h 100 a4 i1 fun i5 =>
          f_X4_trackPart_b70 h i5
        )
    )
def f_X4_trackPart (h : HP) (r0 : Nat) (x1 : Int32) (x2 : Int32) (x3 : Int32) : Option XR :=
  if x1 < 0 then
    (
      f_X4_trackPart_b9 h
    )
  else
    (
      if x1 < 2 then
        (
          x_gR h r0 4 1 fun a1 =>
          x_aI h 100 a1 x1 fun i2 =>
          if i2 < x2 then
            (
              f_X4_trackPart_b29 h 12 r0 x1 x3
            )
          else
            (
              f_X4_trackPart_b29 h (x2 - 1) r0 x1 x3
            )
        )
      else
        (
          f_X4_trackPart_b9 h
        )
    )
set_option maxRecDepth 100000 in
set_option maxHeartbeats 4000000 in
theorem s_X4_trackPart_b9 {p : Program} {l : Launch} {e : Env} {s : State} {m : MethodId} {args : Array Value} {below : List Frame} {meth : Method} {c : Code} {E : XE} {z : XR} (C0 : x_C E p l s m meth c args cX4_trackPart 6 "GridEngine$Model" "trackPart" (some .int)) (hxt : ∀ x ∈ c.exceptionTable.toList, False)  : ∀ (h : HP)  (H : Heap) (locs : List Loc) (ls : Array Slot), x_Rep E h H → va_S (x_A E) s.heap H locs → lv_has ls 6 [] → f_X4_trackPart_b9 h  = some z → W p l e ({ frames := 8, cells := 0, slots := 0, locals := 130 } : Room) s m args below meth c H locs 0 0 (x_Q E below args s 0 0 z) (F0 m 9 ls []) := by
  intro h  H locs ls hR hS hl hf
  obtain ⟨hx, hb, -⟩ := id C0
  unfold f_X4_trackPart_b9 at hf
  have h0 : x_by cX4_trackPart 9 [3, 172] := by unfold x_by; decide +kernel
  obtain ⟨d9, h0⟩ := de_iconst_0 h0
  obtain ⟨d10, h0⟩ := de_ireturn h0
  refine lv_iconst (v := 0) hx hb d9 (by decide) ?_
  exact x_iret C0 hR hS hf (Nat.le_of_ble_eq_true rfl) (Nat.le_of_ble_eq_true rfl) d10
set_option maxRecDepth 100000 in
set_option maxHeartbeats 4000000 in
theorem s_X4_trackPart_b70 {p : Program} {l : Launch} {e : Env} {s : State} {m : MethodId} {args : Array Value} {below : List Frame} {meth : Method} {c : Code} {E : XE} {z : XR} (C0 : x_C E p l s m meth c args cX4_trackPart 6 "GridEngine$Model" "trackPart" (some .int)) (hxt : ∀ x ∈ c.exceptionTable.toList, False)  : ∀ (h : HP) (t0 : Int32) (H : Heap) (locs : List Loc) (ls : Array Slot), x_Rep E h H → va_S (x_A E) s.heap H locs → lv_has ls 6 [] → f_X4_trackPart_b70 h t0 = some z → W p l e ({ frames := 8, cells := 0, slots := 0, locals := 130 } : Room) s m args below meth c H locs 0 0 (x_Q E below args s 0 0 z) (F0 m 70 ls [.int t0]) := by
  intro h t0 H locs ls hR hS hl hf
  obtain ⟨hx, hb, -⟩ := id C0
  unfold f_X4_trackPart_b70 at hf
  have h0 : x_by cX4_trackPart 70 [172] := by unfold x_by; decide +kernel
  obtain ⟨d70, h0⟩ := de_ireturn h0
  exact x_iret C0 hR hS hf (Nat.le_of_ble_eq_true rfl) (Nat.le_of_ble_eq_true rfl) d70
set_option maxRecDepth 100000 in
set_option maxHeartbeats 4000000 in
theorem s_X4_trackPart_b69 {p : Program} {l : Launch} {e : Env} {s : State} {m : MethodId} {args : Array Value} {below : List Frame} {meth : Method} {c : Code} {E : XE} {z : XR} (C0 : x_C E p l s m meth c args cX4_trackPart 6 "GridEngine$Model" "trackPart" (some .int)) (hxt : ∀ x ∈ c.exceptionTable.toList, False)  : ∀ (h : HP)  (H : Heap) (locs : List Loc) (ls : Array Slot), x_Rep E h H → va_S (x_A E) s.heap H locs → lv_has ls 6 [] → f_X4_trackPart_b69 h  = some z → W p l e ({ frames := 8, cells := 0, slots := 0, locals := 130 } : Room) s m args below meth c H locs 0 0 (x_Q E below args s 0 0 z) (F0 m 69 ls []) := by
  intro h  H locs ls hR hS hl hf
  obtain ⟨hx, hb, -⟩ := id C0
  unfold f_X4_trackPart_b69 at hf
  have h0 : x_by cX4_trackPart 69 [3] := by unfold x_by; decide +kernel
  obtain ⟨d69, h0⟩ := de_iconst_0 h0
  refine lv_iconst (v := 0) hx hb d69 (by decide) ?_
  exact s_X4_trackPart_b70 C0 hxt _ _ _ _ _ hR hS (lv_sub hl [] rfl) hf
set_option maxRecDepth 100000 in
set_option maxHeartbeats 4000000 in
theorem s_X4_trackPart_b29 {p : Program} {l : Launch} {e : Env} {s : State} {m : MethodId} {args : Array Value} {below : List Frame} {meth : Method} {c : Code} {E : XE} {z : XR} (C0 : x_C E p l s m meth c args cX4_trackPart 6 "GridEngine$Model" "trackPart" (some .int)) (hxt : ∀ x ∈ c.exceptionTable.toList, False)  : ∀ (h : HP) (t0 : Int32) (r0 : Nat) (x1 : Int32) (x3 : Int32) (H : Heap) (locs : List Loc) (ls : Array Slot), x_Rep E h H → va_S (x_A E) s.heap H locs → lv_has ls 6 [(0, .ref (xa E r0)), (1, .int x1), (3, .int x3)] → f_X4_trackPart_b29 h t0 r0 x1 x3 = some z → W p l e ({ frames := 8, cells := 0, slots := 0, locals := 130 } : Room) s m args below meth c H locs 0 0 (x_Q E below args s 0 0 z) (F0 m 29 ls [.int t0]) := by
  intro h t0 r0 x1 x3 H locs ls hR hS hl hf
  obtain ⟨hx, hb, -⟩ := id C0
  unfold f_X4_trackPart_b29 at hf
  have h0 : x_by cX4_trackPart 29 [54, 4, 27, 16, 13, 104, 21, 4, 96, 8, 104, 29, 96, 54, 5, 21, 5, 155, 0, 23] := by unfold x_by; decide +kernel
  obtain ⟨d29, h0⟩ := de_istore h0
  obtain ⟨d31, h0⟩ := de_iload_n1 h0
  obtain ⟨d32, h0⟩ := de_bipush (13) (by decide) h0
  obtain ⟨d34, h0⟩ := de_imul h0
  obtain ⟨d35, h0⟩ := de_iload h0
  obtain ⟨d37, h0⟩ := de_iadd h0
  obtain ⟨d38, h0⟩ := de_iconst_5 h0
  obtain ⟨d39, h0⟩ := de_imul h0
  obtain ⟨d40, h0⟩ := de_iload_n3 h0
  obtain ⟨d41, h0⟩ := de_iadd h0
  obtain ⟨d42, h0⟩ := de_istore h0
  obtain ⟨d44, h0⟩ := de_iload h0
  obtain ⟨d46, h0⟩ := de_if_lt (23) (by decide) h0
  refine lv_istore (lv' := [(4, .int t0), (0, .ref (xa E r0)), (1, .int x1), (3, .int x3)]) hx hb d29 hl (by decide) rfl (fun ls hl => ?_)
  refine lv_iload_n hx hb d31 rfl (lv_at hl 2 rfl) ?_
  refine lv_bipush (v := 13) hx hb d32 (by decide) ?_
  refine lv_imul hx hb d34 ?_
  refine lv_iload hx hb d35 (lv_at hl 0 rfl) ?_
  refine lv_iadd hx hb d37 ?_
  refine lv_iconst (v := 5) hx hb d38 (by decide) ?_
  refine lv_imul hx hb d39 ?_
  refine lv_iload_n hx hb d40 rfl (lv_at hl 3 rfl) ?_
  refine lv_iadd hx hb d41 ?_
  refine lv_topi (fun i1 ei1 => ?_)
  have hf := x_lI_el ei1 hf
  refine lv_istore (lv' := [(5, .int i1), (4, .int t0), (0, .ref (xa E r0)), (1, .int x1), (3, .int x3)]) hx hb d42 hl (by decide) rfl (fun ls hl => ?_)
  refine lv_iload hx hb d44 (lv_at hl 0 rfl) ?_
  refine lv_if_lt (tgt := 69) hx hb d46 (by decide) (fun q => ?_) (fun q => ?_)
  · have hf := x_pos q hf
    exact s_X4_trackPart_b69 C0 hxt _ _ _ _ hR hS (lv_sub hl [] rfl) hf
  · have hf := x_neg q hf
    have h0 : x_by cX4_trackPart 49 [21, 5, 42, 180, 0, 11, 190, 162, 0, 13] := by unfold x_by; decide +kernel
    obtain ⟨d49, h0⟩ := de_iload h0
    obtain ⟨d51, h0⟩ := de_aload_n0 h0
    obtain ⟨d52, h0⟩ := de_getfield 11 (by decide) h0
    obtain ⟨d55, h0⟩ := de_arraylength h0
    obtain ⟨d56, h0⟩ := de_icmp_ge (13) (by decide) h0
    refine lv_iload hx hb d49 (lv_at hl 0 rfl) ?_
    refine lv_aload_n hx hb d51 rfl (lv_at hl 2 rfl) ?_
    refine x_getR C0 hR hf xcl_4 (Nat.le_of_ble_eq_true rfl) rfl fl_X4_11 d52 (fun a2 hf => ?_)
    refine x_alen C0 hR hf d55 (fun i3 hf => ?_)
    refine lv_icmp_ge (tgt := 69) hx hb d56 (by decide) (fun q => ?_) (fun q => ?_)
    · have hf := x_pos q hf
      exact s_X4_trackPart_b69 C0 hxt _ _ _ _ hR hS (lv_sub hl [] rfl) hf
    · have hf := x_neg q hf
      have h0 : x_by cX4_trackPart 59 [42, 180, 0, 11, 21, 5, 46, 167, 0, 4] := by unfold x_by; decide +kernel
      obtain ⟨d59, h0⟩ := de_aload_n0 h0
      obtain ⟨d60, h0⟩ := de_getfield 11 (by decide) h0
      obtain ⟨d63, h0⟩ := de_iload h0
      obtain ⟨d65, h0⟩ := de_iaload h0
      obtain ⟨d66, h0⟩ := de_goto (4) (by decide) h0
      refine lv_aload_n hx hb d59 rfl (lv_at hl 2 rfl) ?_
      refine x_getR C0 hR hf xcl_4 (Nat.le_of_ble_eq_true rfl) rfl fl_X4_11 d60 (fun a4 hf => ?_)
      refine lv_iload hx hb d63 (lv_at hl 0 rfl) ?_
      refine x_iald C0 hR hf d65 (fun i5 hf => ?_)
      refine lv_goto (tgt := 70) hx hb d66 (by decide) ?_
      exact s_X4_trackPart_b70 C0 hxt _ _ _ _ _ hR hS (lv_sub hl [] rfl) hf
set_option maxRecDepth 100000 in
set_option maxHeartbeats 4000000 in
theorem ct_X4_trackPart (E : XE) (l : Launch) (hl0 : l.stackTraces = false) (h : HP) (r0 : Nat) (x1 : Int32) (x2 : Int32) (x3 : Int32) : x_ct E l yX4_trackPart (Cond.code yX4_trackPart cX4_trackPart 6 (some .int)) 8 130 0 0 [.ref (xa E r0), .int x1, .int x2, .int x3] h (f_X4_trackPart h r0 x1 x2 x3) := by
  refine x_ofW hl0 (by decide +kernel) ?_
  intro z hf p e s m args below meth c C0 hxt hargs hR
  subst hargs
  have C0 : x_C E p l s m meth c ([.ref (xa E r0), .int x1, .int x2, .int x3] : List Value).toArray cX4_trackPart 6 "GridEngine$Model" "trackPart" (some .int) := C0
  obtain ⟨hx, hb, -⟩ := id C0
  have hS : va_S (x_A E) s.heap s.heap [] := va_S.rf
  have hl := lv_entry ([.ref (xa E r0), .int x1, .int x2, .int x3]) (n := 6) (Nat.le_of_ble_eq_true rfl)
  rw [lg_entry_eq]
  generalize (lg_sl ([.ref (xa E r0), .int x1, .int x2, .int x3]) ++ List.replicate (6 - (lg_sl ([.ref (xa E r0), .int x1, .int x2, .int x3])).length) Slot.unset).toArray = ls at hl ⊢
  have hl : lv_has ls 6 [(0, .ref (xa E r0)), (1, .int x1), (2, .int x2), (3, .int x3)] := hl
  unfold f_X4_trackPart at hf
  have h0 : x_by cX4_trackPart 0 [27, 155, 0, 8] := by unfold x_by; decide +kernel
  obtain ⟨d0, h0⟩ := de_iload_n1 h0
  obtain ⟨d1, h0⟩ := de_if_lt (8) (by decide) h0
  refine lv_iload_n hx hb d0 rfl (lv_at hl 1 rfl) ?_
  refine lv_if_lt (tgt := 9) hx hb d1 (by decide) (fun q => ?_) (fun q => ?_)
  · have hf := x_pos q hf
    exact s_X4_trackPart_b9 C0 hxt _ _ _ _ hR hS (lv_sub hl [] rfl) hf
  · have hf := x_neg q hf
    have h0 : x_by cX4_trackPart 4 [27, 5, 161, 0, 5] := by unfold x_by; decide +kernel
    obtain ⟨d4, h0⟩ := de_iload_n1 h0
    obtain ⟨d5, h0⟩ := de_iconst_2 h0
    obtain ⟨d6, h0⟩ := de_icmp_lt (5) (by decide) h0
    refine lv_iload_n hx hb d4 rfl (lv_at hl 1 rfl) ?_
    refine lv_iconst (v := 2) hx hb d5 (by decide) ?_
    refine lv_icmp_lt (tgt := 11) hx hb d6 (by decide) (fun q => ?_) (fun q => ?_)
    · have hf := x_pos q hf
      have h0 : x_by cX4_trackPart 11 [28, 42, 180, 0, 15, 27, 46, 163, 0, 9] := by unfold x_by; decide +kernel
      obtain ⟨d11, h0⟩ := de_iload_n2 h0
      obtain ⟨d12, h0⟩ := de_aload_n0 h0
      obtain ⟨d13, h0⟩ := de_getfield 15 (by decide) h0
      obtain ⟨d16, h0⟩ := de_iload_n1 h0
      obtain ⟨d17, h0⟩ := de_iaload h0
      obtain ⟨d18, h0⟩ := de_icmp_gt (9) (by decide) h0
      refine lv_iload_n hx hb d11 rfl (lv_at hl 2 rfl) ?_
      refine lv_aload_n hx hb d12 rfl (lv_at hl 0 rfl) ?_
      refine x_getR C0 hR hf xcl_4 (Nat.le_of_ble_eq_true rfl) rfl fl_X4_15 d13 (fun a1 hf => ?_)
      refine lv_iload_n hx hb d16 rfl (lv_at hl 1 rfl) ?_
      refine x_iald C0 hR hf d17 (fun i2 hf => ?_)
      refine lv_icmp_gt (tgt := 27) hx hb d18 (by decide) (fun q => ?_) (fun q => ?_)
      · have hf := x_pos q hf
        have h0 : x_by cX4_trackPart 27 [16, 12] := by unfold x_by; decide +kernel
        obtain ⟨d27, h0⟩ := de_bipush (12) (by decide) h0
        refine lv_bipush (v := 12) hx hb d27 (by decide) ?_
        exact s_X4_trackPart_b29 C0 hxt _ _ _ _ _ _ _ _ hR hS (lv_sub hl [0, 1, 3] rfl) hf
      · have hf := x_neg q hf
        have h0 : x_by cX4_trackPart 21 [28, 4, 100, 167, 0, 5] := by unfold x_by; decide +kernel
        obtain ⟨d21, h0⟩ := de_iload_n2 h0
        obtain ⟨d22, h0⟩ := de_iconst_1 h0
        obtain ⟨d23, h0⟩ := de_isub h0
        obtain ⟨d24, h0⟩ := de_goto (5) (by decide) h0
        refine lv_iload_n hx hb d21 rfl (lv_at hl 2 rfl) ?_
        refine lv_iconst (v := 1) hx hb d22 (by decide) ?_
        refine lv_isub hx hb d23 ?_
        refine lv_goto (tgt := 29) hx hb d24 (by decide) ?_
        exact s_X4_trackPart_b29 C0 hxt _ _ _ _ _ _ _ _ hR hS (lv_sub hl [0, 1, 3] rfl) hf
    · have hf := x_neg q hf
      exact s_X4_trackPart_b9 C0 hxt _ _ _ _ hR hS (lv_sub hl [] rfl) hf
def f_X4_takeTracks_b51  (h : HP)  : Option XR :=
  some (h, xv)
def f_X4_takeTracks (h : HP) (r0 : Nat) (x1 : Int32) (r2 : Nat) : Option XR :=
  x_gI h r2 6 6 fun i1 =>
  x_lI (if 0 < (if 12 < i1 then 12 else i1) then (if 12 < i1 then 12 else i1) else 0) fun i2 =>
  if x1 < 0 then
    (
      f_X4_takeTracks_b51 h
    )
  else
    (
      if 2 ≤ x1 then
        (
          f_X4_takeTracks_b51 h
        )
      else
        (
          x_gR h r2 6 7 fun a3 =>
          x_gR h r0 4 0 fun a4 =>
          x_cp h a3 0 a4 ((x1 * 13) * 5) (i2 * 5) fun h5 =>
          x_gR h5 r0 4 1 fun a6 =>
          x_sI h5 a6 x1 i2 fun h7 =>
          f_X4_takeTracks_b51 h7
        )
    )
set_option maxRecDepth 100000 in
set_option maxHeartbeats 4000000 in
theorem s_X4_takeTracks_b51 {p : Program} {l : Launch} {e : Env} {s : State} {m : MethodId} {args : Array Value} {below : List Frame} {meth : Method} {c : Code} {E : XE} {z : XR} (C0 : x_C E p l s m meth c args cX4_takeTracks 4 "GridEngine$Model" "takeTracks" none) (hxt : ∀ x ∈ c.exceptionTable.toList, False)  : ∀ (h : HP)  (H : Heap) (locs : List Loc) (ls : Array Slot), x_Rep E h H → va_S (x_A E) s.heap H locs → lv_has ls 4 [] → f_X4_takeTracks_b51 h  = some z → W p l e ({ frames := 8, cells := 0, slots := 0, locals := 130 } : Room) s m args below meth c H locs 0 0 (x_Q E below args s 0 0 z) (F0 m 51 ls []) := by
  intro h  H locs ls hR hS hl hf
  obtain ⟨hx, hb, -⟩ := id C0
  unfold f_X4_takeTracks_b51 at hf
  have h0 : x_by cX4_takeTracks 51 [177] := by unfold x_by; decide +kernel
  obtain ⟨d51, h0⟩ := de_return h0
  exact x_vret C0 hR hS hf (Nat.le_of_ble_eq_true rfl) (Nat.le_of_ble_eq_true rfl) d51
set_option maxRecDepth 100000 in
set_option maxHeartbeats 4000000 in
theorem ct_X4_takeTracks (E : XE) (l : Launch) (hl0 : l.stackTraces = false) (h : HP) (r0 : Nat) (x1 : Int32) (r2 : Nat) : x_ct E l yX4_takeTracks (Cond.code yX4_takeTracks cX4_takeTracks 4 none) 8 130 0 0 [.ref (xa E r0), .int x1, .ref (xa E r2)] h (f_X4_takeTracks h r0 x1 r2) := by
  refine x_ofW hl0 (by decide +kernel) ?_
  intro z hf p e s m args below meth c C0 hxt hargs hR
  subst hargs
  have C0 : x_C E p l s m meth c ([.ref (xa E r0), .int x1, .ref (xa E r2)] : List Value).toArray cX4_takeTracks 4 "GridEngine$Model" "takeTracks" none := C0
  obtain ⟨hx, hb, -⟩ := id C0
  have hS : va_S (x_A E) s.heap s.heap [] := va_S.rf
  have hl := lv_entry ([.ref (xa E r0), .int x1, .ref (xa E r2)]) (n := 4) (Nat.le_of_ble_eq_true rfl)
  rw [lg_entry_eq]
  generalize (lg_sl ([.ref (xa E r0), .int x1, .ref (xa E r2)]) ++ List.replicate (4 - (lg_sl ([.ref (xa E r0), .int x1, .ref (xa E r2)])).length) Slot.unset).toArray = ls at hl ⊢
  have hl : lv_has ls 4 [(0, .ref (xa E r0)), (1, .int x1), (2, .ref (xa E r2))] := hl
  unfold f_X4_takeTracks at hf
  have h0 : x_by cX4_takeTracks 0 [3, 44, 180, 0, 41, 16, 12, 184, 0, 46, 184, 0, 52, 62, 27, 155, 0, 36] := by unfold x_by; decide +kernel
  obtain ⟨d0, h0⟩ := de_iconst_0 h0
  obtain ⟨d1, h0⟩ := de_aload_n2 h0
  obtain ⟨d2, h0⟩ := de_getfield 41 (by decide) h0
  obtain ⟨d5, h0⟩ := de_bipush (12) (by decide) h0
  obtain ⟨d7, h0⟩ := de_invokestatic 46 (by decide) h0
  obtain ⟨d10, h0⟩ := de_invokestatic 52 (by decide) h0
  obtain ⟨d13, h0⟩ := de_istore_n3 h0
  obtain ⟨d14, h0⟩ := de_iload_n1 h0
  obtain ⟨d15, h0⟩ := de_if_lt (36) (by decide) h0
  refine lv_iconst (v := 0) hx hb d0 (by decide) ?_
  refine lv_aload_n hx hb d1 rfl (lv_at hl 2 rfl) ?_
  refine x_getI C0 hR hf xcl_6 (Nat.le_of_ble_eq_true rfl) rfl fl_X4_41 d2 (fun i1 hf => ?_)
  refine lv_bipush (v := 12) hx hb d5 (by decide) ?_
  refine x_mmin C0 hl.1 ml_X4_46 lib_min (Nat.le_of_ble_eq_true rfl) (Nat.le_of_ble_eq_true rfl) (Nat.le_of_ble_eq_true rfl) (Nat.le_of_ble_eq_true rfl) d7 ?_
  refine x_mmax C0 hl.1 ml_X4_52 lib_max (Nat.le_of_ble_eq_true rfl) (Nat.le_of_ble_eq_true rfl) (Nat.le_of_ble_eq_true rfl) (Nat.le_of_ble_eq_true rfl) d10 ?_
  refine lv_topi (fun i2 ei2 => ?_)
  have hf := x_lI_el ei2 hf
  refine lv_istore_n (lv' := [(3, .int i2), (0, .ref (xa E r0)), (1, .int x1), (2, .ref (xa E r2))]) hx hb d13 rfl hl (by decide) rfl (fun ls hl => ?_)
  refine lv_iload_n hx hb d14 rfl (lv_at hl 2 rfl) ?_
  refine lv_if_lt (tgt := 51) hx hb d15 (by decide) (fun q => ?_) (fun q => ?_)
  · have hf := x_pos q hf
    exact s_X4_takeTracks_b51 C0 hxt _ _ _ _ hR hS (lv_sub hl [] rfl) hf
  · have hf := x_neg q hf
    have h0 : x_by cX4_takeTracks 18 [27, 5, 162, 0, 31] := by unfold x_by; decide +kernel
    obtain ⟨d18, h0⟩ := de_iload_n1 h0
    obtain ⟨d19, h0⟩ := de_iconst_2 h0
    obtain ⟨d20, h0⟩ := de_icmp_ge (31) (by decide) h0
    refine lv_iload_n hx hb d18 rfl (lv_at hl 2 rfl) ?_
    refine lv_iconst (v := 2) hx hb d19 (by decide) ?_
    refine lv_icmp_ge (tgt := 51) hx hb d20 (by decide) (fun q => ?_) (fun q => ?_)
    · have hf := x_pos q hf
      exact s_X4_takeTracks_b51 C0 hxt _ _ _ _ hR hS (lv_sub hl [] rfl) hf
    · have hf := x_neg q hf
      have h0 : x_by cX4_takeTracks 23 [44, 180, 0, 55, 3, 42, 180, 0, 11, 27, 16, 13, 104, 8, 104, 29, 8, 104, 184, 0, 35, 42, 180, 0, 15, 27, 29, 79] := by unfold x_by; decide +kernel
      obtain ⟨d23, h0⟩ := de_aload_n2 h0
      obtain ⟨d24, h0⟩ := de_getfield 55 (by decide) h0
      obtain ⟨d27, h0⟩ := de_iconst_0 h0
      obtain ⟨d28, h0⟩ := de_aload_n0 h0
      obtain ⟨d29, h0⟩ := de_getfield 11 (by decide) h0
      obtain ⟨d32, h0⟩ := de_iload_n1 h0
      obtain ⟨d33, h0⟩ := de_bipush (13) (by decide) h0
      obtain ⟨d35, h0⟩ := de_imul h0
      obtain ⟨d36, h0⟩ := de_iconst_5 h0
      obtain ⟨d37, h0⟩ := de_imul h0
      obtain ⟨d38, h0⟩ := de_iload_n3 h0
      obtain ⟨d39, h0⟩ := de_iconst_5 h0
      obtain ⟨d40, h0⟩ := de_imul h0
      obtain ⟨d41, h0⟩ := de_invokestatic 35 (by decide) h0
      obtain ⟨d44, h0⟩ := de_aload_n0 h0
      obtain ⟨d45, h0⟩ := de_getfield 15 (by decide) h0
      obtain ⟨d48, h0⟩ := de_iload_n1 h0
      obtain ⟨d49, h0⟩ := de_iload_n3 h0
      obtain ⟨d50, h0⟩ := de_iastore h0
      refine lv_aload_n hx hb d23 rfl (lv_at hl 3 rfl) ?_
      refine x_getR C0 hR hf xcl_6 (Nat.le_of_ble_eq_true rfl) rfl fl_X4_55 d24 (fun a3 hf => ?_)
      refine lv_iconst (v := 0) hx hb d27 (by decide) ?_
      refine lv_aload_n hx hb d28 rfl (lv_at hl 1 rfl) ?_
      refine x_getR C0 hR hf xcl_4 (Nat.le_of_ble_eq_true rfl) rfl fl_X4_11 d29 (fun a4 hf => ?_)
      refine lv_iload_n hx hb d32 rfl (lv_at hl 2 rfl) ?_
      refine lv_bipush (v := 13) hx hb d33 (by decide) ?_
      refine lv_imul hx hb d35 ?_
      refine lv_iconst (v := 5) hx hb d36 (by decide) ?_
      refine lv_imul hx hb d37 ?_
      refine lv_iload_n hx hb d38 rfl (lv_at hl 0 rfl) ?_
      refine lv_iconst (v := 5) hx hb d39 (by decide) ?_
      refine lv_imul hx hb d40 ?_
      refine x_acopy C0 hR hS hl.1 hf ml_X4_35 lib_acopy (Nat.le_of_ble_eq_true rfl) (Nat.le_of_ble_eq_true rfl) d41 (fun H locs hR hS hf => ?_)
      refine lv_aload_n hx hb d44 rfl (lv_at hl 1 rfl) ?_
      refine x_getR C0 hR hf xcl_4 (Nat.le_of_ble_eq_true rfl) rfl fl_X4_15 d45 (fun a6 hf => ?_)
      refine lv_iload_n hx hb d48 rfl (lv_at hl 2 rfl) ?_
      refine lv_iload_n hx hb d49 rfl (lv_at hl 0 rfl) ?_
      refine x_iast C0 hR hS hf d50 (fun H locs hR hS hf => ?_)
      exact s_X4_takeTracks_b51 C0 hxt _ _ _ _ hR hS (lv_sub hl [] rfl) hf
def f_X4_takeImplicit_b33  (h : HP)  : Option XR :=
  some (h, xv)
def f_X4_takeImplicit (h : HP) (r0 : Nat) (x1 : Int32) (r2 : Nat) : Option XR :=
  if x1 < 0 then
    (
      f_X4_takeImplicit_b33 h
    )
  else
    (
      if 2 ≤ x1 then
        (
          f_X4_takeImplicit_b33 h
        )
      else
        (
          x_lI (((x1 * 13) + 12) * 5) fun i1 =>
          x_gR h r2 6 7 fun a2 =>
          x_gR h r0 4 0 fun a3 =>
          x_cp h a2 0 a3 i1 5 fun h4 =>
          f_X4_takeImplicit_b33 h4
        )
    )
set_option maxRecDepth 100000 in
set_option maxHeartbeats 4000000 in
theorem s_X4_takeImplicit_b33 {p : Program} {l : Launch} {e : Env} {s : State} {m : MethodId} {args : Array Value} {below : List Frame} {meth : Method} {c : Code} {E : XE} {z : XR} (C0 : x_C E p l s m meth c args cX4_takeImplicit 4 "GridEngine$Model" "takeImplicit" none) (hxt : ∀ x ∈ c.exceptionTable.toList, False)  : ∀ (h : HP)  (H : Heap) (locs : List Loc) (ls : Array Slot), x_Rep E h H → va_S (x_A E) s.heap H locs → lv_has ls 4 [] → f_X4_takeImplicit_b33 h  = some z → W p l e ({ frames := 8, cells := 0, slots := 0, locals := 130 } : Room) s m args below meth c H locs 0 0 (x_Q E below args s 0 0 z) (F0 m 33 ls []) := by
  intro h  H locs ls hR hS hl hf
  obtain ⟨hx, hb, -⟩ := id C0
  unfold f_X4_takeImplicit_b33 at hf
  have h0 : x_by cX4_takeImplicit 33 [177] := by unfold x_by; decide +kernel
  obtain ⟨d33, h0⟩ := de_return h0
  exact x_vret C0 hR hS hf (Nat.le_of_ble_eq_true rfl) (Nat.le_of_ble_eq_true rfl) d33
set_option maxRecDepth 100000 in
set_option maxHeartbeats 4000000 in
theorem ct_X4_takeImplicit (E : XE) (l : Launch) (hl0 : l.stackTraces = false) (h : HP) (r0 : Nat) (x1 : Int32) (r2 : Nat) : x_ct E l yX4_takeImplicit (Cond.code yX4_takeImplicit cX4_takeImplicit 4 none) 8 130 0 0 [.ref (xa E r0), .int x1, .ref (xa E r2)] h (f_X4_takeImplicit h r0 x1 r2) := by
  refine x_ofW hl0 (by decide +kernel) ?_
  intro z hf p e s m args below meth c C0 hxt hargs hR
  subst hargs
  have C0 : x_C E p l s m meth c ([.ref (xa E r0), .int x1, .ref (xa E r2)] : List Value).toArray cX4_takeImplicit 4 "GridEngine$Model" "takeImplicit" none := C0
  obtain ⟨hx, hb, -⟩ := id C0
  have hS : va_S (x_A E) s.heap s.heap [] := va_S.rf
  have hl := lv_entry ([.ref (xa E r0), .int x1, .ref (xa E r2)]) (n := 4) (Nat.le_of_ble_eq_true rfl)
  rw [lg_entry_eq]
  generalize (lg_sl ([.ref (xa E r0), .int x1, .ref (xa E r2)]) ++ List.replicate (4 - (lg_sl ([.ref (xa E r0), .int x1, .ref (xa E r2)])).length) Slot.unset).toArray = ls at hl ⊢
  have hl : lv_has ls 4 [(0, .ref (xa E r0)), (1, .int x1), (2, .ref (xa E r2))] := hl
  unfold f_X4_takeImplicit at hf
  have h0 : x_by cX4_takeImplicit 0 [27, 155, 0, 32] := by unfold x_by; decide +kernel
  obtain ⟨d0, h0⟩ := de_iload_n1 h0
  obtain ⟨d1, h0⟩ := de_if_lt (32) (by decide) h0
  refine lv_iload_n hx hb d0 rfl (lv_at hl 1 rfl) ?_
  refine lv_if_lt (tgt := 33) hx hb d1 (by decide) (fun q => ?_) (fun q => ?_)
  · have hf := x_pos q hf
    exact s_X4_takeImplicit_b33 C0 hxt _ _ _ _ hR hS (lv_sub hl [] rfl) hf
  · have hf := x_neg q hf
    have h0 : x_by cX4_takeImplicit 4 [27, 5, 162, 0, 27] := by unfold x_by; decide +kernel
    obtain ⟨d4, h0⟩ := de_iload_n1 h0
    obtain ⟨d5, h0⟩ := de_iconst_2 h0
    obtain ⟨d6, h0⟩ := de_icmp_ge (27) (by decide) h0
    refine lv_iload_n hx hb d4 rfl (lv_at hl 1 rfl) ?_
    refine lv_iconst (v := 2) hx hb d5 (by decide) ?_
    refine lv_icmp_ge (tgt := 33) hx hb d6 (by decide) (fun q => ?_) (fun q => ?_)
    · have hf := x_pos q hf
      exact s_X4_takeImplicit_b33 C0 hxt _ _ _ _ hR hS (lv_sub hl [] rfl) hf
    · have hf := x_neg q hf
      have h0 : x_by cX4_takeImplicit 9 [27, 16, 13, 104, 16, 12, 96, 8, 104, 62, 44, 180, 0, 55, 3, 42, 180, 0, 11, 29, 8, 184, 0, 35] := by unfold x_by; decide +kernel
      obtain ⟨d9, h0⟩ := de_iload_n1 h0
      obtain ⟨d10, h0⟩ := de_bipush (13) (by decide) h0
      obtain ⟨d12, h0⟩ := de_imul h0
      obtain ⟨d13, h0⟩ := de_bipush (12) (by decide) h0
      obtain ⟨d15, h0⟩ := de_iadd h0
      obtain ⟨d16, h0⟩ := de_iconst_5 h0
      obtain ⟨d17, h0⟩ := de_imul h0
      obtain ⟨d18, h0⟩ := de_istore_n3 h0
      obtain ⟨d19, h0⟩ := de_aload_n2 h0
      obtain ⟨d20, h0⟩ := de_getfield 55 (by decide) h0
      obtain ⟨d23, h0⟩ := de_iconst_0 h0
      obtain ⟨d24, h0⟩ := de_aload_n0 h0
      obtain ⟨d25, h0⟩ := de_getfield 11 (by decide) h0
      obtain ⟨d28, h0⟩ := de_iload_n3 h0
      obtain ⟨d29, h0⟩ := de_iconst_5 h0
      obtain ⟨d30, h0⟩ := de_invokestatic 35 (by decide) h0
      refine lv_iload_n hx hb d9 rfl (lv_at hl 1 rfl) ?_
      refine lv_bipush (v := 13) hx hb d10 (by decide) ?_
      refine lv_imul hx hb d12 ?_
      refine lv_bipush (v := 12) hx hb d13 (by decide) ?_
      refine lv_iadd hx hb d15 ?_
      refine lv_iconst (v := 5) hx hb d16 (by decide) ?_
      refine lv_imul hx hb d17 ?_
      refine lv_topi (fun i1 ei1 => ?_)
      have hf := x_lI_el ei1 hf
      refine lv_istore_n (lv' := [(3, .int i1), (0, .ref (xa E r0)), (1, .int x1), (2, .ref (xa E r2))]) hx hb d18 rfl hl (by decide) rfl (fun ls hl => ?_)
      refine lv_aload_n hx hb d19 rfl (lv_at hl 3 rfl) ?_
      refine x_getR C0 hR hf xcl_6 (Nat.le_of_ble_eq_true rfl) rfl fl_X4_55 d20 (fun a2 hf => ?_)
      refine lv_iconst (v := 0) hx hb d23 (by decide) ?_
      refine lv_aload_n hx hb d24 rfl (lv_at hl 1 rfl) ?_
      refine x_getR C0 hR hf xcl_4 (Nat.le_of_ble_eq_true rfl) rfl fl_X4_11 d25 (fun a3 hf => ?_)
      refine lv_iload_n hx hb d28 rfl (lv_at hl 0 rfl) ?_
      refine lv_iconst (v := 5) hx hb d29 (by decide) ?_
      refine x_acopy C0 hR hS hl.1 hf ml_X4_35 lib_acopy (Nat.le_of_ble_eq_true rfl) (Nat.le_of_ble_eq_true rfl) d30 (fun H locs hR hS hf => ?_)
      exact s_X4_takeImplicit_b33 C0 hxt _ _ _ _ hR hS (lv_sub hl [] rfl) hf
def f_X4_setting_b29  (h : HP) (t0 : Int32) : Option XR :=
  some (h, xi t0)
def f_X4_setting_b28  (h : HP)  : Option XR :=
  f_X4_setting_b29 h 0
def f_X4_setting (h : HP) (r0 : Nat) (x1 : Int32) (x2 : Int32) : Option XR :=
  x_lI ((x1 * 3) + x2) fun i1 =>
  if i1 < 0 then
    (
      f_X4_setting_b28 h
    )
  else
    (
      x_gR h r0 4 2 fun a2 =>
      x_ln h a2 fun i3 =>
      if i3 ≤ i1 then
        (
          f_X4_setting_b28 h
        )
      else
        (
          x_gR h r0 4 2 fun a4 =>
          x_aI h 100 a4 i1 fun i5 =>
          f_X4_setting_b29 h i5
        )
    )
set_option maxRecDepth 100000 in
set_option maxHeartbeats 4000000 in
theorem s_X4_setting_b29 {p : Program} {l : Launch} {e : Env} {s : State} {m : MethodId} {args : Array Value} {below : List Frame} {meth : Method} {c : Code} {E : XE} {z : XR} (C0 : x_C E p l s m meth c args cX4_setting 4 "GridEngine$Model" "setting" (some .int)) (hxt : ∀ x ∈ c.exceptionTable.toList, False)  : ∀ (h : HP) (t0 : Int32) (H : Heap) (locs : List Loc) (ls : Array Slot), x_Rep E h H → va_S (x_A E) s.heap H locs → lv_has ls 4 [] → f_X4_setting_b29 h t0 = some z → W p l e ({ frames := 8, cells := 0, slots := 0, locals := 130 } : Room) s m args below meth c H locs 0 0 (x_Q E below args s 0 0 z) (F0 m 29 ls [.int t0]) := by
  intro h t0 H locs ls hR hS hl hf
  obtain ⟨hx, hb, -⟩ := id C0
  unfold f_X4_setting_b29 at hf
  have h0 : x_by cX4_setting 29 [172] := by unfold x_by; decide +kernel
  obtain ⟨d29, h0⟩ := de_ireturn h0
  exact x_iret C0 hR hS hf (Nat.le_of_ble_eq_true rfl) (Nat.le_of_ble_eq_true rfl) d29
set_option maxRecDepth 100000 in
set_option maxHeartbeats 4000000 in
theorem s_X4_setting_b28 {p : Program} {l : Launch} {e : Env} {s : State} {m : MethodId} {args : Array Value} {below : List Frame} {meth : Method} {c : Code} {E : XE} {z : XR} (C0 : x_C E p l s m meth c args cX4_setting 4 "GridEngine$Model" "setting" (some .int)) (hxt : ∀ x ∈ c.exceptionTable.toList, False)  : ∀ (h : HP)  (H : Heap) (locs : List Loc) (ls : Array Slot), x_Rep E h H → va_S (x_A E) s.heap H locs → lv_has ls 4 [] → f_X4_setting_b28 h  = some z → W p l e ({ frames := 8, cells := 0, slots := 0, locals := 130 } : Room) s m args below meth c H locs 0 0 (x_Q E below args s 0 0 z) (F0 m 28 ls []) := by
  intro h  H locs ls hR hS hl hf
  obtain ⟨hx, hb, -⟩ := id C0
  unfold f_X4_setting_b28 at hf
  have h0 : x_by cX4_setting 28 [3] := by unfold x_by; decide +kernel
  obtain ⟨d28, h0⟩ := de_iconst_0 h0
  refine lv_iconst (v := 0) hx hb d28 (by decide) ?_
  exact s_X4_setting_b29 C0 hxt _ _ _ _ _ hR hS (lv_sub hl [] rfl) hf
set_option maxRecDepth 100000 in
set_option maxHeartbeats 4000000 in
theorem ct_X4_setting (E : XE) (l : Launch) (hl0 : l.stackTraces = false) (h : HP) (r0 : Nat) (x1 : Int32) (x2 : Int32) : x_ct E l yX4_setting (Cond.code yX4_setting cX4_setting 4 (some .int)) 8 130 0 0 [.ref (xa E r0), .int x1, .int x2] h (f_X4_setting h r0 x1 x2) := by
  refine x_ofW hl0 (by decide +kernel) ?_
  intro z hf p e s m args below meth c C0 hxt hargs hR
  subst hargs
  have C0 : x_C E p l s m meth c ([.ref (xa E r0), .int x1, .int x2] : List Value).toArray cX4_setting 4 "GridEngine$Model" "setting" (some .int) := C0
  obtain ⟨hx, hb, -⟩ := id C0
  have hS : va_S (x_A E) s.heap s.heap [] := va_S.rf
  have hl := lv_entry ([.ref (xa E r0), .int x1, .int x2]) (n := 4) (Nat.le_of_ble_eq_true rfl)
  rw [lg_entry_eq]
  generalize (lg_sl ([.ref (xa E r0), .int x1, .int x2]) ++ List.replicate (4 - (lg_sl ([.ref (xa E r0), .int x1, .int x2])).length) Slot.unset).toArray = ls at hl ⊢
  have hl : lv_has ls 4 [(0, .ref (xa E r0)), (1, .int x1), (2, .int x2)] := hl
  unfold f_X4_setting at hf
  have h0 : x_by cX4_setting 0 [27, 6, 104, 28, 96, 62, 29, 155, 0, 21] := by unfold x_by; decide +kernel
  obtain ⟨d0, h0⟩ := de_iload_n1 h0
  obtain ⟨d1, h0⟩ := de_iconst_3 h0
  obtain ⟨d2, h0⟩ := de_imul h0
  obtain ⟨d3, h0⟩ := de_iload_n2 h0
  obtain ⟨d4, h0⟩ := de_iadd h0
  obtain ⟨d5, h0⟩ := de_istore_n3 h0
  obtain ⟨d6, h0⟩ := de_iload_n3 h0
  obtain ⟨d7, h0⟩ := de_if_lt (21) (by decide) h0
  refine lv_iload_n hx hb d0 rfl (lv_at hl 1 rfl) ?_
  refine lv_iconst (v := 3) hx hb d1 (by decide) ?_
  refine lv_imul hx hb d2 ?_
  refine lv_iload_n hx hb d3 rfl (lv_at hl 2 rfl) ?_
  refine lv_iadd hx hb d4 ?_
  refine lv_topi (fun i1 ei1 => ?_)
  have hf := x_lI_el ei1 hf
  refine lv_istore_n (lv' := [(3, .int i1), (0, .ref (xa E r0)), (1, .int x1), (2, .int x2)]) hx hb d5 rfl hl (by decide) rfl (fun ls hl => ?_)
  refine lv_iload_n hx hb d6 rfl (lv_at hl 0 rfl) ?_
  refine lv_if_lt (tgt := 28) hx hb d7 (by decide) (fun q => ?_) (fun q => ?_)
  · have hf := x_pos q hf
    exact s_X4_setting_b28 C0 hxt _ _ _ _ hR hS (lv_sub hl [] rfl) hf
  · have hf := x_neg q hf
    have h0 : x_by cX4_setting 10 [29, 42, 180, 0, 18, 190, 162, 0, 12] := by unfold x_by; decide +kernel
    obtain ⟨d10, h0⟩ := de_iload_n3 h0
    obtain ⟨d11, h0⟩ := de_aload_n0 h0
    obtain ⟨d12, h0⟩ := de_getfield 18 (by decide) h0
    obtain ⟨d15, h0⟩ := de_arraylength h0
    obtain ⟨d16, h0⟩ := de_icmp_ge (12) (by decide) h0
    refine lv_iload_n hx hb d10 rfl (lv_at hl 0 rfl) ?_
    refine lv_aload_n hx hb d11 rfl (lv_at hl 1 rfl) ?_
    refine x_getR C0 hR hf xcl_4 (Nat.le_of_ble_eq_true rfl) rfl fl_X4_18 d12 (fun a2 hf => ?_)
    refine x_alen C0 hR hf d15 (fun i3 hf => ?_)
    refine lv_icmp_ge (tgt := 28) hx hb d16 (by decide) (fun q => ?_) (fun q => ?_)
    · have hf := x_pos q hf
      exact s_X4_setting_b28 C0 hxt _ _ _ _ hR hS (lv_sub hl [] rfl) hf
    · have hf := x_neg q hf
      have h0 : x_by cX4_setting 19 [42, 180, 0, 18, 29, 46, 167, 0, 4] := by unfold x_by; decide +kernel
      obtain ⟨d19, h0⟩ := de_aload_n0 h0
      obtain ⟨d20, h0⟩ := de_getfield 18 (by decide) h0
      obtain ⟨d23, h0⟩ := de_iload_n3 h0
      obtain ⟨d24, h0⟩ := de_iaload h0
      obtain ⟨d25, h0⟩ := de_goto (4) (by decide) h0
      refine lv_aload_n hx hb d19 rfl (lv_at hl 1 rfl) ?_
      refine x_getR C0 hR hf xcl_4 (Nat.le_of_ble_eq_true rfl) rfl fl_X4_18 d20 (fun a4 hf => ?_)
      refine lv_iload_n hx hb d23 rfl (lv_at hl 0 rfl) ?_
      refine x_iald C0 hR hf d24 (fun i5 hf => ?_)
      refine lv_goto (tgt := 29) hx hb d25 (by decide) ?_
      exact s_X4_setting_b29 C0 hxt _ _ _ _ _ hR hS (lv_sub hl [] rfl) hf
def f_X4_changeSetting_b30  (h : HP)  : Option XR :=
  some (h, xv)
def f_X4_changeSetting (h : HP) (r0 : Nat) (x1 : Int32) (x2 : Int32) (x3 : Int32) : Option XR :=
  x_lI ((x1 * 3) + x2) fun i1 =>
  if i1 < 0 then
    (
      f_X4_changeSetting_b30 h
    )
  else
    (
      x_gR h r0 4 2 fun a2 =>
      x_ln h a2 fun i3 =>
      if i3 ≤ i1 then
        (
          f_X4_changeSetting_b30 h
        )
      else
        (
          x_gR h r0 4 2 fun a4 =>
          x_sI h a4 i1 x3 fun h5 =>
          f_X4_changeSetting_b30 h5
        )
    )
set_option maxRecDepth 100000 in
set_option maxHeartbeats 4000000 in
theorem s_X4_changeSetting_b30 {p : Program} {l : Launch} {e : Env} {s : State} {m : MethodId} {args : Array Value} {below : List Frame} {meth : Method} {c : Code} {E : XE} {z : XR} (C0 : x_C E p l s m meth c args cX4_changeSetting 5 "GridEngine$Model" "changeSetting" none) (hxt : ∀ x ∈ c.exceptionTable.toList, False)  : ∀ (h : HP)  (H : Heap) (locs : List Loc) (ls : Array Slot), x_Rep E h H → va_S (x_A E) s.heap H locs → lv_has ls 5 [] → f_X4_changeSetting_b30 h  = some z → W p l e ({ frames := 8, cells := 0, slots := 0, locals := 130 } : Room) s m args below meth c H locs 0 0 (x_Q E below args s 0 0 z) (F0 m 30 ls []) := by
  intro h  H locs ls hR hS hl hf
  obtain ⟨hx, hb, -⟩ := id C0
  unfold f_X4_changeSetting_b30 at hf
  have h0 : x_by cX4_changeSetting 30 [177] := by unfold x_by; decide +kernel
  obtain ⟨d30, h0⟩ := de_return h0
  exact x_vret C0 hR hS hf (Nat.le_of_ble_eq_true rfl) (Nat.le_of_ble_eq_true rfl) d30
set_option maxRecDepth 100000 in
set_option maxHeartbeats 4000000 in
theorem ct_X4_changeSetting (E : XE) (l : Launch) (hl0 : l.stackTraces = false) (h : HP) (r0 : Nat) (x1 : Int32) (x2 : Int32) (x3 : Int32) : x_ct E l yX4_changeSetting (Cond.code yX4_changeSetting cX4_changeSetting 5 none) 8 130 0 0 [.ref (xa E r0), .int x1, .int x2, .int x3] h (f_X4_changeSetting h r0 x1 x2 x3) := by
  refine x_ofW hl0 (by decide +kernel) ?_
  intro z hf p e s m args below meth c C0 hxt hargs hR
  subst hargs
  have C0 : x_C E p l s m meth c ([.ref (xa E r0), .int x1, .int x2, .int x3] : List Value).toArray cX4_changeSetting 5 "GridEngine$Model" "changeSetting" none := C0
  obtain ⟨hx, hb, -⟩ := id C0
  have hS : va_S (x_A E) s.heap s.heap [] := va_S.rf
  have hl := lv_entry ([.ref (xa E r0), .int x1, .int x2, .int x3]) (n := 5) (Nat.le_of_ble_eq_true rfl)
  rw [lg_entry_eq]
  generalize (lg_sl ([.ref (xa E r0), .int x1, .int x2, .int x3]) ++ List.replicate (5 - (lg_sl ([.ref (xa E r0), .int x1, .int x2, .int x3])).length) Slot.unset).toArray = ls at hl ⊢
  have hl : lv_has ls 5 [(0, .ref (xa E r0)), (1, .int x1), (2, .int x2), (3, .int x3)] := hl
  unfold f_X4_changeSetting at hf
  have h0 : x_by cX4_changeSetting 0 [27, 6, 104, 28, 96, 54, 4, 21, 4, 155, 0, 21] := by unfold x_by; decide +kernel
  obtain ⟨d0, h0⟩ := de_iload_n1 h0
  obtain ⟨d1, h0⟩ := de_iconst_3 h0
  obtain ⟨d2, h0⟩ := de_imul h0
  obtain ⟨d3, h0⟩ := de_iload_n2 h0
  obtain ⟨d4, h0⟩ := de_iadd h0
  obtain ⟨d5, h0⟩ := de_istore h0
  obtain ⟨d7, h0⟩ := de_iload h0
  obtain ⟨d9, h0⟩ := de_if_lt (21) (by decide) h0
  refine lv_iload_n hx hb d0 rfl (lv_at hl 1 rfl) ?_
  refine lv_iconst (v := 3) hx hb d1 (by decide) ?_
  refine lv_imul hx hb d2 ?_
  refine lv_iload_n hx hb d3 rfl (lv_at hl 2 rfl) ?_
  refine lv_iadd hx hb d4 ?_
  refine lv_topi (fun i1 ei1 => ?_)
  have hf := x_lI_el ei1 hf
  refine lv_istore (lv' := [(4, .int i1), (0, .ref (xa E r0)), (1, .int x1), (2, .int x2), (3, .int x3)]) hx hb d5 hl (by decide) rfl (fun ls hl => ?_)
  refine lv_iload hx hb d7 (lv_at hl 0 rfl) ?_
  refine lv_if_lt (tgt := 30) hx hb d9 (by decide) (fun q => ?_) (fun q => ?_)
  · have hf := x_pos q hf
    exact s_X4_changeSetting_b30 C0 hxt _ _ _ _ hR hS (lv_sub hl [] rfl) hf
  · have hf := x_neg q hf
    have h0 : x_by cX4_changeSetting 12 [21, 4, 42, 180, 0, 18, 190, 162, 0, 11] := by unfold x_by; decide +kernel
    obtain ⟨d12, h0⟩ := de_iload h0
    obtain ⟨d14, h0⟩ := de_aload_n0 h0
    obtain ⟨d15, h0⟩ := de_getfield 18 (by decide) h0
    obtain ⟨d18, h0⟩ := de_arraylength h0
    obtain ⟨d19, h0⟩ := de_icmp_ge (11) (by decide) h0
    refine lv_iload hx hb d12 (lv_at hl 0 rfl) ?_
    refine lv_aload_n hx hb d14 rfl (lv_at hl 1 rfl) ?_
    refine x_getR C0 hR hf xcl_4 (Nat.le_of_ble_eq_true rfl) rfl fl_X4_18 d15 (fun a2 hf => ?_)
    refine x_alen C0 hR hf d18 (fun i3 hf => ?_)
    refine lv_icmp_ge (tgt := 30) hx hb d19 (by decide) (fun q => ?_) (fun q => ?_)
    · have hf := x_pos q hf
      exact s_X4_changeSetting_b30 C0 hxt _ _ _ _ hR hS (lv_sub hl [] rfl) hf
    · have hf := x_neg q hf
      have h0 : x_by cX4_changeSetting 22 [42, 180, 0, 18, 21, 4, 29, 79] := by unfold x_by; decide +kernel
      obtain ⟨d22, h0⟩ := de_aload_n0 h0
      obtain ⟨d23, h0⟩ := de_getfield 18 (by decide) h0
      obtain ⟨d26, h0⟩ := de_iload h0
      obtain ⟨d28, h0⟩ := de_iload_n3 h0
      obtain ⟨d29, h0⟩ := de_iastore h0
      refine lv_aload_n hx hb d22 rfl (lv_at hl 1 rfl) ?_
      refine x_getR C0 hR hf xcl_4 (Nat.le_of_ble_eq_true rfl) rfl fl_X4_18 d23 (fun a4 hf => ?_)
      refine lv_iload hx hb d26 (lv_at hl 0 rfl) ?_
      refine lv_iload_n hx hb d28 rfl (lv_at hl 4 rfl) ?_
      refine x_iast C0 hR hS hf d29 (fun H locs hR hS hf => ?_)
      exact s_X4_changeSetting_b30 C0 hxt _ _ _ _ hR hS (lv_sub hl [] rfl) hf
def f_X4_itemField_b37  (h : HP) (t0 : Int32) : Option XR :=
  some (h, xi t0)
def f_X4_itemField_b36  (h : HP)  : Option XR :=
  f_X4_itemField_b37 h 0
def f_X4_itemField (h : HP) (r0 : Nat) (x1 : Int32) (x2 : Int32) (x3 : Int32) : Option XR :=
  x_lI ((((x1 * 2) + x2) * 5) + x3) fun i1 =>
  if i1 < 0 then
    (
      f_X4_itemField_b36 h
    )
  else
    (
      x_gR h r0 4 3 fun a2 =>
      x_ln h a2 fun i3 =>
      if i3 ≤ i1 then
        (
          f_X4_itemField_b36 h
        )
      else
        (
          x_gR h r0 4 3 fun a4 =>
          x_aI h 100 a4 i1 fun i5 =>
          f_X4_itemField_b37 h i5
        )
    )
set_option maxRecDepth 100000 in
set_option maxHeartbeats 4000000 in
theorem s_X4_itemField_b37 {p : Program} {l : Launch} {e : Env} {s : State} {m : MethodId} {args : Array Value} {below : List Frame} {meth : Method} {c : Code} {E : XE} {z : XR} (C0 : x_C E p l s m meth c args cX4_itemField 5 "GridEngine$Model" "itemField" (some .int)) (hxt : ∀ x ∈ c.exceptionTable.toList, False)  : ∀ (h : HP) (t0 : Int32) (H : Heap) (locs : List Loc) (ls : Array Slot), x_Rep E h H → va_S (x_A E) s.heap H locs → lv_has ls 5 [] → f_X4_itemField_b37 h t0 = some z → W p l e ({ frames := 8, cells := 0, slots := 0, locals := 130 } : Room) s m args below meth c H locs 0 0 (x_Q E below args s 0 0 z) (F0 m 37 ls [.int t0]) := by
  intro h t0 H locs ls hR hS hl hf
  obtain ⟨hx, hb, -⟩ := id C0
  unfold f_X4_itemField_b37 at hf
  have h0 : x_by cX4_itemField 37 [172] := by unfold x_by; decide +kernel
  obtain ⟨d37, h0⟩ := de_ireturn h0
  exact x_iret C0 hR hS hf (Nat.le_of_ble_eq_true rfl) (Nat.le_of_ble_eq_true rfl) d37
set_option maxRecDepth 100000 in
set_option maxHeartbeats 4000000 in
theorem s_X4_itemField_b36 {p : Program} {l : Launch} {e : Env} {s : State} {m : MethodId} {args : Array Value} {below : List Frame} {meth : Method} {c : Code} {E : XE} {z : XR} (C0 : x_C E p l s m meth c args cX4_itemField 5 "GridEngine$Model" "itemField" (some .int)) (hxt : ∀ x ∈ c.exceptionTable.toList, False)  : ∀ (h : HP)  (H : Heap) (locs : List Loc) (ls : Array Slot), x_Rep E h H → va_S (x_A E) s.heap H locs → lv_has ls 5 [] → f_X4_itemField_b36 h  = some z → W p l e ({ frames := 8, cells := 0, slots := 0, locals := 130 } : Room) s m args below meth c H locs 0 0 (x_Q E below args s 0 0 z) (F0 m 36 ls []) := by
  intro h  H locs ls hR hS hl hf
  obtain ⟨hx, hb, -⟩ := id C0
  unfold f_X4_itemField_b36 at hf
  have h0 : x_by cX4_itemField 36 [3] := by unfold x_by; decide +kernel
  obtain ⟨d36, h0⟩ := de_iconst_0 h0
  refine lv_iconst (v := 0) hx hb d36 (by decide) ?_
  exact s_X4_itemField_b37 C0 hxt _ _ _ _ _ hR hS (lv_sub hl [] rfl) hf
set_option maxRecDepth 100000 in
set_option maxHeartbeats 4000000 in
theorem ct_X4_itemField (E : XE) (l : Launch) (hl0 : l.stackTraces = false) (h : HP) (r0 : Nat) (x1 : Int32) (x2 : Int32) (x3 : Int32) : x_ct E l yX4_itemField (Cond.code yX4_itemField cX4_itemField 5 (some .int)) 8 130 0 0 [.ref (xa E r0), .int x1, .int x2, .int x3] h (f_X4_itemField h r0 x1 x2 x3) := by
  refine x_ofW hl0 (by decide +kernel) ?_
  intro z hf p e s m args below meth c C0 hxt hargs hR
  subst hargs
  have C0 : x_C E p l s m meth c ([.ref (xa E r0), .int x1, .int x2, .int x3] : List Value).toArray cX4_itemField 5 "GridEngine$Model" "itemField" (some .int) := C0
  obtain ⟨hx, hb, -⟩ := id C0
  have hS : va_S (x_A E) s.heap s.heap [] := va_S.rf
  have hl := lv_entry ([.ref (xa E r0), .int x1, .int x2, .int x3]) (n := 5) (Nat.le_of_ble_eq_true rfl)
  rw [lg_entry_eq]
  generalize (lg_sl ([.ref (xa E r0), .int x1, .int x2, .int x3]) ++ List.replicate (5 - (lg_sl ([.ref (xa E r0), .int x1, .int x2, .int x3])).length) Slot.unset).toArray = ls at hl ⊢
  have hl : lv_has ls 5 [(0, .ref (xa E r0)), (1, .int x1), (2, .int x2), (3, .int x3)] := hl
  unfold f_X4_itemField at hf
  have h0 : x_by cX4_itemField 0 [27, 5, 104, 28, 96, 8, 104, 29, 96, 54, 4, 21, 4, 155, 0, 23] := by unfold x_by; decide +kernel
  obtain ⟨d0, h0⟩ := de_iload_n1 h0
  obtain ⟨d1, h0⟩ := de_iconst_2 h0
  obtain ⟨d2, h0⟩ := de_imul h0
  obtain ⟨d3, h0⟩ := de_iload_n2 h0
  obtain ⟨d4, h0⟩ := de_iadd h0
  obtain ⟨d5, h0⟩ := de_iconst_5 h0
  obtain ⟨d6, h0⟩ := de_imul h0
  obtain ⟨d7, h0⟩ := de_iload_n3 h0
  obtain ⟨d8, h0⟩ := de_iadd h0
  obtain ⟨d9, h0⟩ := de_istore h0
  obtain ⟨d11, h0⟩ := de_iload h0
  obtain ⟨d13, h0⟩ := de_if_lt (23) (by decide) h0
  refine lv_iload_n hx hb d0 rfl (lv_at hl 1 rfl) ?_
  refine lv_iconst (v := 2) hx hb d1 (by decide) ?_
  refine lv_imul hx hb d2 ?_
  refine lv_iload_n hx hb d3 rfl (lv_at hl 2 rfl) ?_
  refine lv_iadd hx hb d4 ?_
  refine lv_iconst (v := 5) hx hb d5 (by decide) ?_
  refine lv_imul hx hb d6 ?_
  refine lv_iload_n hx hb d7 rfl (lv_at hl 3 rfl) ?_
  refine lv_iadd hx hb d8 ?_
  refine lv_topi (fun i1 ei1 => ?_)
  have hf := x_lI_el ei1 hf
  refine lv_istore (lv' := [(4, .int i1), (0, .ref (xa E r0)), (1, .int x1), (2, .int x2), (3, .int x3)]) hx hb d9 hl (by decide) rfl (fun ls hl => ?_)
  refine lv_iload hx hb d11 (lv_at hl 0 rfl) ?_
  refine lv_if_lt (tgt := 36) hx hb d13 (by decide) (fun q => ?_) (fun q => ?_)
  · have hf := x_pos q hf
    exact s_X4_itemField_b36 C0 hxt _ _ _ _ hR hS (lv_sub hl [] rfl) hf
  · have hf := x_neg q hf
    have h0 : x_by cX4_itemField 16 [21, 4, 42, 180, 0, 21, 190, 162, 0, 13] := by unfold x_by; decide +kernel
    obtain ⟨d16, h0⟩ := de_iload h0
    obtain ⟨d18, h0⟩ := de_aload_n0 h0
    obtain ⟨d19, h0⟩ := de_getfield 21 (by decide) h0
    obtain ⟨d22, h0⟩ := de_arraylength h0
    obtain ⟨d23, h0⟩ := de_icmp_ge (13) (by decide) h0
    refine lv_iload hx hb d16 (lv_at hl 0 rfl) ?_
    refine lv_aload_n hx hb d18 rfl (lv_at hl 1 rfl) ?_
    refine x_getR C0 hR hf xcl_4 (Nat.le_of_ble_eq_true rfl) rfl fl_X4_21 d19 (fun a2 hf => ?_)
    refine x_alen C0 hR hf d22 (fun i3 hf => ?_)
    refine lv_icmp_ge (tgt := 36) hx hb d23 (by decide) (fun q => ?_) (fun q => ?_)
    · have hf := x_pos q hf
      exact s_X4_itemField_b36 C0 hxt _ _ _ _ hR hS (lv_sub hl [] rfl) hf
    · have hf := x_neg q hf
      have h0 : x_by cX4_itemField 26 [42, 180, 0, 21, 21, 4, 46, 167, 0, 4] := by unfold x_by; decide +kernel
      obtain ⟨d26, h0⟩ := de_aload_n0 h0
      obtain ⟨d27, h0⟩ := de_getfield 21 (by decide) h0
      obtain ⟨d30, h0⟩ := de_iload h0
      obtain ⟨d32, h0⟩ := de_iaload h0
      obtain ⟨d33, h0⟩ := de_goto (4) (by decide) h0
      refine lv_aload_n hx hb d26 rfl (lv_at hl 1 rfl) ?_
      refine x_getR C0 hR hf xcl_4 (Nat.le_of_ble_eq_true rfl) rfl fl_X4_21 d27 (fun a4 hf => ?_)
      refine lv_iload hx hb d30 (lv_at hl 0 rfl) ?_
      refine x_iald C0 hR hf d32 (fun i5 hf => ?_)
      refine lv_goto (tgt := 37) hx hb d33 (by decide) ?_
      exact s_X4_itemField_b37 C0 hxt _ _ _ _ _ hR hS (lv_sub hl [] rfl) hf
def f_X4_changeItem_b35  (h : HP)  : Option XR :=
  some (h, xv)
def f_X4_changeItem (h : HP) (r0 : Nat) (x1 : Int32) (x2 : Int32) (x3 : Int32) (x4 : Int32) : Option XR :=
  x_lI ((((x1 * 2) + x2) * 5) + x3) fun i1 =>
  if i1 < 0 then
    (
      f_X4_changeItem_b35 h
    )
  else
    (
      x_gR h r0 4 3 fun a2 =>
      x_ln h a2 fun i3 =>
      if i3 ≤ i1 then
        (
          f_X4_changeItem_b35 h
        )
      else
        (
          x_gR h r0 4 3 fun a4 =>
          x_sI h a4 i1 x4 fun h5 =>
          f_X4_changeItem_b35 h5
        )
    )
set_option maxRecDepth 100000 in
set_option maxHeartbeats 4000000 in
theorem s_X4_changeItem_b35 {p : Program} {l : Launch} {e : Env} {s : State} {m : MethodId} {args : Array Value} {below : List Frame} {meth : Method} {c : Code} {E : XE} {z : XR} (C0 : x_C E p l s m meth c args cX4_changeItem 6 "GridEngine$Model" "changeItem" none) (hxt : ∀ x ∈ c.exceptionTable.toList, False)  : ∀ (h : HP)  (H : Heap) (locs : List Loc) (ls : Array Slot), x_Rep E h H → va_S (x_A E) s.heap H locs → lv_has ls 6 [] → f_X4_changeItem_b35 h  = some z → W p l e ({ frames := 8, cells := 0, slots := 0, locals := 130 } : Room) s m args below meth c H locs 0 0 (x_Q E below args s 0 0 z) (F0 m 35 ls []) := by
  intro h  H locs ls hR hS hl hf
  obtain ⟨hx, hb, -⟩ := id C0
  unfold f_X4_changeItem_b35 at hf
  have h0 : x_by cX4_changeItem 35 [177] := by unfold x_by; decide +kernel
  obtain ⟨d35, h0⟩ := de_return h0
  exact x_vret C0 hR hS hf (Nat.le_of_ble_eq_true rfl) (Nat.le_of_ble_eq_true rfl) d35
set_option maxRecDepth 100000 in
set_option maxHeartbeats 4000000 in
theorem ct_X4_changeItem (E : XE) (l : Launch) (hl0 : l.stackTraces = false) (h : HP) (r0 : Nat) (x1 : Int32) (x2 : Int32) (x3 : Int32) (x4 : Int32) : x_ct E l yX4_changeItem (Cond.code yX4_changeItem cX4_changeItem 6 none) 8 130 0 0 [.ref (xa E r0), .int x1, .int x2, .int x3, .int x4] h (f_X4_changeItem h r0 x1 x2 x3 x4) := by
  refine x_ofW hl0 (by decide +kernel) ?_
  intro z hf p e s m args below meth c C0 hxt hargs hR
  subst hargs
  have C0 : x_C E p l s m meth c ([.ref (xa E r0), .int x1, .int x2, .int x3, .int x4] : List Value).toArray cX4_changeItem 6 "GridEngine$Model" "changeItem" none := C0
  obtain ⟨hx, hb, -⟩ := id C0
  have hS : va_S (x_A E) s.heap s.heap [] := va_S.rf
  have hl := lv_entry ([.ref (xa E r0), .int x1, .int x2, .int x3, .int x4]) (n := 6) (Nat.le_of_ble_eq_true rfl)
  rw [lg_entry_eq]
  generalize (lg_sl ([.ref (xa E r0), .int x1, .int x2, .int x3, .int x4]) ++ List.replicate (6 - (lg_sl ([.ref (xa E r0), .int x1, .int x2, .int x3, .int x4])).length) Slot.unset).toArray = ls at hl ⊢
  have hl : lv_has ls 6 [(0, .ref (xa E r0)), (1, .int x1), (2, .int x2), (3, .int x3), (4, .int x4)] := hl
  unfold f_X4_changeItem at hf
  have h0 : x_by cX4_changeItem 0 [27, 5, 104, 28, 96, 8, 104, 29, 96, 54, 5, 21, 5, 155, 0, 22] := by unfold x_by; decide +kernel
  obtain ⟨d0, h0⟩ := de_iload_n1 h0
  obtain ⟨d1, h0⟩ := de_iconst_2 h0
  obtain ⟨d2, h0⟩ := de_imul h0
  obtain ⟨d3, h0⟩ := de_iload_n2 h0
  obtain ⟨d4, h0⟩ := de_iadd h0
  obtain ⟨d5, h0⟩ := de_iconst_5 h0
  obtain ⟨d6, h0⟩ := de_imul h0
  obtain ⟨d7, h0⟩ := de_iload_n3 h0
  obtain ⟨d8, h0⟩ := de_iadd h0
  obtain ⟨d9, h0⟩ := de_istore h0
  obtain ⟨d11, h0⟩ := de_iload h0
  obtain ⟨d13, h0⟩ := de_if_lt (22) (by decide) h0
  refine lv_iload_n hx hb d0 rfl (lv_at hl 1 rfl) ?_
  refine lv_iconst (v := 2) hx hb d1 (by decide) ?_
  refine lv_imul hx hb d2 ?_
  refine lv_iload_n hx hb d3 rfl (lv_at hl 2 rfl) ?_
  refine lv_iadd hx hb d4 ?_
  refine lv_iconst (v := 5) hx hb d5 (by decide) ?_
  refine lv_imul hx hb d6 ?_
  refine lv_iload_n hx hb d7 rfl (lv_at hl 3 rfl) ?_
  refine lv_iadd hx hb d8 ?_
  refine lv_topi (fun i1 ei1 => ?_)
  have hf := x_lI_el ei1 hf
  refine lv_istore (lv' := [(5, .int i1), (0, .ref (xa E r0)), (1, .int x1), (2, .int x2), (3, .int x3), (4, .int x4)]) hx hb d9 hl (by decide) rfl (fun ls hl => ?_)
  refine lv_iload hx hb d11 (lv_at hl 0 rfl) ?_
  refine lv_if_lt (tgt := 35) hx hb d13 (by decide) (fun q => ?_) (fun q => ?_)
  · have hf := x_pos q hf
    exact s_X4_changeItem_b35 C0 hxt _ _ _ _ hR hS (lv_sub hl [] rfl) hf
  · have hf := x_neg q hf
    have h0 : x_by cX4_changeItem 16 [21, 5, 42, 180, 0, 21, 190, 162, 0, 12] := by unfold x_by; decide +kernel
    obtain ⟨d16, h0⟩ := de_iload h0
    obtain ⟨d18, h0⟩ := de_aload_n0 h0
    obtain ⟨d19, h0⟩ := de_getfield 21 (by decide) h0
    obtain ⟨d22, h0⟩ := de_arraylength h0
    obtain ⟨d23, h0⟩ := de_icmp_ge (12) (by decide) h0
    refine lv_iload hx hb d16 (lv_at hl 0 rfl) ?_
    refine lv_aload_n hx hb d18 rfl (lv_at hl 1 rfl) ?_
    refine x_getR C0 hR hf xcl_4 (Nat.le_of_ble_eq_true rfl) rfl fl_X4_21 d19 (fun a2 hf => ?_)
    refine x_alen C0 hR hf d22 (fun i3 hf => ?_)
    refine lv_icmp_ge (tgt := 35) hx hb d23 (by decide) (fun q => ?_) (fun q => ?_)
    · have hf := x_pos q hf
      exact s_X4_changeItem_b35 C0 hxt _ _ _ _ hR hS (lv_sub hl [] rfl) hf
    · have hf := x_neg q hf
      have h0 : x_by cX4_changeItem 26 [42, 180, 0, 21, 21, 5, 21, 4, 79] := by unfold x_by; decide +kernel
      obtain ⟨d26, h0⟩ := de_aload_n0 h0
      obtain ⟨d27, h0⟩ := de_getfield 21 (by decide) h0
      obtain ⟨d30, h0⟩ := de_iload h0
      obtain ⟨d32, h0⟩ := de_iload h0
      obtain ⟨d34, h0⟩ := de_iastore h0
      refine lv_aload_n hx hb d26 rfl (lv_at hl 1 rfl) ?_
      refine x_getR C0 hR hf xcl_4 (Nat.le_of_ble_eq_true rfl) rfl fl_X4_21 d27 (fun a4 hf => ?_)
      refine lv_iload hx hb d30 (lv_at hl 0 rfl) ?_
      refine lv_iload hx hb d32 (lv_at hl 5 rfl) ?_
      refine x_iast C0 hR hS hf d34 (fun H locs hR hS hf => ?_)
      exact s_X4_changeItem_b35 C0 hxt _ _ _ _ hR hS (lv_sub hl [] rfl) hf
def f_X4_startItem (h : HP) (r0 : Nat) (x1 : Int32) (x2 : Int32) (x3 : Int32) (x4 : Int32) : Option XR :=
  x_rc h r0 4 <| x_cV (f_X4_changeItem h r0 x1 x2 0 x3) fun h1 =>
  x_rc h1 r0 4 <| x_cV (f_X4_changeItem h1 r0 x1 x2 1 x4) fun h2 =>
  x_rc h2 r0 4 <| x_cV (f_X4_changeItem h2 r0 x1 x2 2 (-1)) fun h3 =>
  x_rc h3 r0 4 <| x_cV (f_X4_changeItem h3 r0 x1 x2 3 1) fun h4 =>
  x_rc h4 r0 4 <| x_cV (f_X4_changeItem h4 r0 x1 x2 4 0) fun h5 =>
  some (h5, xv)
set_option maxRecDepth 100000 in
set_option maxHeartbeats 4000000 in
theorem ct_X4_startItem (E : XE) (l : Launch) (hl0 : l.stackTraces = false) (h : HP) (r0 : Nat) (x1 : Int32) (x2 : Int32) (x3 : Int32) (x4 : Int32) : x_ct E l yX4_startItem (Cond.code yX4_startItem cX4_startItem 5 none) 9 155 0 0 [.ref (xa E r0), .int x1, .int x2, .int x3, .int x4] h (f_X4_startItem h r0 x1 x2 x3 x4) := by
  refine x_ofW hl0 (by decide +kernel) ?_
  intro z hf p e s m args below meth c C0 hxt hargs hR
  subst hargs
  have C0 : x_C E p l s m meth c ([.ref (xa E r0), .int x1, .int x2, .int x3, .int x4] : List Value).toArray cX4_startItem 5 "GridEngine$Model" "startItem" none := C0
  obtain ⟨hx, hb, -⟩ := id C0
  have hS : va_S (x_A E) s.heap s.heap [] := va_S.rf
  have hl := lv_entry ([.ref (xa E r0), .int x1, .int x2, .int x3, .int x4]) (n := 5) (Nat.le_of_ble_eq_true rfl)
  rw [lg_entry_eq]
  generalize (lg_sl ([.ref (xa E r0), .int x1, .int x2, .int x3, .int x4]) ++ List.replicate (5 - (lg_sl ([.ref (xa E r0), .int x1, .int x2, .int x3, .int x4])).length) Slot.unset).toArray = ls at hl ⊢
  have hl : lv_has ls 5 [(0, .ref (xa E r0)), (1, .int x1), (2, .int x2), (3, .int x3), (4, .int x4)] := hl
  unfold f_X4_startItem at hf
  have h0 : x_by cX4_startItem 0 [42, 27, 28, 3, 29, 182, 0, 58, 42, 27, 28, 4, 21, 4, 182, 0, 58, 42, 27, 28, 5, 2, 182, 0, 58, 42, 27, 28, 6, 4, 182, 0, 58, 42, 27, 28, 7, 3, 182, 0, 58, 177] := by unfold x_by; decide +kernel
  obtain ⟨d0, h0⟩ := de_aload_n0 h0
  obtain ⟨d1, h0⟩ := de_iload_n1 h0
  obtain ⟨d2, h0⟩ := de_iload_n2 h0
  obtain ⟨d3, h0⟩ := de_iconst_0 h0
  obtain ⟨d4, h0⟩ := de_iload_n3 h0
  obtain ⟨d5, h0⟩ := de_invokevirtual 58 (by decide) h0
  obtain ⟨d8, h0⟩ := de_aload_n0 h0
  obtain ⟨d9, h0⟩ := de_iload_n1 h0
  obtain ⟨d10, h0⟩ := de_iload_n2 h0
  obtain ⟨d11, h0⟩ := de_iconst_1 h0
  obtain ⟨d12, h0⟩ := de_iload h0
  obtain ⟨d14, h0⟩ := de_invokevirtual 58 (by decide) h0
  obtain ⟨d17, h0⟩ := de_aload_n0 h0
  obtain ⟨d18, h0⟩ := de_iload_n1 h0
  obtain ⟨d19, h0⟩ := de_iload_n2 h0
  obtain ⟨d20, h0⟩ := de_iconst_2 h0
  obtain ⟨d21, h0⟩ := de_iconst_m1 h0
  obtain ⟨d22, h0⟩ := de_invokevirtual 58 (by decide) h0
  obtain ⟨d25, h0⟩ := de_aload_n0 h0
  obtain ⟨d26, h0⟩ := de_iload_n1 h0
  obtain ⟨d27, h0⟩ := de_iload_n2 h0
  obtain ⟨d28, h0⟩ := de_iconst_3 h0
  obtain ⟨d29, h0⟩ := de_iconst_1 h0
  obtain ⟨d30, h0⟩ := de_invokevirtual 58 (by decide) h0
  obtain ⟨d33, h0⟩ := de_aload_n0 h0
  obtain ⟨d34, h0⟩ := de_iload_n1 h0
  obtain ⟨d35, h0⟩ := de_iload_n2 h0
  obtain ⟨d36, h0⟩ := de_iconst_4 h0
  obtain ⟨d37, h0⟩ := de_iconst_0 h0
  obtain ⟨d38, h0⟩ := de_invokevirtual 58 (by decide) h0
  obtain ⟨d41, h0⟩ := de_return h0
  refine lv_aload_n hx hb d0 rfl (lv_at hl 0 rfl) ?_
  refine lv_iload_n hx hb d1 rfl (lv_at hl 1 rfl) ?_
  refine lv_iload_n hx hb d2 rfl (lv_at hl 2 rfl) ?_
  refine lv_iconst (v := 0) hx hb d3 (by decide) ?_
  refine lv_iload_n hx hb d4 rfl (lv_at hl 3 rfl) ?_
  obtain ⟨hs9, hf⟩ := x_if hf
  refine x_thenV C0 hxt hS hf (fun z0 e0 => x_runV C0 hR hS me_X4_changeItem wi_X4_changeItem wl_X4_changeItem ml_X4_58 hs9 xcl_4 (As := [.int x1, .int x2, .int 0, .int x3]) (ct_X4_changeItem E l C0.2.2.2.2.2.2.2.1 _ r0 x1 x2 0 x3) rfl rfl hl.1 (Nat.le_of_ble_eq_true rfl) d5 ⟨(Nat.le_of_ble_eq_true rfl), (Nat.le_of_ble_eq_true rfl)⟩ ⟨(Nat.le_of_ble_eq_true rfl), (Nat.le_of_ble_eq_true rfl)⟩ e0) (Nat.le_of_ble_eq_true rfl) (Nat.le_of_ble_eq_true rfl) (fun h9 H locs hR hS hf => ?_)
  refine lv_aload_n hx hb d8 rfl (lv_at hl 0 rfl) ?_
  refine lv_iload_n hx hb d9 rfl (lv_at hl 1 rfl) ?_
  refine lv_iload_n hx hb d10 rfl (lv_at hl 2 rfl) ?_
  refine lv_iconst (v := 1) hx hb d11 (by decide) ?_
  refine lv_iload hx hb d12 (lv_at hl 4 rfl) ?_
  obtain ⟨hs9, hf⟩ := x_if hf
  refine x_thenV C0 hxt hS hf (fun z0 e0 => x_runV C0 hR hS me_X4_changeItem wi_X4_changeItem wl_X4_changeItem ml_X4_58 hs9 xcl_4 (As := [.int x1, .int x2, .int 1, .int x4]) (ct_X4_changeItem E l C0.2.2.2.2.2.2.2.1 _ r0 x1 x2 1 x4) rfl rfl hl.1 (Nat.le_of_ble_eq_true rfl) d14 ⟨(Nat.le_of_ble_eq_true rfl), (Nat.le_of_ble_eq_true rfl)⟩ ⟨(Nat.le_of_ble_eq_true rfl), (Nat.le_of_ble_eq_true rfl)⟩ e0) (Nat.le_of_ble_eq_true rfl) (Nat.le_of_ble_eq_true rfl) (fun h9 H locs hR hS hf => ?_)
  refine lv_aload_n hx hb d17 rfl (lv_at hl 0 rfl) ?_
  refine lv_iload_n hx hb d18 rfl (lv_at hl 1 rfl) ?_
  refine lv_iload_n hx hb d19 rfl (lv_at hl 2 rfl) ?_
  refine lv_iconst (v := 2) hx hb d20 (by decide) ?_
  refine lv_iconst (v := -1) hx hb d21 (by decide) ?_
  obtain ⟨hs9, hf⟩ := x_if hf
  refine x_thenV C0 hxt hS hf (fun z0 e0 => x_runV C0 hR hS me_X4_changeItem wi_X4_changeItem wl_X4_changeItem ml_X4_58 hs9 xcl_4 (As := [.int x1, .int x2, .int 2, .int (-1)]) (ct_X4_changeItem E l C0.2.2.2.2.2.2.2.1 _ r0 x1 x2 2 (-1)) rfl rfl hl.1 (Nat.le_of_ble_eq_true rfl) d22 ⟨(Nat.le_of_ble_eq_true rfl), (Nat.le_of_ble_eq_true rfl)⟩ ⟨(Nat.le_of_ble_eq_true rfl), (Nat.le_of_ble_eq_true rfl)⟩ e0) (Nat.le_of_ble_eq_true rfl) (Nat.le_of_ble_eq_true rfl) (fun h9 H locs hR hS hf => ?_)
  refine lv_aload_n hx hb d25 rfl (lv_at hl 0 rfl) ?_
  refine lv_iload_n hx hb d26 rfl (lv_at hl 1 rfl) ?_
  refine lv_iload_n hx hb d27 rfl (lv_at hl 2 rfl) ?_
  refine lv_iconst (v := 3) hx hb d28 (by decide) ?_
  refine lv_iconst (v := 1) hx hb d29 (by decide) ?_
  obtain ⟨hs9, hf⟩ := x_if hf
  refine x_thenV C0 hxt hS hf (fun z0 e0 => x_runV C0 hR hS me_X4_changeItem wi_X4_changeItem wl_X4_changeItem ml_X4_58 hs9 xcl_4 (As := [.int x1, .int x2, .int 3, .int 1]) (ct_X4_changeItem E l C0.2.2.2.2.2.2.2.1 _ r0 x1 x2 3 1) rfl rfl hl.1 (Nat.le_of_ble_eq_true rfl) d30 ⟨(Nat.le_of_ble_eq_true rfl), (Nat.le_of_ble_eq_true rfl)⟩ ⟨(Nat.le_of_ble_eq_true rfl), (Nat.le_of_ble_eq_true rfl)⟩ e0) (Nat.le_of_ble_eq_true rfl) (Nat.le_of_ble_eq_true rfl) (fun h9 H locs hR hS hf => ?_)
  refine lv_aload_n hx hb d33 rfl (lv_at hl 0 rfl) ?_
  refine lv_iload_n hx hb d34 rfl (lv_at hl 1 rfl) ?_
  refine lv_iload_n hx hb d35 rfl (lv_at hl 2 rfl) ?_
  refine lv_iconst (v := 4) hx hb d36 (by decide) ?_
  refine lv_iconst (v := 0) hx hb d37 (by decide) ?_
  obtain ⟨hs9, hf⟩ := x_if hf
  refine x_thenV C0 hxt hS hf (fun z0 e0 => x_runV C0 hR hS me_X4_changeItem wi_X4_changeItem wl_X4_changeItem ml_X4_58 hs9 xcl_4 (As := [.int x1, .int x2, .int 4, .int 0]) (ct_X4_changeItem E l C0.2.2.2.2.2.2.2.1 _ r0 x1 x2 4 0) rfl rfl hl.1 (Nat.le_of_ble_eq_true rfl) d38 ⟨(Nat.le_of_ble_eq_true rfl), (Nat.le_of_ble_eq_true rfl)⟩ ⟨(Nat.le_of_ble_eq_true rfl), (Nat.le_of_ble_eq_true rfl)⟩ e0) (Nat.le_of_ble_eq_true rfl) (Nat.le_of_ble_eq_true rfl) (fun h9 H locs hR hS hf => ?_)
  exact x_vret C0 hR hS hf (Nat.le_of_ble_eq_true rfl) (Nat.le_of_ble_eq_true rfl) d41
def f_X4_dropItem_b24  (h : HP)  : Option XR :=
  some (h, xv)
def f_X4_dropItem (h : HP) (r0 : Nat) (x1 : Int32) : Option XR :=
  if x1 < 0 then
    (
      f_X4_dropItem_b24 h
    )
  else
    (
      x_gI h r0 4 4 fun i1 =>
      if i1 ≤ x1 then
        (
          f_X4_dropItem_b24 h
        )
      else
        (
          x_gI h r0 4 4 fun i2 =>
          if i2 ≤ 12 then
            (
              x_gI h r0 4 4 fun i3 =>
              x_lI (((i3 - 1) - x1) * 10) fun i4 =>
              x_gR h r0 4 3 fun a5 =>
              x_gR h r0 4 3 fun a6 =>
              x_cp h a5 ((x1 + 1) * 10) a6 (x1 * 10) i4 fun h7 =>
              x_gI h7 r0 4 4 fun i8 =>
              x_pI h7 r0 4 4 (i8 - 1) fun h9 =>
              some (h9, xv)
            )
          else
            (
              f_X4_dropItem_b24 h
            )
        )
    )
set_option maxRecDepth 100000 in
set_option maxHeartbeats 4000000 in
theorem s_X4_dropItem_b24 {p : Program} {l : Launch} {e : Env} {s : State} {m : MethodId} {args : Array Value} {below : List Frame} {meth : Method} {c : Code} {E : XE} {z : XR} (C0 : x_C E p l s m meth c args cX4_dropItem 4 "GridEngine$Model" "dropItem" none) (hxt : ∀ x ∈ c.exceptionTable.toList, False)  : ∀ (h : HP)  (H : Heap) (locs : List Loc) (ls : Array Slot), x_Rep E h H → va_S (x_A E) s.heap H locs → lv_has ls 4 [] → f_X4_dropItem_b24 h  = some z → W p l e ({ frames := 8, cells := 0, slots := 0, locals := 130 } : Room) s m args below meth c H locs 0 0 (x_Q E below args s 0 0 z) (F0 m 24 ls []) := by
  intro h  H locs ls hR hS hl hf
  obtain ⟨hx, hb, -⟩ := id C0
  unfold f_X4_dropItem_b24 at hf
  have h0 : x_by cX4_dropItem 24 [177] := by unfold x_by; decide +kernel
  obtain ⟨d24, h0⟩ := de_return h0
  exact x_vret C0 hR hS hf (Nat.le_of_ble_eq_true rfl) (Nat.le_of_ble_eq_true rfl) d24
set_option maxRecDepth 100000 in
set_option maxHeartbeats 4000000 in
theorem ct_X4_dropItem (E : XE) (l : Launch) (hl0 : l.stackTraces = false) (h : HP) (r0 : Nat) (x1 : Int32) : x_ct E l yX4_dropItem (Cond.code yX4_dropItem cX4_dropItem 4 none) 8 130 0 0 [.ref (xa E r0), .int x1] h (f_X4_dropItem h r0 x1) := by
  refine x_ofW hl0 (by decide +kernel) ?_
  intro z hf p e s m args below meth c C0 hxt hargs hR
  subst hargs
  have C0 : x_C E p l s m meth c ([.ref (xa E r0), .int x1] : List Value).toArray cX4_dropItem 4 "GridEngine$Model" "dropItem" none := C0
  obtain ⟨hx, hb, -⟩ := id C0
  have hS : va_S (x_A E) s.heap s.heap [] := va_S.rf
  have hl := lv_entry ([.ref (xa E r0), .int x1]) (n := 4) (Nat.le_of_ble_eq_true rfl)
  rw [lg_entry_eq]
  generalize (lg_sl ([.ref (xa E r0), .int x1]) ++ List.replicate (4 - (lg_sl ([.ref (xa E r0), .int x1])).length) Slot.unset).toArray = ls at hl ⊢
  have hl : lv_has ls 4 [(0, .ref (xa E r0)), (1, .int x1)] := hl
  unfold f_X4_dropItem at hf
  have h0 : x_by cX4_dropItem 0 [16, 10, 61, 27, 155, 0, 20] := by unfold x_by; decide +kernel
  obtain ⟨d0, h0⟩ := de_bipush (10) (by decide) h0
  obtain ⟨d2, h0⟩ := de_istore_n2 h0
  obtain ⟨d3, h0⟩ := de_iload_n1 h0
  obtain ⟨d4, h0⟩ := de_if_lt (20) (by decide) h0
  refine lv_bipush (v := 10) hx hb d0 (by decide) ?_
  refine lv_istore_n (lv' := [(2, .int 10), (0, .ref (xa E r0)), (1, .int x1)]) hx hb d2 rfl hl (by decide) rfl (fun ls hl => ?_)
  refine lv_iload_n hx hb d3 rfl (lv_at hl 2 rfl) ?_
  refine lv_if_lt (tgt := 24) hx hb d4 (by decide) (fun q => ?_) (fun q => ?_)
  · have hf := x_pos q hf
    exact s_X4_dropItem_b24 C0 hxt _ _ _ _ hR hS (lv_sub hl [] rfl) hf
  · have hf := x_neg q hf
    have h0 : x_by cX4_dropItem 7 [27, 42, 180, 0, 24, 162, 0, 12] := by unfold x_by; decide +kernel
    obtain ⟨d7, h0⟩ := de_iload_n1 h0
    obtain ⟨d8, h0⟩ := de_aload_n0 h0
    obtain ⟨d9, h0⟩ := de_getfield 24 (by decide) h0
    obtain ⟨d12, h0⟩ := de_icmp_ge (12) (by decide) h0
    refine lv_iload_n hx hb d7 rfl (lv_at hl 2 rfl) ?_
    refine lv_aload_n hx hb d8 rfl (lv_at hl 1 rfl) ?_
    refine x_getI C0 hR hf xcl_4 (Nat.le_of_ble_eq_true rfl) rfl fl_X4_24 d9 (fun i1 hf => ?_)
    refine lv_icmp_ge (tgt := 24) hx hb d12 (by decide) (fun q => ?_) (fun q => ?_)
    · have hf := x_pos q hf
      exact s_X4_dropItem_b24 C0 hxt _ _ _ _ hR hS (lv_sub hl [] rfl) hf
    · have hf := x_neg q hf
      have h0 : x_by cX4_dropItem 15 [42, 180, 0, 24, 16, 12, 164, 0, 4] := by unfold x_by; decide +kernel
      obtain ⟨d15, h0⟩ := de_aload_n0 h0
      obtain ⟨d16, h0⟩ := de_getfield 24 (by decide) h0
      obtain ⟨d19, h0⟩ := de_bipush (12) (by decide) h0
      obtain ⟨d21, h0⟩ := de_icmp_le (4) (by decide) h0
      refine lv_aload_n hx hb d15 rfl (lv_at hl 1 rfl) ?_
      refine x_getI C0 hR hf xcl_4 (Nat.le_of_ble_eq_true rfl) rfl fl_X4_24 d16 (fun i2 hf => ?_)
      refine lv_bipush (v := 12) hx hb d19 (by decide) ?_
      refine lv_icmp_le (tgt := 25) hx hb d21 (by decide) (fun q => ?_) (fun q => ?_)
      · have hf := x_pos q hf
        have h0 : x_by cX4_dropItem 25 [42, 180, 0, 24, 4, 100, 27, 100, 28, 104, 62, 42, 180, 0, 21, 27, 4, 96, 28, 104, 42, 180, 0, 21, 27, 28, 104, 29, 184, 0, 35, 42, 89, 180, 0, 24, 4, 100, 181, 0, 24, 177] := by unfold x_by; decide +kernel
        obtain ⟨d25, h0⟩ := de_aload_n0 h0
        obtain ⟨d26, h0⟩ := de_getfield 24 (by decide) h0
        obtain ⟨d29, h0⟩ := de_iconst_1 h0
        obtain ⟨d30, h0⟩ := de_isub h0
        obtain ⟨d31, h0⟩ := de_iload_n1 h0
        obtain ⟨d32, h0⟩ := de_isub h0
        obtain ⟨d33, h0⟩ := de_iload_n2 h0
        obtain ⟨d34, h0⟩ := de_imul h0
        obtain ⟨d35, h0⟩ := de_istore_n3 h0
        obtain ⟨d36, h0⟩ := de_aload_n0 h0
        obtain ⟨d37, h0⟩ := de_getfield 21 (by decide) h0
        obtain ⟨d40, h0⟩ := de_iload_n1 h0
        obtain ⟨d41, h0⟩ := de_iconst_1 h0
        obtain ⟨d42, h0⟩ := de_iadd h0
        obtain ⟨d43, h0⟩ := de_iload_n2 h0
        obtain ⟨d44, h0⟩ := de_imul h0
        obtain ⟨d45, h0⟩ := de_aload_n0 h0
        obtain ⟨d46, h0⟩ := de_getfield 21 (by decide) h0
        obtain ⟨d49, h0⟩ := de_iload_n1 h0
        obtain ⟨d50, h0⟩ := de_iload_n2 h0
        obtain ⟨d51, h0⟩ := de_imul h0
        obtain ⟨d52, h0⟩ := de_iload_n3 h0
        obtain ⟨d53, h0⟩ := de_invokestatic 35 (by decide) h0
        obtain ⟨d56, h0⟩ := de_aload_n0 h0
        obtain ⟨d57, h0⟩ := de_dup h0
        obtain ⟨d58, h0⟩ := de_getfield 24 (by decide) h0
        obtain ⟨d61, h0⟩ := de_iconst_1 h0
        obtain ⟨d62, h0⟩ := de_isub h0
        obtain ⟨d63, h0⟩ := de_putfield 24 (by decide) h0
        obtain ⟨d66, h0⟩ := de_return h0
        refine lv_aload_n hx hb d25 rfl (lv_at hl 1 rfl) ?_
        refine x_getI C0 hR hf xcl_4 (Nat.le_of_ble_eq_true rfl) rfl fl_X4_24 d26 (fun i3 hf => ?_)
        refine lv_iconst (v := 1) hx hb d29 (by decide) ?_
        refine lv_isub hx hb d30 ?_
        refine lv_iload_n hx hb d31 rfl (lv_at hl 2 rfl) ?_
        refine lv_isub hx hb d32 ?_
        refine lv_iload_n hx hb d33 rfl (lv_at hl 0 rfl) ?_
        refine lv_imul hx hb d34 ?_
        refine lv_topi (fun i4 ei4 => ?_)
        have hf := x_lI_el ei4 hf
        refine lv_istore_n (lv' := [(3, .int i4), (2, .int 10), (0, .ref (xa E r0)), (1, .int x1)]) hx hb d35 rfl hl (by decide) rfl (fun ls hl => ?_)
        refine lv_aload_n hx hb d36 rfl (lv_at hl 2 rfl) ?_
        refine x_getR C0 hR hf xcl_4 (Nat.le_of_ble_eq_true rfl) rfl fl_X4_21 d37 (fun a5 hf => ?_)
        refine lv_iload_n hx hb d40 rfl (lv_at hl 3 rfl) ?_
        refine lv_iconst (v := 1) hx hb d41 (by decide) ?_
        refine lv_iadd hx hb d42 ?_
        refine lv_iload_n hx hb d43 rfl (lv_at hl 1 rfl) ?_
        refine lv_imul hx hb d44 ?_
        refine lv_aload_n hx hb d45 rfl (lv_at hl 2 rfl) ?_
        refine x_getR C0 hR hf xcl_4 (Nat.le_of_ble_eq_true rfl) rfl fl_X4_21 d46 (fun a6 hf => ?_)
        refine lv_iload_n hx hb d49 rfl (lv_at hl 3 rfl) ?_
        refine lv_iload_n hx hb d50 rfl (lv_at hl 1 rfl) ?_
        refine lv_imul hx hb d51 ?_
        refine lv_iload_n hx hb d52 rfl (lv_at hl 0 rfl) ?_
        refine x_acopy C0 hR hS hl.1 hf ml_X4_35 lib_acopy (Nat.le_of_ble_eq_true rfl) (Nat.le_of_ble_eq_true rfl) d53 (fun H locs hR hS hf => ?_)
        refine lv_aload_n hx hb d56 rfl (lv_at hl 2 rfl) ?_
        refine lv_dup hx hb d57 rfl ?_
        refine x_getI C0 hR hf xcl_4 (Nat.le_of_ble_eq_true rfl) rfl fl_X4_24 d58 (fun i8 hf => ?_)
        refine lv_iconst (v := 1) hx hb d61 (by decide) ?_
        refine lv_isub hx hb d62 ?_
        refine x_putI C0 hR hS hf xcl_4 (Nat.le_of_ble_eq_true rfl) rfl fl_X4_24 (Or.inl rfl) d63 (fun H locs hR hS hf => ?_)
        exact x_vret C0 hR hS hf (Nat.le_of_ble_eq_true rfl) (Nat.le_of_ble_eq_true rfl) d66
      · have hf := x_neg q hf
        exact s_X4_dropItem_b24 C0 hxt _ _ _ _ hR hS (lv_sub hl [] rfl) hf
def f_X4_swapItems_b10 (k2 : HP → Nat → Int32 → Int32 → Int32 → Option XR) (k10 : HP → Nat → Int32 → Int32 → Int32 → Int32 → Option XR) (h : HP) (r0 : Nat) (x1 : Int32) (x2 : Int32) (x3 : Int32) (x4 : Int32) : Option XR :=
  if 5 ≤ x4 then
    (
      k2 h r0 x1 x2 (x3 + 1)
    )
  else
    (
      x_rc h r0 4 <| x_cI (f_X4_itemField h r0 x1 x3 x4) fun h2 i1 =>
      x_rc h2 r0 4 <| x_cI (f_X4_itemField h2 r0 x2 x3 x4) fun h4 i3 =>
      x_rc h4 r0 4 <| x_cV (f_X4_changeItem h4 r0 x1 x3 x4 i3) fun h5 =>
      x_rc h5 r0 4 <| x_cV (f_X4_changeItem h5 r0 x2 x3 x4 i1) fun h6 =>
      k10 h6 r0 x1 x2 x3 (x4 + 1)
    )
def f_X4_swapItems_L10 (k2 : HP → Nat → Int32 → Int32 → Int32 → Option XR) : Nat → HP → Nat → Int32 → Int32 → Int32 → Int32 → Option XR
  | 0 => fun _ _ _ _ _ _ => none
  | n + 1 => f_X4_swapItems_b10 k2 (f_X4_swapItems_L10 k2 n)
def f_X4_swapItems_b2 (k2 : HP → Nat → Int32 → Int32 → Int32 → Option XR) (h : HP) (r0 : Nat) (x1 : Int32) (x2 : Int32) (x3 : Int32) : Option XR :=
  if 2 ≤ x3 then
    (
      some (h, xv)
    )
  else
    (
      f_X4_swapItems_L10 k2 FU h r0 x1 x2 x3 0
    )
def f_X4_swapItems_L2  : Nat → HP → Nat → Int32 → Int32 → Int32 → Option XR
  | 0 => fun _ _ _ _ _ => none
  | n + 1 => f_X4_swapItems_b2 (f_X4_swapItems_L2 n)
def f_X4_swapItems (h : HP) (r0 : Nat) (x1 : Int32) (x2 : Int32) : Option XR :=
  f_X4_swapItems_L2 FU h r0 x1 x2 0
set_option maxRecDepth 100000 in
set_option maxHeartbeats 4000000 in
theorem s_X4_swapItems_b10 {p : Program} {l : Launch} {e : Env} {s : State} {m : MethodId} {args : Array Value} {below : List Frame} {meth : Method} {c : Code} {E : XE} {z : XR} (C0 : x_C E p l s m meth c args cX4_swapItems 6 "GridEngine$Model" "swapItems" none) (hxt : ∀ x ∈ c.exceptionTable.toList, False) {k2 : HP → Nat → Int32 → Int32 → Int32 → Option XR} (hk2 : ∀ (h : HP) (r0 : Nat) (x1 : Int32) (x2 : Int32) (x3 : Int32) (H : Heap) (locs : List Loc) (ls : Array Slot), x_Rep E h H → va_S (x_A E) s.heap H locs → lv_has ls 6 [(0, .ref (xa E r0)), (1, .int x1), (2, .int x2), (3, .int x3)] → k2 h r0 x1 x2 x3 = some z → W p l e ({ frames := 9, cells := 0, slots := 0, locals := 155 } : Room) s m args below meth c H locs 0 0 (x_Q E below args s 0 0 z) (F0 m 2 ls [])) {k10 : HP → Nat → Int32 → Int32 → Int32 → Int32 → Option XR} (hk10 : ∀ (h : HP) (r0 : Nat) (x1 : Int32) (x2 : Int32) (x3 : Int32) (x4 : Int32) (H : Heap) (locs : List Loc) (ls : Array Slot), x_Rep E h H → va_S (x_A E) s.heap H locs → lv_has ls 6 [(0, .ref (xa E r0)), (1, .int x1), (2, .int x2), (3, .int x3), (4, .int x4)] → k10 h r0 x1 x2 x3 x4 = some z → W p l e ({ frames := 9, cells := 0, slots := 0, locals := 155 } : Room) s m args below meth c H locs 0 0 (x_Q E below args s 0 0 z) (F0 m 10 ls [])) : ∀ (h : HP) (r0 : Nat) (x1 : Int32) (x2 : Int32) (x3 : Int32) (x4 : Int32) (H : Heap) (locs : List Loc) (ls : Array Slot), x_Rep E h H → va_S (x_A E) s.heap H locs → lv_has ls 6 [(0, .ref (xa E r0)), (1, .int x1), (2, .int x2), (3, .int x3), (4, .int x4)] → f_X4_swapItems_b10 k2 k10 h r0 x1 x2 x3 x4 = some z → W p l e ({ frames := 9, cells := 0, slots := 0, locals := 155 } : Room) s m args below meth c H locs 0 0 (x_Q E below args s 0 0 z) (F0 m 10 ls []) := by
  intro h r0 x1 x2 x3 x4 H locs ls hR hS hl hf
  obtain ⟨hx, hb, -⟩ := id C0
  unfold f_X4_swapItems_b10 at hf
  have h0 : x_by cX4_swapItems 10 [21, 4, 8, 162, 0, 45] := by unfold x_by; decide +kernel
  obtain ⟨d10, h0⟩ := de_iload h0
  obtain ⟨d12, h0⟩ := de_iconst_5 h0
  obtain ⟨d13, h0⟩ := de_icmp_ge (45) (by decide) h0
  refine lv_iload hx hb d10 (lv_at hl 4 rfl) ?_
  refine lv_iconst (v := 5) hx hb d12 (by decide) ?_
  refine lv_icmp_ge (tgt := 58) hx hb d13 (by decide) (fun q => ?_) (fun q => ?_)
  · have hf := x_pos q hf
    have h0 : x_by cX4_swapItems 58 [132, 3, 1, 167, 255, 197] := by unfold x_by; decide +kernel
    obtain ⟨d58, h0⟩ := de_iinc (1) (by decide) h0
    obtain ⟨d61, h0⟩ := de_goto (-59) (by decide) h0
    refine lv_iinc (v := (x3 + 1)) (lv' := [(3, .int (x3 + 1)), (0, .ref (xa E r0)), (1, .int x1), (2, .int x2), (4, .int x4)]) hx hb d58 hl (k := 3) rfl rfl (by decide) rfl (fun ls hl => ?_)
    refine lv_goto (tgt := 2) hx hb d61 (by decide) ?_
    exact hk2 _ _ _ _ _ _ _ _ hR hS (lv_sub hl [1, 2, 3, 0] rfl) hf
  · have hf := x_neg q hf
    have h0 : x_by cX4_swapItems 16 [42, 27, 29, 21, 4, 182, 0, 62, 54, 5, 42, 27, 29, 21, 4, 42, 28, 29, 21, 4, 182, 0, 62, 182, 0, 58, 42, 28, 29, 21, 4, 21, 5, 182, 0, 58, 132, 4, 1, 167, 255, 211] := by unfold x_by; decide +kernel
    obtain ⟨d16, h0⟩ := de_aload_n0 h0
    obtain ⟨d17, h0⟩ := de_iload_n1 h0
    obtain ⟨d18, h0⟩ := de_iload_n3 h0
    obtain ⟨d19, h0⟩ := de_iload h0
    obtain ⟨d21, h0⟩ := de_invokevirtual 62 (by decide) h0
    obtain ⟨d24, h0⟩ := de_istore h0
    obtain ⟨d26, h0⟩ := de_aload_n0 h0
    obtain ⟨d27, h0⟩ := de_iload_n1 h0
    obtain ⟨d28, h0⟩ := de_iload_n3 h0
    obtain ⟨d29, h0⟩ := de_iload h0
    obtain ⟨d31, h0⟩ := de_aload_n0 h0
    obtain ⟨d32, h0⟩ := de_iload_n2 h0
    obtain ⟨d33, h0⟩ := de_iload_n3 h0
    obtain ⟨d34, h0⟩ := de_iload h0
    obtain ⟨d36, h0⟩ := de_invokevirtual 62 (by decide) h0
    obtain ⟨d39, h0⟩ := de_invokevirtual 58 (by decide) h0
    obtain ⟨d42, h0⟩ := de_aload_n0 h0
    obtain ⟨d43, h0⟩ := de_iload_n2 h0
    obtain ⟨d44, h0⟩ := de_iload_n3 h0
    obtain ⟨d45, h0⟩ := de_iload h0
    obtain ⟨d47, h0⟩ := de_iload h0
    obtain ⟨d49, h0⟩ := de_invokevirtual 58 (by decide) h0
    obtain ⟨d52, h0⟩ := de_iinc (1) (by decide) h0
    obtain ⟨d55, h0⟩ := de_goto (-45) (by decide) h0
    refine lv_aload_n hx hb d16 rfl (lv_at hl 0 rfl) ?_
    refine lv_iload_n hx hb d17 rfl (lv_at hl 1 rfl) ?_
    refine lv_iload_n hx hb d18 rfl (lv_at hl 3 rfl) ?_
    refine lv_iload hx hb d19 (lv_at hl 4 rfl) ?_
    obtain ⟨hs9, hf⟩ := x_if hf
    refine x_thenI C0 hxt hS hf (fun z0 e0 => x_runV C0 hR hS me_X4_itemField wi_X4_itemField wl_X4_itemField ml_X4_62 hs9 xcl_4 (As := [.int x1, .int x3, .int x4]) (ct_X4_itemField E l C0.2.2.2.2.2.2.2.1 _ r0 x1 x3 x4) rfl rfl hl.1 (Nat.le_of_ble_eq_true rfl) d21 ⟨(Nat.le_of_ble_eq_true rfl), (Nat.le_of_ble_eq_true rfl)⟩ ⟨(Nat.le_of_ble_eq_true rfl), (Nat.le_of_ble_eq_true rfl)⟩ e0) (Nat.le_of_ble_eq_true rfl) (Nat.le_of_ble_eq_true rfl) (fun h9 i1 H locs hR hS hf => ?_)
    refine lv_istore (lv' := [(5, .int i1), (0, .ref (xa E r0)), (1, .int x1), (2, .int x2), (3, .int x3), (4, .int x4)]) hx hb d24 hl (by decide) rfl (fun ls hl => ?_)
    refine lv_aload_n hx hb d26 rfl (lv_at hl 1 rfl) ?_
    refine lv_iload_n hx hb d27 rfl (lv_at hl 2 rfl) ?_
    refine lv_iload_n hx hb d28 rfl (lv_at hl 4 rfl) ?_
    refine lv_iload hx hb d29 (lv_at hl 5 rfl) ?_
    refine lv_aload_n hx hb d31 rfl (lv_at hl 1 rfl) ?_
    refine lv_iload_n hx hb d32 rfl (lv_at hl 3 rfl) ?_
    refine lv_iload_n hx hb d33 rfl (lv_at hl 4 rfl) ?_
    refine lv_iload hx hb d34 (lv_at hl 5 rfl) ?_
    obtain ⟨hs9, hf⟩ := x_if hf
    refine x_thenI C0 hxt hS hf (fun z0 e0 => x_runV C0 hR hS me_X4_itemField wi_X4_itemField wl_X4_itemField ml_X4_62 hs9 xcl_4 (As := [.int x2, .int x3, .int x4]) (ct_X4_itemField E l C0.2.2.2.2.2.2.2.1 _ r0 x2 x3 x4) rfl rfl hl.1 (Nat.le_of_ble_eq_true rfl) d36 ⟨(Nat.le_of_ble_eq_true rfl), (Nat.le_of_ble_eq_true rfl)⟩ ⟨(Nat.le_of_ble_eq_true rfl), (Nat.le_of_ble_eq_true rfl)⟩ e0) (Nat.le_of_ble_eq_true rfl) (Nat.le_of_ble_eq_true rfl) (fun h9 i3 H locs hR hS hf => ?_)
    obtain ⟨hs9, hf⟩ := x_if hf
    refine x_thenV C0 hxt hS hf (fun z0 e0 => x_runV C0 hR hS me_X4_changeItem wi_X4_changeItem wl_X4_changeItem ml_X4_58 hs9 xcl_4 (As := [.int x1, .int x3, .int x4, .int i3]) (ct_X4_changeItem E l C0.2.2.2.2.2.2.2.1 _ r0 x1 x3 x4 i3) rfl rfl hl.1 (Nat.le_of_ble_eq_true rfl) d39 ⟨(Nat.le_of_ble_eq_true rfl), (Nat.le_of_ble_eq_true rfl)⟩ ⟨(Nat.le_of_ble_eq_true rfl), (Nat.le_of_ble_eq_true rfl)⟩ e0) (Nat.le_of_ble_eq_true rfl) (Nat.le_of_ble_eq_true rfl) (fun h9 H locs hR hS hf => ?_)
    refine lv_aload_n hx hb d42 rfl (lv_at hl 1 rfl) ?_
    refine lv_iload_n hx hb d43 rfl (lv_at hl 3 rfl) ?_
    refine lv_iload_n hx hb d44 rfl (lv_at hl 4 rfl) ?_
    refine lv_iload hx hb d45 (lv_at hl 5 rfl) ?_
    refine lv_iload hx hb d47 (lv_at hl 0 rfl) ?_
    obtain ⟨hs9, hf⟩ := x_if hf
    refine x_thenV C0 hxt hS hf (fun z0 e0 => x_runV C0 hR hS me_X4_changeItem wi_X4_changeItem wl_X4_changeItem ml_X4_58 hs9 xcl_4 (As := [.int x2, .int x3, .int x4, .int i1]) (ct_X4_changeItem E l C0.2.2.2.2.2.2.2.1 _ r0 x2 x3 x4 i1) rfl rfl hl.1 (Nat.le_of_ble_eq_true rfl) d49 ⟨(Nat.le_of_ble_eq_true rfl), (Nat.le_of_ble_eq_true rfl)⟩ ⟨(Nat.le_of_ble_eq_true rfl), (Nat.le_of_ble_eq_true rfl)⟩ e0) (Nat.le_of_ble_eq_true rfl) (Nat.le_of_ble_eq_true rfl) (fun h9 H locs hR hS hf => ?_)
    refine lv_iinc (v := (x4 + 1)) (lv' := [(4, .int (x4 + 1)), (5, .int i1), (0, .ref (xa E r0)), (1, .int x1), (2, .int x2), (3, .int x3)]) hx hb d52 hl (k := 5) rfl rfl (by decide) rfl (fun ls hl => ?_)
    refine lv_goto (tgt := 10) hx hb d55 (by decide) ?_
    exact hk10 _ _ _ _ _ _ _ _ _ hR hS (lv_sub hl [2, 3, 4, 5, 0] rfl) hf
theorem s_X4_swapItems_L10 {p : Program} {l : Launch} {e : Env} {s : State} {m : MethodId} {args : Array Value} {below : List Frame} {meth : Method} {c : Code} {E : XE} {z : XR} (C0 : x_C E p l s m meth c args cX4_swapItems 6 "GridEngine$Model" "swapItems" none) (hxt : ∀ x ∈ c.exceptionTable.toList, False) {k2 : HP → Nat → Int32 → Int32 → Int32 → Option XR} (hk2 : ∀ (h : HP) (r0 : Nat) (x1 : Int32) (x2 : Int32) (x3 : Int32) (H : Heap) (locs : List Loc) (ls : Array Slot), x_Rep E h H → va_S (x_A E) s.heap H locs → lv_has ls 6 [(0, .ref (xa E r0)), (1, .int x1), (2, .int x2), (3, .int x3)] → k2 h r0 x1 x2 x3 = some z → W p l e ({ frames := 9, cells := 0, slots := 0, locals := 155 } : Room) s m args below meth c H locs 0 0 (x_Q E below args s 0 0 z) (F0 m 2 ls [])) : ∀ n : Nat, ∀ (h : HP) (r0 : Nat) (x1 : Int32) (x2 : Int32) (x3 : Int32) (x4 : Int32) (H : Heap) (locs : List Loc) (ls : Array Slot), x_Rep E h H → va_S (x_A E) s.heap H locs → lv_has ls 6 [(0, .ref (xa E r0)), (1, .int x1), (2, .int x2), (3, .int x3), (4, .int x4)] → f_X4_swapItems_L10 k2 n h r0 x1 x2 x3 x4 = some z → W p l e ({ frames := 9, cells := 0, slots := 0, locals := 155 } : Room) s m args below meth c H locs 0 0 (x_Q E below args s 0 0 z) (F0 m 10 ls []) := by
  intro n
  induction n with
  | zero => intro h r0 x1 x2 x3 x4 H locs ls hR hS hl hf; cases (show (none : Option XR) = some z from hf)
  | succ n ih => intro h r0 x1 x2 x3 x4 H locs ls hR hS hl hf; exact s_X4_swapItems_b10 C0 hxt hk2 ih h r0 x1 x2 x3 x4 H locs ls hR hS hl (show f_X4_swapItems_b10 k2 (f_X4_swapItems_L10 k2 n) h r0 x1 x2 x3 x4 = some z from hf)
set_option maxRecDepth 100000 in
set_option maxHeartbeats 4000000 in
theorem s_X4_swapItems_b2 {p : Program} {l : Launch} {e : Env} {s : State} {m : MethodId} {args : Array Value} {below : List Frame} {meth : Method} {c : Code} {E : XE} {z : XR} (C0 : x_C E p l s m meth c args cX4_swapItems 6 "GridEngine$Model" "swapItems" none) (hxt : ∀ x ∈ c.exceptionTable.toList, False) {k2 : HP → Nat → Int32 → Int32 → Int32 → Option XR} (hk2 : ∀ (h : HP) (r0 : Nat) (x1 : Int32) (x2 : Int32) (x3 : Int32) (H : Heap) (locs : List Loc) (ls : Array Slot), x_Rep E h H → va_S (x_A E) s.heap H locs → lv_has ls 6 [(0, .ref (xa E r0)), (1, .int x1), (2, .int x2), (3, .int x3)] → k2 h r0 x1 x2 x3 = some z → W p l e ({ frames := 9, cells := 0, slots := 0, locals := 155 } : Room) s m args below meth c H locs 0 0 (x_Q E below args s 0 0 z) (F0 m 2 ls [])) : ∀ (h : HP) (r0 : Nat) (x1 : Int32) (x2 : Int32) (x3 : Int32) (H : Heap) (locs : List Loc) (ls : Array Slot), x_Rep E h H → va_S (x_A E) s.heap H locs → lv_has ls 6 [(0, .ref (xa E r0)), (1, .int x1), (2, .int x2), (3, .int x3)] → f_X4_swapItems_b2 k2 h r0 x1 x2 x3 = some z → W p l e ({ frames := 9, cells := 0, slots := 0, locals := 155 } : Room) s m args below meth c H locs 0 0 (x_Q E below args s 0 0 z) (F0 m 2 ls []) := by
  intro h r0 x1 x2 x3 H locs ls hR hS hl hf
  obtain ⟨hx, hb, -⟩ := id C0
  unfold f_X4_swapItems_b2 at hf
  have h0 : x_by cX4_swapItems 2 [29, 5, 162, 0, 60] := by unfold x_by; decide +kernel
  obtain ⟨d2, h0⟩ := de_iload_n3 h0
  obtain ⟨d3, h0⟩ := de_iconst_2 h0
  obtain ⟨d4, h0⟩ := de_icmp_ge (60) (by decide) h0
  refine lv_iload_n hx hb d2 rfl (lv_at hl 3 rfl) ?_
  refine lv_iconst (v := 2) hx hb d3 (by decide) ?_
  refine lv_icmp_ge (tgt := 64) hx hb d4 (by decide) (fun q => ?_) (fun q => ?_)
  · have hf := x_pos q hf
    have h0 : x_by cX4_swapItems 64 [177] := by unfold x_by; decide +kernel
    obtain ⟨d64, h0⟩ := de_return h0
    exact x_vret C0 hR hS hf (Nat.le_of_ble_eq_true rfl) (Nat.le_of_ble_eq_true rfl) d64
  · have hf := x_neg q hf
    have h0 : x_by cX4_swapItems 7 [3, 54, 4] := by unfold x_by; decide +kernel
    obtain ⟨d7, h0⟩ := de_iconst_0 h0
    obtain ⟨d8, h0⟩ := de_istore h0
    refine lv_iconst (v := 0) hx hb d7 (by decide) ?_
    refine lv_istore (lv' := [(4, .int 0), (0, .ref (xa E r0)), (1, .int x1), (2, .int x2), (3, .int x3)]) hx hb d8 hl (by decide) rfl (fun ls hl => ?_)
    exact s_X4_swapItems_L10 C0 hxt hk2 FU _ _ _ _ _ _ _ _ _ hR hS (lv_sub hl [1, 2, 3, 4, 0] rfl) hf
theorem s_X4_swapItems_L2 {p : Program} {l : Launch} {e : Env} {s : State} {m : MethodId} {args : Array Value} {below : List Frame} {meth : Method} {c : Code} {E : XE} {z : XR} (C0 : x_C E p l s m meth c args cX4_swapItems 6 "GridEngine$Model" "swapItems" none) (hxt : ∀ x ∈ c.exceptionTable.toList, False)  : ∀ n : Nat, ∀ (h : HP) (r0 : Nat) (x1 : Int32) (x2 : Int32) (x3 : Int32) (H : Heap) (locs : List Loc) (ls : Array Slot), x_Rep E h H → va_S (x_A E) s.heap H locs → lv_has ls 6 [(0, .ref (xa E r0)), (1, .int x1), (2, .int x2), (3, .int x3)] → f_X4_swapItems_L2 n h r0 x1 x2 x3 = some z → W p l e ({ frames := 9, cells := 0, slots := 0, locals := 155 } : Room) s m args below meth c H locs 0 0 (x_Q E below args s 0 0 z) (F0 m 2 ls []) := by
  intro n
  induction n with
  | zero => intro h r0 x1 x2 x3 H locs ls hR hS hl hf; cases (show (none : Option XR) = some z from hf)
  | succ n ih => intro h r0 x1 x2 x3 H locs ls hR hS hl hf; exact s_X4_swapItems_b2 C0 hxt ih h r0 x1 x2 x3 H locs ls hR hS hl (show f_X4_swapItems_b2 (f_X4_swapItems_L2 n) h r0 x1 x2 x3 = some z from hf)
set_option maxRecDepth 100000 in
set_option maxHeartbeats 4000000 in
theorem ct_X4_swapItems (E : XE) (l : Launch) (hl0 : l.stackTraces = false) (h : HP) (r0 : Nat) (x1 : Int32) (x2 : Int32) : x_ct E l yX4_swapItems (Cond.code yX4_swapItems cX4_swapItems 6 none) 9 155 0 0 [.ref (xa E r0), .int x1, .int x2] h (f_X4_swapItems h r0 x1 x2) := by
  refine x_ofW hl0 (by decide +kernel) ?_
  intro z hf p e s m args below meth c C0 hxt hargs hR
  subst hargs
  have C0 : x_C E p l s m meth c ([.ref (xa E r0), .int x1, .int x2] : List Value).toArray cX4_swapItems 6 "GridEngine$Model" "swapItems" none := C0
  obtain ⟨hx, hb, -⟩ := id C0
  have hS : va_S (x_A E) s.heap s.heap [] := va_S.rf
  have hl := lv_entry ([.ref (xa E r0), .int x1, .int x2]) (n := 6) (Nat.le_of_ble_eq_true rfl)
  rw [lg_entry_eq]
  generalize (lg_sl ([.ref (xa E r0), .int x1, .int x2]) ++ List.replicate (6 - (lg_sl ([.ref (xa E r0), .int x1, .int x2])).length) Slot.unset).toArray = ls at hl ⊢
  have hl : lv_has ls 6 [(0, .ref (xa E r0)), (1, .int x1), (2, .int x2)] := hl
  unfold f_X4_swapItems at hf
  have h0 : x_by cX4_swapItems 0 [3, 62] := by unfold x_by; decide +kernel
  obtain ⟨d0, h0⟩ := de_iconst_0 h0
  obtain ⟨d1, h0⟩ := de_istore_n3 h0
  refine lv_iconst (v := 0) hx hb d0 (by decide) ?_
  refine lv_istore_n (lv' := [(3, .int 0), (0, .ref (xa E r0)), (1, .int x1), (2, .int x2)]) hx hb d1 rfl hl (by decide) rfl (fun ls hl => ?_)
  exact s_X4_swapItems_L2 C0 hxt FU _ _ _ _ _ _ _ _ hR hS (lv_sub hl [1, 2, 3, 0] rfl) hf

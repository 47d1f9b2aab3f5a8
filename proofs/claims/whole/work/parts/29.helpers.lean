def f_L_feed (h : HP) (r0 : Nat) (x1 : Int32) (r2 : Nat) : Option XR :=
  x_rc h r0 7 <| x_try (f_X7_feed h r0 x1) [("java/lang/IllegalStateException", 1)] fun h2 i1 =>
  x_sJ h2 r2 0 ((i1 : Int32).toInt64) fun h3 =>
  some (h3, xi 0)
set_option maxRecDepth 100000 in
set_option maxHeartbeats 4000000 in
theorem ct_L_feed (E : XE) (l : Launch) (hl0 : l.stackTraces = false) (h : HP) (r0 : Nat) (x1 : Int32) (r2 : Nat) : x_ct E l yL_feed (Cond.codeWith yL_feed cL_feed 4 (some .int) [(0,9,12,13)]) 9 151 1 6 [.ref (xa E r0), .int x1, .ref (xa E r2)] h (f_L_feed h r0 x1 r2) := by
  refine x_ofWH hl0 (by decide +kernel) ?_
  intro z hf p e s m args below meth c C0 hxt hargs hR
  subst hargs
  have C0 : x_C E p l s m meth c ([.ref (xa E r0), .int x1, .ref (xa E r2)] : List Value).toArray cL_feed 4 "GridEngineLaw" "feed" (some .int) := C0
  obtain ⟨hx, hb, -⟩ := id C0
  have hS : va_S (x_A E) s.heap s.heap [] := va_S.rf
  have hl := lv_entry ([.ref (xa E r0), .int x1, .ref (xa E r2)]) (n := 4) (Nat.le_of_ble_eq_true rfl)
  rw [lg_entry_eq]
  generalize (lg_sl ([.ref (xa E r0), .int x1, .ref (xa E r2)]) ++ List.replicate (4 - (lg_sl ([.ref (xa E r0), .int x1, .ref (xa E r2)])).length) Slot.unset).toArray = ls at hl ⊢
  have hl : lv_has ls 4 [(0, .ref (xa E r0)), (1, .int x1), (2, .ref (xa E r2))] := hl
  unfold f_L_feed at hf
  have h0 : x_by cL_feed 0 [44, 3, 42, 27, 182, 0, 7, 133, 80, 167, 0, 6] := by unfold x_by; decide +kernel
  obtain ⟨d0, h0⟩ := de_aload_n2 h0
  obtain ⟨d1, h0⟩ := de_iconst_0 h0
  obtain ⟨d2, h0⟩ := de_aload_n0 h0
  obtain ⟨d3, h0⟩ := de_iload_n1 h0
  obtain ⟨d4, h0⟩ := de_invokevirtual 7 (by decide) h0
  obtain ⟨d7, h0⟩ := de_i2l h0
  obtain ⟨d8, h0⟩ := de_lastore h0
  obtain ⟨d9, h0⟩ := de_goto (6) (by decide) h0
  refine lv_aload_n hx hb d0 rfl (lv_at hl 2 rfl) ?_
  refine lv_iconst (v := 0) hx hb d1 (by decide) ?_
  refine lv_aload_n hx hb d2 rfl (lv_at hl 0 rfl) ?_
  refine lv_iload_n hx hb d3 rfl (lv_at hl 1 rfl) ?_
  obtain ⟨hs9, hf⟩ := x_if hf
  rcases x_try_el1 hf with ⟨h9, i1, e0, hf⟩ | ⟨h9, w9, e0, hf⟩
  rotate_left
  · refine x_useX (x_runV C0 hR hS me_X7_feed wi_X7_feed wl_X7_feed ml_L_7 hs9 xcl_7 (As := [.int x1]) (ct_X7_feed E l C0.2.2.2.2.2.2.2.1 _ r0 x1) rfl rfl hl.1 (Nat.le_of_ble_eq_true rfl) d4 ⟨(Nat.le_of_ble_eq_true rfl), (Nat.le_of_ble_eq_true rfl)⟩ ⟨(Nat.le_of_ble_eq_true rfl), (Nat.le_of_ble_eq_true rfl)⟩ e0) hS (fun ce q9 H locs hR hS g1 g2 g3 => ?_)
    refine x_catchA C0 hxt (by decide) (by decide) cl_L_13 wc_IllegalStateException g1 g2 g3 ?_
    have d12 : decode cL_feed 12 = .ok (.astore_n 3, 1) := by decide +kernel
    have d13 : decode cL_feed 13 = .ok (.iconst 1, 1) := by decide +kernel
    have d14 : decode cL_feed 14 = .ok (.ireturn, 1) := by decide +kernel
    refine lv_astore_n (lv' := [(3, .ref q9), (0, .ref (xa E r0)), (1, .int x1), (2, .ref (xa E r2))]) hx hb d12 rfl hl (by decide) rfl (fun ls hl => ?_)
    refine lv_iconst (v := 1) hx hb d13 (by decide) ?_
    exact x_iret C0 hR hS hf (Nat.le_of_ble_eq_true rfl) (Nat.le_of_ble_eq_true rfl) d14
  refine x_useI (x_runV C0 hR hS me_X7_feed wi_X7_feed wl_X7_feed ml_L_7 hs9 xcl_7 (As := [.int x1]) (ct_X7_feed E l C0.2.2.2.2.2.2.2.1 _ r0 x1) rfl rfl hl.1 (Nat.le_of_ble_eq_true rfl) d4 ⟨(Nat.le_of_ble_eq_true rfl), (Nat.le_of_ble_eq_true rfl)⟩ ⟨(Nat.le_of_ble_eq_true rfl), (Nat.le_of_ble_eq_true rfl)⟩ e0) hS (fun H locs hR hS => ?_)
  refine lv_i2l hx hb d7 rfl ?_
  refine x_last C0 hR hS hf d8 (fun H locs hR hS hf => ?_)
  refine lv_goto (tgt := 15) hx hb d9 (by decide) ?_
  have h0 : x_by cL_feed 15 [3, 172] := by unfold x_by; decide +kernel
  obtain ⟨d15, h0⟩ := de_iconst_0 h0
  obtain ⟨d16, h0⟩ := de_ireturn h0
  refine lv_iconst (v := 0) hx hb d15 (by decide) ?_
  exact x_iret C0 hR hS hf (Nat.le_of_ble_eq_true rfl) (Nat.le_of_ble_eq_true rfl) d16
def f_L_readTracks (h : HP) (r0 : Nat) (x1 : Int32) (r2 : Nat) : Option XR :=
  x_rc h r0 7 <| x_try (f_X7_readTracks h r0 x1) [("java/lang/IllegalArgumentException", 1), ("java/lang/IllegalStateException", 2)] fun h2 i1 =>
  x_sJ h2 r2 0 ((i1 : Int32).toInt64) fun h3 =>
  some (h3, xi 0)
set_option maxRecDepth 100000 in
set_option maxHeartbeats 4000000 in
theorem ct_L_readTracks (E : XE) (l : Launch) (hl0 : l.stackTraces = false) (h : HP) (r0 : Nat) (x1 : Int32) (r2 : Nat) : x_ct E l yL_readTracks (Cond.codeWith yL_readTracks cL_readTracks 4 (some .int) [(0,9,12,19),(0,9,15,13)]) 19 367 2 12 [.ref (xa E r0), .int x1, .ref (xa E r2)] h (f_L_readTracks h r0 x1 r2) := by
  refine x_ofWH hl0 (by decide +kernel) ?_
  intro z hf p e s m args below meth c C0 hxt hargs hR
  subst hargs
  have C0 : x_C E p l s m meth c ([.ref (xa E r0), .int x1, .ref (xa E r2)] : List Value).toArray cL_readTracks 4 "GridEngineLaw" "readTracks" (some .int) := C0
  obtain ⟨hx, hb, -⟩ := id C0
  have hS : va_S (x_A E) s.heap s.heap [] := va_S.rf
  have hl := lv_entry ([.ref (xa E r0), .int x1, .ref (xa E r2)]) (n := 4) (Nat.le_of_ble_eq_true rfl)
  rw [lg_entry_eq]
  generalize (lg_sl ([.ref (xa E r0), .int x1, .ref (xa E r2)]) ++ List.replicate (4 - (lg_sl ([.ref (xa E r0), .int x1, .ref (xa E r2)])).length) Slot.unset).toArray = ls at hl ⊢
  have hl : lv_has ls 4 [(0, .ref (xa E r0)), (1, .int x1), (2, .ref (xa E r2))] := hl
  unfold f_L_readTracks at hf
  have h0 : x_by cL_readTracks 0 [44, 3, 42, 27, 182, 0, 15, 133, 80, 167, 0, 9] := by unfold x_by; decide +kernel
  obtain ⟨d0, h0⟩ := de_aload_n2 h0
  obtain ⟨d1, h0⟩ := de_iconst_0 h0
  obtain ⟨d2, h0⟩ := de_aload_n0 h0
  obtain ⟨d3, h0⟩ := de_iload_n1 h0
  obtain ⟨d4, h0⟩ := de_invokevirtual 15 (by decide) h0
  obtain ⟨d7, h0⟩ := de_i2l h0
  obtain ⟨d8, h0⟩ := de_lastore h0
  obtain ⟨d9, h0⟩ := de_goto (9) (by decide) h0
  refine lv_aload_n hx hb d0 rfl (lv_at hl 2 rfl) ?_
  refine lv_iconst (v := 0) hx hb d1 (by decide) ?_
  refine lv_aload_n hx hb d2 rfl (lv_at hl 0 rfl) ?_
  refine lv_iload_n hx hb d3 rfl (lv_at hl 1 rfl) ?_
  obtain ⟨hs9, hf⟩ := x_if hf
  rcases x_try_el2 hf with ⟨h9, i1, e0, hf⟩ | ⟨h9, w9, e0, hf⟩ | ⟨h9, w9, e0, hf⟩
  rotate_left
  · refine x_useX (x_runV C0 hR hS me_X7_readTracks wi_X7_readTracks wl_X7_readTracks ml_L_15 hs9 xcl_7 (As := [.int x1]) (ct_X7_readTracks E l C0.2.2.2.2.2.2.2.1 _ r0 x1) rfl rfl hl.1 (Nat.le_of_ble_eq_true rfl) d4 ⟨(Nat.le_of_ble_eq_true rfl), (Nat.le_of_ble_eq_true rfl)⟩ ⟨(Nat.le_of_ble_eq_true rfl), (Nat.le_of_ble_eq_true rfl)⟩ e0) hS (fun ce q9 H locs hR hS g1 g2 g3 => ?_)
    refine x_catchA C0 hxt (by decide) (by decide) cl_L_19 wc_IllegalArgumentException g1 g2 g3 ?_
    have d12 : decode cL_readTracks 12 = .ok (.astore_n 3, 1) := by decide +kernel
    have d13 : decode cL_readTracks 13 = .ok (.iconst 1, 1) := by decide +kernel
    have d14 : decode cL_readTracks 14 = .ok (.ireturn, 1) := by decide +kernel
    refine lv_astore_n (lv' := [(3, .ref q9), (0, .ref (xa E r0)), (1, .int x1), (2, .ref (xa E r2))]) hx hb d12 rfl hl (by decide) rfl (fun ls hl => ?_)
    refine lv_iconst (v := 1) hx hb d13 (by decide) ?_
    exact x_iret C0 hR hS hf (Nat.le_of_ble_eq_true rfl) (Nat.le_of_ble_eq_true rfl) d14
  · refine x_useX (x_runV C0 hR hS me_X7_readTracks wi_X7_readTracks wl_X7_readTracks ml_L_15 hs9 xcl_7 (As := [.int x1]) (ct_X7_readTracks E l C0.2.2.2.2.2.2.2.1 _ r0 x1) rfl rfl hl.1 (Nat.le_of_ble_eq_true rfl) d4 ⟨(Nat.le_of_ble_eq_true rfl), (Nat.le_of_ble_eq_true rfl)⟩ ⟨(Nat.le_of_ble_eq_true rfl), (Nat.le_of_ble_eq_true rfl)⟩ e0) hS (fun ce q9 H locs hR hS g1 g2 g3 => ?_)
    refine x_catchB C0 hxt (by decide) (by decide) cl_L_13 wc_IllegalStateException (by decide) cl_L_19 (by simp [x_xs]) (by simp [x_xs]) (by decide) g1 g2 g3 ?_
    have d15 : decode cL_readTracks 15 = .ok (.astore_n 3, 1) := by decide +kernel
    have d16 : decode cL_readTracks 16 = .ok (.iconst 2, 1) := by decide +kernel
    have d17 : decode cL_readTracks 17 = .ok (.ireturn, 1) := by decide +kernel
    refine lv_astore_n (lv' := [(3, .ref q9), (0, .ref (xa E r0)), (1, .int x1), (2, .ref (xa E r2))]) hx hb d15 rfl hl (by decide) rfl (fun ls hl => ?_)
    refine lv_iconst (v := 2) hx hb d16 (by decide) ?_
    exact x_iret C0 hR hS hf (Nat.le_of_ble_eq_true rfl) (Nat.le_of_ble_eq_true rfl) d17
  refine x_useI (x_runV C0 hR hS me_X7_readTracks wi_X7_readTracks wl_X7_readTracks ml_L_15 hs9 xcl_7 (As := [.int x1]) (ct_X7_readTracks E l C0.2.2.2.2.2.2.2.1 _ r0 x1) rfl rfl hl.1 (Nat.le_of_ble_eq_true rfl) d4 ⟨(Nat.le_of_ble_eq_true rfl), (Nat.le_of_ble_eq_true rfl)⟩ ⟨(Nat.le_of_ble_eq_true rfl), (Nat.le_of_ble_eq_true rfl)⟩ e0) hS (fun H locs hR hS => ?_)
  refine lv_i2l hx hb d7 rfl ?_
  refine x_last C0 hR hS hf d8 (fun H locs hR hS hf => ?_)
  refine lv_goto (tgt := 18) hx hb d9 (by decide) ?_
  have h0 : x_by cL_readTracks 18 [3, 172] := by unfold x_by; decide +kernel
  obtain ⟨d18, h0⟩ := de_iconst_0 h0
  obtain ⟨d19, h0⟩ := de_ireturn h0
  refine lv_iconst (v := 0) hx hb d18 (by decide) ?_
  exact x_iret C0 hR hS hf (Nat.le_of_ble_eq_true rfl) (Nat.le_of_ble_eq_true rfl) d19
def f_L_readImplicit (h : HP) (r0 : Nat) (x1 : Int32) (r2 : Nat) : Option XR :=
  x_rc h r0 7 <| x_try (f_X7_readImplicit h r0 x1) [("java/lang/IllegalArgumentException", 1), ("java/lang/IllegalStateException", 2)] fun h2 i1 =>
  x_sJ h2 r2 0 ((i1 : Int32).toInt64) fun h3 =>
  some (h3, xi 0)
set_option maxRecDepth 100000 in
set_option maxHeartbeats 4000000 in
theorem ct_L_readImplicit (E : XE) (l : Launch) (hl0 : l.stackTraces = false) (h : HP) (r0 : Nat) (x1 : Int32) (r2 : Nat) : x_ct E l yL_readImplicit (Cond.codeWith yL_readImplicit cL_readImplicit 4 (some .int) [(0,9,12,19),(0,9,15,13)]) 19 367 2 12 [.ref (xa E r0), .int x1, .ref (xa E r2)] h (f_L_readImplicit h r0 x1 r2) := by
  refine x_ofWH hl0 (by decide +kernel) ?_
  intro z hf p e s m args below meth c C0 hxt hargs hR
  subst hargs
  have C0 : x_C E p l s m meth c ([.ref (xa E r0), .int x1, .ref (xa E r2)] : List Value).toArray cL_readImplicit 4 "GridEngineLaw" "readImplicit" (some .int) := C0
  obtain ⟨hx, hb, -⟩ := id C0
  have hS : va_S (x_A E) s.heap s.heap [] := va_S.rf
  have hl := lv_entry ([.ref (xa E r0), .int x1, .ref (xa E r2)]) (n := 4) (Nat.le_of_ble_eq_true rfl)
  rw [lg_entry_eq]
  generalize (lg_sl ([.ref (xa E r0), .int x1, .ref (xa E r2)]) ++ List.replicate (4 - (lg_sl ([.ref (xa E r0), .int x1, .ref (xa E r2)])).length) Slot.unset).toArray = ls at hl ⊢
  have hl : lv_has ls 4 [(0, .ref (xa E r0)), (1, .int x1), (2, .ref (xa E r2))] := hl
  unfold f_L_readImplicit at hf
  have h0 : x_by cL_readImplicit 0 [44, 3, 42, 27, 182, 0, 21, 133, 80, 167, 0, 9] := by unfold x_by; decide +kernel
  obtain ⟨d0, h0⟩ := de_aload_n2 h0
  obtain ⟨d1, h0⟩ := de_iconst_0 h0
  obtain ⟨d2, h0⟩ := de_aload_n0 h0
  obtain ⟨d3, h0⟩ := de_iload_n1 h0
  obtain ⟨d4, h0⟩ := de_invokevirtual 21 (by decide) h0
  obtain ⟨d7, h0⟩ := de_i2l h0
  obtain ⟨d8, h0⟩ := de_lastore h0
  obtain ⟨d9, h0⟩ := de_goto (9) (by decide) h0
  refine lv_aload_n hx hb d0 rfl (lv_at hl 2 rfl) ?_
  refine lv_iconst (v := 0) hx hb d1 (by decide) ?_
  refine lv_aload_n hx hb d2 rfl (lv_at hl 0 rfl) ?_
  refine lv_iload_n hx hb d3 rfl (lv_at hl 1 rfl) ?_
  obtain ⟨hs9, hf⟩ := x_if hf
  rcases x_try_el2 hf with ⟨h9, i1, e0, hf⟩ | ⟨h9, w9, e0, hf⟩ | ⟨h9, w9, e0, hf⟩
  rotate_left
  · refine x_useX (x_runV C0 hR hS me_X7_readImplicit wi_X7_readImplicit wl_X7_readImplicit ml_L_21 hs9 xcl_7 (As := [.int x1]) (ct_X7_readImplicit E l C0.2.2.2.2.2.2.2.1 _ r0 x1) rfl rfl hl.1 (Nat.le_of_ble_eq_true rfl) d4 ⟨(Nat.le_of_ble_eq_true rfl), (Nat.le_of_ble_eq_true rfl)⟩ ⟨(Nat.le_of_ble_eq_true rfl), (Nat.le_of_ble_eq_true rfl)⟩ e0) hS (fun ce q9 H locs hR hS g1 g2 g3 => ?_)
    refine x_catchA C0 hxt (by decide) (by decide) cl_L_19 wc_IllegalArgumentException g1 g2 g3 ?_
    have d12 : decode cL_readImplicit 12 = .ok (.astore_n 3, 1) := by decide +kernel
    have d13 : decode cL_readImplicit 13 = .ok (.iconst 1, 1) := by decide +kernel
    have d14 : decode cL_readImplicit 14 = .ok (.ireturn, 1) := by decide +kernel
    refine lv_astore_n (lv' := [(3, .ref q9), (0, .ref (xa E r0)), (1, .int x1), (2, .ref (xa E r2))]) hx hb d12 rfl hl (by decide) rfl (fun ls hl => ?_)
    refine lv_iconst (v := 1) hx hb d13 (by decide) ?_
    exact x_iret C0 hR hS hf (Nat.le_of_ble_eq_true rfl) (Nat.le_of_ble_eq_true rfl) d14
  · refine x_useX (x_runV C0 hR hS me_X7_readImplicit wi_X7_readImplicit wl_X7_readImplicit ml_L_21 hs9 xcl_7 (As := [.int x1]) (ct_X7_readImplicit E l C0.2.2.2.2.2.2.2.1 _ r0 x1) rfl rfl hl.1 (Nat.le_of_ble_eq_true rfl) d4 ⟨(Nat.le_of_ble_eq_true rfl), (Nat.le_of_ble_eq_true rfl)⟩ ⟨(Nat.le_of_ble_eq_true rfl), (Nat.le_of_ble_eq_true rfl)⟩ e0) hS (fun ce q9 H locs hR hS g1 g2 g3 => ?_)
    refine x_catchB C0 hxt (by decide) (by decide) cl_L_13 wc_IllegalStateException (by decide) cl_L_19 (by simp [x_xs]) (by simp [x_xs]) (by decide) g1 g2 g3 ?_
    have d15 : decode cL_readImplicit 15 = .ok (.astore_n 3, 1) := by decide +kernel
    have d16 : decode cL_readImplicit 16 = .ok (.iconst 2, 1) := by decide +kernel
    have d17 : decode cL_readImplicit 17 = .ok (.ireturn, 1) := by decide +kernel
    refine lv_astore_n (lv' := [(3, .ref q9), (0, .ref (xa E r0)), (1, .int x1), (2, .ref (xa E r2))]) hx hb d15 rfl hl (by decide) rfl (fun ls hl => ?_)
    refine lv_iconst (v := 2) hx hb d16 (by decide) ?_
    exact x_iret C0 hR hS hf (Nat.le_of_ble_eq_true rfl) (Nat.le_of_ble_eq_true rfl) d17
  refine x_useI (x_runV C0 hR hS me_X7_readImplicit wi_X7_readImplicit wl_X7_readImplicit ml_L_21 hs9 xcl_7 (As := [.int x1]) (ct_X7_readImplicit E l C0.2.2.2.2.2.2.2.1 _ r0 x1) rfl rfl hl.1 (Nat.le_of_ble_eq_true rfl) d4 ⟨(Nat.le_of_ble_eq_true rfl), (Nat.le_of_ble_eq_true rfl)⟩ ⟨(Nat.le_of_ble_eq_true rfl), (Nat.le_of_ble_eq_true rfl)⟩ e0) hS (fun H locs hR hS => ?_)
  refine lv_i2l hx hb d7 rfl ?_
  refine x_last C0 hR hS hf d8 (fun H locs hR hS hf => ?_)
  refine lv_goto (tgt := 18) hx hb d9 (by decide) ?_
  have h0 : x_by cL_readImplicit 18 [3, 172] := by unfold x_by; decide +kernel
  obtain ⟨d18, h0⟩ := de_iconst_0 h0
  obtain ⟨d19, h0⟩ := de_ireturn h0
  refine lv_iconst (v := 0) hx hb d18 (by decide) ?_
  exact x_iret C0 hR hS hf (Nat.le_of_ble_eq_true rfl) (Nat.le_of_ble_eq_true rfl) d19
def f_L_definition (h : HP) (r0 : Nat) (x1 : Int32) (x2 : Int32) (x3 : Int32) (r4 : Nat) : Option XR :=
  x_rc h r0 7 <| x_try (f_X7_definition h r0 x1 x2 x3) [("java/lang/IllegalArgumentException", 1), ("java/lang/IndexOutOfBoundsException", 2)] fun h2 i1 =>
  x_sJ h2 r4 0 ((i1 : Int32).toInt64) fun h3 =>
  some (h3, xi 0)
set_option maxRecDepth 100000 in
set_option maxHeartbeats 4000000 in
theorem ct_L_definition (E : XE) (l : Launch) (hl0 : l.stackTraces = false) (h : HP) (r0 : Nat) (x1 : Int32) (x2 : Int32) (x3 : Int32) (r4 : Nat) : x_ct E l yL_definition (Cond.codeWith yL_definition cL_definition 6 (some .int) [(0,12,15,19),(0,12,19,28)]) 16 326 3 18 [.ref (xa E r0), .int x1, .int x2, .int x3, .ref (xa E r4)] h (f_L_definition h r0 x1 x2 x3 r4) := by
  refine x_ofWH hl0 (by decide +kernel) ?_
  intro z hf p e s m args below meth c C0 hxt hargs hR
  subst hargs
  have C0 : x_C E p l s m meth c ([.ref (xa E r0), .int x1, .int x2, .int x3, .ref (xa E r4)] : List Value).toArray cL_definition 6 "GridEngineLaw" "definition" (some .int) := C0
  obtain ⟨hx, hb, -⟩ := id C0
  have hS : va_S (x_A E) s.heap s.heap [] := va_S.rf
  have hl := lv_entry ([.ref (xa E r0), .int x1, .int x2, .int x3, .ref (xa E r4)]) (n := 6) (Nat.le_of_ble_eq_true rfl)
  rw [lg_entry_eq]
  generalize (lg_sl ([.ref (xa E r0), .int x1, .int x2, .int x3, .ref (xa E r4)]) ++ List.replicate (6 - (lg_sl ([.ref (xa E r0), .int x1, .int x2, .int x3, .ref (xa E r4)])).length) Slot.unset).toArray = ls at hl ⊢
  have hl : lv_has ls 6 [(0, .ref (xa E r0)), (1, .int x1), (2, .int x2), (3, .int x3), (4, .ref (xa E r4))] := hl
  unfold f_L_definition at hf
  have h0 : x_by cL_definition 0 [25, 4, 3, 42, 27, 28, 29, 182, 0, 24, 133, 80, 167, 0, 11] := by unfold x_by; decide +kernel
  obtain ⟨d0, h0⟩ := de_aload h0
  obtain ⟨d2, h0⟩ := de_iconst_0 h0
  obtain ⟨d3, h0⟩ := de_aload_n0 h0
  obtain ⟨d4, h0⟩ := de_iload_n1 h0
  obtain ⟨d5, h0⟩ := de_iload_n2 h0
  obtain ⟨d6, h0⟩ := de_iload_n3 h0
  obtain ⟨d7, h0⟩ := de_invokevirtual 24 (by decide) h0
  obtain ⟨d10, h0⟩ := de_i2l h0
  obtain ⟨d11, h0⟩ := de_lastore h0
  obtain ⟨d12, h0⟩ := de_goto (11) (by decide) h0
  refine lv_aload hx hb d0 (lv_at hl 4 rfl) ?_
  refine lv_iconst (v := 0) hx hb d2 (by decide) ?_
  refine lv_aload_n hx hb d3 rfl (lv_at hl 0 rfl) ?_
  refine lv_iload_n hx hb d4 rfl (lv_at hl 1 rfl) ?_
  refine lv_iload_n hx hb d5 rfl (lv_at hl 2 rfl) ?_
  refine lv_iload_n hx hb d6 rfl (lv_at hl 3 rfl) ?_
  obtain ⟨hs9, hf⟩ := x_if hf
  rcases x_try_el2 hf with ⟨h9, i1, e0, hf⟩ | ⟨h9, w9, e0, hf⟩ | ⟨h9, w9, e0, hf⟩
  rotate_left
  · refine x_useX (x_runV C0 hR hS me_X7_definition wi_X7_definition wl_X7_definition ml_L_24 hs9 xcl_7 (As := [.int x1, .int x2, .int x3]) (ct_X7_definition E l C0.2.2.2.2.2.2.2.1 _ r0 x1 x2 x3) rfl rfl hl.1 (Nat.le_of_ble_eq_true rfl) d7 ⟨(Nat.le_of_ble_eq_true rfl), (Nat.le_of_ble_eq_true rfl)⟩ ⟨(Nat.le_of_ble_eq_true rfl), (Nat.le_of_ble_eq_true rfl)⟩ e0) hS (fun ce q9 H locs hR hS g1 g2 g3 => ?_)
    refine x_catchA C0 hxt (by decide) (by decide) cl_L_19 wc_IllegalArgumentException g1 g2 g3 ?_
    have d15 : decode cL_definition 15 = .ok (.astore 5, 2) := by decide +kernel
    have d17 : decode cL_definition 17 = .ok (.iconst 1, 1) := by decide +kernel
    have d18 : decode cL_definition 18 = .ok (.ireturn, 1) := by decide +kernel
    refine lv_astore (lv' := [(5, .ref q9), (0, .ref (xa E r0)), (1, .int x1), (2, .int x2), (3, .int x3), (4, .ref (xa E r4))]) hx hb d15 hl (by decide) rfl (fun ls hl => ?_)
    refine lv_iconst (v := 1) hx hb d17 (by decide) ?_
    exact x_iret C0 hR hS hf (Nat.le_of_ble_eq_true rfl) (Nat.le_of_ble_eq_true rfl) d18
  · refine x_useX (x_runV C0 hR hS me_X7_definition wi_X7_definition wl_X7_definition ml_L_24 hs9 xcl_7 (As := [.int x1, .int x2, .int x3]) (ct_X7_definition E l C0.2.2.2.2.2.2.2.1 _ r0 x1 x2 x3) rfl rfl hl.1 (Nat.le_of_ble_eq_true rfl) d7 ⟨(Nat.le_of_ble_eq_true rfl), (Nat.le_of_ble_eq_true rfl)⟩ ⟨(Nat.le_of_ble_eq_true rfl), (Nat.le_of_ble_eq_true rfl)⟩ e0) hS (fun ce q9 H locs hR hS g1 g2 g3 => ?_)
    refine x_catchB C0 hxt (by decide) (by decide) cl_L_28 wc_IndexOutOfBoundsException (by decide) cl_L_19 (by simp [x_xs]) (by simp [x_xs]) (by decide) g1 g2 g3 ?_
    have d19 : decode cL_definition 19 = .ok (.astore 5, 2) := by decide +kernel
    have d21 : decode cL_definition 21 = .ok (.iconst 2, 1) := by decide +kernel
    have d22 : decode cL_definition 22 = .ok (.ireturn, 1) := by decide +kernel
    refine lv_astore (lv' := [(5, .ref q9), (0, .ref (xa E r0)), (1, .int x1), (2, .int x2), (3, .int x3), (4, .ref (xa E r4))]) hx hb d19 hl (by decide) rfl (fun ls hl => ?_)
    refine lv_iconst (v := 2) hx hb d21 (by decide) ?_
    exact x_iret C0 hR hS hf (Nat.le_of_ble_eq_true rfl) (Nat.le_of_ble_eq_true rfl) d22
  refine x_useI (x_runV C0 hR hS me_X7_definition wi_X7_definition wl_X7_definition ml_L_24 hs9 xcl_7 (As := [.int x1, .int x2, .int x3]) (ct_X7_definition E l C0.2.2.2.2.2.2.2.1 _ r0 x1 x2 x3) rfl rfl hl.1 (Nat.le_of_ble_eq_true rfl) d7 ⟨(Nat.le_of_ble_eq_true rfl), (Nat.le_of_ble_eq_true rfl)⟩ ⟨(Nat.le_of_ble_eq_true rfl), (Nat.le_of_ble_eq_true rfl)⟩ e0) hS (fun H locs hR hS => ?_)
  refine lv_i2l hx hb d10 rfl ?_
  refine x_last C0 hR hS hf d11 (fun H locs hR hS hf => ?_)
  refine lv_goto (tgt := 23) hx hb d12 (by decide) ?_
  have h0 : x_by cL_definition 23 [3, 172] := by unfold x_by; decide +kernel
  obtain ⟨d23, h0⟩ := de_iconst_0 h0
  obtain ⟨d24, h0⟩ := de_ireturn h0
  refine lv_iconst (v := 0) hx hb d23 (by decide) ?_
  exact x_iret C0 hR hS hf (Nat.le_of_ble_eq_true rfl) (Nat.le_of_ble_eq_true rfl) d24
def f_L_set (h : HP) (r0 : Nat) (x1 : Int32) (x2 : Int32) (x3 : Int32) (r4 : Nat) : Option XR :=
  x_rc h r0 7 <| x_try (f_X7_set h r0 x1 x2 x3) [("java/lang/IllegalArgumentException", 1)] fun h2 i1 =>
  x_sJ h2 r4 0 ((i1 : Int32).toInt64) fun h3 =>
  some (h3, xi 0)
set_option maxRecDepth 100000 in
set_option maxHeartbeats 4000000 in
theorem ct_L_set (E : XE) (l : Launch) (hl0 : l.stackTraces = false) (h : HP) (r0 : Nat) (x1 : Int32) (x2 : Int32) (x3 : Int32) (r4 : Nat) : x_ct E l yL_set (Cond.codeWith yL_set cL_set 6 (some .int) [(0,12,15,19)]) 11 195 2 12 [.ref (xa E r0), .int x1, .int x2, .int x3, .ref (xa E r4)] h (f_L_set h r0 x1 x2 x3 r4) := by
  refine x_ofWH hl0 (by decide +kernel) ?_
  intro z hf p e s m args below meth c C0 hxt hargs hR
  subst hargs
  have C0 : x_C E p l s m meth c ([.ref (xa E r0), .int x1, .int x2, .int x3, .ref (xa E r4)] : List Value).toArray cL_set 6 "GridEngineLaw" "set" (some .int) := C0
  obtain ⟨hx, hb, -⟩ := id C0
  have hS : va_S (x_A E) s.heap s.heap [] := va_S.rf
  have hl := lv_entry ([.ref (xa E r0), .int x1, .int x2, .int x3, .ref (xa E r4)]) (n := 6) (Nat.le_of_ble_eq_true rfl)
  rw [lg_entry_eq]
  generalize (lg_sl ([.ref (xa E r0), .int x1, .int x2, .int x3, .ref (xa E r4)]) ++ List.replicate (6 - (lg_sl ([.ref (xa E r0), .int x1, .int x2, .int x3, .ref (xa E r4)])).length) Slot.unset).toArray = ls at hl ⊢
  have hl : lv_has ls 6 [(0, .ref (xa E r0)), (1, .int x1), (2, .int x2), (3, .int x3), (4, .ref (xa E r4))] := hl
  unfold f_L_set at hf
  have h0 : x_by cL_set 0 [25, 4, 3, 42, 27, 28, 29, 182, 0, 30, 133, 80, 167, 0, 7] := by unfold x_by; decide +kernel
  obtain ⟨d0, h0⟩ := de_aload h0
  obtain ⟨d2, h0⟩ := de_iconst_0 h0
  obtain ⟨d3, h0⟩ := de_aload_n0 h0
  obtain ⟨d4, h0⟩ := de_iload_n1 h0
  obtain ⟨d5, h0⟩ := de_iload_n2 h0
  obtain ⟨d6, h0⟩ := de_iload_n3 h0
  obtain ⟨d7, h0⟩ := de_invokevirtual 30 (by decide) h0
  obtain ⟨d10, h0⟩ := de_i2l h0
  obtain ⟨d11, h0⟩ := de_lastore h0
  obtain ⟨d12, h0⟩ := de_goto (7) (by decide) h0
  refine lv_aload hx hb d0 (lv_at hl 4 rfl) ?_
  refine lv_iconst (v := 0) hx hb d2 (by decide) ?_
  refine lv_aload_n hx hb d3 rfl (lv_at hl 0 rfl) ?_
  refine lv_iload_n hx hb d4 rfl (lv_at hl 1 rfl) ?_
  refine lv_iload_n hx hb d5 rfl (lv_at hl 2 rfl) ?_
  refine lv_iload_n hx hb d6 rfl (lv_at hl 3 rfl) ?_
  obtain ⟨hs9, hf⟩ := x_if hf
  rcases x_try_el1 hf with ⟨h9, i1, e0, hf⟩ | ⟨h9, w9, e0, hf⟩
  rotate_left
  · refine x_useX (x_runV C0 hR hS me_X7_set wi_X7_set wl_X7_set ml_L_30 hs9 xcl_7 (As := [.int x1, .int x2, .int x3]) (ct_X7_set E l C0.2.2.2.2.2.2.2.1 _ r0 x1 x2 x3) rfl rfl hl.1 (Nat.le_of_ble_eq_true rfl) d7 ⟨(Nat.le_of_ble_eq_true rfl), (Nat.le_of_ble_eq_true rfl)⟩ ⟨(Nat.le_of_ble_eq_true rfl), (Nat.le_of_ble_eq_true rfl)⟩ e0) hS (fun ce q9 H locs hR hS g1 g2 g3 => ?_)
    refine x_catchA C0 hxt (by decide) (by decide) cl_L_19 wc_IllegalArgumentException g1 g2 g3 ?_
    have d15 : decode cL_set 15 = .ok (.astore 5, 2) := by decide +kernel
    have d17 : decode cL_set 17 = .ok (.iconst 1, 1) := by decide +kernel
    have d18 : decode cL_set 18 = .ok (.ireturn, 1) := by decide +kernel
    refine lv_astore (lv' := [(5, .ref q9), (0, .ref (xa E r0)), (1, .int x1), (2, .int x2), (3, .int x3), (4, .ref (xa E r4))]) hx hb d15 hl (by decide) rfl (fun ls hl => ?_)
    refine lv_iconst (v := 1) hx hb d17 (by decide) ?_
    exact x_iret C0 hR hS hf (Nat.le_of_ble_eq_true rfl) (Nat.le_of_ble_eq_true rfl) d18
  refine x_useI (x_runV C0 hR hS me_X7_set wi_X7_set wl_X7_set ml_L_30 hs9 xcl_7 (As := [.int x1, .int x2, .int x3]) (ct_X7_set E l C0.2.2.2.2.2.2.2.1 _ r0 x1 x2 x3) rfl rfl hl.1 (Nat.le_of_ble_eq_true rfl) d7 ⟨(Nat.le_of_ble_eq_true rfl), (Nat.le_of_ble_eq_true rfl)⟩ ⟨(Nat.le_of_ble_eq_true rfl), (Nat.le_of_ble_eq_true rfl)⟩ e0) hS (fun H locs hR hS => ?_)
  refine lv_i2l hx hb d10 rfl ?_
  refine x_last C0 hR hS hf d11 (fun H locs hR hS hf => ?_)
  refine lv_goto (tgt := 19) hx hb d12 (by decide) ?_
  have h0 : x_by cL_set 19 [3, 172] := by unfold x_by; decide +kernel
  obtain ⟨d19, h0⟩ := de_iconst_0 h0
  obtain ⟨d20, h0⟩ := de_ireturn h0
  refine lv_iconst (v := 0) hx hb d19 (by decide) ?_
  exact x_iret C0 hR hS hf (Nat.le_of_ble_eq_true rfl) (Nat.le_of_ble_eq_true rfl) d20
def f_L_setFlow (h : HP) (r0 : Nat) (x1 : Int32) (x2 : Int32) (r3 : Nat) : Option XR :=
  x_rc h r0 7 <| x_try (f_X7_setFlow h r0 x1 x2) [("java/lang/IllegalArgumentException", 1)] fun h2 i1 =>
  x_sJ h2 r3 0 ((i1 : Int32).toInt64) fun h3 =>
  some (h3, xi 0)
set_option maxRecDepth 100000 in
set_option maxHeartbeats 4000000 in
theorem ct_L_setFlow (E : XE) (l : Launch) (hl0 : l.stackTraces = false) (h : HP) (r0 : Nat) (x1 : Int32) (x2 : Int32) (r3 : Nat) : x_ct E l yL_setFlow (Cond.codeWith yL_setFlow cL_setFlow 5 (some .int) [(0,10,13,19)]) 11 194 1 6 [.ref (xa E r0), .int x1, .int x2, .ref (xa E r3)] h (f_L_setFlow h r0 x1 x2 r3) := by
  refine x_ofWH hl0 (by decide +kernel) ?_
  intro z hf p e s m args below meth c C0 hxt hargs hR
  subst hargs
  have C0 : x_C E p l s m meth c ([.ref (xa E r0), .int x1, .int x2, .ref (xa E r3)] : List Value).toArray cL_setFlow 5 "GridEngineLaw" "setFlow" (some .int) := C0
  obtain ⟨hx, hb, -⟩ := id C0
  have hS : va_S (x_A E) s.heap s.heap [] := va_S.rf
  have hl := lv_entry ([.ref (xa E r0), .int x1, .int x2, .ref (xa E r3)]) (n := 5) (Nat.le_of_ble_eq_true rfl)
  rw [lg_entry_eq]
  generalize (lg_sl ([.ref (xa E r0), .int x1, .int x2, .ref (xa E r3)]) ++ List.replicate (5 - (lg_sl ([.ref (xa E r0), .int x1, .int x2, .ref (xa E r3)])).length) Slot.unset).toArray = ls at hl ⊢
  have hl : lv_has ls 5 [(0, .ref (xa E r0)), (1, .int x1), (2, .int x2), (3, .ref (xa E r3))] := hl
  unfold f_L_setFlow at hf
  have h0 : x_by cL_setFlow 0 [45, 3, 42, 27, 28, 182, 0, 33, 133, 80, 167, 0, 7] := by unfold x_by; decide +kernel
  obtain ⟨d0, h0⟩ := de_aload_n3 h0
  obtain ⟨d1, h0⟩ := de_iconst_0 h0
  obtain ⟨d2, h0⟩ := de_aload_n0 h0
  obtain ⟨d3, h0⟩ := de_iload_n1 h0
  obtain ⟨d4, h0⟩ := de_iload_n2 h0
  obtain ⟨d5, h0⟩ := de_invokevirtual 33 (by decide) h0
  obtain ⟨d8, h0⟩ := de_i2l h0
  obtain ⟨d9, h0⟩ := de_lastore h0
  obtain ⟨d10, h0⟩ := de_goto (7) (by decide) h0
  refine lv_aload_n hx hb d0 rfl (lv_at hl 3 rfl) ?_
  refine lv_iconst (v := 0) hx hb d1 (by decide) ?_
  refine lv_aload_n hx hb d2 rfl (lv_at hl 0 rfl) ?_
  refine lv_iload_n hx hb d3 rfl (lv_at hl 1 rfl) ?_
  refine lv_iload_n hx hb d4 rfl (lv_at hl 2 rfl) ?_
  obtain ⟨hs9, hf⟩ := x_if hf
  rcases x_try_el1 hf with ⟨h9, i1, e0, hf⟩ | ⟨h9, w9, e0, hf⟩
  rotate_left
  · refine x_useX (x_runV C0 hR hS me_X7_setFlow wi_X7_setFlow wl_X7_setFlow ml_L_33 hs9 xcl_7 (As := [.int x1, .int x2]) (ct_X7_setFlow E l C0.2.2.2.2.2.2.2.1 _ r0 x1 x2) rfl rfl hl.1 (Nat.le_of_ble_eq_true rfl) d5 ⟨(Nat.le_of_ble_eq_true rfl), (Nat.le_of_ble_eq_true rfl)⟩ ⟨(Nat.le_of_ble_eq_true rfl), (Nat.le_of_ble_eq_true rfl)⟩ e0) hS (fun ce q9 H locs hR hS g1 g2 g3 => ?_)
    refine x_catchA C0 hxt (by decide) (by decide) cl_L_19 wc_IllegalArgumentException g1 g2 g3 ?_
    have d13 : decode cL_setFlow 13 = .ok (.astore 4, 2) := by decide +kernel
    have d15 : decode cL_setFlow 15 = .ok (.iconst 1, 1) := by decide +kernel
    have d16 : decode cL_setFlow 16 = .ok (.ireturn, 1) := by decide +kernel
    refine lv_astore (lv' := [(4, .ref q9), (0, .ref (xa E r0)), (1, .int x1), (2, .int x2), (3, .ref (xa E r3))]) hx hb d13 hl (by decide) rfl (fun ls hl => ?_)
    refine lv_iconst (v := 1) hx hb d15 (by decide) ?_
    exact x_iret C0 hR hS hf (Nat.le_of_ble_eq_true rfl) (Nat.le_of_ble_eq_true rfl) d16
  refine x_useI (x_runV C0 hR hS me_X7_setFlow wi_X7_setFlow wl_X7_setFlow ml_L_33 hs9 xcl_7 (As := [.int x1, .int x2]) (ct_X7_setFlow E l C0.2.2.2.2.2.2.2.1 _ r0 x1 x2) rfl rfl hl.1 (Nat.le_of_ble_eq_true rfl) d5 ⟨(Nat.le_of_ble_eq_true rfl), (Nat.le_of_ble_eq_true rfl)⟩ ⟨(Nat.le_of_ble_eq_true rfl), (Nat.le_of_ble_eq_true rfl)⟩ e0) hS (fun H locs hR hS => ?_)
  refine lv_i2l hx hb d8 rfl ?_
  refine x_last C0 hR hS hf d9 (fun H locs hR hS hf => ?_)
  refine lv_goto (tgt := 17) hx hb d10 (by decide) ?_
  have h0 : x_by cL_setFlow 17 [3, 172] := by unfold x_by; decide +kernel
  obtain ⟨d17, h0⟩ := de_iconst_0 h0
  obtain ⟨d18, h0⟩ := de_ireturn h0
  refine lv_iconst (v := 0) hx hb d17 (by decide) ?_
  exact x_iret C0 hR hS hf (Nat.le_of_ble_eq_true rfl) (Nat.le_of_ble_eq_true rfl) d18
def f_L_addItem (h : HP) (r0 : Nat) (x1 : Int32) (x2 : Int32) (x3 : Int32) (x4 : Int32) (r5 : Nat) : Option XR :=
  x_rc h r0 7 <| x_try (f_X7_addItem h r0 x1 x2 x3 x4) [("java/lang/IllegalArgumentException", 1), ("java/lang/IllegalStateException", 2)] fun h2 i1 =>
  x_sJ h2 r5 0 ((i1 : Int32).toInt64) fun h3 =>
  some (h3, xi 0)
set_option maxRecDepth 100000 in
set_option maxHeartbeats 4000000 in
theorem ct_L_addItem (E : XE) (l : Launch) (hl0 : l.stackTraces = false) (h : HP) (r0 : Nat) (x1 : Int32) (x2 : Int32) (x3 : Int32) (x4 : Int32) (r5 : Nat) : x_ct E l yL_addItem (Cond.codeWith yL_addItem cL_addItem 7 (some .int) [(0,14,17,19),(0,14,21,13)]) 11 204 3 18 [.ref (xa E r0), .int x1, .int x2, .int x3, .int x4, .ref (xa E r5)] h (f_L_addItem h r0 x1 x2 x3 x4 r5) := by
  refine x_ofWH hl0 (by decide +kernel) ?_
  intro z hf p e s m args below meth c C0 hxt hargs hR
  subst hargs
  have C0 : x_C E p l s m meth c ([.ref (xa E r0), .int x1, .int x2, .int x3, .int x4, .ref (xa E r5)] : List Value).toArray cL_addItem 7 "GridEngineLaw" "addItem" (some .int) := C0
  obtain ⟨hx, hb, -⟩ := id C0
  have hS : va_S (x_A E) s.heap s.heap [] := va_S.rf
  have hl := lv_entry ([.ref (xa E r0), .int x1, .int x2, .int x3, .int x4, .ref (xa E r5)]) (n := 7) (Nat.le_of_ble_eq_true rfl)
  rw [lg_entry_eq]
  generalize (lg_sl ([.ref (xa E r0), .int x1, .int x2, .int x3, .int x4, .ref (xa E r5)]) ++ List.replicate (7 - (lg_sl ([.ref (xa E r0), .int x1, .int x2, .int x3, .int x4, .ref (xa E r5)])).length) Slot.unset).toArray = ls at hl ⊢
  have hl : lv_has ls 7 [(0, .ref (xa E r0)), (1, .int x1), (2, .int x2), (3, .int x3), (4, .int x4), (5, .ref (xa E r5))] := hl
  unfold f_L_addItem at hf
  have h0 : x_by cL_addItem 0 [25, 5, 3, 42, 27, 28, 29, 21, 4, 182, 0, 37, 133, 80, 167, 0, 11] := by unfold x_by; decide +kernel
  obtain ⟨d0, h0⟩ := de_aload h0
  obtain ⟨d2, h0⟩ := de_iconst_0 h0
  obtain ⟨d3, h0⟩ := de_aload_n0 h0
  obtain ⟨d4, h0⟩ := de_iload_n1 h0
  obtain ⟨d5, h0⟩ := de_iload_n2 h0
  obtain ⟨d6, h0⟩ := de_iload_n3 h0
  obtain ⟨d7, h0⟩ := de_iload h0
  obtain ⟨d9, h0⟩ := de_invokevirtual 37 (by decide) h0
  obtain ⟨d12, h0⟩ := de_i2l h0
  obtain ⟨d13, h0⟩ := de_lastore h0
  obtain ⟨d14, h0⟩ := de_goto (11) (by decide) h0
  refine lv_aload hx hb d0 (lv_at hl 5 rfl) ?_
  refine lv_iconst (v := 0) hx hb d2 (by decide) ?_
  refine lv_aload_n hx hb d3 rfl (lv_at hl 0 rfl) ?_
  refine lv_iload_n hx hb d4 rfl (lv_at hl 1 rfl) ?_
  refine lv_iload_n hx hb d5 rfl (lv_at hl 2 rfl) ?_
  refine lv_iload_n hx hb d6 rfl (lv_at hl 3 rfl) ?_
  refine lv_iload hx hb d7 (lv_at hl 4 rfl) ?_
  obtain ⟨hs9, hf⟩ := x_if hf
  rcases x_try_el2 hf with ⟨h9, i1, e0, hf⟩ | ⟨h9, w9, e0, hf⟩ | ⟨h9, w9, e0, hf⟩
  rotate_left
  · refine x_useX (x_runV C0 hR hS me_X7_addItem wi_X7_addItem wl_X7_addItem ml_L_37 hs9 xcl_7 (As := [.int x1, .int x2, .int x3, .int x4]) (ct_X7_addItem E l C0.2.2.2.2.2.2.2.1 _ r0 x1 x2 x3 x4) rfl rfl hl.1 (Nat.le_of_ble_eq_true rfl) d9 ⟨(Nat.le_of_ble_eq_true rfl), (Nat.le_of_ble_eq_true rfl)⟩ ⟨(Nat.le_of_ble_eq_true rfl), (Nat.le_of_ble_eq_true rfl)⟩ e0) hS (fun ce q9 H locs hR hS g1 g2 g3 => ?_)
    refine x_catchA C0 hxt (by decide) (by decide) cl_L_19 wc_IllegalArgumentException g1 g2 g3 ?_
    have d17 : decode cL_addItem 17 = .ok (.astore 6, 2) := by decide +kernel
    have d19 : decode cL_addItem 19 = .ok (.iconst 1, 1) := by decide +kernel
    have d20 : decode cL_addItem 20 = .ok (.ireturn, 1) := by decide +kernel
    refine lv_astore (lv' := [(6, .ref q9), (0, .ref (xa E r0)), (1, .int x1), (2, .int x2), (3, .int x3), (4, .int x4), (5, .ref (xa E r5))]) hx hb d17 hl (by decide) rfl (fun ls hl => ?_)
    refine lv_iconst (v := 1) hx hb d19 (by decide) ?_
    exact x_iret C0 hR hS hf (Nat.le_of_ble_eq_true rfl) (Nat.le_of_ble_eq_true rfl) d20
  · refine x_useX (x_runV C0 hR hS me_X7_addItem wi_X7_addItem wl_X7_addItem ml_L_37 hs9 xcl_7 (As := [.int x1, .int x2, .int x3, .int x4]) (ct_X7_addItem E l C0.2.2.2.2.2.2.2.1 _ r0 x1 x2 x3 x4) rfl rfl hl.1 (Nat.le_of_ble_eq_true rfl) d9 ⟨(Nat.le_of_ble_eq_true rfl), (Nat.le_of_ble_eq_true rfl)⟩ ⟨(Nat.le_of_ble_eq_true rfl), (Nat.le_of_ble_eq_true rfl)⟩ e0) hS (fun ce q9 H locs hR hS g1 g2 g3 => ?_)
    refine x_catchB C0 hxt (by decide) (by decide) cl_L_13 wc_IllegalStateException (by decide) cl_L_19 (by simp [x_xs]) (by simp [x_xs]) (by decide) g1 g2 g3 ?_
    have d21 : decode cL_addItem 21 = .ok (.astore 6, 2) := by decide +kernel
    have d23 : decode cL_addItem 23 = .ok (.iconst 2, 1) := by decide +kernel
    have d24 : decode cL_addItem 24 = .ok (.ireturn, 1) := by decide +kernel
    refine lv_astore (lv' := [(6, .ref q9), (0, .ref (xa E r0)), (1, .int x1), (2, .int x2), (3, .int x3), (4, .int x4), (5, .ref (xa E r5))]) hx hb d21 hl (by decide) rfl (fun ls hl => ?_)
    refine lv_iconst (v := 2) hx hb d23 (by decide) ?_
    exact x_iret C0 hR hS hf (Nat.le_of_ble_eq_true rfl) (Nat.le_of_ble_eq_true rfl) d24
  refine x_useI (x_runV C0 hR hS me_X7_addItem wi_X7_addItem wl_X7_addItem ml_L_37 hs9 xcl_7 (As := [.int x1, .int x2, .int x3, .int x4]) (ct_X7_addItem E l C0.2.2.2.2.2.2.2.1 _ r0 x1 x2 x3 x4) rfl rfl hl.1 (Nat.le_of_ble_eq_true rfl) d9 ⟨(Nat.le_of_ble_eq_true rfl), (Nat.le_of_ble_eq_true rfl)⟩ ⟨(Nat.le_of_ble_eq_true rfl), (Nat.le_of_ble_eq_true rfl)⟩ e0) hS (fun H locs hR hS => ?_)
  refine lv_i2l hx hb d12 rfl ?_
  refine x_last C0 hR hS hf d13 (fun H locs hR hS hf => ?_)
  refine lv_goto (tgt := 25) hx hb d14 (by decide) ?_
  have h0 : x_by cL_addItem 25 [3, 172] := by unfold x_by; decide +kernel
  obtain ⟨d25, h0⟩ := de_iconst_0 h0
  obtain ⟨d26, h0⟩ := de_ireturn h0
  refine lv_iconst (v := 0) hx hb d25 (by decide) ?_
  exact x_iret C0 hR hS hf (Nat.le_of_ble_eq_true rfl) (Nat.le_of_ble_eq_true rfl) d26
def f_L_place (h : HP) (r0 : Nat) (x1 : Int32) (x2 : Int32) (x3 : Int32) (x4 : Int32) (r5 : Nat) : Option XR :=
  x_rc h r0 7 <| x_try (f_X7_place h r0 x1 x2 x3 x4) [("java/lang/IndexOutOfBoundsException", 1), ("java/lang/IllegalArgumentException", 2)] fun h2 i1 =>
  x_sJ h2 r5 0 ((i1 : Int32).toInt64) fun h3 =>
  some (h3, xi 0)
set_option maxRecDepth 100000 in
set_option maxHeartbeats 4000000 in
theorem ct_L_place (E : XE) (l : Launch) (hl0 : l.stackTraces = false) (h : HP) (r0 : Nat) (x1 : Int32) (x2 : Int32) (x3 : Int32) (x4 : Int32) (r5 : Nat) : x_ct E l yL_place (Cond.codeWith yL_place cL_place 7 (some .int) [(0,14,17,28),(0,14,21,19)]) 11 197 4 24 [.ref (xa E r0), .int x1, .int x2, .int x3, .int x4, .ref (xa E r5)] h (f_L_place h r0 x1 x2 x3 x4 r5) := by
  refine x_ofWH hl0 (by decide +kernel) ?_
  intro z hf p e s m args below meth c C0 hxt hargs hR
  subst hargs
  have C0 : x_C E p l s m meth c ([.ref (xa E r0), .int x1, .int x2, .int x3, .int x4, .ref (xa E r5)] : List Value).toArray cL_place 7 "GridEngineLaw" "place" (some .int) := C0
  obtain ⟨hx, hb, -⟩ := id C0
  have hS : va_S (x_A E) s.heap s.heap [] := va_S.rf
  have hl := lv_entry ([.ref (xa E r0), .int x1, .int x2, .int x3, .int x4, .ref (xa E r5)]) (n := 7) (Nat.le_of_ble_eq_true rfl)
  rw [lg_entry_eq]
  generalize (lg_sl ([.ref (xa E r0), .int x1, .int x2, .int x3, .int x4, .ref (xa E r5)]) ++ List.replicate (7 - (lg_sl ([.ref (xa E r0), .int x1, .int x2, .int x3, .int x4, .ref (xa E r5)])).length) Slot.unset).toArray = ls at hl ⊢
  have hl : lv_has ls 7 [(0, .ref (xa E r0)), (1, .int x1), (2, .int x2), (3, .int x3), (4, .int x4), (5, .ref (xa E r5))] := hl
  unfold f_L_place at hf
  have h0 : x_by cL_place 0 [25, 5, 3, 42, 27, 28, 29, 21, 4, 182, 0, 41, 133, 80, 167, 0, 11] := by unfold x_by; decide +kernel
  obtain ⟨d0, h0⟩ := de_aload h0
  obtain ⟨d2, h0⟩ := de_iconst_0 h0
  obtain ⟨d3, h0⟩ := de_aload_n0 h0
  obtain ⟨d4, h0⟩ := de_iload_n1 h0
  obtain ⟨d5, h0⟩ := de_iload_n2 h0
  obtain ⟨d6, h0⟩ := de_iload_n3 h0
  obtain ⟨d7, h0⟩ := de_iload h0
  obtain ⟨d9, h0⟩ := de_invokevirtual 41 (by decide) h0
  obtain ⟨d12, h0⟩ := de_i2l h0
  obtain ⟨d13, h0⟩ := de_lastore h0
  obtain ⟨d14, h0⟩ := de_goto (11) (by decide) h0
  refine lv_aload hx hb d0 (lv_at hl 5 rfl) ?_
  refine lv_iconst (v := 0) hx hb d2 (by decide) ?_
  refine lv_aload_n hx hb d3 rfl (lv_at hl 0 rfl) ?_
  refine lv_iload_n hx hb d4 rfl (lv_at hl 1 rfl) ?_
  refine lv_iload_n hx hb d5 rfl (lv_at hl 2 rfl) ?_
  refine lv_iload_n hx hb d6 rfl (lv_at hl 3 rfl) ?_
  refine lv_iload hx hb d7 (lv_at hl 4 rfl) ?_
  obtain ⟨hs9, hf⟩ := x_if hf
  rcases x_try_el2 hf with ⟨h9, i1, e0, hf⟩ | ⟨h9, w9, e0, hf⟩ | ⟨h9, w9, e0, hf⟩
  rotate_left
  · refine x_useX (x_runV C0 hR hS me_X7_place wi_X7_place wl_X7_place ml_L_41 hs9 xcl_7 (As := [.int x1, .int x2, .int x3, .int x4]) (ct_X7_place E l C0.2.2.2.2.2.2.2.1 _ r0 x1 x2 x3 x4) rfl rfl hl.1 (Nat.le_of_ble_eq_true rfl) d9 ⟨(Nat.le_of_ble_eq_true rfl), (Nat.le_of_ble_eq_true rfl)⟩ ⟨(Nat.le_of_ble_eq_true rfl), (Nat.le_of_ble_eq_true rfl)⟩ e0) hS (fun ce q9 H locs hR hS g1 g2 g3 => ?_)
    refine x_catchA C0 hxt (by decide) (by decide) cl_L_28 wc_IndexOutOfBoundsException g1 g2 g3 ?_
    have d17 : decode cL_place 17 = .ok (.astore 6, 2) := by decide +kernel
    have d19 : decode cL_place 19 = .ok (.iconst 1, 1) := by decide +kernel
    have d20 : decode cL_place 20 = .ok (.ireturn, 1) := by decide +kernel
    refine lv_astore (lv' := [(6, .ref q9), (0, .ref (xa E r0)), (1, .int x1), (2, .int x2), (3, .int x3), (4, .int x4), (5, .ref (xa E r5))]) hx hb d17 hl (by decide) rfl (fun ls hl => ?_)
    refine lv_iconst (v := 1) hx hb d19 (by decide) ?_
    exact x_iret C0 hR hS hf (Nat.le_of_ble_eq_true rfl) (Nat.le_of_ble_eq_true rfl) d20
  · refine x_useX (x_runV C0 hR hS me_X7_place wi_X7_place wl_X7_place ml_L_41 hs9 xcl_7 (As := [.int x1, .int x2, .int x3, .int x4]) (ct_X7_place E l C0.2.2.2.2.2.2.2.1 _ r0 x1 x2 x3 x4) rfl rfl hl.1 (Nat.le_of_ble_eq_true rfl) d9 ⟨(Nat.le_of_ble_eq_true rfl), (Nat.le_of_ble_eq_true rfl)⟩ ⟨(Nat.le_of_ble_eq_true rfl), (Nat.le_of_ble_eq_true rfl)⟩ e0) hS (fun ce q9 H locs hR hS g1 g2 g3 => ?_)
    refine x_catchB C0 hxt (by decide) (by decide) cl_L_19 wc_IllegalArgumentException (by decide) cl_L_28 (by simp [x_xs]) (by simp [x_xs]) (by decide) g1 g2 g3 ?_
    have d21 : decode cL_place 21 = .ok (.astore 6, 2) := by decide +kernel
    have d23 : decode cL_place 23 = .ok (.iconst 2, 1) := by decide +kernel
    have d24 : decode cL_place 24 = .ok (.ireturn, 1) := by decide +kernel
    refine lv_astore (lv' := [(6, .ref q9), (0, .ref (xa E r0)), (1, .int x1), (2, .int x2), (3, .int x3), (4, .int x4), (5, .ref (xa E r5))]) hx hb d21 hl (by decide) rfl (fun ls hl => ?_)
    refine lv_iconst (v := 2) hx hb d23 (by decide) ?_
    exact x_iret C0 hR hS hf (Nat.le_of_ble_eq_true rfl) (Nat.le_of_ble_eq_true rfl) d24
  refine x_useI (x_runV C0 hR hS me_X7_place wi_X7_place wl_X7_place ml_L_41 hs9 xcl_7 (As := [.int x1, .int x2, .int x3, .int x4]) (ct_X7_place E l C0.2.2.2.2.2.2.2.1 _ r0 x1 x2 x3 x4) rfl rfl hl.1 (Nat.le_of_ble_eq_true rfl) d9 ⟨(Nat.le_of_ble_eq_true rfl), (Nat.le_of_ble_eq_true rfl)⟩ ⟨(Nat.le_of_ble_eq_true rfl), (Nat.le_of_ble_eq_true rfl)⟩ e0) hS (fun H locs hR hS => ?_)
  refine lv_i2l hx hb d12 rfl ?_
  refine x_last C0 hR hS hf d13 (fun H locs hR hS hf => ?_)
  refine lv_goto (tgt := 25) hx hb d14 (by decide) ?_
  have h0 : x_by cL_place 25 [3, 172] := by unfold x_by; decide +kernel
  obtain ⟨d25, h0⟩ := de_iconst_0 h0
  obtain ⟨d26, h0⟩ := de_ireturn h0
  refine lv_iconst (v := 0) hx hb d25 (by decide) ?_
  exact x_iret C0 hR hS hf (Nat.le_of_ble_eq_true rfl) (Nat.le_of_ble_eq_true rfl) d26
def f_L_align (h : HP) (r0 : Nat) (x1 : Int32) (x2 : Int32) (x3 : Int32) (r4 : Nat) : Option XR :=
  x_rc h r0 7 <| x_try (f_X7_align h r0 x1 x2 x3) [("java/lang/IndexOutOfBoundsException", 1), ("java/lang/IllegalArgumentException", 2)] fun h2 i1 =>
  x_sJ h2 r4 0 ((i1 : Int32).toInt64) fun h3 =>
  some (h3, xi 0)
set_option maxRecDepth 100000 in
set_option maxHeartbeats 4000000 in
theorem ct_L_align (E : XE) (l : Launch) (hl0 : l.stackTraces = false) (h : HP) (r0 : Nat) (x1 : Int32) (x2 : Int32) (x3 : Int32) (r4 : Nat) : x_ct E l yL_align (Cond.codeWith yL_align cL_align 6 (some .int) [(0,12,15,28),(0,12,19,19)]) 11 195 3 18 [.ref (xa E r0), .int x1, .int x2, .int x3, .ref (xa E r4)] h (f_L_align h r0 x1 x2 x3 r4) := by
  refine x_ofWH hl0 (by decide +kernel) ?_
  intro z hf p e s m args below meth c C0 hxt hargs hR
  subst hargs
  have C0 : x_C E p l s m meth c ([.ref (xa E r0), .int x1, .int x2, .int x3, .ref (xa E r4)] : List Value).toArray cL_align 6 "GridEngineLaw" "align" (some .int) := C0
  obtain ⟨hx, hb, -⟩ := id C0
  have hS : va_S (x_A E) s.heap s.heap [] := va_S.rf
  have hl := lv_entry ([.ref (xa E r0), .int x1, .int x2, .int x3, .ref (xa E r4)]) (n := 6) (Nat.le_of_ble_eq_true rfl)
  rw [lg_entry_eq]
  generalize (lg_sl ([.ref (xa E r0), .int x1, .int x2, .int x3, .ref (xa E r4)]) ++ List.replicate (6 - (lg_sl ([.ref (xa E r0), .int x1, .int x2, .int x3, .ref (xa E r4)])).length) Slot.unset).toArray = ls at hl ⊢
  have hl : lv_has ls 6 [(0, .ref (xa E r0)), (1, .int x1), (2, .int x2), (3, .int x3), (4, .ref (xa E r4))] := hl
  unfold f_L_align at hf
  have h0 : x_by cL_align 0 [25, 4, 3, 42, 27, 28, 29, 182, 0, 44, 133, 80, 167, 0, 11] := by unfold x_by; decide +kernel
  obtain ⟨d0, h0⟩ := de_aload h0
  obtain ⟨d2, h0⟩ := de_iconst_0 h0
  obtain ⟨d3, h0⟩ := de_aload_n0 h0
  obtain ⟨d4, h0⟩ := de_iload_n1 h0
  obtain ⟨d5, h0⟩ := de_iload_n2 h0
  obtain ⟨d6, h0⟩ := de_iload_n3 h0
  obtain ⟨d7, h0⟩ := de_invokevirtual 44 (by decide) h0
  obtain ⟨d10, h0⟩ := de_i2l h0
  obtain ⟨d11, h0⟩ := de_lastore h0
  obtain ⟨d12, h0⟩ := de_goto (11) (by decide) h0
  refine lv_aload hx hb d0 (lv_at hl 4 rfl) ?_
  refine lv_iconst (v := 0) hx hb d2 (by decide) ?_
  refine lv_aload_n hx hb d3 rfl (lv_at hl 0 rfl) ?_
  refine lv_iload_n hx hb d4 rfl (lv_at hl 1 rfl) ?_
  refine lv_iload_n hx hb d5 rfl (lv_at hl 2 rfl) ?_
  refine lv_iload_n hx hb d6 rfl (lv_at hl 3 rfl) ?_
  obtain ⟨hs9, hf⟩ := x_if hf
  rcases x_try_el2 hf with ⟨h9, i1, e0, hf⟩ | ⟨h9, w9, e0, hf⟩ | ⟨h9, w9, e0, hf⟩
  rotate_left
  · refine x_useX (x_runV C0 hR hS me_X7_align wi_X7_align wl_X7_align ml_L_44 hs9 xcl_7 (As := [.int x1, .int x2, .int x3]) (ct_X7_align E l C0.2.2.2.2.2.2.2.1 _ r0 x1 x2 x3) rfl rfl hl.1 (Nat.le_of_ble_eq_true rfl) d7 ⟨(Nat.le_of_ble_eq_true rfl), (Nat.le_of_ble_eq_true rfl)⟩ ⟨(Nat.le_of_ble_eq_true rfl), (Nat.le_of_ble_eq_true rfl)⟩ e0) hS (fun ce q9 H locs hR hS g1 g2 g3 => ?_)
    refine x_catchA C0 hxt (by decide) (by decide) cl_L_28 wc_IndexOutOfBoundsException g1 g2 g3 ?_
    have d15 : decode cL_align 15 = .ok (.astore 5, 2) := by decide +kernel
    have d17 : decode cL_align 17 = .ok (.iconst 1, 1) := by decide +kernel
    have d18 : decode cL_align 18 = .ok (.ireturn, 1) := by decide +kernel
    refine lv_astore (lv' := [(5, .ref q9), (0, .ref (xa E r0)), (1, .int x1), (2, .int x2), (3, .int x3), (4, .ref (xa E r4))]) hx hb d15 hl (by decide) rfl (fun ls hl => ?_)
    refine lv_iconst (v := 1) hx hb d17 (by decide) ?_
    exact x_iret C0 hR hS hf (Nat.le_of_ble_eq_true rfl) (Nat.le_of_ble_eq_true rfl) d18
  · refine x_useX (x_runV C0 hR hS me_X7_align wi_X7_align wl_X7_align ml_L_44 hs9 xcl_7 (As := [.int x1, .int x2, .int x3]) (ct_X7_align E l C0.2.2.2.2.2.2.2.1 _ r0 x1 x2 x3) rfl rfl hl.1 (Nat.le_of_ble_eq_true rfl) d7 ⟨(Nat.le_of_ble_eq_true rfl), (Nat.le_of_ble_eq_true rfl)⟩ ⟨(Nat.le_of_ble_eq_true rfl), (Nat.le_of_ble_eq_true rfl)⟩ e0) hS (fun ce q9 H locs hR hS g1 g2 g3 => ?_)
    refine x_catchB C0 hxt (by decide) (by decide) cl_L_19 wc_IllegalArgumentException (by decide) cl_L_28 (by simp [x_xs]) (by simp [x_xs]) (by decide) g1 g2 g3 ?_
    have d19 : decode cL_align 19 = .ok (.astore 5, 2) := by decide +kernel
    have d21 : decode cL_align 21 = .ok (.iconst 2, 1) := by decide +kernel
    have d22 : decode cL_align 22 = .ok (.ireturn, 1) := by decide +kernel
    refine lv_astore (lv' := [(5, .ref q9), (0, .ref (xa E r0)), (1, .int x1), (2, .int x2), (3, .int x3), (4, .ref (xa E r4))]) hx hb d19 hl (by decide) rfl (fun ls hl => ?_)
    refine lv_iconst (v := 2) hx hb d21 (by decide) ?_
    exact x_iret C0 hR hS hf (Nat.le_of_ble_eq_true rfl) (Nat.le_of_ble_eq_true rfl) d22
  refine x_useI (x_runV C0 hR hS me_X7_align wi_X7_align wl_X7_align ml_L_44 hs9 xcl_7 (As := [.int x1, .int x2, .int x3]) (ct_X7_align E l C0.2.2.2.2.2.2.2.1 _ r0 x1 x2 x3) rfl rfl hl.1 (Nat.le_of_ble_eq_true rfl) d7 ⟨(Nat.le_of_ble_eq_true rfl), (Nat.le_of_ble_eq_true rfl)⟩ ⟨(Nat.le_of_ble_eq_true rfl), (Nat.le_of_ble_eq_true rfl)⟩ e0) hS (fun H locs hR hS => ?_)
  refine lv_i2l hx hb d10 rfl ?_
  refine x_last C0 hR hS hf d11 (fun H locs hR hS hf => ?_)
  refine lv_goto (tgt := 23) hx hb d12 (by decide) ?_
  have h0 : x_by cL_align 23 [3, 172] := by unfold x_by; decide +kernel
  obtain ⟨d23, h0⟩ := de_iconst_0 h0
  obtain ⟨d24, h0⟩ := de_ireturn h0
  refine lv_iconst (v := 0) hx hb d23 (by decide) ?_
  exact x_iret C0 hR hS hf (Nat.le_of_ble_eq_true rfl) (Nat.le_of_ble_eq_true rfl) d24
def f_L_contribute (h : HP) (r0 : Nat) (x1 : Int32) (x2 : Int32) (x3 : Int32) (x4 : Int32) (r5 : Nat) : Option XR :=
  x_rc h r0 7 <| x_try (f_X7_contribute h r0 x1 x2 x3 x4) [("java/lang/IndexOutOfBoundsException", 1), ("java/lang/IllegalArgumentException", 2)] fun h2 i1 =>
  x_sJ h2 r5 0 ((i1 : Int32).toInt64) fun h3 =>
  some (h3, xi 0)
set_option maxRecDepth 100000 in
set_option maxHeartbeats 4000000 in
theorem ct_L_contribute (E : XE) (l : Launch) (hl0 : l.stackTraces = false) (h : HP) (r0 : Nat) (x1 : Int32) (x2 : Int32) (x3 : Int32) (x4 : Int32) (r5 : Nat) : x_ct E l yL_contribute (Cond.codeWith yL_contribute cL_contribute 7 (some .int) [(0,14,17,28),(0,14,21,19)]) 11 199 3 18 [.ref (xa E r0), .int x1, .int x2, .int x3, .int x4, .ref (xa E r5)] h (f_L_contribute h r0 x1 x2 x3 x4 r5) := by
  refine x_ofWH hl0 (by decide +kernel) ?_
  intro z hf p e s m args below meth c C0 hxt hargs hR
  subst hargs
  have C0 : x_C E p l s m meth c ([.ref (xa E r0), .int x1, .int x2, .int x3, .int x4, .ref (xa E r5)] : List Value).toArray cL_contribute 7 "GridEngineLaw" "contribute" (some .int) := C0
  obtain ⟨hx, hb, -⟩ := id C0
  have hS : va_S (x_A E) s.heap s.heap [] := va_S.rf
  have hl := lv_entry ([.ref (xa E r0), .int x1, .int x2, .int x3, .int x4, .ref (xa E r5)]) (n := 7) (Nat.le_of_ble_eq_true rfl)
  rw [lg_entry_eq]
  generalize (lg_sl ([.ref (xa E r0), .int x1, .int x2, .int x3, .int x4, .ref (xa E r5)]) ++ List.replicate (7 - (lg_sl ([.ref (xa E r0), .int x1, .int x2, .int x3, .int x4, .ref (xa E r5)])).length) Slot.unset).toArray = ls at hl ⊢
  have hl : lv_has ls 7 [(0, .ref (xa E r0)), (1, .int x1), (2, .int x2), (3, .int x3), (4, .int x4), (5, .ref (xa E r5))] := hl
  unfold f_L_contribute at hf
  have h0 : x_by cL_contribute 0 [25, 5, 3, 42, 27, 28, 29, 21, 4, 182, 0, 47, 133, 80, 167, 0, 11] := by unfold x_by; decide +kernel
  obtain ⟨d0, h0⟩ := de_aload h0
  obtain ⟨d2, h0⟩ := de_iconst_0 h0
  obtain ⟨d3, h0⟩ := de_aload_n0 h0
  obtain ⟨d4, h0⟩ := de_iload_n1 h0
  obtain ⟨d5, h0⟩ := de_iload_n2 h0
  obtain ⟨d6, h0⟩ := de_iload_n3 h0
  obtain ⟨d7, h0⟩ := de_iload h0
  obtain ⟨d9, h0⟩ := de_invokevirtual 47 (by decide) h0
  obtain ⟨d12, h0⟩ := de_i2l h0
  obtain ⟨d13, h0⟩ := de_lastore h0
  obtain ⟨d14, h0⟩ := de_goto (11) (by decide) h0
  refine lv_aload hx hb d0 (lv_at hl 5 rfl) ?_
  refine lv_iconst (v := 0) hx hb d2 (by decide) ?_
  refine lv_aload_n hx hb d3 rfl (lv_at hl 0 rfl) ?_
  refine lv_iload_n hx hb d4 rfl (lv_at hl 1 rfl) ?_
  refine lv_iload_n hx hb d5 rfl (lv_at hl 2 rfl) ?_
  refine lv_iload_n hx hb d6 rfl (lv_at hl 3 rfl) ?_
  refine lv_iload hx hb d7 (lv_at hl 4 rfl) ?_
  obtain ⟨hs9, hf⟩ := x_if hf
  rcases x_try_el2 hf with ⟨h9, i1, e0, hf⟩ | ⟨h9, w9, e0, hf⟩ | ⟨h9, w9, e0, hf⟩
  rotate_left
  · refine x_useX (x_runV C0 hR hS me_X7_contribute wi_X7_contribute wl_X7_contribute ml_L_47 hs9 xcl_7 (As := [.int x1, .int x2, .int x3, .int x4]) (ct_X7_contribute E l C0.2.2.2.2.2.2.2.1 _ r0 x1 x2 x3 x4) rfl rfl hl.1 (Nat.le_of_ble_eq_true rfl) d9 ⟨(Nat.le_of_ble_eq_true rfl), (Nat.le_of_ble_eq_true rfl)⟩ ⟨(Nat.le_of_ble_eq_true rfl), (Nat.le_of_ble_eq_true rfl)⟩ e0) hS (fun ce q9 H locs hR hS g1 g2 g3 => ?_)
    refine x_catchA C0 hxt (by decide) (by decide) cl_L_28 wc_IndexOutOfBoundsException g1 g2 g3 ?_
    have d17 : decode cL_contribute 17 = .ok (.astore 6, 2) := by decide +kernel
    have d19 : decode cL_contribute 19 = .ok (.iconst 1, 1) := by decide +kernel
    have d20 : decode cL_contribute 20 = .ok (.ireturn, 1) := by decide +kernel
    refine lv_astore (lv' := [(6, .ref q9), (0, .ref (xa E r0)), (1, .int x1), (2, .int x2), (3, .int x3), (4, .int x4), (5, .ref (xa E r5))]) hx hb d17 hl (by decide) rfl (fun ls hl => ?_)
    refine lv_iconst (v := 1) hx hb d19 (by decide) ?_
    exact x_iret C0 hR hS hf (Nat.le_of_ble_eq_true rfl) (Nat.le_of_ble_eq_true rfl) d20
  · refine x_useX (x_runV C0 hR hS me_X7_contribute wi_X7_contribute wl_X7_contribute ml_L_47 hs9 xcl_7 (As := [.int x1, .int x2, .int x3, .int x4]) (ct_X7_contribute E l C0.2.2.2.2.2.2.2.1 _ r0 x1 x2 x3 x4) rfl rfl hl.1 (Nat.le_of_ble_eq_true rfl) d9 ⟨(Nat.le_of_ble_eq_true rfl), (Nat.le_of_ble_eq_true rfl)⟩ ⟨(Nat.le_of_ble_eq_true rfl), (Nat.le_of_ble_eq_true rfl)⟩ e0) hS (fun ce q9 H locs hR hS g1 g2 g3 => ?_)
    refine x_catchB C0 hxt (by decide) (by decide) cl_L_19 wc_IllegalArgumentException (by decide) cl_L_28 (by simp [x_xs]) (by simp [x_xs]) (by decide) g1 g2 g3 ?_
    have d21 : decode cL_contribute 21 = .ok (.astore 6, 2) := by decide +kernel
    have d23 : decode cL_contribute 23 = .ok (.iconst 2, 1) := by decide +kernel
    have d24 : decode cL_contribute 24 = .ok (.ireturn, 1) := by decide +kernel
    refine lv_astore (lv' := [(6, .ref q9), (0, .ref (xa E r0)), (1, .int x1), (2, .int x2), (3, .int x3), (4, .int x4), (5, .ref (xa E r5))]) hx hb d21 hl (by decide) rfl (fun ls hl => ?_)
    refine lv_iconst (v := 2) hx hb d23 (by decide) ?_
    exact x_iret C0 hR hS hf (Nat.le_of_ble_eq_true rfl) (Nat.le_of_ble_eq_true rfl) d24
  refine x_useI (x_runV C0 hR hS me_X7_contribute wi_X7_contribute wl_X7_contribute ml_L_47 hs9 xcl_7 (As := [.int x1, .int x2, .int x3, .int x4]) (ct_X7_contribute E l C0.2.2.2.2.2.2.2.1 _ r0 x1 x2 x3 x4) rfl rfl hl.1 (Nat.le_of_ble_eq_true rfl) d9 ⟨(Nat.le_of_ble_eq_true rfl), (Nat.le_of_ble_eq_true rfl)⟩ ⟨(Nat.le_of_ble_eq_true rfl), (Nat.le_of_ble_eq_true rfl)⟩ e0) hS (fun H locs hR hS => ?_)
  refine lv_i2l hx hb d12 rfl ?_
  refine x_last C0 hR hS hf d13 (fun H locs hR hS hf => ?_)
  refine lv_goto (tgt := 25) hx hb d14 (by decide) ?_
  have h0 : x_by cL_contribute 25 [3, 172] := by unfold x_by; decide +kernel
  obtain ⟨d25, h0⟩ := de_iconst_0 h0
  obtain ⟨d26, h0⟩ := de_ireturn h0
  refine lv_iconst (v := 0) hx hb d25 (by decide) ?_
  exact x_iret C0 hR hS hf (Nat.le_of_ble_eq_true rfl) (Nat.le_of_ble_eq_true rfl) d26
def f_L_removeItem (h : HP) (r0 : Nat) (x1 : Int32) (r2 : Nat) : Option XR :=
  x_rc h r0 7 <| x_try (f_X7_removeItem h r0 x1) [("java/lang/IndexOutOfBoundsException", 1)] fun h2 i1 =>
  x_sJ h2 r2 0 ((i1 : Int32).toInt64) fun h3 =>
  some (h3, xi 0)
set_option maxRecDepth 100000 in
set_option maxHeartbeats 4000000 in
theorem ct_L_removeItem (E : XE) (l : Launch) (hl0 : l.stackTraces = false) (h : HP) (r0 : Nat) (x1 : Int32) (r2 : Nat) : x_ct E l yL_removeItem (Cond.codeWith yL_removeItem cL_removeItem 4 (some .int) [(0,9,12,28)]) 11 192 1 6 [.ref (xa E r0), .int x1, .ref (xa E r2)] h (f_L_removeItem h r0 x1 r2) := by
  refine x_ofWH hl0 (by decide +kernel) ?_
  intro z hf p e s m args below meth c C0 hxt hargs hR
  subst hargs
  have C0 : x_C E p l s m meth c ([.ref (xa E r0), .int x1, .ref (xa E r2)] : List Value).toArray cL_removeItem 4 "GridEngineLaw" "removeItem" (some .int) := C0
  obtain ⟨hx, hb, -⟩ := id C0
  have hS : va_S (x_A E) s.heap s.heap [] := va_S.rf
  have hl := lv_entry ([.ref (xa E r0), .int x1, .ref (xa E r2)]) (n := 4) (Nat.le_of_ble_eq_true rfl)
  rw [lg_entry_eq]
  generalize (lg_sl ([.ref (xa E r0), .int x1, .ref (xa E r2)]) ++ List.replicate (4 - (lg_sl ([.ref (xa E r0), .int x1, .ref (xa E r2)])).length) Slot.unset).toArray = ls at hl ⊢
  have hl : lv_has ls 4 [(0, .ref (xa E r0)), (1, .int x1), (2, .ref (xa E r2))] := hl
  unfold f_L_removeItem at hf
  have h0 : x_by cL_removeItem 0 [44, 3, 42, 27, 182, 0, 51, 133, 80, 167, 0, 6] := by unfold x_by; decide +kernel
  obtain ⟨d0, h0⟩ := de_aload_n2 h0
  obtain ⟨d1, h0⟩ := de_iconst_0 h0
  obtain ⟨d2, h0⟩ := de_aload_n0 h0
  obtain ⟨d3, h0⟩ := de_iload_n1 h0
  obtain ⟨d4, h0⟩ := de_invokevirtual 51 (by decide) h0
  obtain ⟨d7, h0⟩ := de_i2l h0
  obtain ⟨d8, h0⟩ := de_lastore h0
  obtain ⟨d9, h0⟩ := de_goto (6) (by decide) h0
  refine lv_aload_n hx hb d0 rfl (lv_at hl 2 rfl) ?_
  refine lv_iconst (v := 0) hx hb d1 (by decide) ?_
  refine lv_aload_n hx hb d2 rfl (lv_at hl 0 rfl) ?_
  refine lv_iload_n hx hb d3 rfl (lv_at hl 1 rfl) ?_
  obtain ⟨hs9, hf⟩ := x_if hf
  rcases x_try_el1 hf with ⟨h9, i1, e0, hf⟩ | ⟨h9, w9, e0, hf⟩
  rotate_left
  · refine x_useX (x_runV C0 hR hS me_X7_removeItem wi_X7_removeItem wl_X7_removeItem ml_L_51 hs9 xcl_7 (As := [.int x1]) (ct_X7_removeItem E l C0.2.2.2.2.2.2.2.1 _ r0 x1) rfl rfl hl.1 (Nat.le_of_ble_eq_true rfl) d4 ⟨(Nat.le_of_ble_eq_true rfl), (Nat.le_of_ble_eq_true rfl)⟩ ⟨(Nat.le_of_ble_eq_true rfl), (Nat.le_of_ble_eq_true rfl)⟩ e0) hS (fun ce q9 H locs hR hS g1 g2 g3 => ?_)
    refine x_catchA C0 hxt (by decide) (by decide) cl_L_28 wc_IndexOutOfBoundsException g1 g2 g3 ?_
    have d12 : decode cL_removeItem 12 = .ok (.astore_n 3, 1) := by decide +kernel
    have d13 : decode cL_removeItem 13 = .ok (.iconst 1, 1) := by decide +kernel
    have d14 : decode cL_removeItem 14 = .ok (.ireturn, 1) := by decide +kernel
    refine lv_astore_n (lv' := [(3, .ref q9), (0, .ref (xa E r0)), (1, .int x1), (2, .ref (xa E r2))]) hx hb d12 rfl hl (by decide) rfl (fun ls hl => ?_)
    refine lv_iconst (v := 1) hx hb d13 (by decide) ?_
    exact x_iret C0 hR hS hf (Nat.le_of_ble_eq_true rfl) (Nat.le_of_ble_eq_true rfl) d14
  refine x_useI (x_runV C0 hR hS me_X7_removeItem wi_X7_removeItem wl_X7_removeItem ml_L_51 hs9 xcl_7 (As := [.int x1]) (ct_X7_removeItem E l C0.2.2.2.2.2.2.2.1 _ r0 x1) rfl rfl hl.1 (Nat.le_of_ble_eq_true rfl) d4 ⟨(Nat.le_of_ble_eq_true rfl), (Nat.le_of_ble_eq_true rfl)⟩ ⟨(Nat.le_of_ble_eq_true rfl), (Nat.le_of_ble_eq_true rfl)⟩ e0) hS (fun H locs hR hS => ?_)
  refine lv_i2l hx hb d7 rfl ?_
  refine x_last C0 hR hS hf d8 (fun H locs hR hS hf => ?_)
  refine lv_goto (tgt := 15) hx hb d9 (by decide) ?_
  have h0 : x_by cL_removeItem 15 [3, 172] := by unfold x_by; decide +kernel
  obtain ⟨d15, h0⟩ := de_iconst_0 h0
  obtain ⟨d16, h0⟩ := de_ireturn h0
  refine lv_iconst (v := 0) hx hb d15 (by decide) ?_
  exact x_iret C0 hR hS hf (Nat.le_of_ble_eq_true rfl) (Nat.le_of_ble_eq_true rfl) d16
def f_L_exchange (h : HP) (r0 : Nat) (x1 : Int32) (x2 : Int32) (r3 : Nat) : Option XR :=
  x_rc h r0 7 <| x_try (f_X7_exchange h r0 x1 x2) [("java/lang/IndexOutOfBoundsException", 1)] fun h2 i1 =>
  x_sJ h2 r3 0 ((i1 : Int32).toInt64) fun h3 =>
  some (h3, xi 0)
set_option maxRecDepth 100000 in
set_option maxHeartbeats 4000000 in
theorem ct_L_exchange (E : XE) (l : Launch) (hl0 : l.stackTraces = false) (h : HP) (r0 : Nat) (x1 : Int32) (x2 : Int32) (r3 : Nat) : x_ct E l yL_exchange (Cond.codeWith yL_exchange cL_exchange 5 (some .int) [(0,10,13,28)]) 11 202 2 12 [.ref (xa E r0), .int x1, .int x2, .ref (xa E r3)] h (f_L_exchange h r0 x1 x2 r3) := by
  refine x_ofWH hl0 (by decide +kernel) ?_
  intro z hf p e s m args below meth c C0 hxt hargs hR
  subst hargs
  have C0 : x_C E p l s m meth c ([.ref (xa E r0), .int x1, .int x2, .ref (xa E r3)] : List Value).toArray cL_exchange 5 "GridEngineLaw" "exchange" (some .int) := C0
  obtain ⟨hx, hb, -⟩ := id C0
  have hS : va_S (x_A E) s.heap s.heap [] := va_S.rf
  have hl := lv_entry ([.ref (xa E r0), .int x1, .int x2, .ref (xa E r3)]) (n := 5) (Nat.le_of_ble_eq_true rfl)
  rw [lg_entry_eq]
  generalize (lg_sl ([.ref (xa E r0), .int x1, .int x2, .ref (xa E r3)]) ++ List.replicate (5 - (lg_sl ([.ref (xa E r0), .int x1, .int x2, .ref (xa E r3)])).length) Slot.unset).toArray = ls at hl ⊢
  have hl : lv_has ls 5 [(0, .ref (xa E r0)), (1, .int x1), (2, .int x2), (3, .ref (xa E r3))] := hl
  unfold f_L_exchange at hf
  have h0 : x_by cL_exchange 0 [45, 3, 42, 27, 28, 182, 0, 54, 133, 80, 167, 0, 7] := by unfold x_by; decide +kernel
  obtain ⟨d0, h0⟩ := de_aload_n3 h0
  obtain ⟨d1, h0⟩ := de_iconst_0 h0
  obtain ⟨d2, h0⟩ := de_aload_n0 h0
  obtain ⟨d3, h0⟩ := de_iload_n1 h0
  obtain ⟨d4, h0⟩ := de_iload_n2 h0
  obtain ⟨d5, h0⟩ := de_invokevirtual 54 (by decide) h0
  obtain ⟨d8, h0⟩ := de_i2l h0
  obtain ⟨d9, h0⟩ := de_lastore h0
  obtain ⟨d10, h0⟩ := de_goto (7) (by decide) h0
  refine lv_aload_n hx hb d0 rfl (lv_at hl 3 rfl) ?_
  refine lv_iconst (v := 0) hx hb d1 (by decide) ?_
  refine lv_aload_n hx hb d2 rfl (lv_at hl 0 rfl) ?_
  refine lv_iload_n hx hb d3 rfl (lv_at hl 1 rfl) ?_
  refine lv_iload_n hx hb d4 rfl (lv_at hl 2 rfl) ?_
  obtain ⟨hs9, hf⟩ := x_if hf
  rcases x_try_el1 hf with ⟨h9, i1, e0, hf⟩ | ⟨h9, w9, e0, hf⟩
  rotate_left
  · refine x_useX (x_runV C0 hR hS me_X7_exchange wi_X7_exchange wl_X7_exchange ml_L_54 hs9 xcl_7 (As := [.int x1, .int x2]) (ct_X7_exchange E l C0.2.2.2.2.2.2.2.1 _ r0 x1 x2) rfl rfl hl.1 (Nat.le_of_ble_eq_true rfl) d5 ⟨(Nat.le_of_ble_eq_true rfl), (Nat.le_of_ble_eq_true rfl)⟩ ⟨(Nat.le_of_ble_eq_true rfl), (Nat.le_of_ble_eq_true rfl)⟩ e0) hS (fun ce q9 H locs hR hS g1 g2 g3 => ?_)
    refine x_catchA C0 hxt (by decide) (by decide) cl_L_28 wc_IndexOutOfBoundsException g1 g2 g3 ?_
    have d13 : decode cL_exchange 13 = .ok (.astore 4, 2) := by decide +kernel
    have d15 : decode cL_exchange 15 = .ok (.iconst 1, 1) := by decide +kernel
    have d16 : decode cL_exchange 16 = .ok (.ireturn, 1) := by decide +kernel
    refine lv_astore (lv' := [(4, .ref q9), (0, .ref (xa E r0)), (1, .int x1), (2, .int x2), (3, .ref (xa E r3))]) hx hb d13 hl (by decide) rfl (fun ls hl => ?_)
    refine lv_iconst (v := 1) hx hb d15 (by decide) ?_
    exact x_iret C0 hR hS hf (Nat.le_of_ble_eq_true rfl) (Nat.le_of_ble_eq_true rfl) d16
  refine x_useI (x_runV C0 hR hS me_X7_exchange wi_X7_exchange wl_X7_exchange ml_L_54 hs9 xcl_7 (As := [.int x1, .int x2]) (ct_X7_exchange E l C0.2.2.2.2.2.2.2.1 _ r0 x1 x2) rfl rfl hl.1 (Nat.le_of_ble_eq_true rfl) d5 ⟨(Nat.le_of_ble_eq_true rfl), (Nat.le_of_ble_eq_true rfl)⟩ ⟨(Nat.le_of_ble_eq_true rfl), (Nat.le_of_ble_eq_true rfl)⟩ e0) hS (fun H locs hR hS => ?_)
  refine lv_i2l hx hb d8 rfl ?_
  refine x_last C0 hR hS hf d9 (fun H locs hR hS hf => ?_)
  refine lv_goto (tgt := 17) hx hb d10 (by decide) ?_
  have h0 : x_by cL_exchange 17 [3, 172] := by unfold x_by; decide +kernel
  obtain ⟨d17, h0⟩ := de_iconst_0 h0
  obtain ⟨d18, h0⟩ := de_ireturn h0
  refine lv_iconst (v := 0) hx hb d17 (by decide) ?_
  exact x_iret C0 hR hS hf (Nat.le_of_ble_eq_true rfl) (Nat.le_of_ble_eq_true rfl) d18
def f_L_tracks (h : HP) (r0 : Nat) (x1 : Int32) (r2 : Nat) : Option XR :=
  x_rc h r0 7 <| x_try (f_X7_tracks h r0 x1) [("java/lang/IllegalArgumentException", 1)] fun h2 i1 =>
  x_sJ h2 r2 0 ((i1 : Int32).toInt64) fun h3 =>
  some (h3, xi 0)
set_option maxRecDepth 100000 in
set_option maxHeartbeats 4000000 in
theorem ct_L_tracks (E : XE) (l : Launch) (hl0 : l.stackTraces = false) (h : HP) (r0 : Nat) (x1 : Int32) (r2 : Nat) : x_ct E l yL_tracks (Cond.codeWith yL_tracks cL_tracks 4 (some .int) [(0,9,12,19)]) 16 324 1 6 [.ref (xa E r0), .int x1, .ref (xa E r2)] h (f_L_tracks h r0 x1 r2) := by
  refine x_ofWH hl0 (by decide +kernel) ?_
  intro z hf p e s m args below meth c C0 hxt hargs hR
  subst hargs
  have C0 : x_C E p l s m meth c ([.ref (xa E r0), .int x1, .ref (xa E r2)] : List Value).toArray cL_tracks 4 "GridEngineLaw" "tracks" (some .int) := C0
  obtain ⟨hx, hb, -⟩ := id C0
  have hS : va_S (x_A E) s.heap s.heap [] := va_S.rf
  have hl := lv_entry ([.ref (xa E r0), .int x1, .ref (xa E r2)]) (n := 4) (Nat.le_of_ble_eq_true rfl)
  rw [lg_entry_eq]
  generalize (lg_sl ([.ref (xa E r0), .int x1, .ref (xa E r2)]) ++ List.replicate (4 - (lg_sl ([.ref (xa E r0), .int x1, .ref (xa E r2)])).length) Slot.unset).toArray = ls at hl ⊢
  have hl : lv_has ls 4 [(0, .ref (xa E r0)), (1, .int x1), (2, .ref (xa E r2))] := hl
  unfold f_L_tracks at hf
  have h0 : x_by cL_tracks 0 [44, 3, 42, 27, 182, 0, 58, 133, 80, 167, 0, 6] := by unfold x_by; decide +kernel
  obtain ⟨d0, h0⟩ := de_aload_n2 h0
  obtain ⟨d1, h0⟩ := de_iconst_0 h0
  obtain ⟨d2, h0⟩ := de_aload_n0 h0
  obtain ⟨d3, h0⟩ := de_iload_n1 h0
  obtain ⟨d4, h0⟩ := de_invokevirtual 58 (by decide) h0
  obtain ⟨d7, h0⟩ := de_i2l h0
  obtain ⟨d8, h0⟩ := de_lastore h0
  obtain ⟨d9, h0⟩ := de_goto (6) (by decide) h0
  refine lv_aload_n hx hb d0 rfl (lv_at hl 2 rfl) ?_
  refine lv_iconst (v := 0) hx hb d1 (by decide) ?_
  refine lv_aload_n hx hb d2 rfl (lv_at hl 0 rfl) ?_
  refine lv_iload_n hx hb d3 rfl (lv_at hl 1 rfl) ?_
  obtain ⟨hs9, hf⟩ := x_if hf
  rcases x_try_el1 hf with ⟨h9, i1, e0, hf⟩ | ⟨h9, w9, e0, hf⟩
  rotate_left
  · refine x_useX (x_runV C0 hR hS me_X7_tracks wi_X7_tracks wl_X7_tracks ml_L_58 hs9 xcl_7 (As := [.int x1]) (ct_X7_tracks E l C0.2.2.2.2.2.2.2.1 _ r0 x1) rfl rfl hl.1 (Nat.le_of_ble_eq_true rfl) d4 ⟨(Nat.le_of_ble_eq_true rfl), (Nat.le_of_ble_eq_true rfl)⟩ ⟨(Nat.le_of_ble_eq_true rfl), (Nat.le_of_ble_eq_true rfl)⟩ e0) hS (fun ce q9 H locs hR hS g1 g2 g3 => ?_)
    refine x_catchA C0 hxt (by decide) (by decide) cl_L_19 wc_IllegalArgumentException g1 g2 g3 ?_
    have d12 : decode cL_tracks 12 = .ok (.astore_n 3, 1) := by decide +kernel
    have d13 : decode cL_tracks 13 = .ok (.iconst 1, 1) := by decide +kernel
    have d14 : decode cL_tracks 14 = .ok (.ireturn, 1) := by decide +kernel
    refine lv_astore_n (lv' := [(3, .ref q9), (0, .ref (xa E r0)), (1, .int x1), (2, .ref (xa E r2))]) hx hb d12 rfl hl (by decide) rfl (fun ls hl => ?_)
    refine lv_iconst (v := 1) hx hb d13 (by decide) ?_
    exact x_iret C0 hR hS hf (Nat.le_of_ble_eq_true rfl) (Nat.le_of_ble_eq_true rfl) d14
  refine x_useI (x_runV C0 hR hS me_X7_tracks wi_X7_tracks wl_X7_tracks ml_L_58 hs9 xcl_7 (As := [.int x1]) (ct_X7_tracks E l C0.2.2.2.2.2.2.2.1 _ r0 x1) rfl rfl hl.1 (Nat.le_of_ble_eq_true rfl) d4 ⟨(Nat.le_of_ble_eq_true rfl), (Nat.le_of_ble_eq_true rfl)⟩ ⟨(Nat.le_of_ble_eq_true rfl), (Nat.le_of_ble_eq_true rfl)⟩ e0) hS (fun H locs hR hS => ?_)
  refine lv_i2l hx hb d7 rfl ?_
  refine x_last C0 hR hS hf d8 (fun H locs hR hS hf => ?_)
  refine lv_goto (tgt := 15) hx hb d9 (by decide) ?_
  have h0 : x_by cL_tracks 15 [3, 172] := by unfold x_by; decide +kernel
  obtain ⟨d15, h0⟩ := de_iconst_0 h0
  obtain ⟨d16, h0⟩ := de_ireturn h0
  refine lv_iconst (v := 0) hx hb d15 (by decide) ?_
  exact x_iret C0 hR hS hf (Nat.le_of_ble_eq_true rfl) (Nat.le_of_ble_eq_true rfl) d16
def f_L_startOf (h : HP) (r0 : Nat) (x1 : Int32) (x2 : Int32) (r3 : Nat) : Option XR :=
  x_rc h r0 7 <| x_try (f_X7_startOf h r0 x1 x2) [("java/lang/IndexOutOfBoundsException", 1), ("java/lang/IllegalArgumentException", 2)] fun h2 i1 =>
  x_sJ h2 r3 0 ((i1 : Int32).toInt64) fun h3 =>
  some (h3, xi 0)
set_option maxRecDepth 100000 in
set_option maxHeartbeats 4000000 in
theorem ct_L_startOf (E : XE) (l : Launch) (hl0 : l.stackTraces = false) (h : HP) (r0 : Nat) (x1 : Int32) (x2 : Int32) (r3 : Nat) : x_ct E l yL_startOf (Cond.codeWith yL_startOf cL_startOf 5 (some .int) [(0,10,13,28),(0,10,17,19)]) 16 325 2 12 [.ref (xa E r0), .int x1, .int x2, .ref (xa E r3)] h (f_L_startOf h r0 x1 x2 r3) := by
  refine x_ofWH hl0 (by decide +kernel) ?_
  intro z hf p e s m args below meth c C0 hxt hargs hR
  subst hargs
  have C0 : x_C E p l s m meth c ([.ref (xa E r0), .int x1, .int x2, .ref (xa E r3)] : List Value).toArray cL_startOf 5 "GridEngineLaw" "startOf" (some .int) := C0
  obtain ⟨hx, hb, -⟩ := id C0
  have hS : va_S (x_A E) s.heap s.heap [] := va_S.rf
  have hl := lv_entry ([.ref (xa E r0), .int x1, .int x2, .ref (xa E r3)]) (n := 5) (Nat.le_of_ble_eq_true rfl)
  rw [lg_entry_eq]
  generalize (lg_sl ([.ref (xa E r0), .int x1, .int x2, .ref (xa E r3)]) ++ List.replicate (5 - (lg_sl ([.ref (xa E r0), .int x1, .int x2, .ref (xa E r3)])).length) Slot.unset).toArray = ls at hl ⊢
  have hl : lv_has ls 5 [(0, .ref (xa E r0)), (1, .int x1), (2, .int x2), (3, .ref (xa E r3))] := hl
  unfold f_L_startOf at hf
  have h0 : x_by cL_startOf 0 [45, 3, 42, 27, 28, 182, 0, 61, 133, 80, 167, 0, 11] := by unfold x_by; decide +kernel
  obtain ⟨d0, h0⟩ := de_aload_n3 h0
  obtain ⟨d1, h0⟩ := de_iconst_0 h0
  obtain ⟨d2, h0⟩ := de_aload_n0 h0
  obtain ⟨d3, h0⟩ := de_iload_n1 h0
  obtain ⟨d4, h0⟩ := de_iload_n2 h0
  obtain ⟨d5, h0⟩ := de_invokevirtual 61 (by decide) h0
  obtain ⟨d8, h0⟩ := de_i2l h0
  obtain ⟨d9, h0⟩ := de_lastore h0
  obtain ⟨d10, h0⟩ := de_goto (11) (by decide) h0
  refine lv_aload_n hx hb d0 rfl (lv_at hl 3 rfl) ?_
  refine lv_iconst (v := 0) hx hb d1 (by decide) ?_
  refine lv_aload_n hx hb d2 rfl (lv_at hl 0 rfl) ?_
  refine lv_iload_n hx hb d3 rfl (lv_at hl 1 rfl) ?_
  refine lv_iload_n hx hb d4 rfl (lv_at hl 2 rfl) ?_
  obtain ⟨hs9, hf⟩ := x_if hf
  rcases x_try_el2 hf with ⟨h9, i1, e0, hf⟩ | ⟨h9, w9, e0, hf⟩ | ⟨h9, w9, e0, hf⟩
  rotate_left
  · refine x_useX (x_runV C0 hR hS me_X7_startOf wi_X7_startOf wl_X7_startOf ml_L_61 hs9 xcl_7 (As := [.int x1, .int x2]) (ct_X7_startOf E l C0.2.2.2.2.2.2.2.1 _ r0 x1 x2) rfl rfl hl.1 (Nat.le_of_ble_eq_true rfl) d5 ⟨(Nat.le_of_ble_eq_true rfl), (Nat.le_of_ble_eq_true rfl)⟩ ⟨(Nat.le_of_ble_eq_true rfl), (Nat.le_of_ble_eq_true rfl)⟩ e0) hS (fun ce q9 H locs hR hS g1 g2 g3 => ?_)
    refine x_catchA C0 hxt (by decide) (by decide) cl_L_28 wc_IndexOutOfBoundsException g1 g2 g3 ?_
    have d13 : decode cL_startOf 13 = .ok (.astore 4, 2) := by decide +kernel
    have d15 : decode cL_startOf 15 = .ok (.iconst 1, 1) := by decide +kernel
    have d16 : decode cL_startOf 16 = .ok (.ireturn, 1) := by decide +kernel
    refine lv_astore (lv' := [(4, .ref q9), (0, .ref (xa E r0)), (1, .int x1), (2, .int x2), (3, .ref (xa E r3))]) hx hb d13 hl (by decide) rfl (fun ls hl => ?_)
    refine lv_iconst (v := 1) hx hb d15 (by decide) ?_
    exact x_iret C0 hR hS hf (Nat.le_of_ble_eq_true rfl) (Nat.le_of_ble_eq_true rfl) d16
  · refine x_useX (x_runV C0 hR hS me_X7_startOf wi_X7_startOf wl_X7_startOf ml_L_61 hs9 xcl_7 (As := [.int x1, .int x2]) (ct_X7_startOf E l C0.2.2.2.2.2.2.2.1 _ r0 x1 x2) rfl rfl hl.1 (Nat.le_of_ble_eq_true rfl) d5 ⟨(Nat.le_of_ble_eq_true rfl), (Nat.le_of_ble_eq_true rfl)⟩ ⟨(Nat.le_of_ble_eq_true rfl), (Nat.le_of_ble_eq_true rfl)⟩ e0) hS (fun ce q9 H locs hR hS g1 g2 g3 => ?_)
    refine x_catchB C0 hxt (by decide) (by decide) cl_L_19 wc_IllegalArgumentException (by decide) cl_L_28 (by simp [x_xs]) (by simp [x_xs]) (by decide) g1 g2 g3 ?_
    have d17 : decode cL_startOf 17 = .ok (.astore 4, 2) := by decide +kernel
    have d19 : decode cL_startOf 19 = .ok (.iconst 2, 1) := by decide +kernel
    have d20 : decode cL_startOf 20 = .ok (.ireturn, 1) := by decide +kernel
    refine lv_astore (lv' := [(4, .ref q9), (0, .ref (xa E r0)), (1, .int x1), (2, .int x2), (3, .ref (xa E r3))]) hx hb d17 hl (by decide) rfl (fun ls hl => ?_)
    refine lv_iconst (v := 2) hx hb d19 (by decide) ?_
    exact x_iret C0 hR hS hf (Nat.le_of_ble_eq_true rfl) (Nat.le_of_ble_eq_true rfl) d20
  refine x_useI (x_runV C0 hR hS me_X7_startOf wi_X7_startOf wl_X7_startOf ml_L_61 hs9 xcl_7 (As := [.int x1, .int x2]) (ct_X7_startOf E l C0.2.2.2.2.2.2.2.1 _ r0 x1 x2) rfl rfl hl.1 (Nat.le_of_ble_eq_true rfl) d5 ⟨(Nat.le_of_ble_eq_true rfl), (Nat.le_of_ble_eq_true rfl)⟩ ⟨(Nat.le_of_ble_eq_true rfl), (Nat.le_of_ble_eq_true rfl)⟩ e0) hS (fun H locs hR hS => ?_)
  refine lv_i2l hx hb d8 rfl ?_
  refine x_last C0 hR hS hf d9 (fun H locs hR hS hf => ?_)
  refine lv_goto (tgt := 21) hx hb d10 (by decide) ?_
  have h0 : x_by cL_startOf 21 [3, 172] := by unfold x_by; decide +kernel
  obtain ⟨d21, h0⟩ := de_iconst_0 h0
  obtain ⟨d22, h0⟩ := de_ireturn h0
  refine lv_iconst (v := 0) hx hb d21 (by decide) ?_
  exact x_iret C0 hR hS hf (Nat.le_of_ble_eq_true rfl) (Nat.le_of_ble_eq_true rfl) d22
def f_L_itemIn (h : HP) (r0 : Nat) (x1 : Int32) (x2 : Int32) (r3 : Nat) : Option XR :=
  x_rc h r0 7 <| x_try (f_X7_itemIn h r0 x1 x2) [("java/lang/IndexOutOfBoundsException", 1), ("java/util/NoSuchElementException", 2)] fun h2 i1 =>
  x_sJ h2 r3 0 ((i1 : Int32).toInt64) fun h3 =>
  some (h3, xi 0)
set_option maxRecDepth 100000 in
set_option maxHeartbeats 4000000 in
theorem ct_L_itemIn (E : XE) (l : Launch) (hl0 : l.stackTraces = false) (h : HP) (r0 : Nat) (x1 : Int32) (x2 : Int32) (r3 : Nat) : x_ct E l yL_itemIn (Cond.codeWith yL_itemIn cL_itemIn 5 (some .int) [(0,10,13,28),(0,10,17,67)]) 16 326 3 18 [.ref (xa E r0), .int x1, .int x2, .ref (xa E r3)] h (f_L_itemIn h r0 x1 x2 r3) := by
  refine x_ofWH hl0 (by decide +kernel) ?_
  intro z hf p e s m args below meth c C0 hxt hargs hR
  subst hargs
  have C0 : x_C E p l s m meth c ([.ref (xa E r0), .int x1, .int x2, .ref (xa E r3)] : List Value).toArray cL_itemIn 5 "GridEngineLaw" "itemIn" (some .int) := C0
  obtain ⟨hx, hb, -⟩ := id C0
  have hS : va_S (x_A E) s.heap s.heap [] := va_S.rf
  have hl := lv_entry ([.ref (xa E r0), .int x1, .int x2, .ref (xa E r3)]) (n := 5) (Nat.le_of_ble_eq_true rfl)
  rw [lg_entry_eq]
  generalize (lg_sl ([.ref (xa E r0), .int x1, .int x2, .ref (xa E r3)]) ++ List.replicate (5 - (lg_sl ([.ref (xa E r0), .int x1, .int x2, .ref (xa E r3)])).length) Slot.unset).toArray = ls at hl ⊢
  have hl : lv_has ls 5 [(0, .ref (xa E r0)), (1, .int x1), (2, .int x2), (3, .ref (xa E r3))] := hl
  unfold f_L_itemIn at hf
  have h0 : x_by cL_itemIn 0 [45, 3, 42, 27, 28, 182, 0, 64, 133, 80, 167, 0, 11] := by unfold x_by; decide +kernel
  obtain ⟨d0, h0⟩ := de_aload_n3 h0
  obtain ⟨d1, h0⟩ := de_iconst_0 h0
  obtain ⟨d2, h0⟩ := de_aload_n0 h0
  obtain ⟨d3, h0⟩ := de_iload_n1 h0
  obtain ⟨d4, h0⟩ := de_iload_n2 h0
  obtain ⟨d5, h0⟩ := de_invokevirtual 64 (by decide) h0
  obtain ⟨d8, h0⟩ := de_i2l h0
  obtain ⟨d9, h0⟩ := de_lastore h0
  obtain ⟨d10, h0⟩ := de_goto (11) (by decide) h0
  refine lv_aload_n hx hb d0 rfl (lv_at hl 3 rfl) ?_
  refine lv_iconst (v := 0) hx hb d1 (by decide) ?_
  refine lv_aload_n hx hb d2 rfl (lv_at hl 0 rfl) ?_
  refine lv_iload_n hx hb d3 rfl (lv_at hl 1 rfl) ?_
  refine lv_iload_n hx hb d4 rfl (lv_at hl 2 rfl) ?_
  obtain ⟨hs9, hf⟩ := x_if hf
  rcases x_try_el2 hf with ⟨h9, i1, e0, hf⟩ | ⟨h9, w9, e0, hf⟩ | ⟨h9, w9, e0, hf⟩
  rotate_left
  · refine x_useX (x_runV C0 hR hS me_X7_itemIn wi_X7_itemIn wl_X7_itemIn ml_L_64 hs9 xcl_7 (As := [.int x1, .int x2]) (ct_X7_itemIn E l C0.2.2.2.2.2.2.2.1 _ r0 x1 x2) rfl rfl hl.1 (Nat.le_of_ble_eq_true rfl) d5 ⟨(Nat.le_of_ble_eq_true rfl), (Nat.le_of_ble_eq_true rfl)⟩ ⟨(Nat.le_of_ble_eq_true rfl), (Nat.le_of_ble_eq_true rfl)⟩ e0) hS (fun ce q9 H locs hR hS g1 g2 g3 => ?_)
    refine x_catchA C0 hxt (by decide) (by decide) cl_L_28 wc_IndexOutOfBoundsException g1 g2 g3 ?_
    have d13 : decode cL_itemIn 13 = .ok (.astore 4, 2) := by decide +kernel
    have d15 : decode cL_itemIn 15 = .ok (.iconst 1, 1) := by decide +kernel
    have d16 : decode cL_itemIn 16 = .ok (.ireturn, 1) := by decide +kernel
    refine lv_astore (lv' := [(4, .ref q9), (0, .ref (xa E r0)), (1, .int x1), (2, .int x2), (3, .ref (xa E r3))]) hx hb d13 hl (by decide) rfl (fun ls hl => ?_)
    refine lv_iconst (v := 1) hx hb d15 (by decide) ?_
    exact x_iret C0 hR hS hf (Nat.le_of_ble_eq_true rfl) (Nat.le_of_ble_eq_true rfl) d16
  · refine x_useX (x_runV C0 hR hS me_X7_itemIn wi_X7_itemIn wl_X7_itemIn ml_L_64 hs9 xcl_7 (As := [.int x1, .int x2]) (ct_X7_itemIn E l C0.2.2.2.2.2.2.2.1 _ r0 x1 x2) rfl rfl hl.1 (Nat.le_of_ble_eq_true rfl) d5 ⟨(Nat.le_of_ble_eq_true rfl), (Nat.le_of_ble_eq_true rfl)⟩ ⟨(Nat.le_of_ble_eq_true rfl), (Nat.le_of_ble_eq_true rfl)⟩ e0) hS (fun ce q9 H locs hR hS g1 g2 g3 => ?_)
    refine x_catchB C0 hxt (by decide) (by decide) cl_L_67 wc_NoSuchElementException (by decide) cl_L_28 (by simp [x_xs]) (by simp [x_xs]) (by decide) g1 g2 g3 ?_
    have d17 : decode cL_itemIn 17 = .ok (.astore 4, 2) := by decide +kernel
    have d19 : decode cL_itemIn 19 = .ok (.iconst 2, 1) := by decide +kernel
    have d20 : decode cL_itemIn 20 = .ok (.ireturn, 1) := by decide +kernel
    refine lv_astore (lv' := [(4, .ref q9), (0, .ref (xa E r0)), (1, .int x1), (2, .int x2), (3, .ref (xa E r3))]) hx hb d17 hl (by decide) rfl (fun ls hl => ?_)
    refine lv_iconst (v := 2) hx hb d19 (by decide) ?_
    exact x_iret C0 hR hS hf (Nat.le_of_ble_eq_true rfl) (Nat.le_of_ble_eq_true rfl) d20
  refine x_useI (x_runV C0 hR hS me_X7_itemIn wi_X7_itemIn wl_X7_itemIn ml_L_64 hs9 xcl_7 (As := [.int x1, .int x2]) (ct_X7_itemIn E l C0.2.2.2.2.2.2.2.1 _ r0 x1 x2) rfl rfl hl.1 (Nat.le_of_ble_eq_true rfl) d5 ⟨(Nat.le_of_ble_eq_true rfl), (Nat.le_of_ble_eq_true rfl)⟩ ⟨(Nat.le_of_ble_eq_true rfl), (Nat.le_of_ble_eq_true rfl)⟩ e0) hS (fun H locs hR hS => ?_)
  refine lv_i2l hx hb d8 rfl ?_
  refine x_last C0 hR hS hf d9 (fun H locs hR hS hf => ?_)
  refine lv_goto (tgt := 21) hx hb d10 (by decide) ?_
  have h0 : x_by cL_itemIn 21 [3, 172] := by unfold x_by; decide +kernel
  obtain ⟨d21, h0⟩ := de_iconst_0 h0
  obtain ⟨d22, h0⟩ := de_ireturn h0
  refine lv_iconst (v := 0) hx hb d21 (by decide) ?_
  exact x_iret C0 hR hS hf (Nat.le_of_ble_eq_true rfl) (Nat.le_of_ble_eq_true rfl) d22
def f_L_cells (h : HP) (r0 : Nat) (x1 : Int32) (r2 : Nat) : Option XR :=
  x_rc h r0 7 <| x_try (f_X7_cells h r0 x1) [("java/lang/IllegalArgumentException", 1)] fun h2 i1 =>
  x_sJ h2 r2 0 ((i1 : Int32).toInt64) fun h3 =>
  some (h3, xi 0)
set_option maxRecDepth 100000 in
set_option maxHeartbeats 4000000 in
theorem ct_L_cells (E : XE) (l : Launch) (hl0 : l.stackTraces = false) (h : HP) (r0 : Nat) (x1 : Int32) (r2 : Nat) : x_ct E l yL_cells (Cond.codeWith yL_cells cL_cells 4 (some .int) [(0,9,12,19)]) 16 324 1 6 [.ref (xa E r0), .int x1, .ref (xa E r2)] h (f_L_cells h r0 x1 r2) := by
  refine x_ofWH hl0 (by decide +kernel) ?_
  intro z hf p e s m args below meth c C0 hxt hargs hR
  subst hargs
  have C0 : x_C E p l s m meth c ([.ref (xa E r0), .int x1, .ref (xa E r2)] : List Value).toArray cL_cells 4 "GridEngineLaw" "cells" (some .int) := C0
  obtain ⟨hx, hb, -⟩ := id C0
  have hS : va_S (x_A E) s.heap s.heap [] := va_S.rf
  have hl := lv_entry ([.ref (xa E r0), .int x1, .ref (xa E r2)]) (n := 4) (Nat.le_of_ble_eq_true rfl)
  rw [lg_entry_eq]
  generalize (lg_sl ([.ref (xa E r0), .int x1, .ref (xa E r2)]) ++ List.replicate (4 - (lg_sl ([.ref (xa E r0), .int x1, .ref (xa E r2)])).length) Slot.unset).toArray = ls at hl ⊢
  have hl : lv_has ls 4 [(0, .ref (xa E r0)), (1, .int x1), (2, .ref (xa E r2))] := hl
  unfold f_L_cells at hf
  have h0 : x_by cL_cells 0 [44, 3, 42, 27, 182, 0, 69, 133, 80, 167, 0, 6] := by unfold x_by; decide +kernel
  obtain ⟨d0, h0⟩ := de_aload_n2 h0
  obtain ⟨d1, h0⟩ := de_iconst_0 h0
  obtain ⟨d2, h0⟩ := de_aload_n0 h0
  obtain ⟨d3, h0⟩ := de_iload_n1 h0
  obtain ⟨d4, h0⟩ := de_invokevirtual 69 (by decide) h0
  obtain ⟨d7, h0⟩ := de_i2l h0
  obtain ⟨d8, h0⟩ := de_lastore h0
  obtain ⟨d9, h0⟩ := de_goto (6) (by decide) h0
  refine lv_aload_n hx hb d0 rfl (lv_at hl 2 rfl) ?_
  refine lv_iconst (v := 0) hx hb d1 (by decide) ?_
  refine lv_aload_n hx hb d2 rfl (lv_at hl 0 rfl) ?_
  refine lv_iload_n hx hb d3 rfl (lv_at hl 1 rfl) ?_
  obtain ⟨hs9, hf⟩ := x_if hf
  rcases x_try_el1 hf with ⟨h9, i1, e0, hf⟩ | ⟨h9, w9, e0, hf⟩
  rotate_left
  · refine x_useX (x_runV C0 hR hS me_X7_cells wi_X7_cells wl_X7_cells ml_L_69 hs9 xcl_7 (As := [.int x1]) (ct_X7_cells E l C0.2.2.2.2.2.2.2.1 _ r0 x1) rfl rfl hl.1 (Nat.le_of_ble_eq_true rfl) d4 ⟨(Nat.le_of_ble_eq_true rfl), (Nat.le_of_ble_eq_true rfl)⟩ ⟨(Nat.le_of_ble_eq_true rfl), (Nat.le_of_ble_eq_true rfl)⟩ e0) hS (fun ce q9 H locs hR hS g1 g2 g3 => ?_)
    refine x_catchA C0 hxt (by decide) (by decide) cl_L_19 wc_IllegalArgumentException g1 g2 g3 ?_
    have d12 : decode cL_cells 12 = .ok (.astore_n 3, 1) := by decide +kernel
    have d13 : decode cL_cells 13 = .ok (.iconst 1, 1) := by decide +kernel
    have d14 : decode cL_cells 14 = .ok (.ireturn, 1) := by decide +kernel
    refine lv_astore_n (lv' := [(3, .ref q9), (0, .ref (xa E r0)), (1, .int x1), (2, .ref (xa E r2))]) hx hb d12 rfl hl (by decide) rfl (fun ls hl => ?_)
    refine lv_iconst (v := 1) hx hb d13 (by decide) ?_
    exact x_iret C0 hR hS hf (Nat.le_of_ble_eq_true rfl) (Nat.le_of_ble_eq_true rfl) d14
  refine x_useI (x_runV C0 hR hS me_X7_cells wi_X7_cells wl_X7_cells ml_L_69 hs9 xcl_7 (As := [.int x1]) (ct_X7_cells E l C0.2.2.2.2.2.2.2.1 _ r0 x1) rfl rfl hl.1 (Nat.le_of_ble_eq_true rfl) d4 ⟨(Nat.le_of_ble_eq_true rfl), (Nat.le_of_ble_eq_true rfl)⟩ ⟨(Nat.le_of_ble_eq_true rfl), (Nat.le_of_ble_eq_true rfl)⟩ e0) hS (fun H locs hR hS => ?_)
  refine lv_i2l hx hb d7 rfl ?_
  refine x_last C0 hR hS hf d8 (fun H locs hR hS hf => ?_)
  refine lv_goto (tgt := 15) hx hb d9 (by decide) ?_
  have h0 : x_by cL_cells 15 [3, 172] := by unfold x_by; decide +kernel
  obtain ⟨d15, h0⟩ := de_iconst_0 h0
  obtain ⟨d16, h0⟩ := de_ireturn h0
  refine lv_iconst (v := 0) hx hb d15 (by decide) ?_
  exact x_iret C0 hR hS hf (Nat.le_of_ble_eq_true rfl) (Nat.le_of_ble_eq_true rfl) d16
def f_L_size (h : HP) (r0 : Nat) (x1 : Int32) (x2 : Int32) (x3 : Int32) (r4 : Nat) : Option XR :=
  x_rc h r0 7 <| x_try (f_X7_size h r0 x1 x2 x3) [("java/lang/IllegalArgumentException", 1), ("java/lang/IndexOutOfBoundsException", 2)] fun h2 i1 =>
  x_sJ h2 r4 0 ((i1 : Int32).toInt64) fun h3 =>
  some (h3, xi 0)
set_option maxRecDepth 100000 in
set_option maxHeartbeats 4000000 in
theorem ct_L_size (E : XE) (l : Launch) (hl0 : l.stackTraces = false) (h : HP) (r0 : Nat) (x1 : Int32) (x2 : Int32) (x3 : Int32) (r4 : Nat) : x_ct E l yL_size (Cond.codeWith yL_size cL_size 6 (some .int) [(0,12,15,19),(0,12,19,28)]) 16 326 3 18 [.ref (xa E r0), .int x1, .int x2, .int x3, .ref (xa E r4)] h (f_L_size h r0 x1 x2 x3 r4) := by
  refine x_ofWH hl0 (by decide +kernel) ?_
  intro z hf p e s m args below meth c C0 hxt hargs hR
  subst hargs
  have C0 : x_C E p l s m meth c ([.ref (xa E r0), .int x1, .int x2, .int x3, .ref (xa E r4)] : List Value).toArray cL_size 6 "GridEngineLaw" "size" (some .int) := C0
  obtain ⟨hx, hb, -⟩ := id C0
  have hS : va_S (x_A E) s.heap s.heap [] := va_S.rf
  have hl := lv_entry ([.ref (xa E r0), .int x1, .int x2, .int x3, .ref (xa E r4)]) (n := 6) (Nat.le_of_ble_eq_true rfl)
  rw [lg_entry_eq]
  generalize (lg_sl ([.ref (xa E r0), .int x1, .int x2, .int x3, .ref (xa E r4)]) ++ List.replicate (6 - (lg_sl ([.ref (xa E r0), .int x1, .int x2, .int x3, .ref (xa E r4)])).length) Slot.unset).toArray = ls at hl ⊢
  have hl : lv_has ls 6 [(0, .ref (xa E r0)), (1, .int x1), (2, .int x2), (3, .int x3), (4, .ref (xa E r4))] := hl
  unfold f_L_size at hf
  have h0 : x_by cL_size 0 [25, 4, 3, 42, 27, 28, 29, 182, 0, 72, 133, 80, 167, 0, 11] := by unfold x_by; decide +kernel
  obtain ⟨d0, h0⟩ := de_aload h0
  obtain ⟨d2, h0⟩ := de_iconst_0 h0
  obtain ⟨d3, h0⟩ := de_aload_n0 h0
  obtain ⟨d4, h0⟩ := de_iload_n1 h0
  obtain ⟨d5, h0⟩ := de_iload_n2 h0
  obtain ⟨d6, h0⟩ := de_iload_n3 h0
  obtain ⟨d7, h0⟩ := de_invokevirtual 72 (by decide) h0
  obtain ⟨d10, h0⟩ := de_i2l h0
  obtain ⟨d11, h0⟩ := de_lastore h0
  obtain ⟨d12, h0⟩ := de_goto (11) (by decide) h0
  refine lv_aload hx hb d0 (lv_at hl 4 rfl) ?_
  refine lv_iconst (v := 0) hx hb d2 (by decide) ?_
  refine lv_aload_n hx hb d3 rfl (lv_at hl 0 rfl) ?_
  refine lv_iload_n hx hb d4 rfl (lv_at hl 1 rfl) ?_
  refine lv_iload_n hx hb d5 rfl (lv_at hl 2 rfl) ?_
  refine lv_iload_n hx hb d6 rfl (lv_at hl 3 rfl) ?_
  obtain ⟨hs9, hf⟩ := x_if hf
  rcases x_try_el2 hf with ⟨h9, i1, e0, hf⟩ | ⟨h9, w9, e0, hf⟩ | ⟨h9, w9, e0, hf⟩
  rotate_left
  · refine x_useX (x_runV C0 hR hS me_X7_size wi_X7_size wl_X7_size ml_L_72 hs9 xcl_7 (As := [.int x1, .int x2, .int x3]) (ct_X7_size E l C0.2.2.2.2.2.2.2.1 _ r0 x1 x2 x3) rfl rfl hl.1 (Nat.le_of_ble_eq_true rfl) d7 ⟨(Nat.le_of_ble_eq_true rfl), (Nat.le_of_ble_eq_true rfl)⟩ ⟨(Nat.le_of_ble_eq_true rfl), (Nat.le_of_ble_eq_true rfl)⟩ e0) hS (fun ce q9 H locs hR hS g1 g2 g3 => ?_)
    refine x_catchA C0 hxt (by decide) (by decide) cl_L_19 wc_IllegalArgumentException g1 g2 g3 ?_
    have d15 : decode cL_size 15 = .ok (.astore 5, 2) := by decide +kernel
    have d17 : decode cL_size 17 = .ok (.iconst 1, 1) := by decide +kernel
    have d18 : decode cL_size 18 = .ok (.ireturn, 1) := by decide +kernel
    refine lv_astore (lv' := [(5, .ref q9), (0, .ref (xa E r0)), (1, .int x1), (2, .int x2), (3, .int x3), (4, .ref (xa E r4))]) hx hb d15 hl (by decide) rfl (fun ls hl => ?_)
    refine lv_iconst (v := 1) hx hb d17 (by decide) ?_
    exact x_iret C0 hR hS hf (Nat.le_of_ble_eq_true rfl) (Nat.le_of_ble_eq_true rfl) d18
  · refine x_useX (x_runV C0 hR hS me_X7_size wi_X7_size wl_X7_size ml_L_72 hs9 xcl_7 (As := [.int x1, .int x2, .int x3]) (ct_X7_size E l C0.2.2.2.2.2.2.2.1 _ r0 x1 x2 x3) rfl rfl hl.1 (Nat.le_of_ble_eq_true rfl) d7 ⟨(Nat.le_of_ble_eq_true rfl), (Nat.le_of_ble_eq_true rfl)⟩ ⟨(Nat.le_of_ble_eq_true rfl), (Nat.le_of_ble_eq_true rfl)⟩ e0) hS (fun ce q9 H locs hR hS g1 g2 g3 => ?_)
    refine x_catchB C0 hxt (by decide) (by decide) cl_L_28 wc_IndexOutOfBoundsException (by decide) cl_L_19 (by simp [x_xs]) (by simp [x_xs]) (by decide) g1 g2 g3 ?_
    have d19 : decode cL_size 19 = .ok (.astore 5, 2) := by decide +kernel
    have d21 : decode cL_size 21 = .ok (.iconst 2, 1) := by decide +kernel
    have d22 : decode cL_size 22 = .ok (.ireturn, 1) := by decide +kernel
    refine lv_astore (lv' := [(5, .ref q9), (0, .ref (xa E r0)), (1, .int x1), (2, .int x2), (3, .int x3), (4, .ref (xa E r4))]) hx hb d19 hl (by decide) rfl (fun ls hl => ?_)
    refine lv_iconst (v := 2) hx hb d21 (by decide) ?_
    exact x_iret C0 hR hS hf (Nat.le_of_ble_eq_true rfl) (Nat.le_of_ble_eq_true rfl) d22
  refine x_useI (x_runV C0 hR hS me_X7_size wi_X7_size wl_X7_size ml_L_72 hs9 xcl_7 (As := [.int x1, .int x2, .int x3]) (ct_X7_size E l C0.2.2.2.2.2.2.2.1 _ r0 x1 x2 x3) rfl rfl hl.1 (Nat.le_of_ble_eq_true rfl) d7 ⟨(Nat.le_of_ble_eq_true rfl), (Nat.le_of_ble_eq_true rfl)⟩ ⟨(Nat.le_of_ble_eq_true rfl), (Nat.le_of_ble_eq_true rfl)⟩ e0) hS (fun H locs hR hS => ?_)
  refine lv_i2l hx hb d10 rfl ?_
  refine x_last C0 hR hS hf d11 (fun H locs hR hS hf => ?_)
  refine lv_goto (tgt := 23) hx hb d12 (by decide) ?_
  have h0 : x_by cL_size 23 [3, 172] := by unfold x_by; decide +kernel
  obtain ⟨d23, h0⟩ := de_iconst_0 h0
  obtain ⟨d24, h0⟩ := de_ireturn h0
  refine lv_iconst (v := 0) hx hb d23 (by decide) ?_
  exact x_iret C0 hR hS hf (Nat.le_of_ble_eq_true rfl) (Nat.le_of_ble_eq_true rfl) d24
def f_L_isCollapsed_b16  (h : HP) (t0 : Int64) (t1 : Int32) (t2 : Nat) : Option XR :=
  x_sJ h t2 t1 t0 fun h1 =>
  some (h1, xi 0)
def f_L_isCollapsed (h : HP) (r0 : Nat) (x1 : Int32) (x2 : Int32) (r3 : Nat) : Option XR :=
  x_rc h r0 7 <| x_try (f_X7_isCollapsed h r0 x1 x2) [("java/lang/IllegalArgumentException", 1), ("java/lang/IndexOutOfBoundsException", 2)] fun h2 i1 =>
  if i1 = 0 then
    (
      f_L_isCollapsed_b16 h2 0 0 r3
    )
  else
    (
      f_L_isCollapsed_b16 h2 1 0 r3
    )
set_option maxRecDepth 100000 in
set_option maxHeartbeats 4000000 in
theorem s_L_isCollapsed_b16 {p : Program} {l : Launch} {e : Env} {s : State} {m : MethodId} {args : Array Value} {below : List Frame} {meth : Method} {c : Code} {E : XE} {z : XR} (C0 : x_C E p l s m meth c args cL_isCollapsed 5 "GridEngineLaw" "isCollapsed" (some .int)) (hxt : c.exceptionTable.toList = tableOf [(0,17,20,19),(0,17,24,28)])  : ∀ (h : HP) (t0 : Int64) (t1 : Int32) (t2 : Nat) (H : Heap) (locs : List Loc) (ls : Array Slot), x_Rep E h H → va_S (x_A E) s.heap H locs → lv_has ls 5 [] → f_L_isCollapsed_b16 h t0 t1 t2 = some z → W p l e ({ frames := 16, cells := 2, slots := 12, locals := 325 } : Room) s m args below meth c H locs 2 12 (x_Q E below args s 2 12 z) (F0 m 16 ls [.long t0, .int t1, .ref (xa E t2)]) := by
  intro h t0 t1 t2 H locs ls hR hS hl hf
  obtain ⟨hx, hb, -⟩ := id C0
  unfold f_L_isCollapsed_b16 at hf
  have h0 : x_by cL_isCollapsed 16 [80, 167, 0, 11] := by unfold x_by; decide +kernel
  obtain ⟨d16, h0⟩ := de_lastore h0
  obtain ⟨d17, h0⟩ := de_goto (11) (by decide) h0
  refine x_last C0 hR hS hf d16 (fun H locs hR hS hf => ?_)
  refine lv_goto (tgt := 28) hx hb d17 (by decide) ?_
  have h0 : x_by cL_isCollapsed 28 [3, 172] := by unfold x_by; decide +kernel
  obtain ⟨d28, h0⟩ := de_iconst_0 h0
  obtain ⟨d29, h0⟩ := de_ireturn h0
  refine lv_iconst (v := 0) hx hb d28 (by decide) ?_
  exact x_iret C0 hR hS hf (Nat.le_of_ble_eq_true rfl) (Nat.le_of_ble_eq_true rfl) d29
set_option maxRecDepth 100000 in
set_option maxHeartbeats 4000000 in
theorem ct_L_isCollapsed (E : XE) (l : Launch) (hl0 : l.stackTraces = false) (h : HP) (r0 : Nat) (x1 : Int32) (x2 : Int32) (r3 : Nat) : x_ct E l yL_isCollapsed (Cond.codeWith yL_isCollapsed cL_isCollapsed 5 (some .int) [(0,17,20,19),(0,17,24,28)]) 16 325 2 12 [.ref (xa E r0), .int x1, .int x2, .ref (xa E r3)] h (f_L_isCollapsed h r0 x1 x2 r3) := by
  refine x_ofWH hl0 (by decide +kernel) ?_
  intro z hf p e s m args below meth c C0 hxt hargs hR
  subst hargs
  have C0 : x_C E p l s m meth c ([.ref (xa E r0), .int x1, .int x2, .ref (xa E r3)] : List Value).toArray cL_isCollapsed 5 "GridEngineLaw" "isCollapsed" (some .int) := C0
  obtain ⟨hx, hb, -⟩ := id C0
  have hS : va_S (x_A E) s.heap s.heap [] := va_S.rf
  have hl := lv_entry ([.ref (xa E r0), .int x1, .int x2, .ref (xa E r3)]) (n := 5) (Nat.le_of_ble_eq_true rfl)
  rw [lg_entry_eq]
  generalize (lg_sl ([.ref (xa E r0), .int x1, .int x2, .ref (xa E r3)]) ++ List.replicate (5 - (lg_sl ([.ref (xa E r0), .int x1, .int x2, .ref (xa E r3)])).length) Slot.unset).toArray = ls at hl ⊢
  have hl : lv_has ls 5 [(0, .ref (xa E r0)), (1, .int x1), (2, .int x2), (3, .ref (xa E r3))] := hl
  unfold f_L_isCollapsed at hf
  have h0 : x_by cL_isCollapsed 0 [45, 3, 42, 27, 28, 182, 0, 75, 153, 0, 7] := by unfold x_by; decide +kernel
  obtain ⟨d0, h0⟩ := de_aload_n3 h0
  obtain ⟨d1, h0⟩ := de_iconst_0 h0
  obtain ⟨d2, h0⟩ := de_aload_n0 h0
  obtain ⟨d3, h0⟩ := de_iload_n1 h0
  obtain ⟨d4, h0⟩ := de_iload_n2 h0
  obtain ⟨d5, h0⟩ := de_invokevirtual 75 (by decide) h0
  obtain ⟨d8, h0⟩ := de_if_eq (7) (by decide) h0
  refine lv_aload_n hx hb d0 rfl (lv_at hl 3 rfl) ?_
  refine lv_iconst (v := 0) hx hb d1 (by decide) ?_
  refine lv_aload_n hx hb d2 rfl (lv_at hl 0 rfl) ?_
  refine lv_iload_n hx hb d3 rfl (lv_at hl 1 rfl) ?_
  refine lv_iload_n hx hb d4 rfl (lv_at hl 2 rfl) ?_
  obtain ⟨hs9, hf⟩ := x_if hf
  rcases x_try_el2 hf with ⟨h9, i1, e0, hf⟩ | ⟨h9, w9, e0, hf⟩ | ⟨h9, w9, e0, hf⟩
  rotate_left
  · refine x_useX (x_runV C0 hR hS me_X7_isCollapsed wi_X7_isCollapsed wl_X7_isCollapsed ml_L_75 hs9 xcl_7 (As := [.int x1, .int x2]) (ct_X7_isCollapsed E l C0.2.2.2.2.2.2.2.1 _ r0 x1 x2) rfl rfl hl.1 (Nat.le_of_ble_eq_true rfl) d5 ⟨(Nat.le_of_ble_eq_true rfl), (Nat.le_of_ble_eq_true rfl)⟩ ⟨(Nat.le_of_ble_eq_true rfl), (Nat.le_of_ble_eq_true rfl)⟩ e0) hS (fun ce q9 H locs hR hS g1 g2 g3 => ?_)
    refine x_catchA C0 hxt (by decide) (by decide) cl_L_19 wc_IllegalArgumentException g1 g2 g3 ?_
    have d20 : decode cL_isCollapsed 20 = .ok (.astore 4, 2) := by decide +kernel
    have d22 : decode cL_isCollapsed 22 = .ok (.iconst 1, 1) := by decide +kernel
    have d23 : decode cL_isCollapsed 23 = .ok (.ireturn, 1) := by decide +kernel
    refine lv_astore (lv' := [(4, .ref q9), (0, .ref (xa E r0)), (1, .int x1), (2, .int x2), (3, .ref (xa E r3))]) hx hb d20 hl (by decide) rfl (fun ls hl => ?_)
    refine lv_iconst (v := 1) hx hb d22 (by decide) ?_
    exact x_iret C0 hR hS hf (Nat.le_of_ble_eq_true rfl) (Nat.le_of_ble_eq_true rfl) d23
  · refine x_useX (x_runV C0 hR hS me_X7_isCollapsed wi_X7_isCollapsed wl_X7_isCollapsed ml_L_75 hs9 xcl_7 (As := [.int x1, .int x2]) (ct_X7_isCollapsed E l C0.2.2.2.2.2.2.2.1 _ r0 x1 x2) rfl rfl hl.1 (Nat.le_of_ble_eq_true rfl) d5 ⟨(Nat.le_of_ble_eq_true rfl), (Nat.le_of_ble_eq_true rfl)⟩ ⟨(Nat.le_of_ble_eq_true rfl), (Nat.le_of_ble_eq_true rfl)⟩ e0) hS (fun ce q9 H locs hR hS g1 g2 g3 => ?_)
    refine x_catchB C0 hxt (by decide) (by decide) cl_L_28 wc_IndexOutOfBoundsException (by decide) cl_L_19 (by simp [x_xs]) (by simp [x_xs]) (by decide) g1 g2 g3 ?_
    have d24 : decode cL_isCollapsed 24 = .ok (.astore 4, 2) := by decide +kernel
    have d26 : decode cL_isCollapsed 26 = .ok (.iconst 2, 1) := by decide +kernel
    have d27 : decode cL_isCollapsed 27 = .ok (.ireturn, 1) := by decide +kernel
    refine lv_astore (lv' := [(4, .ref q9), (0, .ref (xa E r0)), (1, .int x1), (2, .int x2), (3, .ref (xa E r3))]) hx hb d24 hl (by decide) rfl (fun ls hl => ?_)
    refine lv_iconst (v := 2) hx hb d26 (by decide) ?_
    exact x_iret C0 hR hS hf (Nat.le_of_ble_eq_true rfl) (Nat.le_of_ble_eq_true rfl) d27
  refine x_useI (x_runV C0 hR hS me_X7_isCollapsed wi_X7_isCollapsed wl_X7_isCollapsed ml_L_75 hs9 xcl_7 (As := [.int x1, .int x2]) (ct_X7_isCollapsed E l C0.2.2.2.2.2.2.2.1 _ r0 x1 x2) rfl rfl hl.1 (Nat.le_of_ble_eq_true rfl) d5 ⟨(Nat.le_of_ble_eq_true rfl), (Nat.le_of_ble_eq_true rfl)⟩ ⟨(Nat.le_of_ble_eq_true rfl), (Nat.le_of_ble_eq_true rfl)⟩ e0) hS (fun H locs hR hS => ?_)
  refine lv_if_eq (tgt := 15) hx hb d8 (by decide) (fun q => ?_) (fun q => ?_)
  · have hf := x_pos q hf
    have h0 : x_by cL_isCollapsed 15 [9] := by unfold x_by; decide +kernel
    obtain ⟨d15, h0⟩ := de_lconst_0 h0
    refine lv_lconst (v := 0) hx hb d15 (by decide) ?_
    exact s_L_isCollapsed_b16 C0 hxt _ _ _ _ _ _ _ hR hS (lv_sub hl [] rfl) hf
  · have hf := x_neg q hf
    have h0 : x_by cL_isCollapsed 11 [10, 167, 0, 4] := by unfold x_by; decide +kernel
    obtain ⟨d11, h0⟩ := de_lconst_1 h0
    obtain ⟨d12, h0⟩ := de_goto (4) (by decide) h0
    refine lv_lconst (v := 1) hx hb d11 (by decide) ?_
    refine lv_goto (tgt := 16) hx hb d12 (by decide) ?_
    exact s_L_isCollapsed_b16 C0 hxt _ _ _ _ _ _ _ hR hS (lv_sub hl [] rfl) hf
def f_L_position (h : HP) (r0 : Nat) (x1 : Int32) (x2 : Int32) (r3 : Nat) : Option XR :=
  x_rc h r0 7 <| x_try (f_X7_position h r0 x1 x2) [("java/lang/IllegalArgumentException", 1), ("java/lang/IndexOutOfBoundsException", 2)] fun h2 i1 =>
  x_sJ h2 r3 0 ((i1 : Int32).toInt64) fun h3 =>
  some (h3, xi 0)
set_option maxRecDepth 100000 in
set_option maxHeartbeats 4000000 in
theorem ct_L_position (E : XE) (l : Launch) (hl0 : l.stackTraces = false) (h : HP) (r0 : Nat) (x1 : Int32) (x2 : Int32) (r3 : Nat) : x_ct E l yL_position (Cond.codeWith yL_position cL_position 5 (some .int) [(0,10,13,19),(0,10,17,28)]) 16 325 2 12 [.ref (xa E r0), .int x1, .int x2, .ref (xa E r3)] h (f_L_position h r0 x1 x2 r3) := by
  refine x_ofWH hl0 (by decide +kernel) ?_
  intro z hf p e s m args below meth c C0 hxt hargs hR
  subst hargs
  have C0 : x_C E p l s m meth c ([.ref (xa E r0), .int x1, .int x2, .ref (xa E r3)] : List Value).toArray cL_position 5 "GridEngineLaw" "position" (some .int) := C0
  obtain ⟨hx, hb, -⟩ := id C0
  have hS : va_S (x_A E) s.heap s.heap [] := va_S.rf
  have hl := lv_entry ([.ref (xa E r0), .int x1, .int x2, .ref (xa E r3)]) (n := 5) (Nat.le_of_ble_eq_true rfl)
  rw [lg_entry_eq]
  generalize (lg_sl ([.ref (xa E r0), .int x1, .int x2, .ref (xa E r3)]) ++ List.replicate (5 - (lg_sl ([.ref (xa E r0), .int x1, .int x2, .ref (xa E r3)])).length) Slot.unset).toArray = ls at hl ⊢
  have hl : lv_has ls 5 [(0, .ref (xa E r0)), (1, .int x1), (2, .int x2), (3, .ref (xa E r3))] := hl
  unfold f_L_position at hf
  have h0 : x_by cL_position 0 [45, 3, 42, 27, 28, 182, 0, 79, 133, 80, 167, 0, 11] := by unfold x_by; decide +kernel
  obtain ⟨d0, h0⟩ := de_aload_n3 h0
  obtain ⟨d1, h0⟩ := de_iconst_0 h0
  obtain ⟨d2, h0⟩ := de_aload_n0 h0
  obtain ⟨d3, h0⟩ := de_iload_n1 h0
  obtain ⟨d4, h0⟩ := de_iload_n2 h0
  obtain ⟨d5, h0⟩ := de_invokevirtual 79 (by decide) h0
  obtain ⟨d8, h0⟩ := de_i2l h0
  obtain ⟨d9, h0⟩ := de_lastore h0
  obtain ⟨d10, h0⟩ := de_goto (11) (by decide) h0
  refine lv_aload_n hx hb d0 rfl (lv_at hl 3 rfl) ?_
  refine lv_iconst (v := 0) hx hb d1 (by decide) ?_
  refine lv_aload_n hx hb d2 rfl (lv_at hl 0 rfl) ?_
  refine lv_iload_n hx hb d3 rfl (lv_at hl 1 rfl) ?_
  refine lv_iload_n hx hb d4 rfl (lv_at hl 2 rfl) ?_
  obtain ⟨hs9, hf⟩ := x_if hf
  rcases x_try_el2 hf with ⟨h9, i1, e0, hf⟩ | ⟨h9, w9, e0, hf⟩ | ⟨h9, w9, e0, hf⟩
  rotate_left
  · refine x_useX (x_runV C0 hR hS me_X7_position wi_X7_position wl_X7_position ml_L_79 hs9 xcl_7 (As := [.int x1, .int x2]) (ct_X7_position E l C0.2.2.2.2.2.2.2.1 _ r0 x1 x2) rfl rfl hl.1 (Nat.le_of_ble_eq_true rfl) d5 ⟨(Nat.le_of_ble_eq_true rfl), (Nat.le_of_ble_eq_true rfl)⟩ ⟨(Nat.le_of_ble_eq_true rfl), (Nat.le_of_ble_eq_true rfl)⟩ e0) hS (fun ce q9 H locs hR hS g1 g2 g3 => ?_)
    refine x_catchA C0 hxt (by decide) (by decide) cl_L_19 wc_IllegalArgumentException g1 g2 g3 ?_
    have d13 : decode cL_position 13 = .ok (.astore 4, 2) := by decide +kernel
    have d15 : decode cL_position 15 = .ok (.iconst 1, 1) := by decide +kernel
    have d16 : decode cL_position 16 = .ok (.ireturn, 1) := by decide +kernel
    refine lv_astore (lv' := [(4, .ref q9), (0, .ref (xa E r0)), (1, .int x1), (2, .int x2), (3, .ref (xa E r3))]) hx hb d13 hl (by decide) rfl (fun ls hl => ?_)
    refine lv_iconst (v := 1) hx hb d15 (by decide) ?_
    exact x_iret C0 hR hS hf (Nat.le_of_ble_eq_true rfl) (Nat.le_of_ble_eq_true rfl) d16
  · refine x_useX (x_runV C0 hR hS me_X7_position wi_X7_position wl_X7_position ml_L_79 hs9 xcl_7 (As := [.int x1, .int x2]) (ct_X7_position E l C0.2.2.2.2.2.2.2.1 _ r0 x1 x2) rfl rfl hl.1 (Nat.le_of_ble_eq_true rfl) d5 ⟨(Nat.le_of_ble_eq_true rfl), (Nat.le_of_ble_eq_true rfl)⟩ ⟨(Nat.le_of_ble_eq_true rfl), (Nat.le_of_ble_eq_true rfl)⟩ e0) hS (fun ce q9 H locs hR hS g1 g2 g3 => ?_)
    refine x_catchB C0 hxt (by decide) (by decide) cl_L_28 wc_IndexOutOfBoundsException (by decide) cl_L_19 (by simp [x_xs]) (by simp [x_xs]) (by decide) g1 g2 g3 ?_
    have d17 : decode cL_position 17 = .ok (.astore 4, 2) := by decide +kernel
    have d19 : decode cL_position 19 = .ok (.iconst 2, 1) := by decide +kernel
    have d20 : decode cL_position 20 = .ok (.ireturn, 1) := by decide +kernel
    refine lv_astore (lv' := [(4, .ref q9), (0, .ref (xa E r0)), (1, .int x1), (2, .int x2), (3, .ref (xa E r3))]) hx hb d17 hl (by decide) rfl (fun ls hl => ?_)
    refine lv_iconst (v := 2) hx hb d19 (by decide) ?_
    exact x_iret C0 hR hS hf (Nat.le_of_ble_eq_true rfl) (Nat.le_of_ble_eq_true rfl) d20
  refine x_useI (x_runV C0 hR hS me_X7_position wi_X7_position wl_X7_position ml_L_79 hs9 xcl_7 (As := [.int x1, .int x2]) (ct_X7_position E l C0.2.2.2.2.2.2.2.1 _ r0 x1 x2) rfl rfl hl.1 (Nat.le_of_ble_eq_true rfl) d5 ⟨(Nat.le_of_ble_eq_true rfl), (Nat.le_of_ble_eq_true rfl)⟩ ⟨(Nat.le_of_ble_eq_true rfl), (Nat.le_of_ble_eq_true rfl)⟩ e0) hS (fun H locs hR hS => ?_)
  refine lv_i2l hx hb d8 rfl ?_
  refine x_last C0 hR hS hf d9 (fun H locs hR hS hf => ?_)
  refine lv_goto (tgt := 21) hx hb d10 (by decide) ?_
  have h0 : x_by cL_position 21 [3, 172] := by unfold x_by; decide +kernel
  obtain ⟨d21, h0⟩ := de_iconst_0 h0
  obtain ⟨d22, h0⟩ := de_ireturn h0
  refine lv_iconst (v := 0) hx hb d21 (by decide) ?_
  exact x_iret C0 hR hS hf (Nat.le_of_ble_eq_true rfl) (Nat.le_of_ble_eq_true rfl) d22
def f_L_total (h : HP) (r0 : Nat) (x1 : Int32) (x2 : Int32) (r3 : Nat) : Option XR :=
  x_rc h r0 7 <| x_try (f_X7_total h r0 x1 x2) [("java/lang/IllegalArgumentException", 1)] fun h2 i1 =>
  x_sJ h2 r3 0 ((i1 : Int32).toInt64) fun h3 =>
  some (h3, xi 0)
set_option maxRecDepth 100000 in
set_option maxHeartbeats 4000000 in
theorem ct_L_total (E : XE) (l : Launch) (hl0 : l.stackTraces = false) (h : HP) (r0 : Nat) (x1 : Int32) (x2 : Int32) (r3 : Nat) : x_ct E l yL_total (Cond.codeWith yL_total cL_total 5 (some .int) [(0,10,13,19)]) 16 325 2 12 [.ref (xa E r0), .int x1, .int x2, .ref (xa E r3)] h (f_L_total h r0 x1 x2 r3) := by
  refine x_ofWH hl0 (by decide +kernel) ?_
  intro z hf p e s m args below meth c C0 hxt hargs hR
  subst hargs
  have C0 : x_C E p l s m meth c ([.ref (xa E r0), .int x1, .int x2, .ref (xa E r3)] : List Value).toArray cL_total 5 "GridEngineLaw" "total" (some .int) := C0
  obtain ⟨hx, hb, -⟩ := id C0
  have hS : va_S (x_A E) s.heap s.heap [] := va_S.rf
  have hl := lv_entry ([.ref (xa E r0), .int x1, .int x2, .ref (xa E r3)]) (n := 5) (Nat.le_of_ble_eq_true rfl)
  rw [lg_entry_eq]
  generalize (lg_sl ([.ref (xa E r0), .int x1, .int x2, .ref (xa E r3)]) ++ List.replicate (5 - (lg_sl ([.ref (xa E r0), .int x1, .int x2, .ref (xa E r3)])).length) Slot.unset).toArray = ls at hl ⊢
  have hl : lv_has ls 5 [(0, .ref (xa E r0)), (1, .int x1), (2, .int x2), (3, .ref (xa E r3))] := hl
  unfold f_L_total at hf
  have h0 : x_by cL_total 0 [45, 3, 42, 27, 28, 182, 0, 82, 133, 80, 167, 0, 7] := by unfold x_by; decide +kernel
  obtain ⟨d0, h0⟩ := de_aload_n3 h0
  obtain ⟨d1, h0⟩ := de_iconst_0 h0
  obtain ⟨d2, h0⟩ := de_aload_n0 h0
  obtain ⟨d3, h0⟩ := de_iload_n1 h0
  obtain ⟨d4, h0⟩ := de_iload_n2 h0
  obtain ⟨d5, h0⟩ := de_invokevirtual 82 (by decide) h0
  obtain ⟨d8, h0⟩ := de_i2l h0
  obtain ⟨d9, h0⟩ := de_lastore h0
  obtain ⟨d10, h0⟩ := de_goto (7) (by decide) h0
  refine lv_aload_n hx hb d0 rfl (lv_at hl 3 rfl) ?_
  refine lv_iconst (v := 0) hx hb d1 (by decide) ?_
  refine lv_aload_n hx hb d2 rfl (lv_at hl 0 rfl) ?_
  refine lv_iload_n hx hb d3 rfl (lv_at hl 1 rfl) ?_
  refine lv_iload_n hx hb d4 rfl (lv_at hl 2 rfl) ?_
  obtain ⟨hs9, hf⟩ := x_if hf
  rcases x_try_el1 hf with ⟨h9, i1, e0, hf⟩ | ⟨h9, w9, e0, hf⟩
  rotate_left
  · refine x_useX (x_runV C0 hR hS me_X7_total wi_X7_total wl_X7_total ml_L_82 hs9 xcl_7 (As := [.int x1, .int x2]) (ct_X7_total E l C0.2.2.2.2.2.2.2.1 _ r0 x1 x2) rfl rfl hl.1 (Nat.le_of_ble_eq_true rfl) d5 ⟨(Nat.le_of_ble_eq_true rfl), (Nat.le_of_ble_eq_true rfl)⟩ ⟨(Nat.le_of_ble_eq_true rfl), (Nat.le_of_ble_eq_true rfl)⟩ e0) hS (fun ce q9 H locs hR hS g1 g2 g3 => ?_)
    refine x_catchA C0 hxt (by decide) (by decide) cl_L_19 wc_IllegalArgumentException g1 g2 g3 ?_
    have d13 : decode cL_total 13 = .ok (.astore 4, 2) := by decide +kernel
    have d15 : decode cL_total 15 = .ok (.iconst 1, 1) := by decide +kernel
    have d16 : decode cL_total 16 = .ok (.ireturn, 1) := by decide +kernel
    refine lv_astore (lv' := [(4, .ref q9), (0, .ref (xa E r0)), (1, .int x1), (2, .int x2), (3, .ref (xa E r3))]) hx hb d13 hl (by decide) rfl (fun ls hl => ?_)
    refine lv_iconst (v := 1) hx hb d15 (by decide) ?_
    exact x_iret C0 hR hS hf (Nat.le_of_ble_eq_true rfl) (Nat.le_of_ble_eq_true rfl) d16
  refine x_useI (x_runV C0 hR hS me_X7_total wi_X7_total wl_X7_total ml_L_82 hs9 xcl_7 (As := [.int x1, .int x2]) (ct_X7_total E l C0.2.2.2.2.2.2.2.1 _ r0 x1 x2) rfl rfl hl.1 (Nat.le_of_ble_eq_true rfl) d5 ⟨(Nat.le_of_ble_eq_true rfl), (Nat.le_of_ble_eq_true rfl)⟩ ⟨(Nat.le_of_ble_eq_true rfl), (Nat.le_of_ble_eq_true rfl)⟩ e0) hS (fun H locs hR hS => ?_)
  refine lv_i2l hx hb d8 rfl ?_
  refine x_last C0 hR hS hf d9 (fun H locs hR hS hf => ?_)
  refine lv_goto (tgt := 17) hx hb d10 (by decide) ?_
  have h0 : x_by cL_total 17 [3, 172] := by unfold x_by; decide +kernel
  obtain ⟨d17, h0⟩ := de_iconst_0 h0
  obtain ⟨d18, h0⟩ := de_ireturn h0
  refine lv_iconst (v := 0) hx hb d17 (by decide) ?_
  exact x_iret C0 hR hS hf (Nat.le_of_ble_eq_true rfl) (Nat.le_of_ble_eq_true rfl) d18
def f_L_free (h : HP) (r0 : Nat) (x1 : Int32) (r2 : Nat) : Option XR :=
  x_rc h r0 7 <| x_try (f_X7_free h r0 x1) [("java/lang/IllegalArgumentException", 1)] fun h2 i1 =>
  x_sJ h2 r2 0 ((i1 : Int32).toInt64) fun h3 =>
  some (h3, xi 0)
set_option maxRecDepth 100000 in
set_option maxHeartbeats 4000000 in
theorem ct_L_free (E : XE) (l : Launch) (hl0 : l.stackTraces = false) (h : HP) (r0 : Nat) (x1 : Int32) (r2 : Nat) : x_ct E l yL_free (Cond.codeWith yL_free cL_free 4 (some .int) [(0,9,12,19)]) 16 324 1 6 [.ref (xa E r0), .int x1, .ref (xa E r2)] h (f_L_free h r0 x1 r2) := by
  refine x_ofWH hl0 (by decide +kernel) ?_
  intro z hf p e s m args below meth c C0 hxt hargs hR
  subst hargs
  have C0 : x_C E p l s m meth c ([.ref (xa E r0), .int x1, .ref (xa E r2)] : List Value).toArray cL_free 4 "GridEngineLaw" "free" (some .int) := C0
  obtain ⟨hx, hb, -⟩ := id C0
  have hS : va_S (x_A E) s.heap s.heap [] := va_S.rf
  have hl := lv_entry ([.ref (xa E r0), .int x1, .ref (xa E r2)]) (n := 4) (Nat.le_of_ble_eq_true rfl)
  rw [lg_entry_eq]
  generalize (lg_sl ([.ref (xa E r0), .int x1, .ref (xa E r2)]) ++ List.replicate (4 - (lg_sl ([.ref (xa E r0), .int x1, .ref (xa E r2)])).length) Slot.unset).toArray = ls at hl ⊢
  have hl : lv_has ls 4 [(0, .ref (xa E r0)), (1, .int x1), (2, .ref (xa E r2))] := hl
  unfold f_L_free at hf
  have h0 : x_by cL_free 0 [44, 3, 42, 27, 182, 0, 85, 133, 80, 167, 0, 6] := by unfold x_by; decide +kernel
  obtain ⟨d0, h0⟩ := de_aload_n2 h0
  obtain ⟨d1, h0⟩ := de_iconst_0 h0
  obtain ⟨d2, h0⟩ := de_aload_n0 h0
  obtain ⟨d3, h0⟩ := de_iload_n1 h0
  obtain ⟨d4, h0⟩ := de_invokevirtual 85 (by decide) h0
  obtain ⟨d7, h0⟩ := de_i2l h0
  obtain ⟨d8, h0⟩ := de_lastore h0
  obtain ⟨d9, h0⟩ := de_goto (6) (by decide) h0
  refine lv_aload_n hx hb d0 rfl (lv_at hl 2 rfl) ?_
  refine lv_iconst (v := 0) hx hb d1 (by decide) ?_
  refine lv_aload_n hx hb d2 rfl (lv_at hl 0 rfl) ?_
  refine lv_iload_n hx hb d3 rfl (lv_at hl 1 rfl) ?_
  obtain ⟨hs9, hf⟩ := x_if hf
  rcases x_try_el1 hf with ⟨h9, i1, e0, hf⟩ | ⟨h9, w9, e0, hf⟩
  rotate_left
  · refine x_useX (x_runV C0 hR hS me_X7_free wi_X7_free wl_X7_free ml_L_85 hs9 xcl_7 (As := [.int x1]) (ct_X7_free E l C0.2.2.2.2.2.2.2.1 _ r0 x1) rfl rfl hl.1 (Nat.le_of_ble_eq_true rfl) d4 ⟨(Nat.le_of_ble_eq_true rfl), (Nat.le_of_ble_eq_true rfl)⟩ ⟨(Nat.le_of_ble_eq_true rfl), (Nat.le_of_ble_eq_true rfl)⟩ e0) hS (fun ce q9 H locs hR hS g1 g2 g3 => ?_)
    refine x_catchA C0 hxt (by decide) (by decide) cl_L_19 wc_IllegalArgumentException g1 g2 g3 ?_
    have d12 : decode cL_free 12 = .ok (.astore_n 3, 1) := by decide +kernel
    have d13 : decode cL_free 13 = .ok (.iconst 1, 1) := by decide +kernel
    have d14 : decode cL_free 14 = .ok (.ireturn, 1) := by decide +kernel
    refine lv_astore_n (lv' := [(3, .ref q9), (0, .ref (xa E r0)), (1, .int x1), (2, .ref (xa E r2))]) hx hb d12 rfl hl (by decide) rfl (fun ls hl => ?_)
    refine lv_iconst (v := 1) hx hb d13 (by decide) ?_
    exact x_iret C0 hR hS hf (Nat.le_of_ble_eq_true rfl) (Nat.le_of_ble_eq_true rfl) d14
  refine x_useI (x_runV C0 hR hS me_X7_free wi_X7_free wl_X7_free ml_L_85 hs9 xcl_7 (As := [.int x1]) (ct_X7_free E l C0.2.2.2.2.2.2.2.1 _ r0 x1) rfl rfl hl.1 (Nat.le_of_ble_eq_true rfl) d4 ⟨(Nat.le_of_ble_eq_true rfl), (Nat.le_of_ble_eq_true rfl)⟩ ⟨(Nat.le_of_ble_eq_true rfl), (Nat.le_of_ble_eq_true rfl)⟩ e0) hS (fun H locs hR hS => ?_)
  refine lv_i2l hx hb d7 rfl ?_
  refine x_last C0 hR hS hf d8 (fun H locs hR hS hf => ?_)
  refine lv_goto (tgt := 15) hx hb d9 (by decide) ?_
  have h0 : x_by cL_free 15 [3, 172] := by unfold x_by; decide +kernel
  obtain ⟨d15, h0⟩ := de_iconst_0 h0
  obtain ⟨d16, h0⟩ := de_ireturn h0
  refine lv_iconst (v := 0) hx hb d15 (by decide) ?_
  exact x_iret C0 hR hS hf (Nat.le_of_ble_eq_true rfl) (Nat.le_of_ble_eq_true rfl) d16
def f_L_box (h : HP) (r0 : Nat) (x1 : Int32) (x2 : Int32) (x3 : Int32) (r4 : Nat) : Option XR :=
  x_rc h r0 7 <| x_try (f_X7_box h r0 x1 x2 x3) [("java/lang/IndexOutOfBoundsException", 1), ("java/lang/IllegalArgumentException", 2)] fun h2 i1 =>
  x_sJ h2 r4 0 ((i1 : Int32).toInt64) fun h3 =>
  some (h3, xi 0)
set_option maxRecDepth 100000 in
set_option maxHeartbeats 4000000 in
theorem ct_L_box (E : XE) (l : Launch) (hl0 : l.stackTraces = false) (h : HP) (r0 : Nat) (x1 : Int32) (x2 : Int32) (x3 : Int32) (r4 : Nat) : x_ct E l yL_box (Cond.codeWith yL_box cL_box 6 (some .int) [(0,12,15,28),(0,12,19,19)]) 16 327 3 18 [.ref (xa E r0), .int x1, .int x2, .int x3, .ref (xa E r4)] h (f_L_box h r0 x1 x2 x3 r4) := by
  refine x_ofWH hl0 (by decide +kernel) ?_
  intro z hf p e s m args below meth c C0 hxt hargs hR
  subst hargs
  have C0 : x_C E p l s m meth c ([.ref (xa E r0), .int x1, .int x2, .int x3, .ref (xa E r4)] : List Value).toArray cL_box 6 "GridEngineLaw" "box" (some .int) := C0
  obtain ⟨hx, hb, -⟩ := id C0
  have hS : va_S (x_A E) s.heap s.heap [] := va_S.rf
  have hl := lv_entry ([.ref (xa E r0), .int x1, .int x2, .int x3, .ref (xa E r4)]) (n := 6) (Nat.le_of_ble_eq_true rfl)
  rw [lg_entry_eq]
  generalize (lg_sl ([.ref (xa E r0), .int x1, .int x2, .int x3, .ref (xa E r4)]) ++ List.replicate (6 - (lg_sl ([.ref (xa E r0), .int x1, .int x2, .int x3, .ref (xa E r4)])).length) Slot.unset).toArray = ls at hl ⊢
  have hl : lv_has ls 6 [(0, .ref (xa E r0)), (1, .int x1), (2, .int x2), (3, .int x3), (4, .ref (xa E r4))] := hl
  unfold f_L_box at hf
  have h0 : x_by cL_box 0 [25, 4, 3, 42, 27, 28, 29, 182, 0, 88, 133, 80, 167, 0, 11] := by unfold x_by; decide +kernel
  obtain ⟨d0, h0⟩ := de_aload h0
  obtain ⟨d2, h0⟩ := de_iconst_0 h0
  obtain ⟨d3, h0⟩ := de_aload_n0 h0
  obtain ⟨d4, h0⟩ := de_iload_n1 h0
  obtain ⟨d5, h0⟩ := de_iload_n2 h0
  obtain ⟨d6, h0⟩ := de_iload_n3 h0
  obtain ⟨d7, h0⟩ := de_invokevirtual 88 (by decide) h0
  obtain ⟨d10, h0⟩ := de_i2l h0
  obtain ⟨d11, h0⟩ := de_lastore h0
  obtain ⟨d12, h0⟩ := de_goto (11) (by decide) h0
  refine lv_aload hx hb d0 (lv_at hl 4 rfl) ?_
  refine lv_iconst (v := 0) hx hb d2 (by decide) ?_
  refine lv_aload_n hx hb d3 rfl (lv_at hl 0 rfl) ?_
  refine lv_iload_n hx hb d4 rfl (lv_at hl 1 rfl) ?_
  refine lv_iload_n hx hb d5 rfl (lv_at hl 2 rfl) ?_
  refine lv_iload_n hx hb d6 rfl (lv_at hl 3 rfl) ?_
  obtain ⟨hs9, hf⟩ := x_if hf
  rcases x_try_el2 hf with ⟨h9, i1, e0, hf⟩ | ⟨h9, w9, e0, hf⟩ | ⟨h9, w9, e0, hf⟩
  rotate_left
  · refine x_useX (x_runV C0 hR hS me_X7_box wi_X7_box wl_X7_box ml_L_88 hs9 xcl_7 (As := [.int x1, .int x2, .int x3]) (ct_X7_box E l C0.2.2.2.2.2.2.2.1 _ r0 x1 x2 x3) rfl rfl hl.1 (Nat.le_of_ble_eq_true rfl) d7 ⟨(Nat.le_of_ble_eq_true rfl), (Nat.le_of_ble_eq_true rfl)⟩ ⟨(Nat.le_of_ble_eq_true rfl), (Nat.le_of_ble_eq_true rfl)⟩ e0) hS (fun ce q9 H locs hR hS g1 g2 g3 => ?_)
    refine x_catchA C0 hxt (by decide) (by decide) cl_L_28 wc_IndexOutOfBoundsException g1 g2 g3 ?_
    have d15 : decode cL_box 15 = .ok (.astore 5, 2) := by decide +kernel
    have d17 : decode cL_box 17 = .ok (.iconst 1, 1) := by decide +kernel
    have d18 : decode cL_box 18 = .ok (.ireturn, 1) := by decide +kernel
    refine lv_astore (lv' := [(5, .ref q9), (0, .ref (xa E r0)), (1, .int x1), (2, .int x2), (3, .int x3), (4, .ref (xa E r4))]) hx hb d15 hl (by decide) rfl (fun ls hl => ?_)
    refine lv_iconst (v := 1) hx hb d17 (by decide) ?_
    exact x_iret C0 hR hS hf (Nat.le_of_ble_eq_true rfl) (Nat.le_of_ble_eq_true rfl) d18
  · refine x_useX (x_runV C0 hR hS me_X7_box wi_X7_box wl_X7_box ml_L_88 hs9 xcl_7 (As := [.int x1, .int x2, .int x3]) (ct_X7_box E l C0.2.2.2.2.2.2.2.1 _ r0 x1 x2 x3) rfl rfl hl.1 (Nat.le_of_ble_eq_true rfl) d7 ⟨(Nat.le_of_ble_eq_true rfl), (Nat.le_of_ble_eq_true rfl)⟩ ⟨(Nat.le_of_ble_eq_true rfl), (Nat.le_of_ble_eq_true rfl)⟩ e0) hS (fun ce q9 H locs hR hS g1 g2 g3 => ?_)
    refine x_catchB C0 hxt (by decide) (by decide) cl_L_19 wc_IllegalArgumentException (by decide) cl_L_28 (by simp [x_xs]) (by simp [x_xs]) (by decide) g1 g2 g3 ?_
    have d19 : decode cL_box 19 = .ok (.astore 5, 2) := by decide +kernel
    have d21 : decode cL_box 21 = .ok (.iconst 2, 1) := by decide +kernel
    have d22 : decode cL_box 22 = .ok (.ireturn, 1) := by decide +kernel
    refine lv_astore (lv' := [(5, .ref q9), (0, .ref (xa E r0)), (1, .int x1), (2, .int x2), (3, .int x3), (4, .ref (xa E r4))]) hx hb d19 hl (by decide) rfl (fun ls hl => ?_)
    refine lv_iconst (v := 2) hx hb d21 (by decide) ?_
    exact x_iret C0 hR hS hf (Nat.le_of_ble_eq_true rfl) (Nat.le_of_ble_eq_true rfl) d22
  refine x_useI (x_runV C0 hR hS me_X7_box wi_X7_box wl_X7_box ml_L_88 hs9 xcl_7 (As := [.int x1, .int x2, .int x3]) (ct_X7_box E l C0.2.2.2.2.2.2.2.1 _ r0 x1 x2 x3) rfl rfl hl.1 (Nat.le_of_ble_eq_true rfl) d7 ⟨(Nat.le_of_ble_eq_true rfl), (Nat.le_of_ble_eq_true rfl)⟩ ⟨(Nat.le_of_ble_eq_true rfl), (Nat.le_of_ble_eq_true rfl)⟩ e0) hS (fun H locs hR hS => ?_)
  refine lv_i2l hx hb d10 rfl ?_
  refine x_last C0 hR hS hf d11 (fun H locs hR hS hf => ?_)
  refine lv_goto (tgt := 23) hx hb d12 (by decide) ?_
  have h0 : x_by cL_box 23 [3, 172] := by unfold x_by; decide +kernel
  obtain ⟨d23, h0⟩ := de_iconst_0 h0
  obtain ⟨d24, h0⟩ := de_ireturn h0
  refine lv_iconst (v := 0) hx hb d23 (by decide) ?_
  exact x_iret C0 hR hS hf (Nat.le_of_ble_eq_true rfl) (Nat.le_of_ble_eq_true rfl) d24
def f_L_unmet (h : HP) (r0 : Nat) (x1 : Int32) (x2 : Int32) (r3 : Nat) : Option XR :=
  x_rc h r0 7 <| x_try (f_X7_unmet h r0 x1 x2) [("java/lang/IllegalArgumentException", 1)] fun h2 i1 =>
  x_sJ h2 r3 0 ((i1 : Int32).toInt64) fun h3 =>
  some (h3, xi 0)
set_option maxRecDepth 100000 in
set_option maxHeartbeats 4000000 in
theorem ct_L_unmet (E : XE) (l : Launch) (hl0 : l.stackTraces = false) (h : HP) (r0 : Nat) (x1 : Int32) (x2 : Int32) (r3 : Nat) : x_ct E l yL_unmet (Cond.codeWith yL_unmet cL_unmet 5 (some .int) [(0,10,13,19)]) 16 329 1 6 [.ref (xa E r0), .int x1, .int x2, .ref (xa E r3)] h (f_L_unmet h r0 x1 x2 r3) := by
  refine x_ofWH hl0 (by decide +kernel) ?_
  intro z hf p e s m args below meth c C0 hxt hargs hR
  subst hargs
  have C0 : x_C E p l s m meth c ([.ref (xa E r0), .int x1, .int x2, .ref (xa E r3)] : List Value).toArray cL_unmet 5 "GridEngineLaw" "unmet" (some .int) := C0
  obtain ⟨hx, hb, -⟩ := id C0
  have hS : va_S (x_A E) s.heap s.heap [] := va_S.rf
  have hl := lv_entry ([.ref (xa E r0), .int x1, .int x2, .ref (xa E r3)]) (n := 5) (Nat.le_of_ble_eq_true rfl)
  rw [lg_entry_eq]
  generalize (lg_sl ([.ref (xa E r0), .int x1, .int x2, .ref (xa E r3)]) ++ List.replicate (5 - (lg_sl ([.ref (xa E r0), .int x1, .int x2, .ref (xa E r3)])).length) Slot.unset).toArray = ls at hl ⊢
  have hl : lv_has ls 5 [(0, .ref (xa E r0)), (1, .int x1), (2, .int x2), (3, .ref (xa E r3))] := hl
  unfold f_L_unmet at hf
  have h0 : x_by cL_unmet 0 [45, 3, 42, 27, 28, 182, 0, 91, 133, 80, 167, 0, 7] := by unfold x_by; decide +kernel
  obtain ⟨d0, h0⟩ := de_aload_n3 h0
  obtain ⟨d1, h0⟩ := de_iconst_0 h0
  obtain ⟨d2, h0⟩ := de_aload_n0 h0
  obtain ⟨d3, h0⟩ := de_iload_n1 h0
  obtain ⟨d4, h0⟩ := de_iload_n2 h0
  obtain ⟨d5, h0⟩ := de_invokevirtual 91 (by decide) h0
  obtain ⟨d8, h0⟩ := de_i2l h0
  obtain ⟨d9, h0⟩ := de_lastore h0
  obtain ⟨d10, h0⟩ := de_goto (7) (by decide) h0
  refine lv_aload_n hx hb d0 rfl (lv_at hl 3 rfl) ?_
  refine lv_iconst (v := 0) hx hb d1 (by decide) ?_
  refine lv_aload_n hx hb d2 rfl (lv_at hl 0 rfl) ?_
  refine lv_iload_n hx hb d3 rfl (lv_at hl 1 rfl) ?_
  refine lv_iload_n hx hb d4 rfl (lv_at hl 2 rfl) ?_
  obtain ⟨hs9, hf⟩ := x_if hf
  rcases x_try_el1 hf with ⟨h9, i1, e0, hf⟩ | ⟨h9, w9, e0, hf⟩
  rotate_left
  · refine x_useX (x_runV C0 hR hS me_X7_unmet wi_X7_unmet wl_X7_unmet ml_L_91 hs9 xcl_7 (As := [.int x1, .int x2]) (ct_X7_unmet E l C0.2.2.2.2.2.2.2.1 _ r0 x1 x2) rfl rfl hl.1 (Nat.le_of_ble_eq_true rfl) d5 ⟨(Nat.le_of_ble_eq_true rfl), (Nat.le_of_ble_eq_true rfl)⟩ ⟨(Nat.le_of_ble_eq_true rfl), (Nat.le_of_ble_eq_true rfl)⟩ e0) hS (fun ce q9 H locs hR hS g1 g2 g3 => ?_)
    refine x_catchA C0 hxt (by decide) (by decide) cl_L_19 wc_IllegalArgumentException g1 g2 g3 ?_
    have d13 : decode cL_unmet 13 = .ok (.astore 4, 2) := by decide +kernel
    have d15 : decode cL_unmet 15 = .ok (.iconst 1, 1) := by decide +kernel
    have d16 : decode cL_unmet 16 = .ok (.ireturn, 1) := by decide +kernel
    refine lv_astore (lv' := [(4, .ref q9), (0, .ref (xa E r0)), (1, .int x1), (2, .int x2), (3, .ref (xa E r3))]) hx hb d13 hl (by decide) rfl (fun ls hl => ?_)
    refine lv_iconst (v := 1) hx hb d15 (by decide) ?_
    exact x_iret C0 hR hS hf (Nat.le_of_ble_eq_true rfl) (Nat.le_of_ble_eq_true rfl) d16
  refine x_useI (x_runV C0 hR hS me_X7_unmet wi_X7_unmet wl_X7_unmet ml_L_91 hs9 xcl_7 (As := [.int x1, .int x2]) (ct_X7_unmet E l C0.2.2.2.2.2.2.2.1 _ r0 x1 x2) rfl rfl hl.1 (Nat.le_of_ble_eq_true rfl) d5 ⟨(Nat.le_of_ble_eq_true rfl), (Nat.le_of_ble_eq_true rfl)⟩ ⟨(Nat.le_of_ble_eq_true rfl), (Nat.le_of_ble_eq_true rfl)⟩ e0) hS (fun H locs hR hS => ?_)
  refine lv_i2l hx hb d8 rfl ?_
  refine x_last C0 hR hS hf d9 (fun H locs hR hS hf => ?_)
  refine lv_goto (tgt := 17) hx hb d10 (by decide) ?_
  have h0 : x_by cL_unmet 17 [3, 172] := by unfold x_by; decide +kernel
  obtain ⟨d17, h0⟩ := de_iconst_0 h0
  obtain ⟨d18, h0⟩ := de_ireturn h0
  refine lv_iconst (v := 0) hx hb d17 (by decide) ?_
  exact x_iret C0 hR hS hf (Nat.le_of_ble_eq_true rfl) (Nat.le_of_ble_eq_true rfl) d18
def f_L_itemUnder (h : HP) (r0 : Nat) (x1 : Int32) (x2 : Int32) (r3 : Nat) : Option XR :=
  x_rc h r0 7 <| x_try (f_X7_itemUnder h r0 x1 x2) [("java/util/NoSuchElementException", 1)] fun h2 i1 =>
  x_sJ h2 r3 0 ((i1 : Int32).toInt64) fun h3 =>
  some (h3, xi 0)
set_option maxRecDepth 100000 in
set_option maxHeartbeats 4000000 in
theorem ct_L_itemUnder (E : XE) (l : Launch) (hl0 : l.stackTraces = false) (h : HP) (r0 : Nat) (x1 : Int32) (x2 : Int32) (r3 : Nat) : x_ct E l yL_itemUnder (Cond.codeWith yL_itemUnder cL_itemUnder 5 (some .int) [(0,10,13,67)]) 16 326 1 6 [.ref (xa E r0), .int x1, .int x2, .ref (xa E r3)] h (f_L_itemUnder h r0 x1 x2 r3) := by
  refine x_ofWH hl0 (by decide +kernel) ?_
  intro z hf p e s m args below meth c C0 hxt hargs hR
  subst hargs
  have C0 : x_C E p l s m meth c ([.ref (xa E r0), .int x1, .int x2, .ref (xa E r3)] : List Value).toArray cL_itemUnder 5 "GridEngineLaw" "itemUnder" (some .int) := C0
  obtain ⟨hx, hb, -⟩ := id C0
  have hS : va_S (x_A E) s.heap s.heap [] := va_S.rf
  have hl := lv_entry ([.ref (xa E r0), .int x1, .int x2, .ref (xa E r3)]) (n := 5) (Nat.le_of_ble_eq_true rfl)
  rw [lg_entry_eq]
  generalize (lg_sl ([.ref (xa E r0), .int x1, .int x2, .ref (xa E r3)]) ++ List.replicate (5 - (lg_sl ([.ref (xa E r0), .int x1, .int x2, .ref (xa E r3)])).length) Slot.unset).toArray = ls at hl ⊢
  have hl : lv_has ls 5 [(0, .ref (xa E r0)), (1, .int x1), (2, .int x2), (3, .ref (xa E r3))] := hl
  unfold f_L_itemUnder at hf
  have h0 : x_by cL_itemUnder 0 [45, 3, 42, 27, 28, 182, 0, 94, 133, 80, 167, 0, 7] := by unfold x_by; decide +kernel
  obtain ⟨d0, h0⟩ := de_aload_n3 h0
  obtain ⟨d1, h0⟩ := de_iconst_0 h0
  obtain ⟨d2, h0⟩ := de_aload_n0 h0
  obtain ⟨d3, h0⟩ := de_iload_n1 h0
  obtain ⟨d4, h0⟩ := de_iload_n2 h0
  obtain ⟨d5, h0⟩ := de_invokevirtual 94 (by decide) h0
  obtain ⟨d8, h0⟩ := de_i2l h0
  obtain ⟨d9, h0⟩ := de_lastore h0
  obtain ⟨d10, h0⟩ := de_goto (7) (by decide) h0
  refine lv_aload_n hx hb d0 rfl (lv_at hl 3 rfl) ?_
  refine lv_iconst (v := 0) hx hb d1 (by decide) ?_
  refine lv_aload_n hx hb d2 rfl (lv_at hl 0 rfl) ?_
  refine lv_iload_n hx hb d3 rfl (lv_at hl 1 rfl) ?_
  refine lv_iload_n hx hb d4 rfl (lv_at hl 2 rfl) ?_
  obtain ⟨hs9, hf⟩ := x_if hf
  rcases x_try_el1 hf with ⟨h9, i1, e0, hf⟩ | ⟨h9, w9, e0, hf⟩
  rotate_left
  · refine x_useX (x_runV C0 hR hS me_X7_itemUnder wi_X7_itemUnder wl_X7_itemUnder ml_L_94 hs9 xcl_7 (As := [.int x1, .int x2]) (ct_X7_itemUnder E l C0.2.2.2.2.2.2.2.1 _ r0 x1 x2) rfl rfl hl.1 (Nat.le_of_ble_eq_true rfl) d5 ⟨(Nat.le_of_ble_eq_true rfl), (Nat.le_of_ble_eq_true rfl)⟩ ⟨(Nat.le_of_ble_eq_true rfl), (Nat.le_of_ble_eq_true rfl)⟩ e0) hS (fun ce q9 H locs hR hS g1 g2 g3 => ?_)
    refine x_catchA C0 hxt (by decide) (by decide) cl_L_67 wc_NoSuchElementException g1 g2 g3 ?_
    have d13 : decode cL_itemUnder 13 = .ok (.astore 4, 2) := by decide +kernel
    have d15 : decode cL_itemUnder 15 = .ok (.iconst 1, 1) := by decide +kernel
    have d16 : decode cL_itemUnder 16 = .ok (.ireturn, 1) := by decide +kernel
    refine lv_astore (lv' := [(4, .ref q9), (0, .ref (xa E r0)), (1, .int x1), (2, .int x2), (3, .ref (xa E r3))]) hx hb d13 hl (by decide) rfl (fun ls hl => ?_)
    refine lv_iconst (v := 1) hx hb d15 (by decide) ?_
    exact x_iret C0 hR hS hf (Nat.le_of_ble_eq_true rfl) (Nat.le_of_ble_eq_true rfl) d16
  refine x_useI (x_runV C0 hR hS me_X7_itemUnder wi_X7_itemUnder wl_X7_itemUnder ml_L_94 hs9 xcl_7 (As := [.int x1, .int x2]) (ct_X7_itemUnder E l C0.2.2.2.2.2.2.2.1 _ r0 x1 x2) rfl rfl hl.1 (Nat.le_of_ble_eq_true rfl) d5 ⟨(Nat.le_of_ble_eq_true rfl), (Nat.le_of_ble_eq_true rfl)⟩ ⟨(Nat.le_of_ble_eq_true rfl), (Nat.le_of_ble_eq_true rfl)⟩ e0) hS (fun H locs hR hS => ?_)
  refine lv_i2l hx hb d8 rfl ?_
  refine x_last C0 hR hS hf d9 (fun H locs hR hS hf => ?_)
  refine lv_goto (tgt := 17) hx hb d10 (by decide) ?_
  have h0 : x_by cL_itemUnder 17 [3, 172] := by unfold x_by; decide +kernel
  obtain ⟨d17, h0⟩ := de_iconst_0 h0
  obtain ⟨d18, h0⟩ := de_ireturn h0
  refine lv_iconst (v := 0) hx hb d17 (by decide) ?_
  exact x_iret C0 hR hS hf (Nat.le_of_ble_eq_true rfl) (Nat.le_of_ble_eq_true rfl) d18
def f_L_save (h : HP) (r0 : Nat) (x1 : Int32) (r2 : Nat) : Option XR :=
  x_rc h r0 7 <| x_try (f_X7_save h r0 x1) [("java/lang/IndexOutOfBoundsException", 1)] fun h2 i1 =>
  x_sJ h2 r2 0 ((i1 : Int32).toInt64) fun h3 =>
  some (h3, xi 0)
set_option maxRecDepth 100000 in
set_option maxHeartbeats 4000000 in
theorem ct_L_save (E : XE) (l : Launch) (hl0 : l.stackTraces = false) (h : HP) (r0 : Nat) (x1 : Int32) (r2 : Nat) : x_ct E l yL_save (Cond.codeWith yL_save cL_save 4 (some .int) [(0,9,12,28)]) 10 172 1 6 [.ref (xa E r0), .int x1, .ref (xa E r2)] h (f_L_save h r0 x1 r2) := by
  refine x_ofWH hl0 (by decide +kernel) ?_
  intro z hf p e s m args below meth c C0 hxt hargs hR
  subst hargs
  have C0 : x_C E p l s m meth c ([.ref (xa E r0), .int x1, .ref (xa E r2)] : List Value).toArray cL_save 4 "GridEngineLaw" "save" (some .int) := C0
  obtain ⟨hx, hb, -⟩ := id C0
  have hS : va_S (x_A E) s.heap s.heap [] := va_S.rf
  have hl := lv_entry ([.ref (xa E r0), .int x1, .ref (xa E r2)]) (n := 4) (Nat.le_of_ble_eq_true rfl)
  rw [lg_entry_eq]
  generalize (lg_sl ([.ref (xa E r0), .int x1, .ref (xa E r2)]) ++ List.replicate (4 - (lg_sl ([.ref (xa E r0), .int x1, .ref (xa E r2)])).length) Slot.unset).toArray = ls at hl ⊢
  have hl : lv_has ls 4 [(0, .ref (xa E r0)), (1, .int x1), (2, .ref (xa E r2))] := hl
  unfold f_L_save at hf
  have h0 : x_by cL_save 0 [44, 3, 42, 27, 182, 0, 97, 133, 80, 167, 0, 6] := by unfold x_by; decide +kernel
  obtain ⟨d0, h0⟩ := de_aload_n2 h0
  obtain ⟨d1, h0⟩ := de_iconst_0 h0
  obtain ⟨d2, h0⟩ := de_aload_n0 h0
  obtain ⟨d3, h0⟩ := de_iload_n1 h0
  obtain ⟨d4, h0⟩ := de_invokevirtual 97 (by decide) h0
  obtain ⟨d7, h0⟩ := de_i2l h0
  obtain ⟨d8, h0⟩ := de_lastore h0
  obtain ⟨d9, h0⟩ := de_goto (6) (by decide) h0
  refine lv_aload_n hx hb d0 rfl (lv_at hl 2 rfl) ?_
  refine lv_iconst (v := 0) hx hb d1 (by decide) ?_
  refine lv_aload_n hx hb d2 rfl (lv_at hl 0 rfl) ?_
  refine lv_iload_n hx hb d3 rfl (lv_at hl 1 rfl) ?_
  obtain ⟨hs9, hf⟩ := x_if hf
  rcases x_try_el1 hf with ⟨h9, i1, e0, hf⟩ | ⟨h9, w9, e0, hf⟩
  rotate_left
  · refine x_useX (x_runV C0 hR hS me_X7_save wi_X7_save wl_X7_save ml_L_97 hs9 xcl_7 (As := [.int x1]) (ct_X7_save E l C0.2.2.2.2.2.2.2.1 _ r0 x1) rfl rfl hl.1 (Nat.le_of_ble_eq_true rfl) d4 ⟨(Nat.le_of_ble_eq_true rfl), (Nat.le_of_ble_eq_true rfl)⟩ ⟨(Nat.le_of_ble_eq_true rfl), (Nat.le_of_ble_eq_true rfl)⟩ e0) hS (fun ce q9 H locs hR hS g1 g2 g3 => ?_)
    refine x_catchA C0 hxt (by decide) (by decide) cl_L_28 wc_IndexOutOfBoundsException g1 g2 g3 ?_
    have d12 : decode cL_save 12 = .ok (.astore_n 3, 1) := by decide +kernel
    have d13 : decode cL_save 13 = .ok (.iconst 1, 1) := by decide +kernel
    have d14 : decode cL_save 14 = .ok (.ireturn, 1) := by decide +kernel
    refine lv_astore_n (lv' := [(3, .ref q9), (0, .ref (xa E r0)), (1, .int x1), (2, .ref (xa E r2))]) hx hb d12 rfl hl (by decide) rfl (fun ls hl => ?_)
    refine lv_iconst (v := 1) hx hb d13 (by decide) ?_
    exact x_iret C0 hR hS hf (Nat.le_of_ble_eq_true rfl) (Nat.le_of_ble_eq_true rfl) d14
  refine x_useI (x_runV C0 hR hS me_X7_save wi_X7_save wl_X7_save ml_L_97 hs9 xcl_7 (As := [.int x1]) (ct_X7_save E l C0.2.2.2.2.2.2.2.1 _ r0 x1) rfl rfl hl.1 (Nat.le_of_ble_eq_true rfl) d4 ⟨(Nat.le_of_ble_eq_true rfl), (Nat.le_of_ble_eq_true rfl)⟩ ⟨(Nat.le_of_ble_eq_true rfl), (Nat.le_of_ble_eq_true rfl)⟩ e0) hS (fun H locs hR hS => ?_)
  refine lv_i2l hx hb d7 rfl ?_
  refine x_last C0 hR hS hf d8 (fun H locs hR hS hf => ?_)
  refine lv_goto (tgt := 15) hx hb d9 (by decide) ?_
  have h0 : x_by cL_save 15 [3, 172] := by unfold x_by; decide +kernel
  obtain ⟨d15, h0⟩ := de_iconst_0 h0
  obtain ⟨d16, h0⟩ := de_ireturn h0
  refine lv_iconst (v := 0) hx hb d15 (by decide) ?_
  exact x_iret C0 hR hS hf (Nat.le_of_ble_eq_true rfl) (Nat.le_of_ble_eq_true rfl) d16
def f_L_restore (h : HP) (r0 : Nat) (x1 : Int32) (r2 : Nat) : Option XR :=
  x_rc h r0 7 <| x_try (f_X7_restore h r0 x1) [("java/lang/IndexOutOfBoundsException", 1), ("java/lang/IllegalStateException", 2)] fun h2 i1 =>
  x_sJ h2 r2 0 ((i1 : Int32).toInt64) fun h3 =>
  some (h3, xi 0)
set_option maxRecDepth 100000 in
set_option maxHeartbeats 4000000 in
theorem ct_L_restore (E : XE) (l : Launch) (hl0 : l.stackTraces = false) (h : HP) (r0 : Nat) (x1 : Int32) (r2 : Nat) : x_ct E l yL_restore (Cond.codeWith yL_restore cL_restore 4 (some .int) [(0,9,12,28),(0,9,15,13)]) 11 192 2 12 [.ref (xa E r0), .int x1, .ref (xa E r2)] h (f_L_restore h r0 x1 r2) := by
  refine x_ofWH hl0 (by decide +kernel) ?_
  intro z hf p e s m args below meth c C0 hxt hargs hR
  subst hargs
  have C0 : x_C E p l s m meth c ([.ref (xa E r0), .int x1, .ref (xa E r2)] : List Value).toArray cL_restore 4 "GridEngineLaw" "restore" (some .int) := C0
  obtain ⟨hx, hb, -⟩ := id C0
  have hS : va_S (x_A E) s.heap s.heap [] := va_S.rf
  have hl := lv_entry ([.ref (xa E r0), .int x1, .ref (xa E r2)]) (n := 4) (Nat.le_of_ble_eq_true rfl)
  rw [lg_entry_eq]
  generalize (lg_sl ([.ref (xa E r0), .int x1, .ref (xa E r2)]) ++ List.replicate (4 - (lg_sl ([.ref (xa E r0), .int x1, .ref (xa E r2)])).length) Slot.unset).toArray = ls at hl ⊢
  have hl : lv_has ls 4 [(0, .ref (xa E r0)), (1, .int x1), (2, .ref (xa E r2))] := hl
  unfold f_L_restore at hf
  have h0 : x_by cL_restore 0 [44, 3, 42, 27, 182, 0, 100, 133, 80, 167, 0, 9] := by unfold x_by; decide +kernel
  obtain ⟨d0, h0⟩ := de_aload_n2 h0
  obtain ⟨d1, h0⟩ := de_iconst_0 h0
  obtain ⟨d2, h0⟩ := de_aload_n0 h0
  obtain ⟨d3, h0⟩ := de_iload_n1 h0
  obtain ⟨d4, h0⟩ := de_invokevirtual 100 (by decide) h0
  obtain ⟨d7, h0⟩ := de_i2l h0
  obtain ⟨d8, h0⟩ := de_lastore h0
  obtain ⟨d9, h0⟩ := de_goto (9) (by decide) h0
  refine lv_aload_n hx hb d0 rfl (lv_at hl 2 rfl) ?_
  refine lv_iconst (v := 0) hx hb d1 (by decide) ?_
  refine lv_aload_n hx hb d2 rfl (lv_at hl 0 rfl) ?_
  refine lv_iload_n hx hb d3 rfl (lv_at hl 1 rfl) ?_
  obtain ⟨hs9, hf⟩ := x_if hf
  rcases x_try_el2 hf with ⟨h9, i1, e0, hf⟩ | ⟨h9, w9, e0, hf⟩ | ⟨h9, w9, e0, hf⟩
  rotate_left
  · refine x_useX (x_runV C0 hR hS me_X7_restore wi_X7_restore wl_X7_restore ml_L_100 hs9 xcl_7 (As := [.int x1]) (ct_X7_restore E l C0.2.2.2.2.2.2.2.1 _ r0 x1) rfl rfl hl.1 (Nat.le_of_ble_eq_true rfl) d4 ⟨(Nat.le_of_ble_eq_true rfl), (Nat.le_of_ble_eq_true rfl)⟩ ⟨(Nat.le_of_ble_eq_true rfl), (Nat.le_of_ble_eq_true rfl)⟩ e0) hS (fun ce q9 H locs hR hS g1 g2 g3 => ?_)
    refine x_catchA C0 hxt (by decide) (by decide) cl_L_28 wc_IndexOutOfBoundsException g1 g2 g3 ?_
    have d12 : decode cL_restore 12 = .ok (.astore_n 3, 1) := by decide +kernel
    have d13 : decode cL_restore 13 = .ok (.iconst 1, 1) := by decide +kernel
    have d14 : decode cL_restore 14 = .ok (.ireturn, 1) := by decide +kernel
    refine lv_astore_n (lv' := [(3, .ref q9), (0, .ref (xa E r0)), (1, .int x1), (2, .ref (xa E r2))]) hx hb d12 rfl hl (by decide) rfl (fun ls hl => ?_)
    refine lv_iconst (v := 1) hx hb d13 (by decide) ?_
    exact x_iret C0 hR hS hf (Nat.le_of_ble_eq_true rfl) (Nat.le_of_ble_eq_true rfl) d14
  · refine x_useX (x_runV C0 hR hS me_X7_restore wi_X7_restore wl_X7_restore ml_L_100 hs9 xcl_7 (As := [.int x1]) (ct_X7_restore E l C0.2.2.2.2.2.2.2.1 _ r0 x1) rfl rfl hl.1 (Nat.le_of_ble_eq_true rfl) d4 ⟨(Nat.le_of_ble_eq_true rfl), (Nat.le_of_ble_eq_true rfl)⟩ ⟨(Nat.le_of_ble_eq_true rfl), (Nat.le_of_ble_eq_true rfl)⟩ e0) hS (fun ce q9 H locs hR hS g1 g2 g3 => ?_)
    refine x_catchB C0 hxt (by decide) (by decide) cl_L_13 wc_IllegalStateException (by decide) cl_L_28 (by simp [x_xs]) (by simp [x_xs]) (by decide) g1 g2 g3 ?_
    have d15 : decode cL_restore 15 = .ok (.astore_n 3, 1) := by decide +kernel
    have d16 : decode cL_restore 16 = .ok (.iconst 2, 1) := by decide +kernel
    have d17 : decode cL_restore 17 = .ok (.ireturn, 1) := by decide +kernel
    refine lv_astore_n (lv' := [(3, .ref q9), (0, .ref (xa E r0)), (1, .int x1), (2, .ref (xa E r2))]) hx hb d15 rfl hl (by decide) rfl (fun ls hl => ?_)
    refine lv_iconst (v := 2) hx hb d16 (by decide) ?_
    exact x_iret C0 hR hS hf (Nat.le_of_ble_eq_true rfl) (Nat.le_of_ble_eq_true rfl) d17
  refine x_useI (x_runV C0 hR hS me_X7_restore wi_X7_restore wl_X7_restore ml_L_100 hs9 xcl_7 (As := [.int x1]) (ct_X7_restore E l C0.2.2.2.2.2.2.2.1 _ r0 x1) rfl rfl hl.1 (Nat.le_of_ble_eq_true rfl) d4 ⟨(Nat.le_of_ble_eq_true rfl), (Nat.le_of_ble_eq_true rfl)⟩ ⟨(Nat.le_of_ble_eq_true rfl), (Nat.le_of_ble_eq_true rfl)⟩ e0) hS (fun H locs hR hS => ?_)
  refine lv_i2l hx hb d7 rfl ?_
  refine x_last C0 hR hS hf d8 (fun H locs hR hS hf => ?_)
  refine lv_goto (tgt := 18) hx hb d9 (by decide) ?_
  have h0 : x_by cL_restore 18 [3, 172] := by unfold x_by; decide +kernel
  obtain ⟨d18, h0⟩ := de_iconst_0 h0
  obtain ⟨d19, h0⟩ := de_ireturn h0
  refine lv_iconst (v := 0) hx hb d18 (by decide) ?_
  exact x_iret C0 hR hS hf (Nat.le_of_ble_eq_true rfl) (Nat.le_of_ble_eq_true rfl) d19
def f_L_undo (h : HP) (r0 : Nat) (r1 : Nat) : Option XR :=
  x_rc h r0 7 <| x_try (f_X7_undo h r0) [("java/lang/IllegalStateException", 1)] fun h2 i1 =>
  x_sJ h2 r1 0 ((i1 : Int32).toInt64) fun h3 =>
  some (h3, xi 0)
set_option maxRecDepth 100000 in
set_option maxHeartbeats 4000000 in
theorem ct_L_undo (E : XE) (l : Launch) (hl0 : l.stackTraces = false) (h : HP) (r0 : Nat) (r1 : Nat) : x_ct E l yL_undo (Cond.codeWith yL_undo cL_undo 3 (some .int) [(0,8,11,13)]) 10 171 1 6 [.ref (xa E r0), .ref (xa E r1)] h (f_L_undo h r0 r1) := by
  refine x_ofWH hl0 (by decide +kernel) ?_
  intro z hf p e s m args below meth c C0 hxt hargs hR
  subst hargs
  have C0 : x_C E p l s m meth c ([.ref (xa E r0), .ref (xa E r1)] : List Value).toArray cL_undo 3 "GridEngineLaw" "undo" (some .int) := C0
  obtain ⟨hx, hb, -⟩ := id C0
  have hS : va_S (x_A E) s.heap s.heap [] := va_S.rf
  have hl := lv_entry ([.ref (xa E r0), .ref (xa E r1)]) (n := 3) (Nat.le_of_ble_eq_true rfl)
  rw [lg_entry_eq]
  generalize (lg_sl ([.ref (xa E r0), .ref (xa E r1)]) ++ List.replicate (3 - (lg_sl ([.ref (xa E r0), .ref (xa E r1)])).length) Slot.unset).toArray = ls at hl ⊢
  have hl : lv_has ls 3 [(0, .ref (xa E r0)), (1, .ref (xa E r1))] := hl
  unfold f_L_undo at hf
  have h0 : x_by cL_undo 0 [43, 3, 42, 182, 0, 103, 133, 80, 167, 0, 6] := by unfold x_by; decide +kernel
  obtain ⟨d0, h0⟩ := de_aload_n1 h0
  obtain ⟨d1, h0⟩ := de_iconst_0 h0
  obtain ⟨d2, h0⟩ := de_aload_n0 h0
  obtain ⟨d3, h0⟩ := de_invokevirtual 103 (by decide) h0
  obtain ⟨d6, h0⟩ := de_i2l h0
  obtain ⟨d7, h0⟩ := de_lastore h0
  obtain ⟨d8, h0⟩ := de_goto (6) (by decide) h0
  refine lv_aload_n hx hb d0 rfl (lv_at hl 1 rfl) ?_
  refine lv_iconst (v := 0) hx hb d1 (by decide) ?_
  refine lv_aload_n hx hb d2 rfl (lv_at hl 0 rfl) ?_
  obtain ⟨hs9, hf⟩ := x_if hf
  rcases x_try_el1 hf with ⟨h9, i1, e0, hf⟩ | ⟨h9, w9, e0, hf⟩
  rotate_left
  · refine x_useX (x_runV C0 hR hS me_X7_undo wi_X7_undo wl_X7_undo ml_L_103 hs9 xcl_7 (As := []) (ct_X7_undo E l C0.2.2.2.2.2.2.2.1 _ r0) rfl rfl hl.1 (Nat.le_of_ble_eq_true rfl) d3 ⟨(Nat.le_of_ble_eq_true rfl), (Nat.le_of_ble_eq_true rfl)⟩ ⟨(Nat.le_of_ble_eq_true rfl), (Nat.le_of_ble_eq_true rfl)⟩ e0) hS (fun ce q9 H locs hR hS g1 g2 g3 => ?_)
    refine x_catchA C0 hxt (by decide) (by decide) cl_L_13 wc_IllegalStateException g1 g2 g3 ?_
    have d11 : decode cL_undo 11 = .ok (.astore_n 2, 1) := by decide +kernel
    have d12 : decode cL_undo 12 = .ok (.iconst 1, 1) := by decide +kernel
    have d13 : decode cL_undo 13 = .ok (.ireturn, 1) := by decide +kernel
    refine lv_astore_n (lv' := [(2, .ref q9), (0, .ref (xa E r0)), (1, .ref (xa E r1))]) hx hb d11 rfl hl (by decide) rfl (fun ls hl => ?_)
    refine lv_iconst (v := 1) hx hb d12 (by decide) ?_
    exact x_iret C0 hR hS hf (Nat.le_of_ble_eq_true rfl) (Nat.le_of_ble_eq_true rfl) d13
  refine x_useI (x_runV C0 hR hS me_X7_undo wi_X7_undo wl_X7_undo ml_L_103 hs9 xcl_7 (As := []) (ct_X7_undo E l C0.2.2.2.2.2.2.2.1 _ r0) rfl rfl hl.1 (Nat.le_of_ble_eq_true rfl) d3 ⟨(Nat.le_of_ble_eq_true rfl), (Nat.le_of_ble_eq_true rfl)⟩ ⟨(Nat.le_of_ble_eq_true rfl), (Nat.le_of_ble_eq_true rfl)⟩ e0) hS (fun H locs hR hS => ?_)
  refine lv_i2l hx hb d6 rfl ?_
  refine x_last C0 hR hS hf d7 (fun H locs hR hS hf => ?_)
  refine lv_goto (tgt := 14) hx hb d8 (by decide) ?_
  have h0 : x_by cL_undo 14 [3, 172] := by unfold x_by; decide +kernel
  obtain ⟨d14, h0⟩ := de_iconst_0 h0
  obtain ⟨d15, h0⟩ := de_ireturn h0
  refine lv_iconst (v := 0) hx hb d14 (by decide) ?_
  exact x_iret C0 hR hS hf (Nat.le_of_ble_eq_true rfl) (Nat.le_of_ble_eq_true rfl) d15

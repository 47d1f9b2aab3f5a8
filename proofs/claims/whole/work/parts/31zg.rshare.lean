/-! ===== the reference: sharing what is left ===== -/
def RG (I A : CF) (ax : Int) : Prop := RX I A ax ∧ ∀ k, 1 ≤ k → k ≤ nt A ax → I 226 k = grw A ax k
theorem RG.fr {I I' A : CF} {ax : Int} (h : RG I A ax) (hf : ∀ a, 102 ≤ a → a ≤ 226 → I' a = I a) : RG I' A ax :=
  ⟨h.1.fr (hf 102 (by omega) (by omega)) (fun a a0 a1 => hf a (by omega) (by omega)), by rw [hf 226 (by omega) (by omega)]; exact h.2⟩
section RShare
variable {b : Nat} {c : Bool} {A : CF} {ax : Int}
theorem r_lfo_L {I : CF} {act : Int → Prop} {g : Int} (h : RG I A ax) (hact : ∀ k, 1 ≤ k → k ≤ nt A ax → I 235 k = bb (act k)) : ∀ (fuel : Nat) (k : Int) (J : CF), nt A ax - k + 1 < fuel → 1 ≤ k → k ≤ nt A ax + 1 → J 102 39 = rs (fun k => cif (act k) (tpt A ax k 3) 0) 1 (k - 1) → J 102 40 = g + rs (fun k => cif (act k) (grw A ax k) 0) 1 (k - 1) →
    ∃ J', f_X8_findLeftover_L29 fuel (Sx I J b c) 102 (iW k) = some (Sx I J' b c, xv) ∧ J' 102 39 = fxs A ax act ∧ J' 102 40 = g + rs (fun k => cif (act k) (grw A ax k) 0) 1 (nt A ax) ∧ ∀ a, a ≠ 102 → J' a = J a := by
  have h' := h.1
  obtain ⟨hA, hx, hN, h27, h28, h29, hc⟩ := h'
  have hP := plB_of hA
  have hnt := hP.2 ax (by omega) (by omega)
  intro fuel
  induction fuel with
  | zero => intro k J a1 a2 a3; omega
  | succ fuel ih =>
    intro k J a1 a2 a3 hj1 hj2
    show ∃ J', f_X8_findLeftover_b29 (f_X8_findLeftover_L29 fuel) (Sx I J b c) 102 (iW k) = _ ∧ _
    by_cases hk : k = nt A ax + 1
    · have n0 : nt A ax < k := by omega
      rw [show k - 1 = nt A ax by omega] at hj1 hj2
      refine ⟨J, ?_, hj1, hj2, fun _ _ => rfl⟩
      simp (disch := first | assumption | omega) only [f_X8_findLeftover_b29, ↓rc102, ↓gI102_0, ↓gI102_6, ↓gI102_8, ↓gI102_9, ↓gI102_13, ↓gI102_15, ↓gI102_16, ↓gI102_17, ↓gI102_18, ↓gI102_19, ↓gI102_27, ↓gI102_28, ↓gI102_29, ↓gJ102_39, ↓gJ102_40, ↓gJ102_41, ↓gJ102_42, ↓pI102_0, ↓pI102_6, ↓pI102_9, ↓pI102_13, ↓pI102_15, ↓pI102_16, ↓pI102_17, ↓pI102_27, ↓pI102_28, ↓pI102_29, ↓pZ102_8, ↓pZ102_18, ↓pZ102_19, ↓pJ102_39, ↓pJ102_40, ↓pJ102_41, ↓pJ102_42, ↓gR102_1, ↓gR102_2, ↓gR102_3, ↓gR102_4, ↓gR102_5, ↓gR102_7, ↓gR102_10, ↓gR102_11, ↓gR102_12, ↓gR102_14, ↓gR102_20, ↓gR102_21, ↓gR102_22, ↓gR102_23, ↓gR102_24, ↓gR102_25, ↓gR102_26, ↓gR102_30, ↓gR102_31, ↓gR102_32, ↓gR102_33, ↓gR102_34, ↓gR102_35, ↓gR102_36, ↓gR102_37, ↓gR102_38, ↓aI103, ↓sI103, ↓ln103, ↓aI137, ↓sI137, ↓ln137, ↓aI188, ↓sZ188, ↓ln188, ↓aI189, ↓ln189, ↓aI203, ↓sI203, ↓ln203, ↓aI217, ↓sZ217, ↓ln217, ↓aI218, ↓sI218, ↓ln218, ↓aI219, ↓sI219, ↓ln219, ↓aI220, ↓sZ220, ↓ln220, ↓aI221, ↓sZ221, ↓ln221, ↓aI229, ↓sI229, ↓ln229, ↓aI230, ↓sI230, ↓ln230, ↓aI231, ↓sI231, ↓ln231, ↓aI232, ↓sI232, ↓ln232, ↓aI233, ↓sI233, ↓ln233, ↓aI234, ↓sZ234, ↓ln234, ↓aI235, ↓sZ235, ↓ln235, ↓aR104, ↓aR131, ↓aR134, ↓aR138, ↓aR175, ↓aR179, ↓aR190, ↓aR204, ↓aR222, ↓aR105, ↓aR139, ↓aI106, ↓sI106, ↓lI106, ↓aI132, ↓sI132, ↓lI132, ↓aI135, ↓sI135, ↓lI135, ↓aI140, ↓sI140, ↓lI140, ↓aI176, ↓sI176, ↓lI176, ↓aI180, ↓sI180, ↓lI180, ↓aI191, ↓sI191, ↓lI191, ↓aI205, ↓sI205, ↓lI205, ↓aI223, ↓sI223, ↓lI223, ↓c_I, ↓c_J, ↓c_Q, ↓c_V, ↓c_It, ↓c_Jt, ↓c_Vt, ↓k_I, ↓k_J, ↓n_I, ↓n_V, li0, li1, li2, li3, li4, li5, li6, li7, li8, li9, li10, li11, li12, li13, li14, li15, li16, li17, li18, li19, li20, li21, li22, li23, li24, li25, li26, li27, li28, li29, li30, li31, li32, li33, li34, li35, li36, li37, li38, li39, li40, li41, li42, li44, li48, li57, li63, li64, li65, li97, li99, li100, li101, li102, li104, li105, li106, li109, li114, li120, li128, li130, li300, li514, li999, li1000, li8192, li9999, li65536, li1000000, li1000001, li1000002, li1000003, li1000004, li1000005, li1000006, li1000007, li1000008, li1000009, li1000010, li1000011, li1000012, li1000013, li1000014, li1000015, li1000016, li1000017, li1000018, li1000019, li2147483647, lj0, lj1, W_add, W_sub, W_mul, W_neg, V_add, V_sub, V_mul, V_neg, W_ite, W_le, W_lt, W_inj, V_le, V_lt, V_inj, W_V, V_W, lgc_ge, lgc_gt, lgc_le, lgc_lt, lgc_eq, ge_iff_le, gt_iff_lt, h28, n0, ↓reduceIte]
    · have n1 : ¬ (nt A ax < k) := by omega
      have hak := hact k a2 (by omega)
      have s1 := rs_s (f := fun k => cif (act k) (tpt A ax k 3) 0) (a := 1) (b := k) a2
      have s2 := rs_s (f := fun k => cif (act k) (grw A ax k) 0) (a := 1) (b := k) a2
      have go : ∀ u v : Int, u = cif (act k) (tpt A ax k 3) 0 → v = cif (act k) (grw A ax k) 0 → ∃ J', f_X8_findLeftover_L29 fuel (Sx I (uI (uI J 102 39 (J 102 39 + u)) 102 40 (J 102 40 + v)) b c) 102 (iW (k + 1)) = some (Sx I J' b c, xv) ∧ J' 102 39 = fxs A ax act ∧ J' 102 40 = g + rs (fun k => cif (act k) (grw A ax k) 0) 1 (nt A ax) ∧ ∀ a, a ≠ 102 → J' a = J a := fun u v hu hv => by
        obtain ⟨J', k1, k2, k3, k4⟩ := ih (k + 1) (uI (uI J 102 39 (J 102 39 + u)) 102 40 (J 102 40 + v)) (by omega) (by omega) (by omega) (by
          rw [u_ne (by decide), u_eq, hj1, show k + 1 - 1 = k by omega, s1, hu]) (by
          rw [u_eq, hj2, show k + 1 - 1 = k by omega, s2, hv]
          omega)
        exact ⟨J', k1, k2, k3, fun a ha => by rw [k4 a ha, u_obj ha, u_obj ha]⟩
      have w40 : ∀ u, uI J 102 39 u 102 40 = J 102 40 := fun u => u_ne (by decide)
      by_cases q : act k
      · rw [bb_pos q] at hak
        have gk := h.2 k a2 (by omega)
        have gb := (grw_bd hA hP (ax := ax) (by omega) (by omega) k).1
        have tb := (tpt_ok hA (ax := ax) (k := k) (by omega) (by omega) a2).2.2.2.1
        have e3 := r_partOf (J := J) (b := b) (c := c) hA hN.1 (ax := ax) (k := k) (p := 3) (by omega) (by omega) a2 (by omega) (by omega) (by omega)
        obtain ⟨J', k1, k2⟩ := go (tpt A ax k 3) (grw A ax k) (cif_pos q).symm (cif_pos q).symm
        refine ⟨J', ?_, k2⟩
        rw [← k1]
        simp (disch := first | assumption | omega) only [f_X8_findLeftover_b29, f_X8_findLeftover_b66, f_X8_findLeftover_b97, ↓rc102, ↓gI102_0, ↓gI102_6, ↓gI102_8, ↓gI102_9, ↓gI102_13, ↓gI102_15, ↓gI102_16, ↓gI102_17, ↓gI102_18, ↓gI102_19, ↓gI102_27, ↓gI102_28, ↓gI102_29, ↓gJ102_39, ↓gJ102_40, ↓gJ102_41, ↓gJ102_42, ↓pI102_0, ↓pI102_6, ↓pI102_9, ↓pI102_13, ↓pI102_15, ↓pI102_16, ↓pI102_17, ↓pI102_27, ↓pI102_28, ↓pI102_29, ↓pZ102_8, ↓pZ102_18, ↓pZ102_19, ↓pJ102_39, ↓pJ102_40, ↓pJ102_41, ↓pJ102_42, ↓gR102_1, ↓gR102_2, ↓gR102_3, ↓gR102_4, ↓gR102_5, ↓gR102_7, ↓gR102_10, ↓gR102_11, ↓gR102_12, ↓gR102_14, ↓gR102_20, ↓gR102_21, ↓gR102_22, ↓gR102_23, ↓gR102_24, ↓gR102_25, ↓gR102_26, ↓gR102_30, ↓gR102_31, ↓gR102_32, ↓gR102_33, ↓gR102_34, ↓gR102_35, ↓gR102_36, ↓gR102_37, ↓gR102_38, ↓aI103, ↓sI103, ↓ln103, ↓aI137, ↓sI137, ↓ln137, ↓aI188, ↓sZ188, ↓ln188, ↓aI189, ↓ln189, ↓aI203, ↓sI203, ↓ln203, ↓aI217, ↓sZ217, ↓ln217, ↓aI218, ↓sI218, ↓ln218, ↓aI219, ↓sI219, ↓ln219, ↓aI220, ↓sZ220, ↓ln220, ↓aI221, ↓sZ221, ↓ln221, ↓aI229, ↓sI229, ↓ln229, ↓aI230, ↓sI230, ↓ln230, ↓aI231, ↓sI231, ↓ln231, ↓aI232, ↓sI232, ↓ln232, ↓aI233, ↓sI233, ↓ln233, ↓aI234, ↓sZ234, ↓ln234, ↓aI235, ↓sZ235, ↓ln235, ↓aR104, ↓aR131, ↓aR134, ↓aR138, ↓aR175, ↓aR179, ↓aR190, ↓aR204, ↓aR222, ↓aR105, ↓aR139, ↓aI106, ↓sI106, ↓lI106, ↓aI132, ↓sI132, ↓lI132, ↓aI135, ↓sI135, ↓lI135, ↓aI140, ↓sI140, ↓lI140, ↓aI176, ↓sI176, ↓lI176, ↓aI180, ↓sI180, ↓lI180, ↓aI191, ↓sI191, ↓lI191, ↓aI205, ↓sI205, ↓lI205, ↓aI223, ↓sI223, ↓lI223, ↓c_I, ↓c_J, ↓c_Q, ↓c_V, ↓c_It, ↓c_Jt, ↓c_Vt, ↓k_I, ↓k_J, ↓n_I, ↓n_V, li0, li1, li2, li3, li4, li5, li6, li7, li8, li9, li10, li11, li12, li13, li14, li15, li16, li17, li18, li19, li20, li21, li22, li23, li24, li25, li26, li27, li28, li29, li30, li31, li32, li33, li34, li35, li36, li37, li38, li39, li40, li41, li42, li44, li48, li57, li63, li64, li65, li97, li99, li100, li101, li102, li104, li105, li106, li109, li114, li120, li128, li130, li300, li514, li999, li1000, li8192, li9999, li65536, li1000000, li1000001, li1000002, li1000003, li1000004, li1000005, li1000006, li1000007, li1000008, li1000009, li1000010, li1000011, li1000012, li1000013, li1000014, li1000015, li1000016, li1000017, li1000018, li1000019, li2147483647, lj0, lj1, W_add, W_sub, W_mul, W_neg, V_add, V_sub, V_mul, V_neg, W_ite, W_le, W_lt, W_inj, V_le, V_lt, V_inj, W_V, V_W, lgc_ge, lgc_gt, lgc_le, lgc_lt, lgc_eq, ge_iff_le, gt_iff_lt, aR222, c223_3, h27, h28, n1, hak, gk, e3, w40, Int.reduceEq, ↓reduceIte]
      · rw [bb_neg q] at hak
        obtain ⟨J', k1, k2⟩ := go 0 0 (cif_neg q).symm (cif_neg q).symm
        refine ⟨J', ?_, k2⟩
        rw [← k1]
        simp (disch := first | assumption | omega) only [f_X8_findLeftover_b29, f_X8_findLeftover_b66, f_X8_findLeftover_b97, ↓rc102, ↓gI102_0, ↓gI102_6, ↓gI102_8, ↓gI102_9, ↓gI102_13, ↓gI102_15, ↓gI102_16, ↓gI102_17, ↓gI102_18, ↓gI102_19, ↓gI102_27, ↓gI102_28, ↓gI102_29, ↓gJ102_39, ↓gJ102_40, ↓gJ102_41, ↓gJ102_42, ↓pI102_0, ↓pI102_6, ↓pI102_9, ↓pI102_13, ↓pI102_15, ↓pI102_16, ↓pI102_17, ↓pI102_27, ↓pI102_28, ↓pI102_29, ↓pZ102_8, ↓pZ102_18, ↓pZ102_19, ↓pJ102_39, ↓pJ102_40, ↓pJ102_41, ↓pJ102_42, ↓gR102_1, ↓gR102_2, ↓gR102_3, ↓gR102_4, ↓gR102_5, ↓gR102_7, ↓gR102_10, ↓gR102_11, ↓gR102_12, ↓gR102_14, ↓gR102_20, ↓gR102_21, ↓gR102_22, ↓gR102_23, ↓gR102_24, ↓gR102_25, ↓gR102_26, ↓gR102_30, ↓gR102_31, ↓gR102_32, ↓gR102_33, ↓gR102_34, ↓gR102_35, ↓gR102_36, ↓gR102_37, ↓gR102_38, ↓aI103, ↓sI103, ↓ln103, ↓aI137, ↓sI137, ↓ln137, ↓aI188, ↓sZ188, ↓ln188, ↓aI189, ↓ln189, ↓aI203, ↓sI203, ↓ln203, ↓aI217, ↓sZ217, ↓ln217, ↓aI218, ↓sI218, ↓ln218, ↓aI219, ↓sI219, ↓ln219, ↓aI220, ↓sZ220, ↓ln220, ↓aI221, ↓sZ221, ↓ln221, ↓aI229, ↓sI229, ↓ln229, ↓aI230, ↓sI230, ↓ln230, ↓aI231, ↓sI231, ↓ln231, ↓aI232, ↓sI232, ↓ln232, ↓aI233, ↓sI233, ↓ln233, ↓aI234, ↓sZ234, ↓ln234, ↓aI235, ↓sZ235, ↓ln235, ↓aR104, ↓aR131, ↓aR134, ↓aR138, ↓aR175, ↓aR179, ↓aR190, ↓aR204, ↓aR222, ↓aR105, ↓aR139, ↓aI106, ↓sI106, ↓lI106, ↓aI132, ↓sI132, ↓lI132, ↓aI135, ↓sI135, ↓lI135, ↓aI140, ↓sI140, ↓lI140, ↓aI176, ↓sI176, ↓lI176, ↓aI180, ↓sI180, ↓lI180, ↓aI191, ↓sI191, ↓lI191, ↓aI205, ↓sI205, ↓lI205, ↓aI223, ↓sI223, ↓lI223, ↓c_I, ↓c_J, ↓c_Q, ↓c_V, ↓c_It, ↓c_Jt, ↓c_Vt, ↓k_I, ↓k_J, ↓n_I, ↓n_V, li0, li1, li2, li3, li4, li5, li6, li7, li8, li9, li10, li11, li12, li13, li14, li15, li16, li17, li18, li19, li20, li21, li22, li23, li24, li25, li26, li27, li28, li29, li30, li31, li32, li33, li34, li35, li36, li37, li38, li39, li40, li41, li42, li44, li48, li57, li63, li64, li65, li97, li99, li100, li101, li102, li104, li105, li106, li109, li114, li120, li128, li130, li300, li514, li999, li1000, li8192, li9999, li65536, li1000000, li1000001, li1000002, li1000003, li1000004, li1000005, li1000006, li1000007, li1000008, li1000009, li1000010, li1000011, li1000012, li1000013, li1000014, li1000015, li1000016, li1000017, li1000018, li1000019, li2147483647, lj0, lj1, W_add, W_sub, W_mul, W_neg, V_add, V_sub, V_mul, V_neg, W_ite, W_le, W_lt, W_inj, V_le, V_lt, V_inj, W_V, V_W, lgc_ge, lgc_gt, lgc_le, lgc_lt, lgc_eq, ge_iff_le, gt_iff_lt, h27, h28, n1, hak, w40, Int.reduceEq, ↓reduceIte]
theorem r_lfo {I J : CF} {act : Int → Prop} (h : RG I A ax) (hact : ∀ k, 1 ≤ k → k ≤ nt A ax → I 235 k = bb (act k)) : ∃ J', f_X8_findLeftover (Sx I J b c) 102 = some (Sx I J' b c, xv) ∧ J' 102 39 = fxs A ax act ∧ J' 102 40 = lfo A ax act ∧ ∀ a, a ≠ 102 → J' a = J a := by
  have h' := h.1
  obtain ⟨hA, hx, hN, h27, h28, h29, hc⟩ := h'
  have hP := plB_of hA
  have hnt := hP.2 ax (by omega) (by omega)
  have hgb := fun k => grw_bd hA hP (ax := ax) (by omega) (by omega) k
  have hzb := (hA.2.2.2.1 ax (by omega) (by omega)).2.1
  have hzb : -1 ≤ asz A ax ∧ asz A ax ≤ 9999 := hzb
  have htb := tot_bd hA hP (ax := ax) (by omega) (by omega) (M := 11000) (by omega) (fun k => (hgb k).1)
  have es := r_sum (J := uI J 102 39 0) (b := b) (c := c) h.1 (s := 3) (f := grw A ax) (by omega) (by omega) h.2 (fun k hk => (hgb k).2 (fun z => z.2 hk))
  obtain ⟨J', k1, k2, k3, k4⟩ := r_lfo_L (b := b) (c := c) (g := asz A ax - tot A ax (grw A ax)) h hact FU 1 (uI (uI J 102 39 0) 102 40 (asz A ax - tot A ax (grw A ax))) (by unfold FU; omega) (by omega) (by omega) (by rw [u_ne (by decide), u_eq, rs_0 (by omega)]) (by rw [u_eq, rs_0 (by omega)]; omega)
  have hz : I (135 + ax) 0 = asz A ax := hN.1.2.2.2.1 ax 0 (by omega) (by omega) (by omega) (by omega)
  refine ⟨J', ?_, k2, ?_, fun a ha => by rw [k4 a ha, u_obj ha, u_obj ha]⟩
  · rw [← k1]
    simp (disch := first | assumption | omega) only [f_X8_findLeftover, ↓rc102, ↓gI102_0, ↓gI102_6, ↓gI102_8, ↓gI102_9, ↓gI102_13, ↓gI102_15, ↓gI102_16, ↓gI102_17, ↓gI102_18, ↓gI102_19, ↓gI102_27, ↓gI102_28, ↓gI102_29, ↓gJ102_39, ↓gJ102_40, ↓gJ102_41, ↓gJ102_42, ↓pI102_0, ↓pI102_6, ↓pI102_9, ↓pI102_13, ↓pI102_15, ↓pI102_16, ↓pI102_17, ↓pI102_27, ↓pI102_28, ↓pI102_29, ↓pZ102_8, ↓pZ102_18, ↓pZ102_19, ↓pJ102_39, ↓pJ102_40, ↓pJ102_41, ↓pJ102_42, ↓gR102_1, ↓gR102_2, ↓gR102_3, ↓gR102_4, ↓gR102_5, ↓gR102_7, ↓gR102_10, ↓gR102_11, ↓gR102_12, ↓gR102_14, ↓gR102_20, ↓gR102_21, ↓gR102_22, ↓gR102_23, ↓gR102_24, ↓gR102_25, ↓gR102_26, ↓gR102_30, ↓gR102_31, ↓gR102_32, ↓gR102_33, ↓gR102_34, ↓gR102_35, ↓gR102_36, ↓gR102_37, ↓gR102_38, ↓aI103, ↓sI103, ↓ln103, ↓aI137, ↓sI137, ↓ln137, ↓aI188, ↓sZ188, ↓ln188, ↓aI189, ↓ln189, ↓aI203, ↓sI203, ↓ln203, ↓aI217, ↓sZ217, ↓ln217, ↓aI218, ↓sI218, ↓ln218, ↓aI219, ↓sI219, ↓ln219, ↓aI220, ↓sZ220, ↓ln220, ↓aI221, ↓sZ221, ↓ln221, ↓aI229, ↓sI229, ↓ln229, ↓aI230, ↓sI230, ↓ln230, ↓aI231, ↓sI231, ↓ln231, ↓aI232, ↓sI232, ↓ln232, ↓aI233, ↓sI233, ↓ln233, ↓aI234, ↓sZ234, ↓ln234, ↓aI235, ↓sZ235, ↓ln235, ↓aR104, ↓aR131, ↓aR134, ↓aR138, ↓aR175, ↓aR179, ↓aR190, ↓aR204, ↓aR222, ↓aR105, ↓aR139, ↓aI106, ↓sI106, ↓lI106, ↓aI132, ↓sI132, ↓lI132, ↓aI135, ↓sI135, ↓lI135, ↓aI140, ↓sI140, ↓lI140, ↓aI176, ↓sI176, ↓lI176, ↓aI180, ↓sI180, ↓lI180, ↓aI191, ↓sI191, ↓lI191, ↓aI205, ↓sI205, ↓lI205, ↓aI223, ↓sI223, ↓lI223, ↓c_I, ↓c_J, ↓c_Q, ↓c_V, ↓c_It, ↓c_Jt, ↓c_Vt, ↓k_I, ↓k_J, ↓n_I, ↓n_V, li0, li1, li2, li3, li4, li5, li6, li7, li8, li9, li10, li11, li12, li13, li14, li15, li16, li17, li18, li19, li20, li21, li22, li23, li24, li25, li26, li27, li28, li29, li30, li31, li32, li33, li34, li35, li36, li37, li38, li39, li40, li41, li42, li44, li48, li57, li63, li64, li65, li97, li99, li100, li101, li102, li104, li105, li106, li109, li114, li120, li128, li130, li300, li514, li999, li1000, li8192, li9999, li65536, li1000000, li1000001, li1000002, li1000003, li1000004, li1000005, li1000006, li1000007, li1000008, li1000009, li1000010, li1000011, li1000012, li1000013, li1000014, li1000015, li1000016, li1000017, li1000018, li1000019, li2147483647, lj0, lj1, W_add, W_sub, W_mul, W_neg, V_add, V_sub, V_mul, V_neg, W_ite, W_le, W_lt, W_inj, V_le, V_lt, V_inj, W_V, V_W, lgc_ge, lgc_gt, lgc_le, lgc_lt, lgc_eq, ge_iff_le, gt_iff_lt, h27, hz, es]
  · rw [k3]
    have e1 : rs (fun k => cif (col A ax k) 0 (grw A ax k)) 1 (nt A ax) = rs (fun k => cif (act k) (grw A ax k) 0 + cif (act k) 0 (grw A ax k)) 1 (nt A ax) := rs_congr fun k k0 k1 => by
      have e2 : cif (col A ax k) 0 (grw A ax k) = grw A ax k := by
        by_cases q : col A ax k
        · rw [cif_pos q, (hgb k).2 (fun z => z.2 q)]
        · rw [cif_neg q]
      rw [e2]
      by_cases q : act k
      · rw [cif_pos q, cif_pos q]
        omega
      · rw [cif_neg q, cif_neg q]
        omega
    have e2 := rs_add (f := fun k => cif (act k) (grw A ax k) 0) (g := fun k => cif (act k) 0 (grw A ax k)) (a := 1) (b := nt A ax)
    unfold tot lfo
    rw [e1, e2]
    omega
theorem r_stop_L {k33 : HP → Nat → Int32 → Option XR} {J : CF} {act : Int → Prop} (h39 : J 102 39 = fxs A ax act) (h40 : J 102 40 = lfo A ax act) {I0 : CF} (h0 : RG I0 A ax) : ∀ (fuel : Nat) (k : Int) (I : CF), nt A ax - k + 1 < fuel → 1 ≤ k → k ≤ nt A ax + 1 → (∀ a, a ≠ 235 → I a = I0 a) → (∀ j, 1 ≤ j → j ≤ nt A ax → I 235 j = if j < k then bb (anx A ax act j) else bb (act j)) →
    ∃ I' J', f_X8_shareLeftover_L41 k33 fuel (Sx I J b c) 102 (iW (bb (∃ j, 1 ≤ j ∧ j < k ∧ act j ∧ big A ax act j))) (iW k) = k33 (Sx I' J' b c) 102 (iW (bb (∃ j, 1 ≤ j ∧ j < nt A ax + 1 ∧ act j ∧ big A ax act j))) ∧ (∀ j, 1 ≤ j → j ≤ nt A ax → I' 235 j = bb (anx A ax act j)) ∧ J' 102 39 = fxs A ax (anx A ax act) ∧ J' 102 40 = lfo A ax (anx A ax act) ∧ (∀ a, a ≠ 235 → I' a = I0 a) ∧ ∀ a, a ≠ 102 → J' a = J a := by
  have h0' := h0.1
  obtain ⟨hA, hx, hN, h27, h28, h29, hc⟩ := h0'
  have hP := plB_of hA
  have hnt := hP.2 ax (by omega) (by omega)
  intro fuel
  induction fuel with
  | zero => intro k I a1 a2 a3; omega
  | succ fuel ih =>
    intro k I a1 a2 a3 hIo hd
    show ∃ I' J', f_X8_shareLeftover_b41 k33 (f_X8_shareLeftover_L41 k33 fuel) (Sx I J b c) 102 _ (iW k) = _ ∧ _
    have hR : RG I A ax := h0.fr (fun a a0 a1 => hIo a (by omega))
    have g28 := hR.1.2.2.2.2.1
    have g27 := hR.1.2.2.2.1
    by_cases hk : k = nt A ax + 1
    · subst hk
      have n0 : nt A ax < nt A ax + 1 := by omega
      have hac : ∀ j, 1 ≤ j → j ≤ nt A ax → I 235 j = bb (anx A ax act j) := fun j j0 j1 => by rw [hd j j0 j1, if_pos (by omega)]
      obtain ⟨J', x1, x2, x3, x4⟩ := r_lfo (J := J) (b := b) (c := c) hR hac
      refine ⟨I, J', ?_, hac, x2, x3, hIo, x4⟩
      simp (disch := first | assumption | omega) only [f_X8_shareLeftover_b41, ↓rc102, ↓gI102_0, ↓gI102_6, ↓gI102_8, ↓gI102_9, ↓gI102_13, ↓gI102_15, ↓gI102_16, ↓gI102_17, ↓gI102_18, ↓gI102_19, ↓gI102_27, ↓gI102_28, ↓gI102_29, ↓gJ102_39, ↓gJ102_40, ↓gJ102_41, ↓gJ102_42, ↓pI102_0, ↓pI102_6, ↓pI102_9, ↓pI102_13, ↓pI102_15, ↓pI102_16, ↓pI102_17, ↓pI102_27, ↓pI102_28, ↓pI102_29, ↓pZ102_8, ↓pZ102_18, ↓pZ102_19, ↓pJ102_39, ↓pJ102_40, ↓pJ102_41, ↓pJ102_42, ↓gR102_1, ↓gR102_2, ↓gR102_3, ↓gR102_4, ↓gR102_5, ↓gR102_7, ↓gR102_10, ↓gR102_11, ↓gR102_12, ↓gR102_14, ↓gR102_20, ↓gR102_21, ↓gR102_22, ↓gR102_23, ↓gR102_24, ↓gR102_25, ↓gR102_26, ↓gR102_30, ↓gR102_31, ↓gR102_32, ↓gR102_33, ↓gR102_34, ↓gR102_35, ↓gR102_36, ↓gR102_37, ↓gR102_38, ↓aI103, ↓sI103, ↓ln103, ↓aI137, ↓sI137, ↓ln137, ↓aI188, ↓sZ188, ↓ln188, ↓aI189, ↓ln189, ↓aI203, ↓sI203, ↓ln203, ↓aI217, ↓sZ217, ↓ln217, ↓aI218, ↓sI218, ↓ln218, ↓aI219, ↓sI219, ↓ln219, ↓aI220, ↓sZ220, ↓ln220, ↓aI221, ↓sZ221, ↓ln221, ↓aI229, ↓sI229, ↓ln229, ↓aI230, ↓sI230, ↓ln230, ↓aI231, ↓sI231, ↓ln231, ↓aI232, ↓sI232, ↓ln232, ↓aI233, ↓sI233, ↓ln233, ↓aI234, ↓sZ234, ↓ln234, ↓aI235, ↓sZ235, ↓ln235, ↓aR104, ↓aR131, ↓aR134, ↓aR138, ↓aR175, ↓aR179, ↓aR190, ↓aR204, ↓aR222, ↓aR105, ↓aR139, ↓aI106, ↓sI106, ↓lI106, ↓aI132, ↓sI132, ↓lI132, ↓aI135, ↓sI135, ↓lI135, ↓aI140, ↓sI140, ↓lI140, ↓aI176, ↓sI176, ↓lI176, ↓aI180, ↓sI180, ↓lI180, ↓aI191, ↓sI191, ↓lI191, ↓aI205, ↓sI205, ↓lI205, ↓aI223, ↓sI223, ↓lI223, ↓c_I, ↓c_J, ↓c_Q, ↓c_V, ↓c_It, ↓c_Jt, ↓c_Vt, ↓k_I, ↓k_J, ↓n_I, ↓n_V, li0, li1, li2, li3, li4, li5, li6, li7, li8, li9, li10, li11, li12, li13, li14, li15, li16, li17, li18, li19, li20, li21, li22, li23, li24, li25, li26, li27, li28, li29, li30, li31, li32, li33, li34, li35, li36, li37, li38, li39, li40, li41, li42, li44, li48, li57, li63, li64, li65, li97, li99, li100, li101, li102, li104, li105, li106, li109, li114, li120, li128, li130, li300, li514, li999, li1000, li8192, li9999, li65536, li1000000, li1000001, li1000002, li1000003, li1000004, li1000005, li1000006, li1000007, li1000008, li1000009, li1000010, li1000011, li1000012, li1000013, li1000014, li1000015, li1000016, li1000017, li1000018, li1000019, li2147483647, lj0, lj1, W_add, W_sub, W_mul, W_neg, V_add, V_sub, V_mul, V_neg, W_ite, W_le, W_lt, W_inj, V_le, V_lt, V_inj, W_V, V_W, lgc_ge, lgc_gt, lgc_le, lgc_lt, lgc_eq, ge_iff_le, gt_iff_lt, g28, n0, x1, ↓reduceIte]
    · have n1 : ¬ (nt A ax < k) := by omega
      have hdk := hd k a2 (by omega)
      rw [if_neg (by omega)] at hdk
      have hcg : bb (∃ j, 1 ≤ j ∧ j < k + 1 ∧ act j ∧ big A ax act j) = bb ((∃ j, 1 ≤ j ∧ j < k ∧ act j ∧ big A ax act j) ∨ (act k ∧ big A ax act k)) := bb_congr ⟨fun ⟨j, j0, j1, j2⟩ => by
        by_cases e : j = k
        · subst e
          exact Or.inr j2
        · exact Or.inl ⟨j, j0, by omega, j2⟩, fun z => z.elim (fun ⟨j, j0, j1, j2⟩ => ⟨j, j0, by omega, j2⟩) (fun z => ⟨k, a2, by omega, z⟩)⟩
      have nx : ∀ I1 : CF, (∀ a, a ≠ 235 → I1 a = I a) → I1 235 k = bb (anx A ax act k) → (∀ j, j ≠ k → I1 235 j = I 235 j) → _ := fun I1 y1 y2 y3 => ih (k + 1) I1 (by omega) (by omega) (by omega) (fun a ha => by rw [y1 a ha]; exact hIo a ha) (fun j j0 j1 => by
        by_cases e : j = k
        · rw [e, y2, if_pos (by omega)]
        · rw [y3 j e, hd j j0 j1]
          by_cases e2 : j < k
          · rw [if_pos e2, if_pos (by omega)]
          · rw [if_neg e2, if_neg (by omega)])
      rw [hcg] at nx
      by_cases q : act k
      · rw [bb_pos q] at hdk
        have gk := hR.2 k a2 (by omega)
        have gb := (grw_bd hA hP (ax := ax) (by omega) (by omega) k).1
        have tb := (tpt_ok hA (ax := ax) (k := k) (by omega) (by omega) a2).2.2.2.1
        have fb := (fxs_bd hA hP (ax := ax) (by omega) (by omega) act).1
        have lb := lfo_bd hA hP (ax := ax) (by omega) (by omega) act
        have m1 := mul_bd (a := grw A ax k) (b := fxs A ax act) (A := 11000) (B := 62937) gb.1 gb.2 fb.1 fb.2
        have m2 := mul_bds (a := lfo A ax act) (b := tpt A ax k 3) (A := 700000) (B := 999) (by omega) (by omega) (by omega) (by omega) (by omega)
        have e3 := r_partOf (J := J) (b := b) (c := c) hA hR.1.2.2.1.1 (ax := ax) (k := k) (p := 3) (by omega) (by omega) a2 (by omega) (by omega) (by omega)
        by_cases q2 : big A ax act k
        · rw [bb_pos (show (∃ j, 1 ≤ j ∧ j < k ∧ act j ∧ big A ax act j) ∨ (act k ∧ big A ax act k) from Or.inr ⟨q, q2⟩)] at nx
          obtain ⟨I', J', k1, k2⟩ := nx (uI I 235 k 0) (fun a ha => u_obj ha) (by rw [u_eq, bb_neg (fun z => z.2 q2)]) (fun j hj => u_ne hj)
          refine ⟨I', J', ?_, k2⟩
          rw [← k1]
          have q3 : ¬ (grw A ax k * fxs A ax act ≤ lfo A ax act * tpt A ax k 3) := by
            unfold big at q2
            omega
          have hz0 : (0 : Int) = 0 ∨ (0 : Int) = 1 := Or.inl rfl
          simp (disch := first | assumption | omega) only [f_X8_shareLeftover_b41, f_X8_shareLeftover_b101, ↓rc102, ↓gI102_0, ↓gI102_6, ↓gI102_8, ↓gI102_9, ↓gI102_13, ↓gI102_15, ↓gI102_16, ↓gI102_17, ↓gI102_18, ↓gI102_19, ↓gI102_27, ↓gI102_28, ↓gI102_29, ↓gJ102_39, ↓gJ102_40, ↓gJ102_41, ↓gJ102_42, ↓pI102_0, ↓pI102_6, ↓pI102_9, ↓pI102_13, ↓pI102_15, ↓pI102_16, ↓pI102_17, ↓pI102_27, ↓pI102_28, ↓pI102_29, ↓pZ102_8, ↓pZ102_18, ↓pZ102_19, ↓pJ102_39, ↓pJ102_40, ↓pJ102_41, ↓pJ102_42, ↓gR102_1, ↓gR102_2, ↓gR102_3, ↓gR102_4, ↓gR102_5, ↓gR102_7, ↓gR102_10, ↓gR102_11, ↓gR102_12, ↓gR102_14, ↓gR102_20, ↓gR102_21, ↓gR102_22, ↓gR102_23, ↓gR102_24, ↓gR102_25, ↓gR102_26, ↓gR102_30, ↓gR102_31, ↓gR102_32, ↓gR102_33, ↓gR102_34, ↓gR102_35, ↓gR102_36, ↓gR102_37, ↓gR102_38, ↓aI103, ↓sI103, ↓ln103, ↓aI137, ↓sI137, ↓ln137, ↓aI188, ↓sZ188, ↓ln188, ↓aI189, ↓ln189, ↓aI203, ↓sI203, ↓ln203, ↓aI217, ↓sZ217, ↓ln217, ↓aI218, ↓sI218, ↓ln218, ↓aI219, ↓sI219, ↓ln219, ↓aI220, ↓sZ220, ↓ln220, ↓aI221, ↓sZ221, ↓ln221, ↓aI229, ↓sI229, ↓ln229, ↓aI230, ↓sI230, ↓ln230, ↓aI231, ↓sI231, ↓ln231, ↓aI232, ↓sI232, ↓ln232, ↓aI233, ↓sI233, ↓ln233, ↓aI234, ↓sZ234, ↓ln234, ↓aI235, ↓sZ235, ↓ln235, ↓aR104, ↓aR131, ↓aR134, ↓aR138, ↓aR175, ↓aR179, ↓aR190, ↓aR204, ↓aR222, ↓aR105, ↓aR139, ↓aI106, ↓sI106, ↓lI106, ↓aI132, ↓sI132, ↓lI132, ↓aI135, ↓sI135, ↓lI135, ↓aI140, ↓sI140, ↓lI140, ↓aI176, ↓sI176, ↓lI176, ↓aI180, ↓sI180, ↓lI180, ↓aI191, ↓sI191, ↓lI191, ↓aI205, ↓sI205, ↓lI205, ↓aI223, ↓sI223, ↓lI223, ↓c_I, ↓c_J, ↓c_Q, ↓c_V, ↓c_It, ↓c_Jt, ↓c_Vt, ↓k_I, ↓k_J, ↓n_I, ↓n_V, li0, li1, li2, li3, li4, li5, li6, li7, li8, li9, li10, li11, li12, li13, li14, li15, li16, li17, li18, li19, li20, li21, li22, li23, li24, li25, li26, li27, li28, li29, li30, li31, li32, li33, li34, li35, li36, li37, li38, li39, li40, li41, li42, li44, li48, li57, li63, li64, li65, li97, li99, li100, li101, li102, li104, li105, li106, li109, li114, li120, li128, li130, li300, li514, li999, li1000, li8192, li9999, li65536, li1000000, li1000001, li1000002, li1000003, li1000004, li1000005, li1000006, li1000007, li1000008, li1000009, li1000010, li1000011, li1000012, li1000013, li1000014, li1000015, li1000016, li1000017, li1000018, li1000019, li2147483647, lj0, lj1, W_add, W_sub, W_mul, W_neg, V_add, V_sub, V_mul, V_neg, W_ite, W_le, W_lt, W_inj, V_le, V_lt, V_inj, W_V, V_W, lgc_ge, lgc_gt, lgc_le, lgc_lt, lgc_eq, ge_iff_le, gt_iff_lt, aR222, c223_3, g27, g28, n1, hdk, gk, e3, h39, h40, q3, Int.reduceEq, ↓reduceIte]
        · have hb2 : bb ((∃ j, 1 ≤ j ∧ j < k ∧ act j ∧ big A ax act j) ∨ (act k ∧ big A ax act k)) = bb (∃ j, 1 ≤ j ∧ j < k ∧ act j ∧ big A ax act j) := bb_congr ⟨fun z => z.elim id (fun z => absurd z.2 q2), Or.inl⟩
          rw [hb2] at nx
          obtain ⟨I', J', k1, k2⟩ := nx I (fun _ _ => rfl) (by rw [hdk, bb_pos (show anx A ax act k from ⟨q, q2⟩)]) (fun _ _ => rfl)
          refine ⟨I', J', ?_, k2⟩
          rw [← k1]
          have q3 : grw A ax k * fxs A ax act ≤ lfo A ax act * tpt A ax k 3 := by
            unfold big at q2
            omega
          simp (disch := first | assumption | omega) only [f_X8_shareLeftover_b41, f_X8_shareLeftover_b101, ↓rc102, ↓gI102_0, ↓gI102_6, ↓gI102_8, ↓gI102_9, ↓gI102_13, ↓gI102_15, ↓gI102_16, ↓gI102_17, ↓gI102_18, ↓gI102_19, ↓gI102_27, ↓gI102_28, ↓gI102_29, ↓gJ102_39, ↓gJ102_40, ↓gJ102_41, ↓gJ102_42, ↓pI102_0, ↓pI102_6, ↓pI102_9, ↓pI102_13, ↓pI102_15, ↓pI102_16, ↓pI102_17, ↓pI102_27, ↓pI102_28, ↓pI102_29, ↓pZ102_8, ↓pZ102_18, ↓pZ102_19, ↓pJ102_39, ↓pJ102_40, ↓pJ102_41, ↓pJ102_42, ↓gR102_1, ↓gR102_2, ↓gR102_3, ↓gR102_4, ↓gR102_5, ↓gR102_7, ↓gR102_10, ↓gR102_11, ↓gR102_12, ↓gR102_14, ↓gR102_20, ↓gR102_21, ↓gR102_22, ↓gR102_23, ↓gR102_24, ↓gR102_25, ↓gR102_26, ↓gR102_30, ↓gR102_31, ↓gR102_32, ↓gR102_33, ↓gR102_34, ↓gR102_35, ↓gR102_36, ↓gR102_37, ↓gR102_38, ↓aI103, ↓sI103, ↓ln103, ↓aI137, ↓sI137, ↓ln137, ↓aI188, ↓sZ188, ↓ln188, ↓aI189, ↓ln189, ↓aI203, ↓sI203, ↓ln203, ↓aI217, ↓sZ217, ↓ln217, ↓aI218, ↓sI218, ↓ln218, ↓aI219, ↓sI219, ↓ln219, ↓aI220, ↓sZ220, ↓ln220, ↓aI221, ↓sZ221, ↓ln221, ↓aI229, ↓sI229, ↓ln229, ↓aI230, ↓sI230, ↓ln230, ↓aI231, ↓sI231, ↓ln231, ↓aI232, ↓sI232, ↓ln232, ↓aI233, ↓sI233, ↓ln233, ↓aI234, ↓sZ234, ↓ln234, ↓aI235, ↓sZ235, ↓ln235, ↓aR104, ↓aR131, ↓aR134, ↓aR138, ↓aR175, ↓aR179, ↓aR190, ↓aR204, ↓aR222, ↓aR105, ↓aR139, ↓aI106, ↓sI106, ↓lI106, ↓aI132, ↓sI132, ↓lI132, ↓aI135, ↓sI135, ↓lI135, ↓aI140, ↓sI140, ↓lI140, ↓aI176, ↓sI176, ↓lI176, ↓aI180, ↓sI180, ↓lI180, ↓aI191, ↓sI191, ↓lI191, ↓aI205, ↓sI205, ↓lI205, ↓aI223, ↓sI223, ↓lI223, ↓c_I, ↓c_J, ↓c_Q, ↓c_V, ↓c_It, ↓c_Jt, ↓c_Vt, ↓k_I, ↓k_J, ↓n_I, ↓n_V, li0, li1, li2, li3, li4, li5, li6, li7, li8, li9, li10, li11, li12, li13, li14, li15, li16, li17, li18, li19, li20, li21, li22, li23, li24, li25, li26, li27, li28, li29, li30, li31, li32, li33, li34, li35, li36, li37, li38, li39, li40, li41, li42, li44, li48, li57, li63, li64, li65, li97, li99, li100, li101, li102, li104, li105, li106, li109, li114, li120, li128, li130, li300, li514, li999, li1000, li8192, li9999, li65536, li1000000, li1000001, li1000002, li1000003, li1000004, li1000005, li1000006, li1000007, li1000008, li1000009, li1000010, li1000011, li1000012, li1000013, li1000014, li1000015, li1000016, li1000017, li1000018, li1000019, li2147483647, lj0, lj1, W_add, W_sub, W_mul, W_neg, V_add, V_sub, V_mul, V_neg, W_ite, W_le, W_lt, W_inj, V_le, V_lt, V_inj, W_V, V_W, lgc_ge, lgc_gt, lgc_le, lgc_lt, lgc_eq, ge_iff_le, gt_iff_lt, aR222, c223_3, g27, g28, n1, hdk, gk, e3, h39, h40, q3, Int.reduceEq, ↓reduceIte]
      · rw [bb_neg q] at hdk
        have hb2 : bb ((∃ j, 1 ≤ j ∧ j < k ∧ act j ∧ big A ax act j) ∨ (act k ∧ big A ax act k)) = bb (∃ j, 1 ≤ j ∧ j < k ∧ act j ∧ big A ax act j) := bb_congr ⟨fun z => z.elim id (fun z => absurd z.1 q), Or.inl⟩
        rw [hb2] at nx
        obtain ⟨I', J', k1, k2⟩ := nx I (fun _ _ => rfl) (by rw [hdk, bb_neg (fun z : anx A ax act k => q z.1)]) (fun _ _ => rfl)
        refine ⟨I', J', ?_, k2⟩
        rw [← k1]
        simp (disch := first | assumption | omega) only [f_X8_shareLeftover_b41, f_X8_shareLeftover_b101, ↓rc102, ↓gI102_0, ↓gI102_6, ↓gI102_8, ↓gI102_9, ↓gI102_13, ↓gI102_15, ↓gI102_16, ↓gI102_17, ↓gI102_18, ↓gI102_19, ↓gI102_27, ↓gI102_28, ↓gI102_29, ↓gJ102_39, ↓gJ102_40, ↓gJ102_41, ↓gJ102_42, ↓pI102_0, ↓pI102_6, ↓pI102_9, ↓pI102_13, ↓pI102_15, ↓pI102_16, ↓pI102_17, ↓pI102_27, ↓pI102_28, ↓pI102_29, ↓pZ102_8, ↓pZ102_18, ↓pZ102_19, ↓pJ102_39, ↓pJ102_40, ↓pJ102_41, ↓pJ102_42, ↓gR102_1, ↓gR102_2, ↓gR102_3, ↓gR102_4, ↓gR102_5, ↓gR102_7, ↓gR102_10, ↓gR102_11, ↓gR102_12, ↓gR102_14, ↓gR102_20, ↓gR102_21, ↓gR102_22, ↓gR102_23, ↓gR102_24, ↓gR102_25, ↓gR102_26, ↓gR102_30, ↓gR102_31, ↓gR102_32, ↓gR102_33, ↓gR102_34, ↓gR102_35, ↓gR102_36, ↓gR102_37, ↓gR102_38, ↓aI103, ↓sI103, ↓ln103, ↓aI137, ↓sI137, ↓ln137, ↓aI188, ↓sZ188, ↓ln188, ↓aI189, ↓ln189, ↓aI203, ↓sI203, ↓ln203, ↓aI217, ↓sZ217, ↓ln217, ↓aI218, ↓sI218, ↓ln218, ↓aI219, ↓sI219, ↓ln219, ↓aI220, ↓sZ220, ↓ln220, ↓aI221, ↓sZ221, ↓ln221, ↓aI229, ↓sI229, ↓ln229, ↓aI230, ↓sI230, ↓ln230, ↓aI231, ↓sI231, ↓ln231, ↓aI232, ↓sI232, ↓ln232, ↓aI233, ↓sI233, ↓ln233, ↓aI234, ↓sZ234, ↓ln234, ↓aI235, ↓sZ235, ↓ln235, ↓aR104, ↓aR131, ↓aR134, ↓aR138, ↓aR175, ↓aR179, ↓aR190, ↓aR204, ↓aR222, ↓aR105, ↓aR139, ↓aI106, ↓sI106, ↓lI106, ↓aI132, ↓sI132, ↓lI132, ↓aI135, ↓sI135, ↓lI135, ↓aI140, ↓sI140, ↓lI140, ↓aI176, ↓sI176, ↓lI176, ↓aI180, ↓sI180, ↓lI180, ↓aI191, ↓sI191, ↓lI191, ↓aI205, ↓sI205, ↓lI205, ↓aI223, ↓sI223, ↓lI223, ↓c_I, ↓c_J, ↓c_Q, ↓c_V, ↓c_It, ↓c_Jt, ↓c_Vt, ↓k_I, ↓k_J, ↓n_I, ↓n_V, li0, li1, li2, li3, li4, li5, li6, li7, li8, li9, li10, li11, li12, li13, li14, li15, li16, li17, li18, li19, li20, li21, li22, li23, li24, li25, li26, li27, li28, li29, li30, li31, li32, li33, li34, li35, li36, li37, li38, li39, li40, li41, li42, li44, li48, li57, li63, li64, li65, li97, li99, li100, li101, li102, li104, li105, li106, li109, li114, li120, li128, li130, li300, li514, li999, li1000, li8192, li9999, li65536, li1000000, li1000001, li1000002, li1000003, li1000004, li1000005, li1000006, li1000007, li1000008, li1000009, li1000010, li1000011, li1000012, li1000013, li1000014, li1000015, li1000016, li1000017, li1000018, li1000019, li2147483647, lj0, lj1, W_add, W_sub, W_mul, W_neg, V_add, V_sub, V_mul, V_neg, W_ite, W_le, W_lt, W_inj, V_le, V_lt, V_inj, W_V, V_W, lgc_ge, lgc_gt, lgc_le, lgc_lt, lgc_eq, ge_iff_le, gt_iff_lt, g28, n1, hdk, ↓reduceIte]
theorem r_active {I0 : CF} (h0 : RG I0 A ax) : ∀ (fuel : Nat) (act : Int → Prop) (I J : CF), rs (fun k => bb (act k)) 1 (nt A ax) + 1 < fuel → (∀ k, act k → 1 ≤ k ∧ k ≤ nt A ax) → (∀ a, a ≠ 235 → I a = I0 a) → (∀ j, 1 ≤ j → j ≤ nt A ax → I 235 j = bb (act j)) → J 102 39 = fxs A ax act → J 102 40 = lfo A ax act →
    ∃ I' J' act', f_X8_shareLeftover_L33 fuel (Sx I J b c) 102 (iW 1) = f_X8_shareLeftover_L122 FU (Sx I' J' b c) 102 (jV (lfo A ax act')) (iW 1) ∧ FO (anx A ax) (agd A ax) act act' ∧ (∀ j, 1 ≤ j → j ≤ nt A ax → I' 235 j = bb (act' j)) ∧ J' 102 39 = fxs A ax act' ∧ J' 102 40 = lfo A ax act' ∧ (∀ a, a ≠ 235 → I' a = I0 a) ∧ ∀ a, a ≠ 102 → J' a = J a := by
  intro fuel
  induction fuel with
  | zero =>
    intro act I J h1
    have := rs_nonneg (f := fun k => bb (act k)) (a := 1) (b := nt A ax) (fun k _ _ => by rcases bb_01 (act k) with h | h <;> omega)
    omega
  | succ fuel ih =>
    intro act I J a1 hin hIo hac h39 h40
    have hcn := rs_nonneg (f := fun k => bb (act k)) (a := 1) (b := nt A ax) (fun k _ _ => by rcases bb_01 (act k) with h | h <;> omega)
    have hnt := (plB_of h0.1.1).2 ax (by have := h0.1.2.1; omega) (by have := h0.1.2.1; omega)
    obtain ⟨I1, J1, x1, x2, x3, x4, x5, x6⟩ := r_stop_L (b := b) (c := c) (k33 := f_X8_shareLeftover_L33 fuel) (J := J) (act := act) h39 h40 h0 FU 1 I (by unfold FU; omega) (by omega) (by omega) hIo (fun j j0 j1 => by rw [if_neg (by omega)]; exact hac j j0 j1)
    rw [bb_neg (show ¬ ∃ j, 1 ≤ j ∧ j < (1 : Int) ∧ act j ∧ big A ax act j by rintro ⟨j, j0, j1, -⟩; omega)] at x1
    have hgo : f_X8_shareLeftover_L33 (fuel + 1) (Sx I J b c) 102 (iW 1) = f_X8_shareLeftover_L41 (f_X8_shareLeftover_L33 fuel) FU (Sx I J b c) 102 (iW 0) (iW 1) := by
      show f_X8_shareLeftover_b33 (f_X8_shareLeftover_L33 fuel) (Sx I J b c) 102 (iW 1) = _
      simp (disch := first | assumption | omega) only [f_X8_shareLeftover_b33, li0, li1, li2, li3, li4, li5, li6, li7, li8, li9, li10, li11, li12, li13, li14, li15, li16, li17, li18, li19, li20, li21, li22, li23, li24, li25, li26, li27, li28, li29, li30, li31, li32, li33, li34, li35, li36, li37, li38, li39, li40, li41, li42, li44, li48, li57, li63, li64, li65, li97, li99, li100, li101, li102, li104, li105, li106, li109, li114, li120, li128, li130, li300, li514, li999, li1000, li8192, li9999, li65536, li1000000, li1000001, li1000002, li1000003, li1000004, li1000005, li1000006, li1000007, li1000008, li1000009, li1000010, li1000011, li1000012, li1000013, li1000014, li1000015, li1000016, li1000017, li1000018, li1000019, li2147483647, lj0, lj1, W_add, W_sub, W_mul, W_neg, V_add, V_sub, V_mul, V_neg, W_ite, W_le, W_lt, W_inj, V_le, V_lt, V_inj, W_V, V_W, lgc_ge, lgc_gt, lgc_le, lgc_lt, lgc_eq, ge_iff_le, gt_iff_lt, Int.reduceEq, ↓reduceIte]
    by_cases hg : agd A ax act
    · have hax : anx A ax act = act := funext fun k => propext ⟨fun z => z.1, fun z => ⟨z, hg k z⟩⟩
      rw [bb_neg (show ¬ ∃ j, 1 ≤ j ∧ j < nt A ax + 1 ∧ act j ∧ big A ax act j by rintro ⟨j, -, -, j2, j3⟩; exact hg j j2 j3)] at x1
      rw [hax] at x2 x3 x4
      obtain ⟨f', rfl⟩ : ∃ f', fuel = f' + 1 := ⟨fuel - 1, by omega⟩
      refine ⟨I1, J1, act, ?_, FO.here hg, x2, x3, x4, x5, x6⟩
      rw [hgo, x1]
      show f_X8_shareLeftover_b33 (f_X8_shareLeftover_L33 f') (Sx I1 J1 b c) 102 (iW 0) = _
      simp (disch := first | assumption | omega) only [f_X8_shareLeftover_b33, ↓rc102, ↓gI102_0, ↓gI102_6, ↓gI102_8, ↓gI102_9, ↓gI102_13, ↓gI102_15, ↓gI102_16, ↓gI102_17, ↓gI102_18, ↓gI102_19, ↓gI102_27, ↓gI102_28, ↓gI102_29, ↓gJ102_39, ↓gJ102_40, ↓gJ102_41, ↓gJ102_42, ↓pI102_0, ↓pI102_6, ↓pI102_9, ↓pI102_13, ↓pI102_15, ↓pI102_16, ↓pI102_17, ↓pI102_27, ↓pI102_28, ↓pI102_29, ↓pZ102_8, ↓pZ102_18, ↓pZ102_19, ↓pJ102_39, ↓pJ102_40, ↓pJ102_41, ↓pJ102_42, ↓gR102_1, ↓gR102_2, ↓gR102_3, ↓gR102_4, ↓gR102_5, ↓gR102_7, ↓gR102_10, ↓gR102_11, ↓gR102_12, ↓gR102_14, ↓gR102_20, ↓gR102_21, ↓gR102_22, ↓gR102_23, ↓gR102_24, ↓gR102_25, ↓gR102_26, ↓gR102_30, ↓gR102_31, ↓gR102_32, ↓gR102_33, ↓gR102_34, ↓gR102_35, ↓gR102_36, ↓gR102_37, ↓gR102_38, ↓aI103, ↓sI103, ↓ln103, ↓aI137, ↓sI137, ↓ln137, ↓aI188, ↓sZ188, ↓ln188, ↓aI189, ↓ln189, ↓aI203, ↓sI203, ↓ln203, ↓aI217, ↓sZ217, ↓ln217, ↓aI218, ↓sI218, ↓ln218, ↓aI219, ↓sI219, ↓ln219, ↓aI220, ↓sZ220, ↓ln220, ↓aI221, ↓sZ221, ↓ln221, ↓aI229, ↓sI229, ↓ln229, ↓aI230, ↓sI230, ↓ln230, ↓aI231, ↓sI231, ↓ln231, ↓aI232, ↓sI232, ↓ln232, ↓aI233, ↓sI233, ↓ln233, ↓aI234, ↓sZ234, ↓ln234, ↓aI235, ↓sZ235, ↓ln235, ↓aR104, ↓aR131, ↓aR134, ↓aR138, ↓aR175, ↓aR179, ↓aR190, ↓aR204, ↓aR222, ↓aR105, ↓aR139, ↓aI106, ↓sI106, ↓lI106, ↓aI132, ↓sI132, ↓lI132, ↓aI135, ↓sI135, ↓lI135, ↓aI140, ↓sI140, ↓lI140, ↓aI176, ↓sI176, ↓lI176, ↓aI180, ↓sI180, ↓lI180, ↓aI191, ↓sI191, ↓lI191, ↓aI205, ↓sI205, ↓lI205, ↓aI223, ↓sI223, ↓lI223, ↓c_I, ↓c_J, ↓c_Q, ↓c_V, ↓c_It, ↓c_Jt, ↓c_Vt, ↓k_I, ↓k_J, ↓n_I, ↓n_V, li0, li1, li2, li3, li4, li5, li6, li7, li8, li9, li10, li11, li12, li13, li14, li15, li16, li17, li18, li19, li20, li21, li22, li23, li24, li25, li26, li27, li28, li29, li30, li31, li32, li33, li34, li35, li36, li37, li38, li39, li40, li41, li42, li44, li48, li57, li63, li64, li65, li97, li99, li100, li101, li102, li104, li105, li106, li109, li114, li120, li128, li130, li300, li514, li999, li1000, li8192, li9999, li65536, li1000000, li1000001, li1000002, li1000003, li1000004, li1000005, li1000006, li1000007, li1000008, li1000009, li1000010, li1000011, li1000012, li1000013, li1000014, li1000015, li1000016, li1000017, li1000018, li1000019, li2147483647, lj0, lj1, W_add, W_sub, W_mul, W_neg, V_add, V_sub, V_mul, V_neg, W_ite, W_le, W_lt, W_inj, V_le, V_lt, V_inj, W_V, V_W, lgc_ge, lgc_gt, lgc_le, lgc_lt, lgc_eq, ge_iff_le, gt_iff_lt, x4, ↓reduceIte]
    · have hyes : ∃ j, act j ∧ big A ax act j := by
        apply Classical.byContradiction
        intro hn
        exact hg fun j j0 j1 => hn ⟨j, j0, j1⟩
      obtain ⟨j, j0, j1⟩ := hyes
      have hjin := hin j j0
      rw [bb_pos (show ∃ j, 1 ≤ j ∧ j < nt A ax + 1 ∧ act j ∧ big A ax act j from ⟨j, hjin.1, by omega, j0, j1⟩)] at x1
      have hlt := rs_lt (f := fun k => bb (anx A ax act k)) (g := fun k => bb (act k)) (a := 1) (b := nt A ax) (k := j) (fun i _ _ => by
        show bb _ ≤ bb _
        by_cases q : anx A ax act i
        · rw [bb_pos q, bb_pos q.1]
          omega
        · rw [bb_neg q]
          rcases bb_01 (act i) with h | h <;> omega) hjin.1 hjin.2 (by
        show bb _ < bb _
        rw [bb_neg (fun z => z.2 j1), bb_pos j0]
        omega)
      obtain ⟨I', J', act', y1, y2, y3, y4, y5, y6, y7⟩ := ih (anx A ax act) I1 J1 (by omega) (fun k hk => hin k hk.1) x5 x2 x3 x4
      refine ⟨I', J', act', ?_, FO.next hg y2, y3, y4, y5, y6, fun a ha => by rw [y7 a ha, x6 a ha]⟩
      rw [hgo, x1, y1]
end RShare

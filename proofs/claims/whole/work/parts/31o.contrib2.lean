/-! ===== the engine's Contributions: groups, base sizes, limits ===== -/
section ConG
variable {J : CF} {b : Nat} {c : Bool} {A : CF} {o : Nat} {ax : Int}
theorem CX.fr {I I' : CF} {s : Int} {base f : Int → Int} (h : CX I A o ax s base f) (hf : ∀ a, a < 36 ∨ 40 < a → I' a = I a) : CX I' A o ax s base f := by
  obtain ⟨hY, hs, hgr, h42, hb, hfb, hbb⟩ := h
  have hob := isL_bd hY.1.1
  refine ⟨hY.fr (fun k _ _ => by rw [hf o (by omega)]) (hf _ (by omega)) (fun a ha => hf a (by omega)), hs, ?_, ?_, ?_, hfb, hbb⟩
  · rw [hf 43 (by omega)]; exact hgr
  · rw [hf 42 (by omega)]; exact h42
  · rw [hf (o + 2) (by omega)]; exact hb
theorem e_admit_L {s g i : Int} {base f : Int → Int} (hg : g = 0 ∨ g = 1) (i0 : 0 ≤ i) (i1 : i < nit A) : ∀ (fuel : Nat) (k : Int) (I : CF), pl A i ax + itf A i ax 3 - k < fuel → pl A i ax ≤ k → k ≤ pl A i ax + itf A i ax 3 → CX I A o ax s base f → ADM I (fun t => mayF A ax s (grp A ax i) g i t ∧ t < k) (wtF A ax (grp A ax i)) (rmF A ax s base f) → (∀ j, 0 ≤ j → j < I 36 4 → I 40 j = 0) → I 36 4 ≤ k - pl A i ax →
    ∃ I', f_X1_admitTracks_L31 fuel (Sx I J b c) 41 o (iW i) (iW s) (iW g) (iW (bb (grp A ax i = 5))) (iW k) = some (Sx I' J b c, xv) ∧ ADM I' (mayF A ax s (grp A ax i) g i) (wtF A ax (grp A ax i)) (rmF A ax s base f) ∧ (∀ j, 0 ≤ j → j < I' 36 4 → I' 40 j = 0) ∧ ∀ a, a < 36 ∨ 40 < a → I' a = I a := by
  intro fuel
  induction fuel with
  | zero => intro k I a1 a2 a3; omega
  | succ fuel ih =>
    intro k I a1 a2 a3 hC hD hz hn
    show ∃ I', f_X1_admitTracks_b31 (f_X1_admitTracks_L31 fuel) (Sx I J b c) 41 o (iW i) (iW s) (iW g) _ (iW k) = _ ∧ _
    have hC' := hC
    obtain ⟨hY, hs, hgr, h42, hb, hfb, hbb⟩ := hC'
    have hX := hY.1
    obtain ⟨ho, hx, h1, hA, hP, hM, hR⟩ := hX
    have hpb := hP.1 i ax i0 i1 (by omega) (by omega)
    have hnt := hP.2 ax (by omega) (by omega)
    have hsp := (hA.2.2.2.2.2 i ax i0 i1 (by omega) (by omega)).2.2.1
    have e1 := e_last (J := J) (b := b) (c := c) hY i0 i1
    by_cases hk : pl A i ax + itf A i ax 3 - 1 < k
    · refine ⟨I, ?_, hD.congr fun t => ⟨fun h => ⟨h, by have := h.1.2; omega⟩, fun h => h.1⟩, hz, fun _ _ => rfl⟩
      simp (disch := first | assumption | omega) only [f_X1_admitTracks_b31, ↓rcL, ↓gIL_0, ↓gIL_10, ↓gIL_11, ↓gIL_12, ↓gIL_13, ↓gIL_14, ↓gIL_15, ↓pIL_0, ↓pIL_10, ↓pIL_11, ↓pIL_12, ↓pIL_13, ↓pIL_14, ↓pIL_15, ↓gRL_1, ↓gRL_2, ↓gRL_3, ↓gRL_4, ↓gRL_5, ↓gRL_6, ↓gRL_7, ↓gRL_8, ↓gRL_9, ↓aIL1, ↓sZL1, ↓lnL1, ↓aIL2, ↓sIL2, ↓lnL2, ↓aIL3, ↓sIL3, ↓lnL3, ↓aIL4, ↓sIL4, ↓lnL4, ↓aIL5, ↓sIL5, ↓lnL5, ↓aIL6, ↓sIL6, ↓lnL6, ↓aIL7, ↓sIL7, ↓lnL7, ↓rc41, ↓gR41_0, ↓gR41_1, ↓gR41_2, ↓aI42, ↓sI42, ↓ln42, ↓aI43, ↓sI43, ↓ln43, ↓c_I, ↓c_J, ↓c_Q, ↓c_V, ↓c_It, ↓c_Jt, ↓c_Vt, ↓k_I, ↓k_J, ↓n_I, ↓n_V, li0, li1, li2, li3, li4, li5, li6, li7, li8, li9, li10, li11, li12, li13, li14, li15, li16, li17, li18, li19, li20, li21, li22, li23, li24, li25, li26, li27, li28, li29, li30, li31, li32, li33, li34, li35, li36, li37, li38, li39, li40, li41, li42, li44, li48, li57, li63, li64, li65, li97, li99, li100, li101, li102, li104, li105, li106, li109, li114, li120, li128, li130, li300, li514, li999, li1000, li8192, li9999, li65536, li1000000, li1000001, li1000002, li1000003, li1000004, li1000005, li1000006, li1000007, li1000008, li1000009, li1000010, li1000011, li1000012, li1000013, li1000014, li1000015, li1000016, li1000017, li1000018, li1000019, li2147483647, lj0, lj1, W_add, W_sub, W_mul, W_neg, V_add, V_sub, V_mul, V_neg, W_ite, W_le, W_lt, W_inj, V_le, V_lt, V_inj, W_V, V_W, lgc_ge, lgc_gt, lgc_le, lgc_lt, lgc_eq, ge_iff_le, gt_iff_lt, e1, hk, ↓reduceIte]
    · have hasked : (s = 1 → f_X1_isBaseAsked (Sx I J b c) 41 o (iW k) (iW g) = some (Sx I J b c, xi (iW (bb (asked A ax s g k))))) ∧ (s = 2 → f_X1_isLimitAsked (Sx I J b c) 41 o (iW k) (iW g) = some (Sx I J b c, xi (iW (bb (asked A ax s g k))))) := by
        refine ⟨fun e => ?_, fun e => ?_⟩
        · subst e
          exact e_baseAsked hY.1 hg (by omega) (by omega)
        · subst e
          exact e_limitAsked hY.1 hg (by omega) (by omega)
      -- from the question on
      have go : f_X1_admitTracks_b31 (f_X1_admitTracks_L31 fuel) (Sx I J b c) 41 o (iW i) (iW s) (iW g) (iW (bb (grp A ax i = 5))) (iW k) = f_X1_admitTracks_b67 (f_X1_admitTracks_L31 fuel) (Sx I J b c) (iW (bb (asked A ax s g k))) 41 o (iW i) (iW s) (iW g) (iW (bb (grp A ax i = 5))) (iW k) := by
        rcases hs with rfl | rfl
        · have e2 := hasked.1 rfl
          simp (disch := first | assumption | omega) only [f_X1_admitTracks_b31, ↓rcL, ↓gIL_0, ↓gIL_10, ↓gIL_11, ↓gIL_12, ↓gIL_13, ↓gIL_14, ↓gIL_15, ↓pIL_0, ↓pIL_10, ↓pIL_11, ↓pIL_12, ↓pIL_13, ↓pIL_14, ↓pIL_15, ↓gRL_1, ↓gRL_2, ↓gRL_3, ↓gRL_4, ↓gRL_5, ↓gRL_6, ↓gRL_7, ↓gRL_8, ↓gRL_9, ↓aIL1, ↓sZL1, ↓lnL1, ↓aIL2, ↓sIL2, ↓lnL2, ↓aIL3, ↓sIL3, ↓lnL3, ↓aIL4, ↓sIL4, ↓lnL4, ↓aIL5, ↓sIL5, ↓lnL5, ↓aIL6, ↓sIL6, ↓lnL6, ↓aIL7, ↓sIL7, ↓lnL7, ↓rc41, ↓gR41_0, ↓gR41_1, ↓gR41_2, ↓aI42, ↓sI42, ↓ln42, ↓aI43, ↓sI43, ↓ln43, ↓c_I, ↓c_J, ↓c_Q, ↓c_V, ↓c_It, ↓c_Jt, ↓c_Vt, ↓k_I, ↓k_J, ↓n_I, ↓n_V, li0, li1, li2, li3, li4, li5, li6, li7, li8, li9, li10, li11, li12, li13, li14, li15, li16, li17, li18, li19, li20, li21, li22, li23, li24, li25, li26, li27, li28, li29, li30, li31, li32, li33, li34, li35, li36, li37, li38, li39, li40, li41, li42, li44, li48, li57, li63, li64, li65, li97, li99, li100, li101, li102, li104, li105, li106, li109, li114, li120, li128, li130, li300, li514, li999, li1000, li8192, li9999, li65536, li1000000, li1000001, li1000002, li1000003, li1000004, li1000005, li1000006, li1000007, li1000008, li1000009, li1000010, li1000011, li1000012, li1000013, li1000014, li1000015, li1000016, li1000017, li1000018, li1000019, li2147483647, lj0, lj1, W_add, W_sub, W_mul, W_neg, V_add, V_sub, V_mul, V_neg, W_ite, W_le, W_lt, W_inj, V_le, V_lt, V_inj, W_V, V_W, lgc_ge, lgc_gt, lgc_le, lgc_lt, lgc_eq, ge_iff_le, gt_iff_lt, e1, hk, e2, ↓reduceIte]
        · have e2 := hasked.2 rfl
          simp (disch := first | assumption | omega) only [f_X1_admitTracks_b31, ↓rcL, ↓gIL_0, ↓gIL_10, ↓gIL_11, ↓gIL_12, ↓gIL_13, ↓gIL_14, ↓gIL_15, ↓pIL_0, ↓pIL_10, ↓pIL_11, ↓pIL_12, ↓pIL_13, ↓pIL_14, ↓pIL_15, ↓gRL_1, ↓gRL_2, ↓gRL_3, ↓gRL_4, ↓gRL_5, ↓gRL_6, ↓gRL_7, ↓gRL_8, ↓gRL_9, ↓aIL1, ↓sZL1, ↓lnL1, ↓aIL2, ↓sIL2, ↓lnL2, ↓aIL3, ↓sIL3, ↓lnL3, ↓aIL4, ↓sIL4, ↓lnL4, ↓aIL5, ↓sIL5, ↓lnL5, ↓aIL6, ↓sIL6, ↓lnL6, ↓aIL7, ↓sIL7, ↓lnL7, ↓rc41, ↓gR41_0, ↓gR41_1, ↓gR41_2, ↓aI42, ↓sI42, ↓ln42, ↓aI43, ↓sI43, ↓ln43, ↓c_I, ↓c_J, ↓c_Q, ↓c_V, ↓c_It, ↓c_Jt, ↓c_Vt, ↓k_I, ↓k_J, ↓n_I, ↓n_V, li0, li1, li2, li3, li4, li5, li6, li7, li8, li9, li10, li11, li12, li13, li14, li15, li16, li17, li18, li19, li20, li21, li22, li23, li24, li25, li26, li27, li28, li29, li30, li31, li32, li33, li34, li35, li36, li37, li38, li39, li40, li41, li42, li44, li48, li57, li63, li64, li65, li97, li99, li100, li101, li102, li104, li105, li106, li109, li114, li120, li128, li130, li300, li514, li999, li1000, li8192, li9999, li65536, li1000000, li1000001, li1000002, li1000003, li1000004, li1000005, li1000006, li1000007, li1000008, li1000009, li1000010, li1000011, li1000012, li1000013, li1000014, li1000015, li1000016, li1000017, li1000018, li1000019, li2147483647, lj0, lj1, W_add, W_sub, W_mul, W_neg, V_add, V_sub, V_mul, V_neg, W_ite, W_le, W_lt, W_inj, V_le, V_lt, V_inj, W_V, V_W, lgc_ge, lgc_gt, lgc_le, lgc_lt, lgc_eq, ge_iff_le, gt_iff_lt, e1, hk, e2, Int.reduceEq, ↓reduceIte]
      rw [go]
      have e3 := e_isFlexible (J := J) (b := b) (c := c) hY.1 (k := k) (by omega) (by omega)
      have hcv : cvr A ax i k := ⟨a2, by omega⟩
      by_cases hm : mayF A ax s (grp A ax i) g i k
      · have hwb : 0 < wtF A ax (grp A ax i) k ∧ wtF A ax (grp A ax i) k ≤ 999 := by
          have hpt := tpt_ok hA (ax := ax) (k := k) (by omega) (by omega) (by omega)
          unfold wtF
          split
          · next hq => have := hpt.2.2.2.2.1 (hm.2.2 hq); omega
          · omega
        obtain ⟨v, v1, v2, v3, v4⟩ := e_room (J := J) (b := b) (c := c) hC (k := k) (by omega) (by omega)
        obtain ⟨I1, z1, z2, z3, z4, z5, z6, z7⟩ := e_admit (I := I) (J := J) (b := b) (c := c) (t := k) (w := wtF A ax (grp A ax i) k) (r := v) hD.1.1 (by omega) hwb.1 (by omega) (by omega) (by omega)
        obtain ⟨y1, y2⟩ := ADM.more hD hz (by omega) hm rfl v2 z2 z3 z4 z5 z6
        obtain ⟨I', k1, k2, k3, k4⟩ := ih (k + 1) I1 (by omega) (by omega) (by omega) (hC.fr z7) y1 y2 (by omega)
        refine ⟨I', ?_, k2, k3, fun a ha => by rw [k4 a ha, z7 a ha]⟩
        rw [← k1, bb_pos hm.2.1]
        by_cases hq : grp A ax i = 5
        · rw [bb_pos hq]
          rw [bb_pos (hm.2.2 hq)] at e3
          have e4 := e_part (J := J) (b := b) (c := c) hY.1 (k := k) (p := 3) (by omega) (by omega) (by omega) (by omega)
          have hw : wtF A ax (grp A ax i) k = tpt A ax k 3 := if_pos hq
          rw [hw] at z1
          simp (disch := first | assumption | omega) only [f_X1_admitTracks_b67, f_X1_admitTracks_b88, f_X1_admitTracks_b104, f_X1_admitTracks_b125, ↓rcL, ↓gIL_0, ↓gIL_10, ↓gIL_11, ↓gIL_12, ↓gIL_13, ↓gIL_14, ↓gIL_15, ↓pIL_0, ↓pIL_10, ↓pIL_11, ↓pIL_12, ↓pIL_13, ↓pIL_14, ↓pIL_15, ↓gRL_1, ↓gRL_2, ↓gRL_3, ↓gRL_4, ↓gRL_5, ↓gRL_6, ↓gRL_7, ↓gRL_8, ↓gRL_9, ↓aIL1, ↓sZL1, ↓lnL1, ↓aIL2, ↓sIL2, ↓lnL2, ↓aIL3, ↓sIL3, ↓lnL3, ↓aIL4, ↓sIL4, ↓lnL4, ↓aIL5, ↓sIL5, ↓lnL5, ↓aIL6, ↓sIL6, ↓lnL6, ↓aIL7, ↓sIL7, ↓lnL7, ↓rc41, ↓gR41_0, ↓gR41_1, ↓gR41_2, ↓aI42, ↓sI42, ↓ln42, ↓aI43, ↓sI43, ↓ln43, ↓rc36, ↓gI36_4, ↓pI36_4, ↓gR36_0, ↓gR36_1, ↓gR36_2, ↓gR36_3, ↓aI37, ↓sI37, ↓ln37, ↓aI38, ↓sI38, ↓ln38, ↓aI39, ↓sI39, ↓ln39, ↓aI40, ↓sI40, ↓ln40, ↓c_I, ↓c_J, ↓c_Q, ↓c_V, ↓c_It, ↓c_Jt, ↓c_Vt, ↓k_I, ↓k_J, ↓n_I, ↓n_V, li0, li1, li2, li3, li4, li5, li6, li7, li8, li9, li10, li11, li12, li13, li14, li15, li16, li17, li18, li19, li20, li21, li22, li23, li24, li25, li26, li27, li28, li29, li30, li31, li32, li33, li34, li35, li36, li37, li38, li39, li40, li41, li42, li44, li48, li57, li63, li64, li65, li97, li99, li100, li101, li102, li104, li105, li106, li109, li114, li120, li128, li130, li300, li514, li999, li1000, li8192, li9999, li65536, li1000000, li1000001, li1000002, li1000003, li1000004, li1000005, li1000006, li1000007, li1000008, li1000009, li1000010, li1000011, li1000012, li1000013, li1000014, li1000015, li1000016, li1000017, li1000018, li1000019, li2147483647, lj0, lj1, W_add, W_sub, W_mul, W_neg, V_add, V_sub, V_mul, V_neg, W_ite, W_le, W_lt, W_inj, V_le, V_lt, V_inj, W_V, V_W, lgc_ge, lgc_gt, lgc_le, lgc_lt, lgc_eq, ge_iff_le, gt_iff_lt, e3, e4, v1, z1, Int.reduceEq, ↓reduceIte]
        · rw [bb_neg hq]
          have hw : wtF A ax (grp A ax i) k = 1 := if_neg hq
          rw [hw] at z1
          simp (disch := first | assumption | omega) only [f_X1_admitTracks_b67, f_X1_admitTracks_b88, f_X1_admitTracks_b104, f_X1_admitTracks_b125, ↓rcL, ↓gIL_0, ↓gIL_10, ↓gIL_11, ↓gIL_12, ↓gIL_13, ↓gIL_14, ↓gIL_15, ↓pIL_0, ↓pIL_10, ↓pIL_11, ↓pIL_12, ↓pIL_13, ↓pIL_14, ↓pIL_15, ↓gRL_1, ↓gRL_2, ↓gRL_3, ↓gRL_4, ↓gRL_5, ↓gRL_6, ↓gRL_7, ↓gRL_8, ↓gRL_9, ↓aIL1, ↓sZL1, ↓lnL1, ↓aIL2, ↓sIL2, ↓lnL2, ↓aIL3, ↓sIL3, ↓lnL3, ↓aIL4, ↓sIL4, ↓lnL4, ↓aIL5, ↓sIL5, ↓lnL5, ↓aIL6, ↓sIL6, ↓lnL6, ↓aIL7, ↓sIL7, ↓lnL7, ↓rc41, ↓gR41_0, ↓gR41_1, ↓gR41_2, ↓aI42, ↓sI42, ↓ln42, ↓aI43, ↓sI43, ↓ln43, ↓rc36, ↓gI36_4, ↓pI36_4, ↓gR36_0, ↓gR36_1, ↓gR36_2, ↓gR36_3, ↓aI37, ↓sI37, ↓ln37, ↓aI38, ↓sI38, ↓ln38, ↓aI39, ↓sI39, ↓ln39, ↓aI40, ↓sI40, ↓ln40, ↓c_I, ↓c_J, ↓c_Q, ↓c_V, ↓c_It, ↓c_Jt, ↓c_Vt, ↓k_I, ↓k_J, ↓n_I, ↓n_V, li0, li1, li2, li3, li4, li5, li6, li7, li8, li9, li10, li11, li12, li13, li14, li15, li16, li17, li18, li19, li20, li21, li22, li23, li24, li25, li26, li27, li28, li29, li30, li31, li32, li33, li34, li35, li36, li37, li38, li39, li40, li41, li42, li44, li48, li57, li63, li64, li65, li97, li99, li100, li101, li102, li104, li105, li106, li109, li114, li120, li128, li130, li300, li514, li999, li1000, li8192, li9999, li65536, li1000000, li1000001, li1000002, li1000003, li1000004, li1000005, li1000006, li1000007, li1000008, li1000009, li1000010, li1000011, li1000012, li1000013, li1000014, li1000015, li1000016, li1000017, li1000018, li1000019, li2147483647, lj0, lj1, W_add, W_sub, W_mul, W_neg, V_add, V_sub, V_mul, V_neg, W_ite, W_le, W_lt, W_inj, V_le, V_lt, V_inj, W_V, V_W, lgc_ge, lgc_gt, lgc_le, lgc_lt, lgc_eq, ge_iff_le, gt_iff_lt, v1, z1, Int.reduceEq, ↓reduceIte]
      · obtain ⟨I', k1, k2, k3, k4⟩ := ih (k + 1) I (by omega) (by omega) (by omega) hC (hD.skip hm) hz (by omega)
        refine ⟨I', ?_, k2, k3, k4⟩
        rw [← k1]
        by_cases hk2 : asked A ax s g k
        · have hq : grp A ax i = 5 := by
            apply Classical.byContradiction
            intro hq
            exact hm ⟨hcv, hk2, fun z => absurd z hq⟩
          have h5 : ¬ tpt A ax k 2 = 5 := fun z => hm ⟨hcv, hk2, fun _ => z⟩
          rw [bb_pos hk2, bb_pos hq]
          rw [bb_neg h5] at e3
          simp (disch := first | assumption | omega) only [f_X1_admitTracks_b67, f_X1_admitTracks_b125, ↓rcL, ↓gIL_0, ↓gIL_10, ↓gIL_11, ↓gIL_12, ↓gIL_13, ↓gIL_14, ↓gIL_15, ↓pIL_0, ↓pIL_10, ↓pIL_11, ↓pIL_12, ↓pIL_13, ↓pIL_14, ↓pIL_15, ↓gRL_1, ↓gRL_2, ↓gRL_3, ↓gRL_4, ↓gRL_5, ↓gRL_6, ↓gRL_7, ↓gRL_8, ↓gRL_9, ↓aIL1, ↓sZL1, ↓lnL1, ↓aIL2, ↓sIL2, ↓lnL2, ↓aIL3, ↓sIL3, ↓lnL3, ↓aIL4, ↓sIL4, ↓lnL4, ↓aIL5, ↓sIL5, ↓lnL5, ↓aIL6, ↓sIL6, ↓lnL6, ↓aIL7, ↓sIL7, ↓lnL7, ↓rc41, ↓gR41_0, ↓gR41_1, ↓gR41_2, ↓aI42, ↓sI42, ↓ln42, ↓aI43, ↓sI43, ↓ln43, ↓c_I, ↓c_J, ↓c_Q, ↓c_V, ↓c_It, ↓c_Jt, ↓c_Vt, ↓k_I, ↓k_J, ↓n_I, ↓n_V, li0, li1, li2, li3, li4, li5, li6, li7, li8, li9, li10, li11, li12, li13, li14, li15, li16, li17, li18, li19, li20, li21, li22, li23, li24, li25, li26, li27, li28, li29, li30, li31, li32, li33, li34, li35, li36, li37, li38, li39, li40, li41, li42, li44, li48, li57, li63, li64, li65, li97, li99, li100, li101, li102, li104, li105, li106, li109, li114, li120, li128, li130, li300, li514, li999, li1000, li8192, li9999, li65536, li1000000, li1000001, li1000002, li1000003, li1000004, li1000005, li1000006, li1000007, li1000008, li1000009, li1000010, li1000011, li1000012, li1000013, li1000014, li1000015, li1000016, li1000017, li1000018, li1000019, li2147483647, lj0, lj1, W_add, W_sub, W_mul, W_neg, V_add, V_sub, V_mul, V_neg, W_ite, W_le, W_lt, W_inj, V_le, V_lt, V_inj, W_V, V_W, lgc_ge, lgc_gt, lgc_le, lgc_lt, lgc_eq, ge_iff_le, gt_iff_lt, e3, Int.reduceEq, ↓reduceIte]
        · rw [bb_neg hk2]
          simp (disch := first | assumption | omega) only [f_X1_admitTracks_b67, f_X1_admitTracks_b125, ↓rcL, ↓gIL_0, ↓gIL_10, ↓gIL_11, ↓gIL_12, ↓gIL_13, ↓gIL_14, ↓gIL_15, ↓pIL_0, ↓pIL_10, ↓pIL_11, ↓pIL_12, ↓pIL_13, ↓pIL_14, ↓pIL_15, ↓gRL_1, ↓gRL_2, ↓gRL_3, ↓gRL_4, ↓gRL_5, ↓gRL_6, ↓gRL_7, ↓gRL_8, ↓gRL_9, ↓aIL1, ↓sZL1, ↓lnL1, ↓aIL2, ↓sIL2, ↓lnL2, ↓aIL3, ↓sIL3, ↓lnL3, ↓aIL4, ↓sIL4, ↓lnL4, ↓aIL5, ↓sIL5, ↓lnL5, ↓aIL6, ↓sIL6, ↓lnL6, ↓aIL7, ↓sIL7, ↓lnL7, ↓rc41, ↓gR41_0, ↓gR41_1, ↓gR41_2, ↓aI42, ↓sI42, ↓ln42, ↓aI43, ↓sI43, ↓ln43, ↓c_I, ↓c_J, ↓c_Q, ↓c_V, ↓c_It, ↓c_Jt, ↓c_Vt, ↓k_I, ↓k_J, ↓n_I, ↓n_V, li0, li1, li2, li3, li4, li5, li6, li7, li8, li9, li10, li11, li12, li13, li14, li15, li16, li17, li18, li19, li20, li21, li22, li23, li24, li25, li26, li27, li28, li29, li30, li31, li32, li33, li34, li35, li36, li37, li38, li39, li40, li41, li42, li44, li48, li57, li63, li64, li65, li97, li99, li100, li101, li102, li104, li105, li106, li109, li114, li120, li128, li130, li300, li514, li999, li1000, li8192, li9999, li65536, li1000000, li1000001, li1000002, li1000003, li1000004, li1000005, li1000006, li1000007, li1000008, li1000009, li1000010, li1000011, li1000012, li1000013, li1000014, li1000015, li1000016, li1000017, li1000018, li1000019, li2147483647, lj0, lj1, W_add, W_sub, W_mul, W_neg, V_add, V_sub, V_mul, V_neg, W_ite, W_le, W_lt, W_inj, V_le, V_lt, V_inj, W_V, V_W, lgc_ge, lgc_gt, lgc_le, lgc_lt, lgc_eq, ge_iff_le, gt_iff_lt, ↓reduceIte]
theorem e_admitTracks {s g i : Int} {base f : Int → Int} {I : CF} (hg : g = 0 ∨ g = 1) (i0 : 0 ≤ i) (i1 : i < nit A) (hC : CX I A o ax s base f) : ∃ I', f_X1_admitTracks (Sx I J b c) 41 o (iW i) (iW s) (iW g) = some (Sx I' J b c, xv) ∧ ADM I' (mayF A ax s (grp A ax i) g i) (wtF A ax (grp A ax i)) (rmF A ax s base f) ∧ (∀ j, 0 ≤ j → j < I' 36 4 → I' 40 j = 0) ∧ ∀ a, a < 36 ∨ 40 < a → I' a = I a := by
  have hC' := hC
  obtain ⟨hY, hs, hgr, h42, hb, hfb, hbb⟩ := hC'
  have hX := hY.1
  obtain ⟨ho, hx, h1, hA, hP, hM, hR⟩ := hX
  have hN := hA.1
  have hsp := (hA.2.2.2.2.2 i ax i0 i1 (by omega) (by omega)).2.2.1
  have hC2 := hC.fr (I' := uI I 36 4 0) (fun a ha => u_obj (by omega))
  have e1 := e_first (J := J) (b := b) (c := c) hC2.1.1 i0 i1
  have e2 := e_startAnew (I := I) (J := J) (b := b) (c := c)
  obtain ⟨I', k1, k2, k3, k4⟩ := e_admit_L (J := J) (b := b) (c := c) (o := o) hg i0 i1 FU (pl A i ax) (uI I 36 4 0) (by unfold FU; omega) (by omega) (by omega) hC2 (ADM.none u_eq (fun t ht => by have := ht.1.1.1; omega)) (fun j j0 j1 => by rw [u_eq] at j1; omega) (by rw [u_eq]; omega)
  refine ⟨I', ?_, k2, k3, fun a ha => by rw [k4 a ha, u_obj (by omega)]⟩
  rw [← k1]
  have hgi := hgr i i0 i1
  have hgb : 1 ≤ grp A ax i ∧ grp A ax i ≤ 5 := by
    by_cases q : onF A ax i
    · have : grp A ax i = 5 := cif_pos q
      omega
    · have : grp A ax i = itf A i ax 3 := cif_neg q
      omega
  by_cases hq : grp A ax i = 5
  · rw [bb_pos hq]
    simp (disch := first | assumption | omega) only [f_X1_admitTracks, f_X1_admitTracks_b15, ↓rcL, ↓gIL_0, ↓gIL_10, ↓gIL_11, ↓gIL_12, ↓gIL_13, ↓gIL_14, ↓gIL_15, ↓pIL_0, ↓pIL_10, ↓pIL_11, ↓pIL_12, ↓pIL_13, ↓pIL_14, ↓pIL_15, ↓gRL_1, ↓gRL_2, ↓gRL_3, ↓gRL_4, ↓gRL_5, ↓gRL_6, ↓gRL_7, ↓gRL_8, ↓gRL_9, ↓aIL1, ↓sZL1, ↓lnL1, ↓aIL2, ↓sIL2, ↓lnL2, ↓aIL3, ↓sIL3, ↓lnL3, ↓aIL4, ↓sIL4, ↓lnL4, ↓aIL5, ↓sIL5, ↓lnL5, ↓aIL6, ↓sIL6, ↓lnL6, ↓aIL7, ↓sIL7, ↓lnL7, ↓rc41, ↓gR41_0, ↓gR41_1, ↓gR41_2, ↓aI42, ↓sI42, ↓ln42, ↓aI43, ↓sI43, ↓ln43, ↓rc36, ↓gI36_4, ↓pI36_4, ↓gR36_0, ↓gR36_1, ↓gR36_2, ↓gR36_3, ↓aI37, ↓sI37, ↓ln37, ↓aI38, ↓sI38, ↓ln38, ↓aI39, ↓sI39, ↓ln39, ↓aI40, ↓sI40, ↓ln40, ↓c_I, ↓c_J, ↓c_Q, ↓c_V, ↓c_It, ↓c_Jt, ↓c_Vt, ↓k_I, ↓k_J, ↓n_I, ↓n_V, li0, li1, li2, li3, li4, li5, li6, li7, li8, li9, li10, li11, li12, li13, li14, li15, li16, li17, li18, li19, li20, li21, li22, li23, li24, li25, li26, li27, li28, li29, li30, li31, li32, li33, li34, li35, li36, li37, li38, li39, li40, li41, li42, li44, li48, li57, li63, li64, li65, li97, li99, li100, li101, li102, li104, li105, li106, li109, li114, li120, li128, li130, li300, li514, li999, li1000, li8192, li9999, li65536, li1000000, li1000001, li1000002, li1000003, li1000004, li1000005, li1000006, li1000007, li1000008, li1000009, li1000010, li1000011, li1000012, li1000013, li1000014, li1000015, li1000016, li1000017, li1000018, li1000019, li2147483647, lj0, lj1, W_add, W_sub, W_mul, W_neg, V_add, V_sub, V_mul, V_neg, W_ite, W_le, W_lt, W_inj, V_le, V_lt, V_inj, W_V, V_W, lgc_ge, lgc_gt, lgc_le, lgc_lt, lgc_eq, ge_iff_le, gt_iff_lt, hgi, hq, e2, e1, ↓reduceIte]
  · rw [bb_neg hq]
    simp (disch := first | assumption | omega) only [f_X1_admitTracks, f_X1_admitTracks_b15, ↓rcL, ↓gIL_0, ↓gIL_10, ↓gIL_11, ↓gIL_12, ↓gIL_13, ↓gIL_14, ↓gIL_15, ↓pIL_0, ↓pIL_10, ↓pIL_11, ↓pIL_12, ↓pIL_13, ↓pIL_14, ↓pIL_15, ↓gRL_1, ↓gRL_2, ↓gRL_3, ↓gRL_4, ↓gRL_5, ↓gRL_6, ↓gRL_7, ↓gRL_8, ↓gRL_9, ↓aIL1, ↓sZL1, ↓lnL1, ↓aIL2, ↓sIL2, ↓lnL2, ↓aIL3, ↓sIL3, ↓lnL3, ↓aIL4, ↓sIL4, ↓lnL4, ↓aIL5, ↓sIL5, ↓lnL5, ↓aIL6, ↓sIL6, ↓lnL6, ↓aIL7, ↓sIL7, ↓lnL7, ↓rc41, ↓gR41_0, ↓gR41_1, ↓gR41_2, ↓aI42, ↓sI42, ↓ln42, ↓aI43, ↓sI43, ↓ln43, ↓rc36, ↓gI36_4, ↓pI36_4, ↓gR36_0, ↓gR36_1, ↓gR36_2, ↓gR36_3, ↓aI37, ↓sI37, ↓ln37, ↓aI38, ↓sI38, ↓ln38, ↓aI39, ↓sI39, ↓ln39, ↓aI40, ↓sI40, ↓ln40, ↓c_I, ↓c_J, ↓c_Q, ↓c_V, ↓c_It, ↓c_Jt, ↓c_Vt, ↓k_I, ↓k_J, ↓n_I, ↓n_V, li0, li1, li2, li3, li4, li5, li6, li7, li8, li9, li10, li11, li12, li13, li14, li15, li16, li17, li18, li19, li20, li21, li22, li23, li24, li25, li26, li27, li28, li29, li30, li31, li32, li33, li34, li35, li36, li37, li38, li39, li40, li41, li42, li44, li48, li57, li63, li64, li65, li97, li99, li100, li101, li102, li104, li105, li106, li109, li114, li120, li128, li130, li300, li514, li999, li1000, li8192, li9999, li65536, li1000000, li1000001, li1000002, li1000003, li1000004, li1000005, li1000006, li1000007, li1000008, li1000009, li1000010, li1000011, li1000012, li1000013, li1000014, li1000015, li1000016, li1000017, li1000018, li1000019, li2147483647, lj0, lj1, W_add, W_sub, W_mul, W_neg, V_add, V_sub, V_mul, V_neg, W_ite, W_le, W_lt, W_inj, V_le, V_lt, V_inj, W_V, V_W, lgc_ge, lgc_gt, lgc_le, lgc_lt, lgc_eq, ge_iff_le, gt_iff_lt, hgi, hq, e2, e1, ↓reduceIte]
theorem grf_0 {may : Int → Prop} {w r g : Int → Int} : (grf may w r 0 g).1 = g := by
  have h : Gr may w r 0 g g 0 := ⟨rfl, rfl⟩
  rw [grf_eq h]
theorem fil_0 {rg : Bool} {may : Int → Prop} {w r : Int → Int} (k : Int) : fil rg may w r 0 k = 0 := by
  have := fil_bd (rg := rg) (may := may) (w := w) (r := r) (p := 0) k
  omega
/-- a group, item by item; z: where the sizes lie -/
theorem e_group_L {s q g : Int} {base f : Int → Int} {z : Nat} (hz : (z : Int) = o + 1 + s) (hzs : SHL[z]? = some (100, 65)) (hg : g = 0 ∨ g = 1) (q0 : 1 ≤ q) (q1 : q ≤ 5) (hq : s = 2 → q ≠ 5) {I0 : CF} : ∀ (fuel : Nat) (n : Nat) (I : CF), nit A - n < fuel → (n : Int) ≤ nit A → CX I A o ax s base f → (∀ k, 0 ≤ k → k < 65 → I z k = pgs A ax s q g base f n k) → (∀ a : Int, (a < 36 ∨ 40 < a) → a ≠ z → I a = I0 a) →
    ∃ I', f_X1_processGroup_L37 fuel (Sx I J b c) 41 o (iW q) (iW s) (iW g) z (iW n) = some (Sx I' J b c, xv) ∧ (∀ k, 0 ≤ k → k < 65 → I' z k = pgr A ax s q g base f k) ∧ ∀ a : Int, (a < 36 ∨ 40 < a) → a ≠ z → I' a = I0 a := by
  intro fuel
  induction fuel with
  | zero => intro n I a1 a2; omega
  | succ fuel ih =>
    intro n I a1 a2 hC hS ho2
    show ∃ I', f_X1_processGroup_b37 (f_X1_processGroup_L37 fuel) (Sx I J b c) 41 o (iW q) (iW s) (iW g) z (iW n) = _ ∧ _
    have hC' := hC
    obtain ⟨hY, hs, hgr, h42, hb, hfb, hbb⟩ := hC'
    have hX := hY.1
    obtain ⟨ho, hx, h1, hA, hP, hM, hR⟩ := hX
    have hob := isL_bd ho
    have hN := hA.1
    have hnt := hP.2 ax (by omega) (by omega)
    have e0 := e_itemCount (J := J) (b := b) (c := c) hY.1
    by_cases hk : (n : Int) = nit A
    · have n0 : nit A ≤ (n : Int) := by omega
      refine ⟨I, ?_, fun k k0 k1 => ?_, ho2⟩
      · simp (disch := first | assumption | omega) only [f_X1_processGroup_b37, f_X1_processGroup_b169, ↓rcL, ↓gIL_0, ↓gIL_10, ↓gIL_11, ↓gIL_12, ↓gIL_13, ↓gIL_14, ↓gIL_15, ↓pIL_0, ↓pIL_10, ↓pIL_11, ↓pIL_12, ↓pIL_13, ↓pIL_14, ↓pIL_15, ↓gRL_1, ↓gRL_2, ↓gRL_3, ↓gRL_4, ↓gRL_5, ↓gRL_6, ↓gRL_7, ↓gRL_8, ↓gRL_9, ↓aIL1, ↓sZL1, ↓lnL1, ↓aIL2, ↓sIL2, ↓lnL2, ↓aIL3, ↓sIL3, ↓lnL3, ↓aIL4, ↓sIL4, ↓lnL4, ↓aIL5, ↓sIL5, ↓lnL5, ↓aIL6, ↓sIL6, ↓lnL6, ↓aIL7, ↓sIL7, ↓lnL7, ↓rc41, ↓gR41_0, ↓gR41_1, ↓gR41_2, ↓aI42, ↓sI42, ↓ln42, ↓aI43, ↓sI43, ↓ln43, ↓c_I, ↓c_J, ↓c_Q, ↓c_V, ↓c_It, ↓c_Jt, ↓c_Vt, ↓k_I, ↓k_J, ↓n_I, ↓n_V, li0, li1, li2, li3, li4, li5, li6, li7, li8, li9, li10, li11, li12, li13, li14, li15, li16, li17, li18, li19, li20, li21, li22, li23, li24, li25, li26, li27, li28, li29, li30, li31, li32, li33, li34, li35, li36, li37, li38, li39, li40, li41, li42, li44, li48, li57, li63, li64, li65, li97, li99, li100, li101, li102, li104, li105, li106, li109, li114, li120, li128, li130, li300, li514, li999, li1000, li8192, li9999, li65536, li1000000, li1000001, li1000002, li1000003, li1000004, li1000005, li1000006, li1000007, li1000008, li1000009, li1000010, li1000011, li1000012, li1000013, li1000014, li1000015, li1000016, li1000017, li1000018, li1000019, li2147483647, lj0, lj1, W_add, W_sub, W_mul, W_neg, V_add, V_sub, V_mul, V_neg, W_ite, W_le, W_lt, W_inj, V_le, V_lt, V_inj, W_V, V_W, lgc_ge, lgc_gt, lgc_le, lgc_lt, lgc_eq, ge_iff_le, gt_iff_lt, e0, n0, ↓reduceIte]
      · rw [hS k k0 k1]
        unfold pgr
        rw [show (nit A).toNat = n by omega]
    · have n1 : ¬ (nit A ≤ (n : Int)) := by omega
      have n2 : ¬ (12 ≤ (n : Int)) := by omega
      have hc : ((n + 1 : Nat) : Int) = (n : Int) + 1 := by omega
      have eg := e_itemF (J := J) (b := b) (c := c) hY.1 (i := n) (f := g) (by omega) (by omega) (by omega) (by omega)
      have hcon := (hA.2.2.2.2.2 n ax (by omega) (by omega) (by omega) (by omega)).1
      have hgv : 0 ≤ itf A n ax g ∧ itf A n ax g ≤ 999 := by rcases hg with rfl | rfl <;> omega
      have hgi := hgr n (by omega) (by omega)
      have hgb : 1 ≤ grp A ax n ∧ grp A ax n ≤ 5 := by
        have hsp := (hA.2.2.2.2.2 n ax (by omega) (by omega) (by omega) (by omega)).2.2.1
        by_cases qq : onF A ax n
        · have : grp A ax n = 5 := cif_pos qq
          omega
        · have : grp A ax n = itf A n ax 3 := cif_neg qq
          omega
      -- the field that is asked for
      have go : f_X1_processGroup_b37 (f_X1_processGroup_L37 fuel) (Sx I J b c) 41 o (iW q) (iW s) (iW g) z (iW n) = f_X1_processGroup_b66 (f_X1_processGroup_L37 fuel) (Sx I J b c) (iW g) (iW n) o 41 o (iW q) (iW s) (iW g) z (iW n) := by
        rcases hg with rfl | rfl
        · simp (disch := first | assumption | omega) only [f_X1_processGroup_b37, ↓rcL, ↓gIL_0, ↓gIL_10, ↓gIL_11, ↓gIL_12, ↓gIL_13, ↓gIL_14, ↓gIL_15, ↓pIL_0, ↓pIL_10, ↓pIL_11, ↓pIL_12, ↓pIL_13, ↓pIL_14, ↓pIL_15, ↓gRL_1, ↓gRL_2, ↓gRL_3, ↓gRL_4, ↓gRL_5, ↓gRL_6, ↓gRL_7, ↓gRL_8, ↓gRL_9, ↓aIL1, ↓sZL1, ↓lnL1, ↓aIL2, ↓sIL2, ↓lnL2, ↓aIL3, ↓sIL3, ↓lnL3, ↓aIL4, ↓sIL4, ↓lnL4, ↓aIL5, ↓sIL5, ↓lnL5, ↓aIL6, ↓sIL6, ↓lnL6, ↓aIL7, ↓sIL7, ↓lnL7, ↓rc41, ↓gR41_0, ↓gR41_1, ↓gR41_2, ↓aI42, ↓sI42, ↓ln42, ↓aI43, ↓sI43, ↓ln43, ↓c_I, ↓c_J, ↓c_Q, ↓c_V, ↓c_It, ↓c_Jt, ↓c_Vt, ↓k_I, ↓k_J, ↓n_I, ↓n_V, li0, li1, li2, li3, li4, li5, li6, li7, li8, li9, li10, li11, li12, li13, li14, li15, li16, li17, li18, li19, li20, li21, li22, li23, li24, li25, li26, li27, li28, li29, li30, li31, li32, li33, li34, li35, li36, li37, li38, li39, li40, li41, li42, li44, li48, li57, li63, li64, li65, li97, li99, li100, li101, li102, li104, li105, li106, li109, li114, li120, li128, li130, li300, li514, li999, li1000, li8192, li9999, li65536, li1000000, li1000001, li1000002, li1000003, li1000004, li1000005, li1000006, li1000007, li1000008, li1000009, li1000010, li1000011, li1000012, li1000013, li1000014, li1000015, li1000016, li1000017, li1000018, li1000019, li2147483647, lj0, lj1, W_add, W_sub, W_mul, W_neg, V_add, V_sub, V_mul, V_neg, W_ite, W_le, W_lt, W_inj, V_le, V_lt, V_inj, W_V, V_W, lgc_ge, lgc_gt, lgc_le, lgc_lt, lgc_eq, ge_iff_le, gt_iff_lt, e0, n1, n2, ↓reduceIte]
        · simp (disch := first | assumption | omega) only [f_X1_processGroup_b37, ↓rcL, ↓gIL_0, ↓gIL_10, ↓gIL_11, ↓gIL_12, ↓gIL_13, ↓gIL_14, ↓gIL_15, ↓pIL_0, ↓pIL_10, ↓pIL_11, ↓pIL_12, ↓pIL_13, ↓pIL_14, ↓pIL_15, ↓gRL_1, ↓gRL_2, ↓gRL_3, ↓gRL_4, ↓gRL_5, ↓gRL_6, ↓gRL_7, ↓gRL_8, ↓gRL_9, ↓aIL1, ↓sZL1, ↓lnL1, ↓aIL2, ↓sIL2, ↓lnL2, ↓aIL3, ↓sIL3, ↓lnL3, ↓aIL4, ↓sIL4, ↓lnL4, ↓aIL5, ↓sIL5, ↓lnL5, ↓aIL6, ↓sIL6, ↓lnL6, ↓aIL7, ↓sIL7, ↓lnL7, ↓rc41, ↓gR41_0, ↓gR41_1, ↓gR41_2, ↓aI42, ↓sI42, ↓ln42, ↓aI43, ↓sI43, ↓ln43, ↓c_I, ↓c_J, ↓c_Q, ↓c_V, ↓c_It, ↓c_Jt, ↓c_Vt, ↓k_I, ↓k_J, ↓n_I, ↓n_V, li0, li1, li2, li3, li4, li5, li6, li7, li8, li9, li10, li11, li12, li13, li14, li15, li16, li17, li18, li19, li20, li21, li22, li23, li24, li25, li26, li27, li28, li29, li30, li31, li32, li33, li34, li35, li36, li37, li38, li39, li40, li41, li42, li44, li48, li57, li63, li64, li65, li97, li99, li100, li101, li102, li104, li105, li106, li109, li114, li120, li128, li130, li300, li514, li999, li1000, li8192, li9999, li65536, li1000000, li1000001, li1000002, li1000003, li1000004, li1000005, li1000006, li1000007, li1000008, li1000009, li1000010, li1000011, li1000012, li1000013, li1000014, li1000015, li1000016, li1000017, li1000018, li1000019, li2147483647, lj0, lj1, W_add, W_sub, W_mul, W_neg, V_add, V_sub, V_mul, V_neg, W_ite, W_le, W_lt, W_inj, V_le, V_lt, V_inj, W_V, V_W, lgc_ge, lgc_gt, lgc_le, lgc_lt, lgc_eq, ge_iff_le, gt_iff_lt, e0, n1, n2, Int.reduceEq, ↓reduceIte]
      rw [go]
      have hpb := fun k => pgs_bd hA hP (ax := ax) (s := s) (q := q) (g := g) (base := base) (f := f) (by omega) (by omega) hg hfb n a2 k
      by_cases hgq : grp A ax n = q
      · have esp := e_space (J := J) (b := b) (c := c) hC (i := n) (by omega) (by omega)
        have hspb := spc_bd hA (ax := ax) (i := n) (f := f) (by omega) (by omega) (by omega) (by omega) (fun k => by have := hfb k; omega)
        have hpS : pgs A ax s q g base f (n + 1) = fun k => max (pgs A ax s q g base f n k) (f k + filF A ax s q g base f n k) := cif_pos hgq
        by_cases hle : itf A n ax g ≤ spc A ax f n
        · obtain ⟨I', k1, k2⟩ := ih (n + 1) I (by omega) (by omega) hC (fun k k0 k1 => by
            rw [hS k k0 k1, hpS]
            show _ = max _ _
            have h3 : filF A ax s q g base f n k = 0 := by
              unfold filF
              rw [show (itf A n ax g - spc A ax f n).toNat = 0 by omega]
              exact fil_0 k
            have := hpb k
            omega) ho2
          refine ⟨I', ?_, k2⟩
          rw [← k1, hc]
          simp (disch := first | assumption | omega) only [f_X1_processGroup_b66, f_X1_processGroup_b163, ↓rcL, ↓gIL_0, ↓gIL_10, ↓gIL_11, ↓gIL_12, ↓gIL_13, ↓gIL_14, ↓gIL_15, ↓pIL_0, ↓pIL_10, ↓pIL_11, ↓pIL_12, ↓pIL_13, ↓pIL_14, ↓pIL_15, ↓gRL_1, ↓gRL_2, ↓gRL_3, ↓gRL_4, ↓gRL_5, ↓gRL_6, ↓gRL_7, ↓gRL_8, ↓gRL_9, ↓aIL1, ↓sZL1, ↓lnL1, ↓aIL2, ↓sIL2, ↓lnL2, ↓aIL3, ↓sIL3, ↓lnL3, ↓aIL4, ↓sIL4, ↓lnL4, ↓aIL5, ↓sIL5, ↓lnL5, ↓aIL6, ↓sIL6, ↓lnL6, ↓aIL7, ↓sIL7, ↓lnL7, ↓rc41, ↓gR41_0, ↓gR41_1, ↓gR41_2, ↓aI42, ↓sI42, ↓ln42, ↓aI43, ↓sI43, ↓ln43, ↓c_I, ↓c_J, ↓c_Q, ↓c_V, ↓c_It, ↓c_Jt, ↓c_Vt, ↓k_I, ↓k_J, ↓n_I, ↓n_V, li0, li1, li2, li3, li4, li5, li6, li7, li8, li9, li10, li11, li12, li13, li14, li15, li16, li17, li18, li19, li20, li21, li22, li23, li24, li25, li26, li27, li28, li29, li30, li31, li32, li33, li34, li35, li36, li37, li38, li39, li40, li41, li42, li44, li48, li57, li63, li64, li65, li97, li99, li100, li101, li102, li104, li105, li106, li109, li114, li120, li128, li130, li300, li514, li999, li1000, li8192, li9999, li65536, li1000000, li1000001, li1000002, li1000003, li1000004, li1000005, li1000006, li1000007, li1000008, li1000009, li1000010, li1000011, li1000012, li1000013, li1000014, li1000015, li1000016, li1000017, li1000018, li1000019, li2147483647, lj0, lj1, W_add, W_sub, W_mul, W_neg, V_add, V_sub, V_mul, V_neg, W_ite, W_le, W_lt, W_inj, V_le, V_lt, V_inj, W_V, V_W, lgc_ge, lgc_gt, lgc_le, lgc_lt, lgc_eq, ge_iff_le, gt_iff_lt, eg, hgi, hgq, esp, hle, ↓reduceIte]
        · -- the filling
          obtain ⟨I1, z1, z2, z3, z4⟩ := e_admitTracks (J := J) (b := b) (c := c) (i := n) hg (by omega) (by omega) hC
          rw [hgq] at z2
          have hC1 := hC.fr z4
          have esp1 := e_space (J := J) (b := b) (c := c) hC1 (i := n) (by omega) (by omega)
          have hmt : ∀ t, mayF A ax s q g n t → 1 ≤ t ∧ t < 65 := fun t ht => by
            have := (cvr_in hP (ax := ax) (by omega) (by omega) (by omega) (show (n : Int) < nit A by omega) ht.1).1
            omega
          have hwb : ∀ t, mayF A ax s q g n t → 0 < wtF A ax q t ∧ wtF A ax q t ≤ 999 := fun t ht => by
            have hpt := tpt_ok hA (ax := ax) (k := t) (by omega) (by omega) (hmt t ht).1
            unfold wtF
            split
            · next hq => have := hpt.2.2.2.2.1 (ht.2.2 hq); omega
            · omega
          have hrb : ∀ t, mayF A ax s q g n t → 0 ≤ rmF A ax s base f t ∧ rmF A ax s base f t ≤ 1000000 := fun t ht => by
            have hpt := tpt_ok hA (ax := ax) (k := t) (by omega) (by omega) (hmt t ht).1
            have := hfb t
            have := hbb t
            unfold rmF
            repeat' split
            all_goals omega
          obtain ⟨I2, s2, g2, y1, y2, y3, y4⟩ := e_pourT (J := J) (b := b) (c := c) (g := fun _ => 0) z2 hwb hrb (fun j j0 j1 => by rw [z3 j j0 j1]; omega) (p := itf A n ax g - spc A ax f n) (by omega) (by omega)
          have hgr2 := grf_eq y3
          have hA2 : ADM I2 (mayF A ax s q g n) (wtF A ax q) (rmF A ax s base f) := by
            unfold ADM
            rw [y2 36 (by decide), y2 37 (by decide), y2 38 (by decide), y2 39 (by decide)]
            exact z2
          have hbd2 := y3.bd
          -- up to raising
          have fin : ∀ (I3 : CF) (g3 : Int → Int) (r3 : Int → Int), ADM I3 (mayF A ax s q g n) (wtF A ax q) r3 → (∀ a, a < 36 ∨ 40 < a → I3 a = I a) → (∀ j, 0 ≤ j → j < I3 36 4 → g3 (I3 37 j) = I3 40 j ∧ 0 ≤ I3 40 j ∧ I3 40 j ≤ 1000000) → (∀ t, filF A ax s q g base f n t = g3 t) → ∃ I', f_X1_processGroup_b150 (f_X1_processGroup_L37 fuel) (Sx I3 J b c) 41 o (iW q) (iW s) (iW g) z (iW n) = some (Sx I' J b c, xv) ∧ (∀ k, 0 ≤ k → k < 65 → I' z k = pgr A ax s q g base f k) ∧ ∀ a : Int, (a < 36 ∨ 40 < a) → a ≠ z → I' a = I0 a := by
            intro I3 g3 r3 hA3 hf3 hg3 hfil
            have hC3 := hC.fr hf3
            have e42 : I3 42 = I 42 := hf3 42 (by omega)
            have ez : I3 z = I z := hf3 z (by omega)
            obtain ⟨I4, x1, x2, x3, x4⟩ := e_raiseT (J := J) (b := b) (c := c) (r1 := 42) (r2 := z) sh42 hzs (by omega) (by omega) hA3 hmt hg3 (fun t t0 t1 => by
              rw [show ((42 : Nat) : Int) = 42 from rfl, e42, ez, h42 t t0 t1, hS t t0 t1]
              have := hfb t
              have := hpb t
              omega)
            have x34 : ∀ k, 0 ≤ k → k < 65 → I4 z k = pgs A ax s q g base f (n + 1) k := by
              intro k k0 k1
              rw [hpS]
              show _ = max _ _
              rw [hfil k]
              by_cases hm : mayF A ax s q g n k
              · rw [x4 k hm, ez, show ((42 : Nat) : Int) = 42 from rfl, e42, hS k k0 k1, h42 k k0 k1]
              · rw [x3 k hm, ez, hS k k0 k1]
                have h0 := (fil_bd (rg := decide (s = 1)) (may := mayF A ax s q g n) (w := wtF A ax q) (r := rmF A ax s base f) (p := (itf A n ax g - spc A ax f n).toNat) k).2.2 hm
                have h0 : filF A ax s q g base f n k = 0 := h0
                have := hfil k
                have := hpb k
                omega
            have hC4 : CX I4 A o ax s base f := by
              obtain ⟨w1, w2, w3, w4, w5, w6, w7⟩ := hC3
              refine ⟨w1.fr (fun k _ _ => by rw [x2 o (by omega)]) (x2 _ (by omega)) (fun a ha => x2 a (by omega)), w2, ?_, ?_, fun e => ?_, w6, w7⟩
              · rw [x2 43 (by omega)]; exact w3
              · rw [x2 42 (by omega)]; exact w4
              · rw [x2 (o + 2) (by omega)]; exact w5 e
            obtain ⟨I', k1, k2⟩ := ih (n + 1) I4 (by omega) (by omega) hC4 x34 (fun a ha ha' => by rw [x2 a ha', hf3 a ha]; exact ho2 a ha ha')
            refine ⟨I', ?_, k2⟩
            rw [← k1, hc]
            simp (disch := first | assumption | omega) only [f_X1_processGroup_b150, f_X1_processGroup_b163, ↓rcL, ↓gIL_0, ↓gIL_10, ↓gIL_11, ↓gIL_12, ↓gIL_13, ↓gIL_14, ↓gIL_15, ↓pIL_0, ↓pIL_10, ↓pIL_11, ↓pIL_12, ↓pIL_13, ↓pIL_14, ↓pIL_15, ↓gRL_1, ↓gRL_2, ↓gRL_3, ↓gRL_4, ↓gRL_5, ↓gRL_6, ↓gRL_7, ↓gRL_8, ↓gRL_9, ↓aIL1, ↓sZL1, ↓lnL1, ↓aIL2, ↓sIL2, ↓lnL2, ↓aIL3, ↓sIL3, ↓lnL3, ↓aIL4, ↓sIL4, ↓lnL4, ↓aIL5, ↓sIL5, ↓lnL5, ↓aIL6, ↓sIL6, ↓lnL6, ↓aIL7, ↓sIL7, ↓lnL7, ↓rc41, ↓gR41_0, ↓gR41_1, ↓gR41_2, ↓aI42, ↓sI42, ↓ln42, ↓aI43, ↓sI43, ↓ln43, ↓rc36, ↓gI36_4, ↓pI36_4, ↓gR36_0, ↓gR36_1, ↓gR36_2, ↓gR36_3, ↓aI37, ↓sI37, ↓ln37, ↓aI38, ↓sI38, ↓ln38, ↓aI39, ↓sI39, ↓ln39, ↓aI40, ↓sI40, ↓ln40, ↓c_I, ↓c_J, ↓c_Q, ↓c_V, ↓c_It, ↓c_Jt, ↓c_Vt, ↓k_I, ↓k_J, ↓n_I, ↓n_V, li0, li1, li2, li3, li4, li5, li6, li7, li8, li9, li10, li11, li12, li13, li14, li15, li16, li17, li18, li19, li20, li21, li22, li23, li24, li25, li26, li27, li28, li29, li30, li31, li32, li33, li34, li35, li36, li37, li38, li39, li40, li41, li42, li44, li48, li57, li63, li64, li65, li97, li99, li100, li101, li102, li104, li105, li106, li109, li114, li120, li128, li130, li300, li514, li999, li1000, li8192, li9999, li65536, li1000000, li1000001, li1000002, li1000003, li1000004, li1000005, li1000006, li1000007, li1000008, li1000009, li1000010, li1000011, li1000012, li1000013, li1000014, li1000015, li1000016, li1000017, li1000018, li1000019, li2147483647, lj0, lj1, W_add, W_sub, W_mul, W_neg, V_add, V_sub, V_mul, V_neg, W_ite, W_le, W_lt, W_inj, V_le, V_lt, V_inj, W_V, V_W, lgc_ge, lgc_gt, lgc_le, lgc_lt, lgc_eq, ge_iff_le, gt_iff_lt, x1]
          have hf2 : ∀ a, a < 36 ∨ 40 < a → I2 a = I a := fun a ha => by rw [y2 a (by omega), z4 a ha]
          have e36 : I2 36 = I1 36 := y2 36 (by decide)
          have e37 : I2 37 = I1 37 := y2 37 (by decide)
          have hg40 : ∀ j, 0 ≤ j → j < I2 36 4 → g2 (I2 37 j) = I2 40 j ∧ 0 ≤ I2 40 j ∧ I2 40 j ≤ 999 := by
            intro j j0 j1
            rw [e36] at j1
            have h5 := y4 j j0 j1
            have h6 := hbd2.1 (I1 37 j)
            rw [e37, h5]
            rw [h5] at h6
            omega
          rcases hs with rfl | rfl
          · -- base sizes: the rest without bounds
            by_cases hs2 : (s2 : Int) ≤ 0
            · obtain ⟨I', k1, k2⟩ := fin I2 g2 _ hA2 hf2 (fun j j0 j1 => by have := hg40 j j0 j1; omega) (fun t => by
                have h7 : filF A ax 1 q g base f n = (grf (mayF A ax 1 q g n) (wtF A ax q) (fun _ => 1000000) (grf (mayF A ax 1 q g n) (wtF A ax q) (rmF A ax 1 base f) (itf A n ax g - spc A ax f n).toNat (fun _ => 0)).2 (grf (mayF A ax 1 q g n) (wtF A ax q) (rmF A ax 1 base f) (itf A n ax g - spc A ax f n).toNat (fun _ => 0)).1).1 := rfl
                rw [h7, hgr2, show s2 = 0 by omega]
                show (grf _ _ _ 0 g2).1 t = g2 t
                rw [grf_0])
              refine ⟨I', ?_, k2⟩
              rw [← k1]
              simp (disch := first | assumption | omega) only [f_X1_processGroup_b66, ↓rcL, ↓gIL_0, ↓gIL_10, ↓gIL_11, ↓gIL_12, ↓gIL_13, ↓gIL_14, ↓gIL_15, ↓pIL_0, ↓pIL_10, ↓pIL_11, ↓pIL_12, ↓pIL_13, ↓pIL_14, ↓pIL_15, ↓gRL_1, ↓gRL_2, ↓gRL_3, ↓gRL_4, ↓gRL_5, ↓gRL_6, ↓gRL_7, ↓gRL_8, ↓gRL_9, ↓aIL1, ↓sZL1, ↓lnL1, ↓aIL2, ↓sIL2, ↓lnL2, ↓aIL3, ↓sIL3, ↓lnL3, ↓aIL4, ↓sIL4, ↓lnL4, ↓aIL5, ↓sIL5, ↓lnL5, ↓aIL6, ↓sIL6, ↓lnL6, ↓aIL7, ↓sIL7, ↓lnL7, ↓rc41, ↓gR41_0, ↓gR41_1, ↓gR41_2, ↓aI42, ↓sI42, ↓ln42, ↓aI43, ↓sI43, ↓ln43, ↓rc36, ↓gI36_4, ↓pI36_4, ↓gR36_0, ↓gR36_1, ↓gR36_2, ↓gR36_3, ↓aI37, ↓sI37, ↓ln37, ↓aI38, ↓sI38, ↓ln38, ↓aI39, ↓sI39, ↓ln39, ↓aI40, ↓sI40, ↓ln40, ↓c_I, ↓c_J, ↓c_Q, ↓c_V, ↓c_It, ↓c_Jt, ↓c_Vt, ↓k_I, ↓k_J, ↓n_I, ↓n_V, li0, li1, li2, li3, li4, li5, li6, li7, li8, li9, li10, li11, li12, li13, li14, li15, li16, li17, li18, li19, li20, li21, li22, li23, li24, li25, li26, li27, li28, li29, li30, li31, li32, li33, li34, li35, li36, li37, li38, li39, li40, li41, li42, li44, li48, li57, li63, li64, li65, li97, li99, li100, li101, li102, li104, li105, li106, li109, li114, li120, li128, li130, li300, li514, li999, li1000, li8192, li9999, li65536, li1000000, li1000001, li1000002, li1000003, li1000004, li1000005, li1000006, li1000007, li1000008, li1000009, li1000010, li1000011, li1000012, li1000013, li1000014, li1000015, li1000016, li1000017, li1000018, li1000019, li2147483647, lj0, lj1, W_add, W_sub, W_mul, W_neg, V_add, V_sub, V_mul, V_neg, W_ite, W_le, W_lt, W_inj, V_le, V_lt, V_inj, W_V, V_W, lgc_ge, lgc_gt, lgc_le, lgc_lt, lgc_eq, ge_iff_le, gt_iff_lt, eg, hgi, hgq, esp, hle, z1, esp1, y1, hs2, ↓reduceIte]
            · obtain ⟨I3, w1, w2, w3⟩ := e_dropBounds (I := I2) (J := J) (b := b) (c := c) hA2.1.1 hA2.1.2
              have hA3 : ADM I3 (mayF A ax 1 q g n) (wtF A ax q) (fun _ => 1000000) := by
                unfold ADM
                rw [w2 36 (by decide), w2 37 (by decide), w2 38 (by decide)]
                refine ⟨hA2.1, hA2.2.1, fun j j0 j1 => ?_, hA2.2.2.2⟩
                rw [w3, if_pos ⟨j0, j1⟩]
                have := hA2.2.2.1 j j0 j1
                exact ⟨this.1, this.2.1, rfl⟩
              have hsp2 : (s2 : Int) ≤ 999 := by
                have := hbd2.2.2
                omega
              obtain ⟨I4, s4, g4, v1, v2, v3, v4⟩ := e_pourT (J := J) (b := b) (c := c) (g := g2) hA3 hwb (fun t ht => by omega) (fun j j0 j1 => by
                rw [w2 36 (by decide)] at j1
                rw [w2 37 (by decide), w2 40 (by decide)]
                have := hg40 j j0 j1
                omega) (p := s2) (by omega) (by omega)
              rw [Int.toNat_natCast] at v3
              have hgr4 := grf_eq v3
              have hA4 : ADM I4 (mayF A ax 1 q g n) (wtF A ax q) (fun _ => 1000000) := by
                unfold ADM
                rw [v2 36 (by decide), v2 37 (by decide), v2 38 (by decide), v2 39 (by decide)]
                exact hA3
              have hbd4 := v3.bd
              obtain ⟨I', k1, k2⟩ := fin I4 g4 _ hA4 (fun a ha => by rw [v2 a (by omega), w2 a (by omega), hf2 a ha]) (fun j j0 j1 => by
                rw [v2 36 (by decide)] at j1
                have h5 := v4 j j0 j1
                have h6 := hbd4.1 (I3 37 j)
                rw [w2 36 (by decide)] at j1
                have h8 := hg40 j j0 j1
                rw [← w2 37 (by decide)] at h8
                rw [v2 37 (by decide), h5]
                omega) (fun t => by
                have h7 : filF A ax 1 q g base f n = (grf (mayF A ax 1 q g n) (wtF A ax q) (fun _ => 1000000) (grf (mayF A ax 1 q g n) (wtF A ax q) (rmF A ax 1 base f) (itf A n ax g - spc A ax f n).toNat (fun _ => 0)).2 (grf (mayF A ax 1 q g n) (wtF A ax q) (rmF A ax 1 base f) (itf A n ax g - spc A ax f n).toNat (fun _ => 0)).1).1 := rfl
                rw [h7, hgr2]
                show (grf _ _ _ s2 g2).1 t = g4 t
                rw [hgr4])
              refine ⟨I', ?_, k2⟩
              rw [← k1]
              simp (disch := first | assumption | omega) only [f_X1_processGroup_b66, ↓rcL, ↓gIL_0, ↓gIL_10, ↓gIL_11, ↓gIL_12, ↓gIL_13, ↓gIL_14, ↓gIL_15, ↓pIL_0, ↓pIL_10, ↓pIL_11, ↓pIL_12, ↓pIL_13, ↓pIL_14, ↓pIL_15, ↓gRL_1, ↓gRL_2, ↓gRL_3, ↓gRL_4, ↓gRL_5, ↓gRL_6, ↓gRL_7, ↓gRL_8, ↓gRL_9, ↓aIL1, ↓sZL1, ↓lnL1, ↓aIL2, ↓sIL2, ↓lnL2, ↓aIL3, ↓sIL3, ↓lnL3, ↓aIL4, ↓sIL4, ↓lnL4, ↓aIL5, ↓sIL5, ↓lnL5, ↓aIL6, ↓sIL6, ↓lnL6, ↓aIL7, ↓sIL7, ↓lnL7, ↓rc41, ↓gR41_0, ↓gR41_1, ↓gR41_2, ↓aI42, ↓sI42, ↓ln42, ↓aI43, ↓sI43, ↓ln43, ↓rc36, ↓gI36_4, ↓pI36_4, ↓gR36_0, ↓gR36_1, ↓gR36_2, ↓gR36_3, ↓aI37, ↓sI37, ↓ln37, ↓aI38, ↓sI38, ↓ln38, ↓aI39, ↓sI39, ↓ln39, ↓aI40, ↓sI40, ↓ln40, ↓c_I, ↓c_J, ↓c_Q, ↓c_V, ↓c_It, ↓c_Jt, ↓c_Vt, ↓k_I, ↓k_J, ↓n_I, ↓n_V, li0, li1, li2, li3, li4, li5, li6, li7, li8, li9, li10, li11, li12, li13, li14, li15, li16, li17, li18, li19, li20, li21, li22, li23, li24, li25, li26, li27, li28, li29, li30, li31, li32, li33, li34, li35, li36, li37, li38, li39, li40, li41, li42, li44, li48, li57, li63, li64, li65, li97, li99, li100, li101, li102, li104, li105, li106, li109, li114, li120, li128, li130, li300, li514, li999, li1000, li8192, li9999, li65536, li1000000, li1000001, li1000002, li1000003, li1000004, li1000005, li1000006, li1000007, li1000008, li1000009, li1000010, li1000011, li1000012, li1000013, li1000014, li1000015, li1000016, li1000017, li1000018, li1000019, li2147483647, lj0, lj1, W_add, W_sub, W_mul, W_neg, V_add, V_sub, V_mul, V_neg, W_ite, W_le, W_lt, W_inj, V_le, V_lt, V_inj, W_V, V_W, lgc_ge, lgc_gt, lgc_le, lgc_lt, lgc_eq, ge_iff_le, gt_iff_lt, eg, hgi, hgq, esp, hle, z1, esp1, y1, hs2, w1, v1, ↓reduceIte]
          · obtain ⟨I', k1, k2⟩ := fin I2 g2 _ hA2 hf2 (fun j j0 j1 => by have := hg40 j j0 j1; omega) (fun t => by
              have h7 : filF A ax 2 q g base f n = (grf (mayF A ax 2 q g n) (wtF A ax q) (rmF A ax 2 base f) (itf A n ax g - spc A ax f n).toNat (fun _ => 0)).1 := rfl
              rw [h7, hgr2])
            refine ⟨I', ?_, k2⟩
            rw [← k1]
            simp (disch := first | assumption | omega) only [f_X1_processGroup_b66, ↓rcL, ↓gIL_0, ↓gIL_10, ↓gIL_11, ↓gIL_12, ↓gIL_13, ↓gIL_14, ↓gIL_15, ↓pIL_0, ↓pIL_10, ↓pIL_11, ↓pIL_12, ↓pIL_13, ↓pIL_14, ↓pIL_15, ↓gRL_1, ↓gRL_2, ↓gRL_3, ↓gRL_4, ↓gRL_5, ↓gRL_6, ↓gRL_7, ↓gRL_8, ↓gRL_9, ↓aIL1, ↓sZL1, ↓lnL1, ↓aIL2, ↓sIL2, ↓lnL2, ↓aIL3, ↓sIL3, ↓lnL3, ↓aIL4, ↓sIL4, ↓lnL4, ↓aIL5, ↓sIL5, ↓lnL5, ↓aIL6, ↓sIL6, ↓lnL6, ↓aIL7, ↓sIL7, ↓lnL7, ↓rc41, ↓gR41_0, ↓gR41_1, ↓gR41_2, ↓aI42, ↓sI42, ↓ln42, ↓aI43, ↓sI43, ↓ln43, ↓rc36, ↓gI36_4, ↓pI36_4, ↓gR36_0, ↓gR36_1, ↓gR36_2, ↓gR36_3, ↓aI37, ↓sI37, ↓ln37, ↓aI38, ↓sI38, ↓ln38, ↓aI39, ↓sI39, ↓ln39, ↓aI40, ↓sI40, ↓ln40, ↓c_I, ↓c_J, ↓c_Q, ↓c_V, ↓c_It, ↓c_Jt, ↓c_Vt, ↓k_I, ↓k_J, ↓n_I, ↓n_V, li0, li1, li2, li3, li4, li5, li6, li7, li8, li9, li10, li11, li12, li13, li14, li15, li16, li17, li18, li19, li20, li21, li22, li23, li24, li25, li26, li27, li28, li29, li30, li31, li32, li33, li34, li35, li36, li37, li38, li39, li40, li41, li42, li44, li48, li57, li63, li64, li65, li97, li99, li100, li101, li102, li104, li105, li106, li109, li114, li120, li128, li130, li300, li514, li999, li1000, li8192, li9999, li65536, li1000000, li1000001, li1000002, li1000003, li1000004, li1000005, li1000006, li1000007, li1000008, li1000009, li1000010, li1000011, li1000012, li1000013, li1000014, li1000015, li1000016, li1000017, li1000018, li1000019, li2147483647, lj0, lj1, W_add, W_sub, W_mul, W_neg, V_add, V_sub, V_mul, V_neg, W_ite, W_le, W_lt, W_inj, V_le, V_lt, V_inj, W_V, V_W, lgc_ge, lgc_gt, lgc_le, lgc_lt, lgc_eq, ge_iff_le, gt_iff_lt, eg, hgi, hgq, esp, hle, z1, esp1, y1, Int.reduceEq, ↓reduceIte]
      · obtain ⟨I', k1, k2⟩ := ih (n + 1) I (by omega) (by omega) hC (fun k k0 k1 => by
          rw [hS k k0 k1]
          have : pgs A ax s q g base f (n + 1) = pgs A ax s q g base f n := cif_neg hgq
          rw [this]) ho2
        refine ⟨I', ?_, k2⟩
        rw [← k1, hc]
        simp (disch := first | assumption | omega) only [f_X1_processGroup_b66, f_X1_processGroup_b163, ↓rcL, ↓gIL_0, ↓gIL_10, ↓gIL_11, ↓gIL_12, ↓gIL_13, ↓gIL_14, ↓gIL_15, ↓pIL_0, ↓pIL_10, ↓pIL_11, ↓pIL_12, ↓pIL_13, ↓pIL_14, ↓pIL_15, ↓gRL_1, ↓gRL_2, ↓gRL_3, ↓gRL_4, ↓gRL_5, ↓gRL_6, ↓gRL_7, ↓gRL_8, ↓gRL_9, ↓aIL1, ↓sZL1, ↓lnL1, ↓aIL2, ↓sIL2, ↓lnL2, ↓aIL3, ↓sIL3, ↓lnL3, ↓aIL4, ↓sIL4, ↓lnL4, ↓aIL5, ↓sIL5, ↓lnL5, ↓aIL6, ↓sIL6, ↓lnL6, ↓aIL7, ↓sIL7, ↓lnL7, ↓rc41, ↓gR41_0, ↓gR41_1, ↓gR41_2, ↓aI42, ↓sI42, ↓ln42, ↓aI43, ↓sI43, ↓ln43, ↓c_I, ↓c_J, ↓c_Q, ↓c_V, ↓c_It, ↓c_Jt, ↓c_Vt, ↓k_I, ↓k_J, ↓n_I, ↓n_V, li0, li1, li2, li3, li4, li5, li6, li7, li8, li9, li10, li11, li12, li13, li14, li15, li16, li17, li18, li19, li20, li21, li22, li23, li24, li25, li26, li27, li28, li29, li30, li31, li32, li33, li34, li35, li36, li37, li38, li39, li40, li41, li42, li44, li48, li57, li63, li64, li65, li97, li99, li100, li101, li102, li104, li105, li106, li109, li114, li120, li128, li130, li300, li514, li999, li1000, li8192, li9999, li65536, li1000000, li1000001, li1000002, li1000003, li1000004, li1000005, li1000006, li1000007, li1000008, li1000009, li1000010, li1000011, li1000012, li1000013, li1000014, li1000015, li1000016, li1000017, li1000018, li1000019, li2147483647, lj0, lj1, W_add, W_sub, W_mul, W_neg, V_add, V_sub, V_mul, V_neg, W_ite, W_le, W_lt, W_inj, V_le, V_lt, V_inj, W_V, V_W, lgc_ge, lgc_gt, lgc_le, lgc_lt, lgc_eq, ge_iff_le, gt_iff_lt, eg, hgi, hgq, ↓reduceIte]
def GX (I A : CF) (o : Nat) (ax : Int) : Prop := LY I A o ax ∧ ∀ i, 0 ≤ i → i < nit A → I 43 i = grp A ax i
theorem GX.fr {I I' : CF} (h : GX I A o ax) (hf : ∀ a : Int, (a < 36 ∨ 42 < a) → a ≠ o + 2 → a ≠ o + 3 → I' a = I a) : GX I' A o ax := by
  have hob := isL_bd h.1.1.1
  refine ⟨h.1.fr (fun k _ _ => by rw [hf o (by omega) (by omega) (by omega)]) (hf _ (by omega) (by omega) (by omega)) (fun a ha => hf a (by omega) (by omega) (by omega)), ?_⟩
  rw [hf 43 (by omega) (by omega) (by omega)]
  exact h.2
theorem e_group {s q g : Int} {base f : Int → Int} {z : Nat} {I : CF} (hs : s = 1 ∨ s = 2) (hz : (z : Int) = o + 1 + s) (hg : g = 0 ∨ g = 1) (q0 : 1 ≤ q) (q1 : q ≤ 5) (hq : s = 2 → q ≠ 5) (hG : GX I A o ax) (hS : ∀ k, 0 ≤ k → k < 65 → I z k = f k) (hb : s = 2 → ∀ k, 0 ≤ k → k < 65 → I (o + 2) k = base k) (hfb : ∀ k, 0 ≤ f k ∧ f k ≤ 999) (hbb : ∀ k, 0 ≤ base k ∧ base k ≤ 999) :
    ∃ I', f_X1_processGroup (Sx I J b c) 41 o (iW q) (iW s) (iW g) = some (Sx I' J b c, xv) ∧ (∀ k, 0 ≤ k → k < 65 → I' z k = pgr A ax s q g base f k) ∧ ∀ a : Int, (a < 36 ∨ 42 < a) → a ≠ z → I' a = I a := by
  have ho := hG.1.1.1
  have hob := isL_bd ho
  have hN := hG.1.1.2.2.2.1.1
  have hzs : SHL[z]? = some (100, 65) := by
    rcases hs with rfl | rfl
    · rw [show z = o + 2 by omega]
      exact shL2 ho
    · rw [show z = o + 3 by omega]
      exact shL3 ho
  have hC : CX (cpf I z 0 42 0 65) A o ax s base f := by
    refine ⟨hG.1.fr (fun k _ _ => by rw [cp_obj (by omega)]) (cp_obj (by omega)) (fun a ha => cp_obj (by omega)), hs, ?_, ?_, ?_, hfb, hbb⟩
    · rw [cp_obj (by omega)]
      exact hG.2
    · intro k k0 k1
      rw [cp_in k0 (by omega), show (0 : Int) + (k - 0) = k by omega]
      exact hS k k0 k1
    · rw [cp_obj (by omega)]
      exact hb
  obtain ⟨I', k1, k2, k3⟩ := e_group_L (J := J) (b := b) (c := c) (q := q) (g := g) (I0 := cpf I z 0 42 0 65) hz hzs hg q0 q1 hq FU 0 (cpf I z 0 42 0 65) (by unfold FU; omega) (by omega) hC (fun k k0 k1 => by rw [cp_obj (by omega)]; exact hS k k0 k1) (fun _ _ _ => rfl)
  refine ⟨I', ?_, k2, fun a ha ha' => by rw [k3 a (by omega) ha', cp_obj (by omega)]⟩
  rw [← k1]
  have hcp := fun (f : HP → Option XR) => c_p (I := I) (J := J) (b := b) (c := c) (s := z) (d := 42) (n0 := 65) (n1 := 65) (sp := 0) (dp := 0) (n := 65) (f := f) hzs sh42 (by decide) (by decide) (by omega) (by omega) (by omega) (by omega) (by omega)
  rcases hs with rfl | rfl
  · have hz2 : o + 2 = z := by omega
    simp (disch := first | assumption | omega) only [f_X1_processGroup, f_X1_processGroup_b16, ↓rcL, ↓gIL_0, ↓gIL_10, ↓gIL_11, ↓gIL_12, ↓gIL_13, ↓gIL_14, ↓gIL_15, ↓pIL_0, ↓pIL_10, ↓pIL_11, ↓pIL_12, ↓pIL_13, ↓pIL_14, ↓pIL_15, ↓gRL_1, ↓gRL_2, ↓gRL_3, ↓gRL_4, ↓gRL_5, ↓gRL_6, ↓gRL_7, ↓gRL_8, ↓gRL_9, ↓aIL1, ↓sZL1, ↓lnL1, ↓aIL2, ↓sIL2, ↓lnL2, ↓aIL3, ↓sIL3, ↓lnL3, ↓aIL4, ↓sIL4, ↓lnL4, ↓aIL5, ↓sIL5, ↓lnL5, ↓aIL6, ↓sIL6, ↓lnL6, ↓aIL7, ↓sIL7, ↓lnL7, ↓rc41, ↓gR41_0, ↓gR41_1, ↓gR41_2, ↓aI42, ↓sI42, ↓ln42, ↓aI43, ↓sI43, ↓ln43, ↓c_I, ↓c_J, ↓c_Q, ↓c_V, ↓c_It, ↓c_Jt, ↓c_Vt, ↓k_I, ↓k_J, ↓n_I, ↓n_V, li0, li1, li2, li3, li4, li5, li6, li7, li8, li9, li10, li11, li12, li13, li14, li15, li16, li17, li18, li19, li20, li21, li22, li23, li24, li25, li26, li27, li28, li29, li30, li31, li32, li33, li34, li35, li36, li37, li38, li39, li40, li41, li42, li44, li48, li57, li63, li64, li65, li97, li99, li100, li101, li102, li104, li105, li106, li109, li114, li120, li128, li130, li300, li514, li999, li1000, li8192, li9999, li65536, li1000000, li1000001, li1000002, li1000003, li1000004, li1000005, li1000006, li1000007, li1000008, li1000009, li1000010, li1000011, li1000012, li1000013, li1000014, li1000015, li1000016, li1000017, li1000018, li1000019, li2147483647, lj0, lj1, W_add, W_sub, W_mul, W_neg, V_add, V_sub, V_mul, V_neg, W_ite, W_le, W_lt, W_inj, V_le, V_lt, V_inj, W_V, V_W, lgc_ge, lgc_gt, lgc_le, lgc_lt, lgc_eq, ge_iff_le, gt_iff_lt, hz2, hcp, ↓reduceIte]
    rfl
  · have hz2 : o + 3 = z := by omega
    simp (disch := first | assumption | omega) only [f_X1_processGroup, f_X1_processGroup_b16, ↓rcL, ↓gIL_0, ↓gIL_10, ↓gIL_11, ↓gIL_12, ↓gIL_13, ↓gIL_14, ↓gIL_15, ↓pIL_0, ↓pIL_10, ↓pIL_11, ↓pIL_12, ↓pIL_13, ↓pIL_14, ↓pIL_15, ↓gRL_1, ↓gRL_2, ↓gRL_3, ↓gRL_4, ↓gRL_5, ↓gRL_6, ↓gRL_7, ↓gRL_8, ↓gRL_9, ↓aIL1, ↓sZL1, ↓lnL1, ↓aIL2, ↓sIL2, ↓lnL2, ↓aIL3, ↓sIL3, ↓lnL3, ↓aIL4, ↓sIL4, ↓lnL4, ↓aIL5, ↓sIL5, ↓lnL5, ↓aIL6, ↓sIL6, ↓lnL6, ↓aIL7, ↓sIL7, ↓lnL7, ↓rc41, ↓gR41_0, ↓gR41_1, ↓gR41_2, ↓aI42, ↓sI42, ↓ln42, ↓aI43, ↓sI43, ↓ln43, ↓c_I, ↓c_J, ↓c_Q, ↓c_V, ↓c_It, ↓c_Jt, ↓c_Vt, ↓k_I, ↓k_J, ↓n_I, ↓n_V, li0, li1, li2, li3, li4, li5, li6, li7, li8, li9, li10, li11, li12, li13, li14, li15, li16, li17, li18, li19, li20, li21, li22, li23, li24, li25, li26, li27, li28, li29, li30, li31, li32, li33, li34, li35, li36, li37, li38, li39, li40, li41, li42, li44, li48, li57, li63, li64, li65, li97, li99, li100, li101, li102, li104, li105, li106, li109, li114, li120, li128, li130, li300, li514, li999, li1000, li8192, li9999, li65536, li1000000, li1000001, li1000002, li1000003, li1000004, li1000005, li1000006, li1000007, li1000008, li1000009, li1000010, li1000011, li1000012, li1000013, li1000014, li1000015, li1000016, li1000017, li1000018, li1000019, li2147483647, lj0, lj1, W_add, W_sub, W_mul, W_neg, V_add, V_sub, V_mul, V_neg, W_ite, W_le, W_lt, W_inj, V_le, V_lt, V_inj, W_V, V_W, lgc_ge, lgc_gt, lgc_le, lgc_lt, lgc_eq, ge_iff_le, gt_iff_lt, hz2, hcp, Int.reduceEq, ↓reduceIte]
    rfl
theorem e_fill_L {z : Nat} (hzs : SHL[z]? = some (100, 65)) : ∀ (fuel : Nat) (k : Int) (I I0 : CF), 65 - k < fuel → 0 ≤ k → k ≤ 65 → (∀ j, 0 ≤ j → j < k → I z j = 0) → (∀ a : Int, a ≠ z → I a = I0 a) → ∃ I', f_J7_fill_53178_L5 fuel (Sx I J b c) z (iW 0) (iW k) (iW 65) = some (Sx I' J b c, xv) ∧ (∀ j, 0 ≤ j → j < 65 → I' z j = 0) ∧ ∀ a : Int, a ≠ z → I' a = I0 a := by
  intro fuel
  induction fuel with
  | zero => intro k I I0 a1 a2 a3; omega
  | succ fuel ih =>
    intro k I I0 a1 a2 a3 h ho
    show ∃ I', f_J7_fill_53178_b5 (f_J7_fill_53178_L5 fuel) (Sx I J b c) z (iW 0) (iW k) (iW 65) = _ ∧ _
    by_cases hk : k = 65
    · subst hk
      refine ⟨I, ?_, h, ho⟩
      simp (disch := first | assumption | omega) only [f_J7_fill_53178_b5, li0, li1, li2, li3, li4, li5, li6, li7, li8, li9, li10, li11, li12, li13, li14, li15, li16, li17, li18, li19, li20, li21, li22, li23, li24, li25, li26, li27, li28, li29, li30, li31, li32, li33, li34, li35, li36, li37, li38, li39, li40, li41, li42, li44, li48, li57, li63, li64, li65, li97, li99, li100, li101, li102, li104, li105, li106, li109, li114, li120, li128, li130, li300, li514, li999, li1000, li8192, li9999, li65536, li1000000, li1000001, li1000002, li1000003, li1000004, li1000005, li1000006, li1000007, li1000008, li1000009, li1000010, li1000011, li1000012, li1000013, li1000014, li1000015, li1000016, li1000017, li1000018, li1000019, li2147483647, lj0, lj1, W_add, W_sub, W_mul, W_neg, V_add, V_sub, V_mul, V_neg, W_ite, W_le, W_lt, W_inj, V_le, V_lt, V_inj, W_V, V_W, lgc_ge, lgc_gt, lgc_le, lgc_lt, lgc_eq, ge_iff_le, gt_iff_lt, Int.le_refl, ↓reduceIte]
    · have n1 : ¬ (65 ≤ k) := by omega
      obtain ⟨I', k1, k2⟩ := ih (k + 1) (uI I z k 0) I0 (by omega) (by omega) (by omega) (fun j j0 j1 => by
        rw [u_at]
        by_cases e : j = k
        · rw [if_pos e]
        · rw [if_neg e]
          exact h j j0 (by omega)) (fun a ha => by rw [u_obj ha]; exact ho a ha)
      refine ⟨I', ?_, k2⟩
      rw [← k1]
      have hs := fun (f : HP → Option XR) => s_I (I := I) (J := J) (b := b) (c := c) (v := 0) (f := f) hzs (by decide) a2 (z := k) (by omega)
      simp (disch := first | assumption | omega) only [f_J7_fill_53178_b5, li0, li1, li2, li3, li4, li5, li6, li7, li8, li9, li10, li11, li12, li13, li14, li15, li16, li17, li18, li19, li20, li21, li22, li23, li24, li25, li26, li27, li28, li29, li30, li31, li32, li33, li34, li35, li36, li37, li38, li39, li40, li41, li42, li44, li48, li57, li63, li64, li65, li97, li99, li100, li101, li102, li104, li105, li106, li109, li114, li120, li128, li130, li300, li514, li999, li1000, li8192, li9999, li65536, li1000000, li1000001, li1000002, li1000003, li1000004, li1000005, li1000006, li1000007, li1000008, li1000009, li1000010, li1000011, li1000012, li1000013, li1000014, li1000015, li1000016, li1000017, li1000018, li1000019, li2147483647, lj0, lj1, W_add, W_sub, W_mul, W_neg, V_add, V_sub, V_mul, V_neg, W_ite, W_le, W_lt, W_inj, V_le, V_lt, V_inj, W_V, V_W, lgc_ge, lgc_gt, lgc_le, lgc_lt, lgc_eq, ge_iff_le, gt_iff_lt, n1, hs, ↓reduceIte]
theorem e_fill {z : Nat} {I : CF} (hzs : SHL[z]? = some (100, 65)) : ∃ I', f_J7_fill_53178 (Sx I J b c) z (iW 0) = some (Sx I' J b c, xv) ∧ (∀ j, 0 ≤ j → j < 65 → I' z j = 0) ∧ ∀ a : Int, a ≠ z → I' a = I a := by
  obtain ⟨I', k1, k2⟩ := e_fill_L (J := J) (b := b) (c := c) hzs FU 0 I I (by unfold FU; omega) (by omega) (by omega) (fun j _ _ => by omega) (fun _ _ => rfl)
  refine ⟨I', ?_, k2⟩
  rw [← k1]
  have hl := fun (f : Int32 → Option XR) => l_n (I := I) (J := J) (b := b) (c := c) (f := f) hzs (by decide)
  simp (disch := first | assumption | omega) only [f_J7_fill_53178, li0, li1, li2, li3, li4, li5, li6, li7, li8, li9, li10, li11, li12, li13, li14, li15, li16, li17, li18, li19, li20, li21, li22, li23, li24, li25, li26, li27, li28, li29, li30, li31, li32, li33, li34, li35, li36, li37, li38, li39, li40, li41, li42, li44, li48, li57, li63, li64, li65, li97, li99, li100, li101, li102, li104, li105, li106, li109, li114, li120, li128, li130, li300, li514, li999, li1000, li8192, li9999, li65536, li1000000, li1000001, li1000002, li1000003, li1000004, li1000005, li1000006, li1000007, li1000008, li1000009, li1000010, li1000011, li1000012, li1000013, li1000014, li1000015, li1000016, li1000017, li1000018, li1000019, li2147483647, lj0, lj1, W_add, W_sub, W_mul, W_neg, V_add, V_sub, V_mul, V_neg, W_ite, W_le, W_lt, W_inj, V_le, V_lt, V_inj, W_V, V_W, lgc_ge, lgc_gt, lgc_le, lgc_lt, lgc_eq, ge_iff_le, gt_iff_lt, hl]
  rfl
/-- base sizes: the groups one after the other -/
theorem e_bases_G : ∀ (fuel : Nat) (n : Nat) (I I0 : CF), 5 - (n : Int) < fuel → n ≤ 5 → GX I A o ax → (∀ k, 0 ≤ k → k < 65 → I (o + 2) k = bsN A ax n k) → (∀ a : Int, (a < 36 ∨ 43 < a) → a ≠ o + 2 → I a = I0 a) →
    ∃ I', f_X1_findBases_L60 fuel (Sx I J b c) 41 o (iW (n + 1)) = some (Sx I' J b c, xv) ∧ GX I' A o ax ∧ (∀ k, 0 ≤ k → k < 65 → I' (o + 2) k = bas A ax k) ∧ ∀ a : Int, (a < 36 ∨ 43 < a) → a ≠ o + 2 → I' a = I0 a := by
  intro fuel
  induction fuel with
  | zero => intro n I I0 a1 a2; omega
  | succ fuel ih =>
    intro n I I0 a1 a2 hG hS ho2
    show ∃ I', f_X1_findBases_b60 (f_X1_findBases_L60 fuel) (Sx I J b c) 41 o (iW (n + 1)) = _ ∧ _
    have ho := hG.1.1.1
    have hA := hG.1.1.2.2.2.1
    have hP := hG.1.1.2.2.2.2.1
    have hx := hG.1.1.2.1
    by_cases hk : n = 5
    · subst hk
      refine ⟨I, ?_, hG, hS, ho2⟩
      have n0 : (5 : Int) < ((5 : Nat) : Int) + 1 := by omega
      simp (disch := first | assumption | omega) only [f_X1_findBases_b60, li0, li1, li2, li3, li4, li5, li6, li7, li8, li9, li10, li11, li12, li13, li14, li15, li16, li17, li18, li19, li20, li21, li22, li23, li24, li25, li26, li27, li28, li29, li30, li31, li32, li33, li34, li35, li36, li37, li38, li39, li40, li41, li42, li44, li48, li57, li63, li64, li65, li97, li99, li100, li101, li102, li104, li105, li106, li109, li114, li120, li128, li130, li300, li514, li999, li1000, li8192, li9999, li65536, li1000000, li1000001, li1000002, li1000003, li1000004, li1000005, li1000006, li1000007, li1000008, li1000009, li1000010, li1000011, li1000012, li1000013, li1000014, li1000015, li1000016, li1000017, li1000018, li1000019, li2147483647, lj0, lj1, W_add, W_sub, W_mul, W_neg, V_add, V_sub, V_mul, V_neg, W_ite, W_le, W_lt, W_inj, V_le, V_lt, V_inj, W_V, V_W, lgc_ge, lgc_gt, lgc_le, lgc_lt, lgc_eq, ge_iff_le, gt_iff_lt, n0, ↓reduceIte]
    · have n1 : ¬ ((5 : Int) < (n : Int) + 1) := by omega
      have hc : ((n + 1 : Nat) : Int) = (n : Int) + 1 := by omega
      have hb0 := bsN_bd hA hP (ax := ax) (by omega) (by omega) n
      obtain ⟨I1, x1, x2, x3⟩ := e_group (J := J) (b := b) (c := c) (z := o + 2) (s := 1) (q := n + 1) (g := 0) (base := fun _ => 0) (Or.inl rfl) (by omega) (Or.inl rfl) (by omega) (by omega) (fun e => by omega) hG hS (fun e => by omega) (fun k => (hb0 k).1) (fun k => by omega)
      have hG1 := hG.fr (fun a ha h2 h3 => x3 a ha (by omega))
      have hb1 : ∀ k, 0 ≤ pgr A ax 1 (n + 1) 0 (fun _ => 0) (bsN A ax n) k ∧ pgr A ax 1 (n + 1) 0 (fun _ => 0) (bsN A ax n) k ≤ 999 := fun k => by
        have h1 := pgr_bd hA hP (ax := ax) (s := 1) (q := (n : Int) + 1) (g := 0) (base := fun _ => 0) (by omega) (by omega) (Or.inl rfl) (fun k => (hb0 k).1) k
        have h2 := hb0 k
        omega
      obtain ⟨I2, y1, y2, y3⟩ := e_group (J := J) (b := b) (c := c) (z := o + 2) (s := 1) (q := n + 1) (g := 1) (base := fun _ => 0) (Or.inl rfl) (by omega) (Or.inr rfl) (by omega) (by omega) (fun e => by omega) hG1 x2 (fun e => by omega) hb1 (fun k => by omega)
      have hG2 := hG1.fr (fun a ha h2 h3 => y3 a ha (by omega))
      obtain ⟨I', k1, k2⟩ := ih (n + 1) I2 I0 (by omega) (by omega) hG2 y2 (fun a ha h2 => by rw [y3 a (by omega) (by omega), x3 a (by omega) (by omega)]; exact ho2 a ha h2)
      refine ⟨I', ?_, k2⟩
      rw [← k1, hc]
      simp (disch := first | assumption | omega) only [f_X1_findBases_b60, ↓rc41, ↓gR41_0, ↓gR41_1, ↓gR41_2, ↓aI42, ↓sI42, ↓ln42, ↓aI43, ↓sI43, ↓ln43, ↓c_I, ↓c_J, ↓c_Q, ↓c_V, ↓c_It, ↓c_Jt, ↓c_Vt, ↓k_I, ↓k_J, ↓n_I, ↓n_V, li0, li1, li2, li3, li4, li5, li6, li7, li8, li9, li10, li11, li12, li13, li14, li15, li16, li17, li18, li19, li20, li21, li22, li23, li24, li25, li26, li27, li28, li29, li30, li31, li32, li33, li34, li35, li36, li37, li38, li39, li40, li41, li42, li44, li48, li57, li63, li64, li65, li97, li99, li100, li101, li102, li104, li105, li106, li109, li114, li120, li128, li130, li300, li514, li999, li1000, li8192, li9999, li65536, li1000000, li1000001, li1000002, li1000003, li1000004, li1000005, li1000006, li1000007, li1000008, li1000009, li1000010, li1000011, li1000012, li1000013, li1000014, li1000015, li1000016, li1000017, li1000018, li1000019, li2147483647, lj0, lj1, W_add, W_sub, W_mul, W_neg, V_add, V_sub, V_mul, V_neg, W_ite, W_le, W_lt, W_inj, V_le, V_lt, V_inj, W_V, V_W, lgc_ge, lgc_gt, lgc_le, lgc_lt, lgc_eq, ge_iff_le, gt_iff_lt, n1, x1, y1, ↓reduceIte]
theorem e_bases_L : ∀ (fuel : Nat) (k : Int) (I I0 : CF), nt A ax - k + 1 < fuel → 1 ≤ k → k ≤ nt A ax + 1 → LY I A o ax → (∀ j, 0 ≤ j → j < 65 → I (o + 2) j = if j < k then bs0 A ax j else 0) → (∀ a : Int, a ≠ o + 2 → I a = I0 a) →
    ∃ I', f_X1_findBases_L10 fuel (Sx I J b c) 41 o (iW k) = some (Sx I' J b c, xv) ∧ GX I' A o ax ∧ (∀ k, 0 ≤ k → k < 65 → I' (o + 2) k = bas A ax k) ∧ ∀ a : Int, (a < 36 ∨ 43 < a) → a ≠ o + 2 → I' a = I0 a := by
  intro fuel
  induction fuel with
  | zero => intro k I I0 a1 a2 a3; omega
  | succ fuel ih =>
    intro k I I0 a1 a2 a3 hY hS ho2
    show ∃ I', f_X1_findBases_b10 (f_X1_findBases_L10 fuel) (Sx I J b c) 41 o (iW k) = _ ∧ _
    have hY' := hY
    obtain ⟨⟨ho, hx, h1, hA, hP, hM, hR⟩, h10, h12, h14, h11, h13, hcl⟩ := hY'
    have hob := isL_bd ho
    have hnt := hP.2 ax (by omega) (by omega)
    have hN := hA.1
    by_cases hk : k = nt A ax + 1
    · have n0 : nt A ax < k := by omega
      obtain ⟨I1, x1, x2, x3, x4⟩ := e_groups_L (J := J) (b := b) (c := c) (A := A) (o := o) (ax := ax) FU 0 I I (by unfold FU; omega) (by omega) (by omega) hY (fun _ _ => rfl) (fun j _ _ => by omega)
      have x1 : f_X1_findGroups (Sx I J b c) 41 o = some (Sx I1 J b c, xv) := x1
      obtain ⟨I', k1, k2, k3, k4⟩ := e_bases_G (J := J) (b := b) (c := c) (A := A) (o := o) (ax := ax) FU 0 I1 I1 (by unfold FU; omega) (by omega) ⟨x2, x4⟩ (fun j j0 j1 => by
        rw [x3 _ (by omega), hS j j0 j1]
        by_cases e : j < k
        · rw [if_pos e]
          rfl
        · rw [if_neg e]
          exact ((bs0_bd hA (ax := ax) (by omega) (by omega) j).2 (fun z => by have := z.1; omega)).symm) (fun _ _ _ => rfl)
      refine ⟨I', ?_, k2, k3, fun a ha h2 => by rw [k4 a ha h2, x3 a (by omega)]; exact ho2 a h2⟩
      have k1 : f_X1_findBases_L60 FU (Sx I1 J b c) 41 o (iW 1) = _ := k1
      rw [← k1]
      simp (disch := first | assumption | omega) only [f_X1_findBases_b10, ↓rcL, ↓gIL_0, ↓gIL_10, ↓gIL_11, ↓gIL_12, ↓gIL_13, ↓gIL_14, ↓gIL_15, ↓pIL_0, ↓pIL_10, ↓pIL_11, ↓pIL_12, ↓pIL_13, ↓pIL_14, ↓pIL_15, ↓gRL_1, ↓gRL_2, ↓gRL_3, ↓gRL_4, ↓gRL_5, ↓gRL_6, ↓gRL_7, ↓gRL_8, ↓gRL_9, ↓aIL1, ↓sZL1, ↓lnL1, ↓aIL2, ↓sIL2, ↓lnL2, ↓aIL3, ↓sIL3, ↓lnL3, ↓aIL4, ↓sIL4, ↓lnL4, ↓aIL5, ↓sIL5, ↓lnL5, ↓aIL6, ↓sIL6, ↓lnL6, ↓aIL7, ↓sIL7, ↓lnL7, ↓rc41, ↓gR41_0, ↓gR41_1, ↓gR41_2, ↓aI42, ↓sI42, ↓ln42, ↓aI43, ↓sI43, ↓ln43, ↓c_I, ↓c_J, ↓c_Q, ↓c_V, ↓c_It, ↓c_Jt, ↓c_Vt, ↓k_I, ↓k_J, ↓n_I, ↓n_V, li0, li1, li2, li3, li4, li5, li6, li7, li8, li9, li10, li11, li12, li13, li14, li15, li16, li17, li18, li19, li20, li21, li22, li23, li24, li25, li26, li27, li28, li29, li30, li31, li32, li33, li34, li35, li36, li37, li38, li39, li40, li41, li42, li44, li48, li57, li63, li64, li65, li97, li99, li100, li101, li102, li104, li105, li106, li109, li114, li120, li128, li130, li300, li514, li999, li1000, li8192, li9999, li65536, li1000000, li1000001, li1000002, li1000003, li1000004, li1000005, li1000006, li1000007, li1000008, li1000009, li1000010, li1000011, li1000012, li1000013, li1000014, li1000015, li1000016, li1000017, li1000018, li1000019, li2147483647, lj0, lj1, W_add, W_sub, W_mul, W_neg, V_add, V_sub, V_mul, V_neg, W_ite, W_le, W_lt, W_inj, V_le, V_lt, V_inj, W_V, V_W, lgc_ge, lgc_gt, lgc_le, lgc_lt, lgc_eq, ge_iff_le, gt_iff_lt, h10, n0, x1, ↓reduceIte]
    · have n1 : ¬ (nt A ax < k) := by omega
      have e1 := e_isOpen (J := J) (b := b) (c := c) hY (k := k) a2 (by omega)
      have e2 := e_part (J := J) (b := b) (c := c) hY.1 (k := k) (p := 0) a2 (by omega) (by omega) (by omega)
      have e3 := e_part (J := J) (b := b) (c := c) hY.1 (k := k) (p := 1) a2 (by omega) (by omega) (by omega)
      have hpt := tpt_ok hA (ax := ax) (by omega) (by omega) a2
      by_cases hq : opn A ax k ∧ tpt A ax k 0 = 0
      · obtain ⟨I', k1, k2⟩ := ih (k + 1) (uI I (o + 2) k (tpt A ax k 1)) I0 (by omega) (by omega) (by omega) (hY.fr (fun j _ _ => by rw [u_obj (by omega)]) (u_obj (by omega)) (fun a ha => u_obj (by omega))) (fun j j0 j1 => by
          rw [u_at]
          by_cases e : j = k
          · rw [if_pos e, if_pos (by omega), e]
            exact (cif_pos hq).symm
          · rw [if_neg e, hS j j0 j1]
            by_cases e2 : j < k
            · rw [if_pos e2, if_pos (by omega)]
            · rw [if_neg e2, if_neg (by omega)]) (fun a ha => by rw [u_obj ha]; exact ho2 a ha)
        refine ⟨I', ?_, k2⟩
        rw [← k1]
        rw [bb_pos hq.1] at e1
        have q2 := hq.2
        simp (disch := first | assumption | omega) only [f_X1_findBases_b10, f_X1_findBases_b47, ↓rcL, ↓gIL_0, ↓gIL_10, ↓gIL_11, ↓gIL_12, ↓gIL_13, ↓gIL_14, ↓gIL_15, ↓pIL_0, ↓pIL_10, ↓pIL_11, ↓pIL_12, ↓pIL_13, ↓pIL_14, ↓pIL_15, ↓gRL_1, ↓gRL_2, ↓gRL_3, ↓gRL_4, ↓gRL_5, ↓gRL_6, ↓gRL_7, ↓gRL_8, ↓gRL_9, ↓aIL1, ↓sZL1, ↓lnL1, ↓aIL2, ↓sIL2, ↓lnL2, ↓aIL3, ↓sIL3, ↓lnL3, ↓aIL4, ↓sIL4, ↓lnL4, ↓aIL5, ↓sIL5, ↓lnL5, ↓aIL6, ↓sIL6, ↓lnL6, ↓aIL7, ↓sIL7, ↓lnL7, ↓rc41, ↓gR41_0, ↓gR41_1, ↓gR41_2, ↓aI42, ↓sI42, ↓ln42, ↓aI43, ↓sI43, ↓ln43, ↓c_I, ↓c_J, ↓c_Q, ↓c_V, ↓c_It, ↓c_Jt, ↓c_Vt, ↓k_I, ↓k_J, ↓n_I, ↓n_V, li0, li1, li2, li3, li4, li5, li6, li7, li8, li9, li10, li11, li12, li13, li14, li15, li16, li17, li18, li19, li20, li21, li22, li23, li24, li25, li26, li27, li28, li29, li30, li31, li32, li33, li34, li35, li36, li37, li38, li39, li40, li41, li42, li44, li48, li57, li63, li64, li65, li97, li99, li100, li101, li102, li104, li105, li106, li109, li114, li120, li128, li130, li300, li514, li999, li1000, li8192, li9999, li65536, li1000000, li1000001, li1000002, li1000003, li1000004, li1000005, li1000006, li1000007, li1000008, li1000009, li1000010, li1000011, li1000012, li1000013, li1000014, li1000015, li1000016, li1000017, li1000018, li1000019, li2147483647, lj0, lj1, W_add, W_sub, W_mul, W_neg, V_add, V_sub, V_mul, V_neg, W_ite, W_le, W_lt, W_inj, V_le, V_lt, V_inj, W_V, V_W, lgc_ge, lgc_gt, lgc_le, lgc_lt, lgc_eq, ge_iff_le, gt_iff_lt, h10, n1, e1, e2, e3, q2, Int.reduceEq, ↓reduceIte]
      · obtain ⟨I', k1, k2⟩ := ih (k + 1) I I0 (by omega) (by omega) (by omega) hY (fun j j0 j1 => by
          rw [hS j j0 j1]
          by_cases e : j = k
          · rw [if_neg (by omega), if_pos (by omega), e]
            exact (cif_neg hq).symm
          · by_cases e2 : j < k
            · rw [if_pos e2, if_pos (by omega)]
            · rw [if_neg e2, if_neg (by omega)]) ho2
        refine ⟨I', ?_, k2⟩
        rw [← k1]
        by_cases q1 : opn A ax k
        · have q2 : ¬ tpt A ax k 0 = 0 := fun z => hq ⟨q1, z⟩
          rw [bb_pos q1] at e1
          simp (disch := first | assumption | omega) only [f_X1_findBases_b10, f_X1_findBases_b47, ↓rcL, ↓gIL_0, ↓gIL_10, ↓gIL_11, ↓gIL_12, ↓gIL_13, ↓gIL_14, ↓gIL_15, ↓pIL_0, ↓pIL_10, ↓pIL_11, ↓pIL_12, ↓pIL_13, ↓pIL_14, ↓pIL_15, ↓gRL_1, ↓gRL_2, ↓gRL_3, ↓gRL_4, ↓gRL_5, ↓gRL_6, ↓gRL_7, ↓gRL_8, ↓gRL_9, ↓aIL1, ↓sZL1, ↓lnL1, ↓aIL2, ↓sIL2, ↓lnL2, ↓aIL3, ↓sIL3, ↓lnL3, ↓aIL4, ↓sIL4, ↓lnL4, ↓aIL5, ↓sIL5, ↓lnL5, ↓aIL6, ↓sIL6, ↓lnL6, ↓aIL7, ↓sIL7, ↓lnL7, ↓rc41, ↓gR41_0, ↓gR41_1, ↓gR41_2, ↓aI42, ↓sI42, ↓ln42, ↓aI43, ↓sI43, ↓ln43, ↓c_I, ↓c_J, ↓c_Q, ↓c_V, ↓c_It, ↓c_Jt, ↓c_Vt, ↓k_I, ↓k_J, ↓n_I, ↓n_V, li0, li1, li2, li3, li4, li5, li6, li7, li8, li9, li10, li11, li12, li13, li14, li15, li16, li17, li18, li19, li20, li21, li22, li23, li24, li25, li26, li27, li28, li29, li30, li31, li32, li33, li34, li35, li36, li37, li38, li39, li40, li41, li42, li44, li48, li57, li63, li64, li65, li97, li99, li100, li101, li102, li104, li105, li106, li109, li114, li120, li128, li130, li300, li514, li999, li1000, li8192, li9999, li65536, li1000000, li1000001, li1000002, li1000003, li1000004, li1000005, li1000006, li1000007, li1000008, li1000009, li1000010, li1000011, li1000012, li1000013, li1000014, li1000015, li1000016, li1000017, li1000018, li1000019, li2147483647, lj0, lj1, W_add, W_sub, W_mul, W_neg, V_add, V_sub, V_mul, V_neg, W_ite, W_le, W_lt, W_inj, V_le, V_lt, V_inj, W_V, V_W, lgc_ge, lgc_gt, lgc_le, lgc_lt, lgc_eq, ge_iff_le, gt_iff_lt, h10, n1, e1, e2, q2, Int.reduceEq, ↓reduceIte]
        · rw [bb_neg q1] at e1
          simp (disch := first | assumption | omega) only [f_X1_findBases_b10, f_X1_findBases_b47, ↓rcL, ↓gIL_0, ↓gIL_10, ↓gIL_11, ↓gIL_12, ↓gIL_13, ↓gIL_14, ↓gIL_15, ↓pIL_0, ↓pIL_10, ↓pIL_11, ↓pIL_12, ↓pIL_13, ↓pIL_14, ↓pIL_15, ↓gRL_1, ↓gRL_2, ↓gRL_3, ↓gRL_4, ↓gRL_5, ↓gRL_6, ↓gRL_7, ↓gRL_8, ↓gRL_9, ↓aIL1, ↓sZL1, ↓lnL1, ↓aIL2, ↓sIL2, ↓lnL2, ↓aIL3, ↓sIL3, ↓lnL3, ↓aIL4, ↓sIL4, ↓lnL4, ↓aIL5, ↓sIL5, ↓lnL5, ↓aIL6, ↓sIL6, ↓lnL6, ↓aIL7, ↓sIL7, ↓lnL7, ↓rc41, ↓gR41_0, ↓gR41_1, ↓gR41_2, ↓aI42, ↓sI42, ↓ln42, ↓aI43, ↓sI43, ↓ln43, ↓c_I, ↓c_J, ↓c_Q, ↓c_V, ↓c_It, ↓c_Jt, ↓c_Vt, ↓k_I, ↓k_J, ↓n_I, ↓n_V, li0, li1, li2, li3, li4, li5, li6, li7, li8, li9, li10, li11, li12, li13, li14, li15, li16, li17, li18, li19, li20, li21, li22, li23, li24, li25, li26, li27, li28, li29, li30, li31, li32, li33, li34, li35, li36, li37, li38, li39, li40, li41, li42, li44, li48, li57, li63, li64, li65, li97, li99, li100, li101, li102, li104, li105, li106, li109, li114, li120, li128, li130, li300, li514, li999, li1000, li8192, li9999, li65536, li1000000, li1000001, li1000002, li1000003, li1000004, li1000005, li1000006, li1000007, li1000008, li1000009, li1000010, li1000011, li1000012, li1000013, li1000014, li1000015, li1000016, li1000017, li1000018, li1000019, li2147483647, lj0, lj1, W_add, W_sub, W_mul, W_neg, V_add, V_sub, V_mul, V_neg, W_ite, W_le, W_lt, W_inj, V_le, V_lt, V_inj, W_V, V_W, lgc_ge, lgc_gt, lgc_le, lgc_lt, lgc_eq, ge_iff_le, gt_iff_lt, h10, n1, e1, ↓reduceIte]
theorem e_bases {I : CF} (hY : LY I A o ax) : ∃ I', f_X1_findBases (Sx I J b c) 41 o = some (Sx I' J b c, xv) ∧ GX I' A o ax ∧ (∀ k, 0 ≤ k → k < 65 → I' (o + 2) k = bas A ax k) ∧ ∀ a : Int, (a < 36 ∨ 43 < a) → a ≠ o + 2 → I' a = I a := by
  have hY' := hY
  obtain ⟨⟨ho, hx, h1, hA, hP, hM, hR⟩, -⟩ := hY'
  have hob := isL_bd ho
  have hnt := hP.2 ax (by omega) (by omega)
  obtain ⟨I1, x1, x2, x3⟩ := e_fill (I := I) (J := J) (b := b) (c := c) (z := o + 2) (shL2 ho)
  have hz : ((o + 2 : Nat) : Int) = o + 2 := by omega
  rw [hz] at x2 x3
  obtain ⟨I', k1, k2, k3, k4⟩ := e_bases_L (J := J) (b := b) (c := c) (A := A) (o := o) (ax := ax) FU 1 I1 I1 (by unfold FU; omega) (by omega) (by omega) (hY.fr (fun j _ _ => by rw [x3 _ (by omega)]) (x3 _ (by omega)) (fun a ha => x3 a (by omega))) (fun j j0 j1 => by
    rw [x2 j j0 j1]
    by_cases e : j < 1
    · rw [if_pos e]
      exact ((bs0_bd hA (ax := ax) (by omega) (by omega) j).2 (fun z => by have := z.1; omega)).symm
    · rw [if_neg e]) (fun _ _ => rfl)
  refine ⟨I', ?_, k2, k3, fun a ha h2 => by rw [k4 a ha h2, x3 a h2]⟩
  rw [← k1]
  simp (disch := first | assumption | omega) only [f_X1_findBases, ↓rcL, ↓gIL_0, ↓gIL_10, ↓gIL_11, ↓gIL_12, ↓gIL_13, ↓gIL_14, ↓gIL_15, ↓pIL_0, ↓pIL_10, ↓pIL_11, ↓pIL_12, ↓pIL_13, ↓pIL_14, ↓pIL_15, ↓gRL_1, ↓gRL_2, ↓gRL_3, ↓gRL_4, ↓gRL_5, ↓gRL_6, ↓gRL_7, ↓gRL_8, ↓gRL_9, ↓aIL1, ↓sZL1, ↓lnL1, ↓aIL2, ↓sIL2, ↓lnL2, ↓aIL3, ↓sIL3, ↓lnL3, ↓aIL4, ↓sIL4, ↓lnL4, ↓aIL5, ↓sIL5, ↓lnL5, ↓aIL6, ↓sIL6, ↓lnL6, ↓aIL7, ↓sIL7, ↓lnL7, ↓rc41, ↓gR41_0, ↓gR41_1, ↓gR41_2, ↓aI42, ↓sI42, ↓ln42, ↓aI43, ↓sI43, ↓ln43, ↓c_I, ↓c_J, ↓c_Q, ↓c_V, ↓c_It, ↓c_Jt, ↓c_Vt, ↓k_I, ↓k_J, ↓n_I, ↓n_V, li0, li1, li2, li3, li4, li5, li6, li7, li8, li9, li10, li11, li12, li13, li14, li15, li16, li17, li18, li19, li20, li21, li22, li23, li24, li25, li26, li27, li28, li29, li30, li31, li32, li33, li34, li35, li36, li37, li38, li39, li40, li41, li42, li44, li48, li57, li63, li64, li65, li97, li99, li100, li101, li102, li104, li105, li106, li109, li114, li120, li128, li130, li300, li514, li999, li1000, li8192, li9999, li65536, li1000000, li1000001, li1000002, li1000003, li1000004, li1000005, li1000006, li1000007, li1000008, li1000009, li1000010, li1000011, li1000012, li1000013, li1000014, li1000015, li1000016, li1000017, li1000018, li1000019, li2147483647, lj0, lj1, W_add, W_sub, W_mul, W_neg, V_add, V_sub, V_mul, V_neg, W_ite, W_le, W_lt, W_inj, V_le, V_lt, V_inj, W_V, V_W, lgc_ge, lgc_gt, lgc_le, lgc_lt, lgc_eq, ge_iff_le, gt_iff_lt, x1]
/-- limits -/
theorem e_limits_G : ∀ (fuel : Nat) (n : Nat) (I I0 : CF), 4 - (n : Int) < fuel → n ≤ 4 → GX I A o ax → (∀ k, 0 ≤ k → k < 65 → I (o + 2) k = bas A ax k) → (∀ k, 0 ≤ k → k < 65 → I (o + 3) k = lmN A ax n k) → (∀ a : Int, (a < 36 ∨ 43 < a) → a ≠ o + 3 → I a = I0 a) →
    ∃ I', f_X1_findLimits_L76 fuel (Sx I J b c) 41 o (iW (n + 1)) = some (Sx I' J b c, xv) ∧ GX I' A o ax ∧ (∀ k, 0 ≤ k → k < 65 → I' (o + 2) k = bas A ax k) ∧ (∀ k, 0 ≤ k → k < 65 → I' (o + 3) k = lim A ax k) ∧ ∀ a : Int, (a < 36 ∨ 43 < a) → a ≠ o + 3 → I' a = I0 a := by
  intro fuel
  induction fuel with
  | zero => intro n I I0 a1 a2; omega
  | succ fuel ih =>
    intro n I I0 a1 a2 hG hB hS ho2
    show ∃ I', f_X1_findLimits_b76 (f_X1_findLimits_L76 fuel) (Sx I J b c) 41 o (iW (n + 1)) = _ ∧ _
    have ho := hG.1.1.1
    have hob := isL_bd ho
    have hA := hG.1.1.2.2.2.1
    have hP := hG.1.1.2.2.2.2.1
    have hx := hG.1.1.2.1
    by_cases hk : n = 4
    · subst hk
      refine ⟨I, ?_, hG, hB, hS, ho2⟩
      have n0 : (5 : Int) ≤ ((4 : Nat) : Int) + 1 := by omega
      simp (disch := first | assumption | omega) only [f_X1_findLimits_b76, li0, li1, li2, li3, li4, li5, li6, li7, li8, li9, li10, li11, li12, li13, li14, li15, li16, li17, li18, li19, li20, li21, li22, li23, li24, li25, li26, li27, li28, li29, li30, li31, li32, li33, li34, li35, li36, li37, li38, li39, li40, li41, li42, li44, li48, li57, li63, li64, li65, li97, li99, li100, li101, li102, li104, li105, li106, li109, li114, li120, li128, li130, li300, li514, li999, li1000, li8192, li9999, li65536, li1000000, li1000001, li1000002, li1000003, li1000004, li1000005, li1000006, li1000007, li1000008, li1000009, li1000010, li1000011, li1000012, li1000013, li1000014, li1000015, li1000016, li1000017, li1000018, li1000019, li2147483647, lj0, lj1, W_add, W_sub, W_mul, W_neg, V_add, V_sub, V_mul, V_neg, W_ite, W_le, W_lt, W_inj, V_le, V_lt, V_inj, W_V, V_W, lgc_ge, lgc_gt, lgc_le, lgc_lt, lgc_eq, ge_iff_le, gt_iff_lt, n0, ↓reduceIte]
    · have n1 : ¬ ((5 : Int) ≤ (n : Int) + 1) := by omega
      have hc : ((n + 1 : Nat) : Int) = (n : Int) + 1 := by omega
      have hb0 := lmN_bd hA hP (ax := ax) (by omega) (by omega) n
      have hbb := fun k => (bas_bd hA hP (ax := ax) (by omega) (by omega) k).1
      obtain ⟨I1, x1, x2, x3⟩ := e_group (J := J) (b := b) (c := c) (z := o + 3) (s := 2) (q := n + 1) (g := 0) (base := bas A ax) (Or.inr rfl) (by omega) (Or.inl rfl) (by omega) (by omega) (fun e => by omega) hG hS (fun e => hB) (fun k => (hb0 k).1) hbb
      have hG1 := hG.fr (fun a ha h2 h3 => x3 a ha (by omega))
      have hB1 : ∀ k, 0 ≤ k → k < 65 → I1 (o + 2) k = bas A ax k := by rw [x3 (o + 2) (by omega) (by omega)]; exact hB
      have hb1 : ∀ k, 0 ≤ pgr A ax 2 (n + 1) 0 (bas A ax) (lmN A ax n) k ∧ pgr A ax 2 (n + 1) 0 (bas A ax) (lmN A ax n) k ≤ 999 := fun k => by
        have h1 := pgr_bd hA hP (ax := ax) (s := 2) (q := (n : Int) + 1) (g := 0) (base := bas A ax) (by omega) (by omega) (Or.inl rfl) (fun k => (hb0 k).1) k
        have h2 := hb0 k
        omega
      obtain ⟨I2, y1, y2, y3⟩ := e_group (J := J) (b := b) (c := c) (z := o + 3) (s := 2) (q := n + 1) (g := 1) (base := bas A ax) (Or.inr rfl) (by omega) (Or.inr rfl) (by omega) (by omega) (fun e => by omega) hG1 x2 (fun e => hB1) hb1 hbb
      have hG2 := hG1.fr (fun a ha h2 h3 => y3 a ha (by omega))
      obtain ⟨I', k1, k2⟩ := ih (n + 1) I2 I0 (by omega) (by omega) hG2 (by rw [y3 (o + 2) (by omega) (by omega)]; exact hB1) y2 (fun a ha h2 => by rw [y3 a (by omega) (by omega), x3 a (by omega) (by omega)]; exact ho2 a ha h2)
      refine ⟨I', ?_, k2⟩
      rw [← k1, hc]
      simp (disch := first | assumption | omega) only [f_X1_findLimits_b76, ↓rc41, ↓gR41_0, ↓gR41_1, ↓gR41_2, ↓aI42, ↓sI42, ↓ln42, ↓aI43, ↓sI43, ↓ln43, ↓c_I, ↓c_J, ↓c_Q, ↓c_V, ↓c_It, ↓c_Jt, ↓c_Vt, ↓k_I, ↓k_J, ↓n_I, ↓n_V, li0, li1, li2, li3, li4, li5, li6, li7, li8, li9, li10, li11, li12, li13, li14, li15, li16, li17, li18, li19, li20, li21, li22, li23, li24, li25, li26, li27, li28, li29, li30, li31, li32, li33, li34, li35, li36, li37, li38, li39, li40, li41, li42, li44, li48, li57, li63, li64, li65, li97, li99, li100, li101, li102, li104, li105, li106, li109, li114, li120, li128, li130, li300, li514, li999, li1000, li8192, li9999, li65536, li1000000, li1000001, li1000002, li1000003, li1000004, li1000005, li1000006, li1000007, li1000008, li1000009, li1000010, li1000011, li1000012, li1000013, li1000014, li1000015, li1000016, li1000017, li1000018, li1000019, li2147483647, lj0, lj1, W_add, W_sub, W_mul, W_neg, V_add, V_sub, V_mul, V_neg, W_ite, W_le, W_lt, W_inj, V_le, V_lt, V_inj, W_V, V_W, lgc_ge, lgc_gt, lgc_le, lgc_lt, lgc_eq, ge_iff_le, gt_iff_lt, n1, x1, y1, ↓reduceIte]
theorem e_limits_L : ∀ (fuel : Nat) (k : Int) (I I0 : CF), nt A ax - k + 1 < fuel → 1 ≤ k → k ≤ nt A ax + 1 → GX I A o ax → (∀ k, 0 ≤ k → k < 65 → I (o + 2) k = bas A ax k) → (∀ j, 0 ≤ j → j < 65 → I (o + 3) j = if j < k then lm0 A ax j else bas A ax j) → (∀ a : Int, a ≠ o + 3 → I a = I0 a) →
    ∃ I', f_X1_findLimits_L20 fuel (Sx I J b c) 41 o (iW k) = some (Sx I' J b c, xv) ∧ GX I' A o ax ∧ (∀ k, 0 ≤ k → k < 65 → I' (o + 2) k = bas A ax k) ∧ (∀ k, 0 ≤ k → k < 65 → I' (o + 3) k = lim A ax k) ∧ ∀ a : Int, (a < 36 ∨ 43 < a) → a ≠ o + 3 → I' a = I0 a := by
  intro fuel
  induction fuel with
  | zero => intro k I I0 a1 a2 a3; omega
  | succ fuel ih =>
    intro k I I0 a1 a2 a3 hG hB hS ho2
    show ∃ I', f_X1_findLimits_b20 (f_X1_findLimits_L20 fuel) (Sx I J b c) 41 o (iW k) = _ ∧ _
    have hY := hG.1
    have hY' := hY
    obtain ⟨⟨ho, hx, h1, hA, hP, hM, hR⟩, h10, h12, h14, h11, h13, hcl⟩ := hY'
    have hob := isL_bd ho
    have hnt := hP.2 ax (by omega) (by omega)
    have hN := hA.1
    by_cases hk : k = nt A ax + 1
    · have n0 : nt A ax < k := by omega
      obtain ⟨I', k1, k2, k3, k4, k5⟩ := e_limits_G (J := J) (b := b) (c := c) (A := A) (o := o) (ax := ax) FU 0 I I (by unfold FU; omega) (by omega) hG hB (fun j j0 j1 => by
        rw [hS j j0 j1]
        by_cases e : j < k
        · rw [if_pos e]
          rfl
        · rw [if_neg e]
          exact (cif_neg (fun z => by have := z.1.1; omega)).symm) (fun _ _ _ => rfl)
      refine ⟨I', ?_, k2, k3, k4, fun a ha h2 => by rw [k5 a ha h2]; exact ho2 a h2⟩
      have k1 : f_X1_findLimits_L76 FU (Sx I J b c) 41 o (iW 1) = _ := k1
      rw [← k1]
      simp (disch := first | assumption | omega) only [f_X1_findLimits_b20, ↓rcL, ↓gIL_0, ↓gIL_10, ↓gIL_11, ↓gIL_12, ↓gIL_13, ↓gIL_14, ↓gIL_15, ↓pIL_0, ↓pIL_10, ↓pIL_11, ↓pIL_12, ↓pIL_13, ↓pIL_14, ↓pIL_15, ↓gRL_1, ↓gRL_2, ↓gRL_3, ↓gRL_4, ↓gRL_5, ↓gRL_6, ↓gRL_7, ↓gRL_8, ↓gRL_9, ↓aIL1, ↓sZL1, ↓lnL1, ↓aIL2, ↓sIL2, ↓lnL2, ↓aIL3, ↓sIL3, ↓lnL3, ↓aIL4, ↓sIL4, ↓lnL4, ↓aIL5, ↓sIL5, ↓lnL5, ↓aIL6, ↓sIL6, ↓lnL6, ↓aIL7, ↓sIL7, ↓lnL7, ↓rc41, ↓gR41_0, ↓gR41_1, ↓gR41_2, ↓aI42, ↓sI42, ↓ln42, ↓aI43, ↓sI43, ↓ln43, ↓c_I, ↓c_J, ↓c_Q, ↓c_V, ↓c_It, ↓c_Jt, ↓c_Vt, ↓k_I, ↓k_J, ↓n_I, ↓n_V, li0, li1, li2, li3, li4, li5, li6, li7, li8, li9, li10, li11, li12, li13, li14, li15, li16, li17, li18, li19, li20, li21, li22, li23, li24, li25, li26, li27, li28, li29, li30, li31, li32, li33, li34, li35, li36, li37, li38, li39, li40, li41, li42, li44, li48, li57, li63, li64, li65, li97, li99, li100, li101, li102, li104, li105, li106, li109, li114, li120, li128, li130, li300, li514, li999, li1000, li8192, li9999, li65536, li1000000, li1000001, li1000002, li1000003, li1000004, li1000005, li1000006, li1000007, li1000008, li1000009, li1000010, li1000011, li1000012, li1000013, li1000014, li1000015, li1000016, li1000017, li1000018, li1000019, li2147483647, lj0, lj1, W_add, W_sub, W_mul, W_neg, V_add, V_sub, V_mul, V_neg, W_ite, W_le, W_lt, W_inj, V_le, V_lt, V_inj, W_V, V_W, lgc_ge, lgc_gt, lgc_le, lgc_lt, lgc_eq, ge_iff_le, gt_iff_lt, h10, n0, ↓reduceIte]
    · have n1 : ¬ (nt A ax < k) := by omega
      have e1 := e_isOpen (J := J) (b := b) (c := c) hY (k := k) a2 (by omega)
      have e2 := e_part (J := J) (b := b) (c := c) hY.1 (k := k) (p := 2) a2 (by omega) (by omega) (by omega)
      have e3 := e_part (J := J) (b := b) (c := c) hY.1 (k := k) (p := 3) a2 (by omega) (by omega) (by omega)
      have hpt := tpt_ok hA (ax := ax) (by omega) (by omega) a2
      have hbk := hB k (by omega) (by omega)
      have hbb := bas_bd hA hP (ax := ax) (by omega) (by omega) k
      by_cases hq : opn A ax k ∧ tpt A ax k 2 = 0
      · obtain ⟨I', k1, k2⟩ := ih (k + 1) (uI I (o + 3) k (max (bas A ax k) (tpt A ax k 3))) I0 (by omega) (by omega) (by omega) (hG.fr (fun a ha h2 h3 => u_obj h3)) (by rw [u_obj (by omega)]; exact hB) (fun j j0 j1 => by
          rw [u_at]
          by_cases e : j = k
          · rw [if_pos e, if_pos (by omega), e]
            exact (cif_pos hq).symm
          · rw [if_neg e, hS j j0 j1]
            by_cases e2 : j < k
            · rw [if_pos e2, if_pos (by omega)]
            · rw [if_neg e2, if_neg (by omega)]) (fun a ha => by rw [u_obj ha]; exact ho2 a ha)
        refine ⟨I', ?_, k2⟩
        rw [← k1]
        rw [bb_pos hq.1] at e1
        have q2 := hq.2
        have hmax : (if bas A ax k < tpt A ax k 3 then tpt A ax k 3 else bas A ax k) = max (bas A ax k) (tpt A ax k 3) := by split <;> omega
        simp (disch := first | assumption | omega) only [f_X1_findLimits_b20, f_X1_findLimits_b68, ↓rcL, ↓gIL_0, ↓gIL_10, ↓gIL_11, ↓gIL_12, ↓gIL_13, ↓gIL_14, ↓gIL_15, ↓pIL_0, ↓pIL_10, ↓pIL_11, ↓pIL_12, ↓pIL_13, ↓pIL_14, ↓pIL_15, ↓gRL_1, ↓gRL_2, ↓gRL_3, ↓gRL_4, ↓gRL_5, ↓gRL_6, ↓gRL_7, ↓gRL_8, ↓gRL_9, ↓aIL1, ↓sZL1, ↓lnL1, ↓aIL2, ↓sIL2, ↓lnL2, ↓aIL3, ↓sIL3, ↓lnL3, ↓aIL4, ↓sIL4, ↓lnL4, ↓aIL5, ↓sIL5, ↓lnL5, ↓aIL6, ↓sIL6, ↓lnL6, ↓aIL7, ↓sIL7, ↓lnL7, ↓rc41, ↓gR41_0, ↓gR41_1, ↓gR41_2, ↓aI42, ↓sI42, ↓ln42, ↓aI43, ↓sI43, ↓ln43, ↓c_I, ↓c_J, ↓c_Q, ↓c_V, ↓c_It, ↓c_Jt, ↓c_Vt, ↓k_I, ↓k_J, ↓n_I, ↓n_V, li0, li1, li2, li3, li4, li5, li6, li7, li8, li9, li10, li11, li12, li13, li14, li15, li16, li17, li18, li19, li20, li21, li22, li23, li24, li25, li26, li27, li28, li29, li30, li31, li32, li33, li34, li35, li36, li37, li38, li39, li40, li41, li42, li44, li48, li57, li63, li64, li65, li97, li99, li100, li101, li102, li104, li105, li106, li109, li114, li120, li128, li130, li300, li514, li999, li1000, li8192, li9999, li65536, li1000000, li1000001, li1000002, li1000003, li1000004, li1000005, li1000006, li1000007, li1000008, li1000009, li1000010, li1000011, li1000012, li1000013, li1000014, li1000015, li1000016, li1000017, li1000018, li1000019, li2147483647, lj0, lj1, W_add, W_sub, W_mul, W_neg, V_add, V_sub, V_mul, V_neg, W_ite, W_le, W_lt, W_inj, V_le, V_lt, V_inj, W_V, V_W, lgc_ge, lgc_gt, lgc_le, lgc_lt, lgc_eq, ge_iff_le, gt_iff_lt, h10, n1, e1, e2, e3, q2, hbk, hmax, Int.reduceEq, ↓reduceIte]
      · obtain ⟨I', k1, k2⟩ := ih (k + 1) I I0 (by omega) (by omega) (by omega) hG hB (fun j j0 j1 => by
          rw [hS j j0 j1]
          by_cases e : j = k
          · rw [if_neg (by omega), if_pos (by omega), e]
            exact (cif_neg hq).symm
          · by_cases e2 : j < k
            · rw [if_pos e2, if_pos (by omega)]
            · rw [if_neg e2, if_neg (by omega)]) ho2
        refine ⟨I', ?_, k2⟩
        rw [← k1]
        by_cases q1 : opn A ax k
        · have q2 : ¬ tpt A ax k 2 = 0 := fun z => hq ⟨q1, z⟩
          rw [bb_pos q1] at e1
          simp (disch := first | assumption | omega) only [f_X1_findLimits_b20, f_X1_findLimits_b68, ↓rcL, ↓gIL_0, ↓gIL_10, ↓gIL_11, ↓gIL_12, ↓gIL_13, ↓gIL_14, ↓gIL_15, ↓pIL_0, ↓pIL_10, ↓pIL_11, ↓pIL_12, ↓pIL_13, ↓pIL_14, ↓pIL_15, ↓gRL_1, ↓gRL_2, ↓gRL_3, ↓gRL_4, ↓gRL_5, ↓gRL_6, ↓gRL_7, ↓gRL_8, ↓gRL_9, ↓aIL1, ↓sZL1, ↓lnL1, ↓aIL2, ↓sIL2, ↓lnL2, ↓aIL3, ↓sIL3, ↓lnL3, ↓aIL4, ↓sIL4, ↓lnL4, ↓aIL5, ↓sIL5, ↓lnL5, ↓aIL6, ↓sIL6, ↓lnL6, ↓aIL7, ↓sIL7, ↓lnL7, ↓rc41, ↓gR41_0, ↓gR41_1, ↓gR41_2, ↓aI42, ↓sI42, ↓ln42, ↓aI43, ↓sI43, ↓ln43, ↓c_I, ↓c_J, ↓c_Q, ↓c_V, ↓c_It, ↓c_Jt, ↓c_Vt, ↓k_I, ↓k_J, ↓n_I, ↓n_V, li0, li1, li2, li3, li4, li5, li6, li7, li8, li9, li10, li11, li12, li13, li14, li15, li16, li17, li18, li19, li20, li21, li22, li23, li24, li25, li26, li27, li28, li29, li30, li31, li32, li33, li34, li35, li36, li37, li38, li39, li40, li41, li42, li44, li48, li57, li63, li64, li65, li97, li99, li100, li101, li102, li104, li105, li106, li109, li114, li120, li128, li130, li300, li514, li999, li1000, li8192, li9999, li65536, li1000000, li1000001, li1000002, li1000003, li1000004, li1000005, li1000006, li1000007, li1000008, li1000009, li1000010, li1000011, li1000012, li1000013, li1000014, li1000015, li1000016, li1000017, li1000018, li1000019, li2147483647, lj0, lj1, W_add, W_sub, W_mul, W_neg, V_add, V_sub, V_mul, V_neg, W_ite, W_le, W_lt, W_inj, V_le, V_lt, V_inj, W_V, V_W, lgc_ge, lgc_gt, lgc_le, lgc_lt, lgc_eq, ge_iff_le, gt_iff_lt, h10, n1, e1, e2, q2, Int.reduceEq, ↓reduceIte]
        · rw [bb_neg q1] at e1
          simp (disch := first | assumption | omega) only [f_X1_findLimits_b20, f_X1_findLimits_b68, ↓rcL, ↓gIL_0, ↓gIL_10, ↓gIL_11, ↓gIL_12, ↓gIL_13, ↓gIL_14, ↓gIL_15, ↓pIL_0, ↓pIL_10, ↓pIL_11, ↓pIL_12, ↓pIL_13, ↓pIL_14, ↓pIL_15, ↓gRL_1, ↓gRL_2, ↓gRL_3, ↓gRL_4, ↓gRL_5, ↓gRL_6, ↓gRL_7, ↓gRL_8, ↓gRL_9, ↓aIL1, ↓sZL1, ↓lnL1, ↓aIL2, ↓sIL2, ↓lnL2, ↓aIL3, ↓sIL3, ↓lnL3, ↓aIL4, ↓sIL4, ↓lnL4, ↓aIL5, ↓sIL5, ↓lnL5, ↓aIL6, ↓sIL6, ↓lnL6, ↓aIL7, ↓sIL7, ↓lnL7, ↓rc41, ↓gR41_0, ↓gR41_1, ↓gR41_2, ↓aI42, ↓sI42, ↓ln42, ↓aI43, ↓sI43, ↓ln43, ↓c_I, ↓c_J, ↓c_Q, ↓c_V, ↓c_It, ↓c_Jt, ↓c_Vt, ↓k_I, ↓k_J, ↓n_I, ↓n_V, li0, li1, li2, li3, li4, li5, li6, li7, li8, li9, li10, li11, li12, li13, li14, li15, li16, li17, li18, li19, li20, li21, li22, li23, li24, li25, li26, li27, li28, li29, li30, li31, li32, li33, li34, li35, li36, li37, li38, li39, li40, li41, li42, li44, li48, li57, li63, li64, li65, li97, li99, li100, li101, li102, li104, li105, li106, li109, li114, li120, li128, li130, li300, li514, li999, li1000, li8192, li9999, li65536, li1000000, li1000001, li1000002, li1000003, li1000004, li1000005, li1000006, li1000007, li1000008, li1000009, li1000010, li1000011, li1000012, li1000013, li1000014, li1000015, li1000016, li1000017, li1000018, li1000019, li2147483647, lj0, lj1, W_add, W_sub, W_mul, W_neg, V_add, V_sub, V_mul, V_neg, W_ite, W_le, W_lt, W_inj, V_le, V_lt, V_inj, W_V, V_W, lgc_ge, lgc_gt, lgc_le, lgc_lt, lgc_eq, ge_iff_le, gt_iff_lt, h10, n1, e1, ↓reduceIte]
theorem e_limits {I : CF} (hG : GX I A o ax) (hB : ∀ k, 0 ≤ k → k < 65 → I (o + 2) k = bas A ax k) : ∃ I', f_X1_findLimits (Sx I J b c) 41 o = some (Sx I' J b c, xv) ∧ LY I' A o ax ∧ (∀ k, 0 ≤ k → k < 65 → I' (o + 2) k = bas A ax k) ∧ (∀ k, 0 ≤ k → k < 65 → I' (o + 3) k = lim A ax k) ∧ ∀ a : Int, (a < 36 ∨ 43 < a) → a ≠ o + 3 → I' a = I a := by
  have ho := hG.1.1.1
  have hob := isL_bd ho
  have hP := hG.1.1.2.2.2.2.1
  have hA := hG.1.1.2.2.2.1
  have hx := hG.1.1.2.1
  have hnt := hP.2 ax (by omega) (by omega)
  have hz : ((o + 3 : Nat) : Int) = o + 3 := by omega
  have hz2 : ((o + 2 : Nat) : Int) = o + 2 := by omega
  obtain ⟨I', k1, k2, k3, k4, k5⟩ := e_limits_L (J := J) (b := b) (c := c) (A := A) (o := o) (ax := ax) FU 1 (cpf I (o + 2) 0 (o + 3) 0 65) (cpf I (o + 2) 0 (o + 3) 0 65) (by unfold FU; omega) (by omega) (by omega) (hG.fr (fun a ha h2 h3 => cp_obj h3)) (by rw [cp_obj (by omega)]; exact hB) (fun j j0 j1 => by
    rw [cp_in j0 (by omega), show (0 : Int) + (j - 0) = j by omega, hB j j0 j1]
    by_cases e : j < 1
    · rw [if_pos e]
      exact (cif_neg (fun z => by have := z.1.1; omega)).symm
    · rw [if_neg e]) (fun _ _ => rfl)
  refine ⟨I', ?_, k2.1, k3, k4, fun a ha h2 => by rw [k5 a ha h2, cp_obj h2]⟩
  rw [← k1]
  have hcp := fun (f : HP → Option XR) => c_p (I := I) (J := J) (b := b) (c := c) (s := o + 2) (d := o + 3) (n0 := 65) (n1 := 65) (sp := 0) (dp := 0) (n := 65) (f := f) (shL2 ho) (shL3 ho) (by decide) (by decide) (by omega) (by omega) (by omega) (by omega) (by omega)
  rw [hz, hz2] at hcp
  simp (disch := first | assumption | omega) only [f_X1_findLimits, ↓rcL, ↓gIL_0, ↓gIL_10, ↓gIL_11, ↓gIL_12, ↓gIL_13, ↓gIL_14, ↓gIL_15, ↓pIL_0, ↓pIL_10, ↓pIL_11, ↓pIL_12, ↓pIL_13, ↓pIL_14, ↓pIL_15, ↓gRL_1, ↓gRL_2, ↓gRL_3, ↓gRL_4, ↓gRL_5, ↓gRL_6, ↓gRL_7, ↓gRL_8, ↓gRL_9, ↓aIL1, ↓sZL1, ↓lnL1, ↓aIL2, ↓sIL2, ↓lnL2, ↓aIL3, ↓sIL3, ↓lnL3, ↓aIL4, ↓sIL4, ↓lnL4, ↓aIL5, ↓sIL5, ↓lnL5, ↓aIL6, ↓sIL6, ↓lnL6, ↓aIL7, ↓sIL7, ↓lnL7, ↓rc41, ↓gR41_0, ↓gR41_1, ↓gR41_2, ↓aI42, ↓sI42, ↓ln42, ↓aI43, ↓sI43, ↓ln43, ↓c_I, ↓c_J, ↓c_Q, ↓c_V, ↓c_It, ↓c_Jt, ↓c_Vt, ↓k_I, ↓k_J, ↓n_I, ↓n_V, li0, li1, li2, li3, li4, li5, li6, li7, li8, li9, li10, li11, li12, li13, li14, li15, li16, li17, li18, li19, li20, li21, li22, li23, li24, li25, li26, li27, li28, li29, li30, li31, li32, li33, li34, li35, li36, li37, li38, li39, li40, li41, li42, li44, li48, li57, li63, li64, li65, li97, li99, li100, li101, li102, li104, li105, li106, li109, li114, li120, li128, li130, li300, li514, li999, li1000, li8192, li9999, li65536, li1000000, li1000001, li1000002, li1000003, li1000004, li1000005, li1000006, li1000007, li1000008, li1000009, li1000010, li1000011, li1000012, li1000013, li1000014, li1000015, li1000016, li1000017, li1000018, li1000019, li2147483647, lj0, lj1, W_add, W_sub, W_mul, W_neg, V_add, V_sub, V_mul, V_neg, W_ite, W_le, W_lt, W_inj, V_le, V_lt, V_inj, W_V, V_W, lgc_ge, lgc_gt, lgc_le, lgc_lt, lgc_eq, ge_iff_le, gt_iff_lt, hcp]
end ConG

/-! ===== the engine's growing ===== -/
section GrowE
variable {J : CF} {b : Nat} {c : Bool} {A : CF} {o : Nat} {ax : Int}
theorem LY.fil {I I' : CF} (h : LY I A o ax) (hf : ∀ a : Int, (a < 36 ∨ 40 < a) → I' a = I a) : LY I' A o ax := by
  have hob := isL_bd h.1.1
  exact h.fr (fun k _ _ => by rw [hf o (by omega)]) (hf _ (by omega)) (fun a ha => hf a (by omega))
theorem e_grow_L {I0 : CF} (hS2 : ∀ k, 0 ≤ k → k < 65 → I0 (o + 2) k = bas A ax k) (hS3 : ∀ k, 0 ≤ k → k < 65 → I0 (o + 3) k = lim A ax k) (hS4 : ∀ k, 0 ≤ k → k < 65 → I0 (o + 4) k = bas A ax k) (hz : asz A ax ≠ -1) : ∀ (fuel : Nat) (k : Int) (I : CF), nt A ax - k + 1 < fuel → 1 ≤ k → k ≤ nt A ax + 1 → LY I A o ax → ADM I (fun t => opn A ax t ∧ t < k) (fun _ => 1) (fun k => max 0 (lim A ax k - bas A ax k)) → (∀ j, 0 ≤ j → j < I 36 4 → I 40 j = 0) → I 36 4 ≤ k - 1 → (∀ a : Int, (a < 36 ∨ 40 < a) → I a = I0 a) →
    ∃ I', f_X0_growTracks_L51 fuel (Sx I J b c) o 36 (iW k) = some (Sx I' J b c, xv) ∧ (∀ k, 0 ≤ k → k < 65 → I' (o + 4) k = grw A ax k) ∧ ∀ a : Int, (a < 36 ∨ 40 < a) → a ≠ o + 4 → I' a = I0 a := by
  intro fuel
  induction fuel with
  | zero => intro k I a1 a2 a3; omega
  | succ fuel ih =>
    intro k I a1 a2 a3 hY hD hz0 hn ho2
    show ∃ I', f_X0_growTracks_b51 (f_X0_growTracks_L51 fuel) (Sx I J b c) o 36 (iW k) = _ ∧ _
    have hY' := hY
    obtain ⟨⟨ho, hx, h1, hA, hP, hM, hR⟩, h10, h12, h14, h11, h13, hcl⟩ := hY'
    have hob := isL_bd ho
    have hnt := hP.2 ax (by omega) (by omega)
    have hbb := fun k => bas_bd hA hP (ax := ax) (by omega) (by omega) k
    have hlb := fun k => lim_bd hA hP (ax := ax) (by omega) (by omega) k
    have i2 : I (o + 2) = I0 (o + 2) := ho2 _ (by omega)
    have i3 : I (o + 3) = I0 (o + 3) := ho2 _ (by omega)
    have i4 : I (o + 4) = I0 (o + 4) := ho2 _ (by omega)
    by_cases hk : k = nt A ax + 1
    · have n0 : nt A ax < k := by omega
      have es := e_sum (J := J) (b := b) (c := c) hY (s := 1) (f := bas A ax) (by omega) (by omega) (fun j j0 j1 => by
        rw [show (o : Int) + 1 + 1 = o + 2 by omega, i2]
        exact hS2 j (by omega) (by omega))
      have hzb := (hA.2.2.2.1 ax (by omega) (by omega)).2.1
      have hzb : -1 ≤ asz A ax ∧ asz A ax ≤ 9999 := hzb
      have htb := tot_bd hA hP (ax := ax) (by omega) (by omega) (M := 999) (by omega) (fun k => (hbb k).1)
      have hD2 : ADM I (opn A ax) (fun _ => 1) (fun k => max 0 (lim A ax k - bas A ax k)) := hD.congr fun t => ⟨fun h => ⟨h, by have := h.1; omega⟩, fun h => h.1⟩
      obtain ⟨I1, s1, g1, x1, x2, x3, x4⟩ := e_pourT (J := J) (b := b) (c := c) (g := fun _ => 0) hD2 (fun t ht => by omega) (fun t ht => by have := hbb t; have := hlb t; omega) (fun j j0 j1 => by rw [hz0 j j0 j1]; omega) (p := asz A ax - tot A ax (bas A ax)) (by omega) (by omega)
      have hgr := grf_eq x3
      have hA1 : ADM I1 (opn A ax) (fun _ => 1) (fun k => max 0 (lim A ax k - bas A ax k)) := by
        unfold ADM
        rw [x2 36 (by decide), x2 37 (by decide), x2 38 (by decide), x2 39 (by decide)]
        exact hD2
      have hbd := x3.bd
      have c2 : ((o + 2 : Nat) : Int) = o + 2 := by omega
      have c4 : ((o + 4 : Nat) : Int) = o + 4 := by omega
      have j2 : I1 (o + 2) = I0 (o + 2) := by rw [x2 _ (by omega), i2]
      have j4 : I1 (o + 4) = I0 (o + 4) := by rw [x2 _ (by omega), i4]
      obtain ⟨I2, y1, y2, y3, y4⟩ := e_raiseT (J := J) (b := b) (c := c) (r1 := o + 2) (r2 := o + 4) (shL2 ho) (shL4 ho) (by omega) (by omega) hA1 (fun t ht => by have := ht.1; omega) (g := g1) (fun j j0 j1 => by
        rw [x2 36 (by decide)] at j1
        have h5 := x4 j j0 j1
        have h6 := hbd.1 (I 37 j)
        rw [x2 37 (by decide), h5]
        rw [h5] at h6
        omega) (fun t t0 t1 => by
        rw [c2, c4, j2, j4, hS2 t t0 t1, hS4 t t0 t1]
        have := hbb t
        omega)
      rw [c4] at y2 y3 y4
      refine ⟨I2, ?_, fun j j0 j1 => ?_, fun a ha ha' => by rw [y2 a ha', x2 a (by omega)]; exact ho2 a ha⟩
      · simp (disch := first | assumption | omega) only [f_X0_growTracks_b51, ↓rcL, ↓gIL_0, ↓gIL_10, ↓gIL_11, ↓gIL_12, ↓gIL_13, ↓gIL_14, ↓gIL_15, ↓pIL_0, ↓pIL_10, ↓pIL_11, ↓pIL_12, ↓pIL_13, ↓pIL_14, ↓pIL_15, ↓gRL_1, ↓gRL_2, ↓gRL_3, ↓gRL_4, ↓gRL_5, ↓gRL_6, ↓gRL_7, ↓gRL_8, ↓gRL_9, ↓aIL1, ↓sZL1, ↓lnL1, ↓aIL2, ↓sIL2, ↓lnL2, ↓aIL3, ↓sIL3, ↓lnL3, ↓aIL4, ↓sIL4, ↓lnL4, ↓aIL5, ↓sIL5, ↓lnL5, ↓aIL6, ↓sIL6, ↓lnL6, ↓aIL7, ↓sIL7, ↓lnL7, ↓rc36, ↓gI36_4, ↓pI36_4, ↓gR36_0, ↓gR36_1, ↓gR36_2, ↓gR36_3, ↓aI37, ↓sI37, ↓ln37, ↓aI38, ↓sI38, ↓ln38, ↓aI39, ↓sI39, ↓ln39, ↓aI40, ↓sI40, ↓ln40, ↓c_I, ↓c_J, ↓c_Q, ↓c_V, ↓c_It, ↓c_Jt, ↓c_Vt, ↓k_I, ↓k_J, ↓n_I, ↓n_V, li0, li1, li2, li3, li4, li5, li6, li7, li8, li9, li10, li11, li12, li13, li14, li15, li16, li17, li18, li19, li20, li21, li22, li23, li24, li25, li26, li27, li28, li29, li30, li31, li32, li33, li34, li35, li36, li37, li38, li39, li40, li41, li42, li44, li48, li57, li63, li64, li65, li97, li99, li100, li101, li102, li104, li105, li106, li109, li114, li120, li128, li130, li300, li514, li999, li1000, li8192, li9999, li65536, li1000000, li1000001, li1000002, li1000003, li1000004, li1000005, li1000006, li1000007, li1000008, li1000009, li1000010, li1000011, li1000012, li1000013, li1000014, li1000015, li1000016, li1000017, li1000018, li1000019, li2147483647, lj0, lj1, W_add, W_sub, W_mul, W_neg, V_add, V_sub, V_mul, V_neg, W_ite, W_le, W_lt, W_inj, V_le, V_lt, V_inj, W_V, V_W, lgc_ge, lgc_gt, lgc_le, lgc_lt, lgc_eq, ge_iff_le, gt_iff_lt, h10, h14, n0, es, x1, y1, ↓reduceIte]
      · have hg : grw A ax j = bas A ax j + g1 j := by
          unfold grw
          rw [if_neg hz]
          show bas A ax j + (grf (opn A ax) (fun _ => 1) (fun k => max 0 (lim A ax k - bas A ax k)) (asz A ax - tot A ax (bas A ax)).toNat (fun _ => 0)).1 j = _
          rw [hgr]
        rw [hg]
        by_cases hm : opn A ax j
        · rw [y4 j hm, c2, j2, j4, hS2 j j0 j1, hS4 j j0 j1]
          have := hbd.1 j
          omega
        · rw [y3 j hm, j4, hS4 j j0 j1, hbd.2.1 j hm]
          omega
    · have n1 : ¬ (nt A ax < k) := by omega
      have e1 := e_isOpen (J := J) (b := b) (c := c) hY (k := k) a2 (by omega)
      by_cases hq : opn A ax k
      · rw [bb_pos hq] at e1
        have b2 := hbb k
        have b3 := hlb k
        have v2 : I (o + 2) k = bas A ax k := by rw [i2]; exact hS2 k (by omega) (by omega)
        have v3 : I (o + 3) k = lim A ax k := by rw [i3]; exact hS3 k (by omega) (by omega)
        obtain ⟨I1, z1, z2, z3, z4, z5, z6, z7⟩ := e_admit (I := I) (J := J) (b := b) (c := c) (t := k) (w := 1) (r := lim A ax k - bas A ax k) hD.1.1 (by omega) (by omega) (by omega) (by omega) (by omega)
        obtain ⟨y1, y2⟩ := ADM.more hD hz0 (by omega) hq (wk := 1) rfl (rk := if 0 < lim A ax k - bas A ax k then lim A ax k - bas A ax k else 0) (by split <;> omega) z2 z3 z4 z5 z6
        obtain ⟨I', k1, k2⟩ := ih (k + 1) I1 (by omega) (by omega) (by omega) (hY.fil z7) y1 y2 (by omega) (fun a ha => by rw [z7 a ha]; exact ho2 a ha)
        refine ⟨I', ?_, k2⟩
        rw [← k1]
        simp (disch := first | assumption | omega) only [f_X0_growTracks_b51, f_X0_growTracks_b86, ↓rcL, ↓gIL_0, ↓gIL_10, ↓gIL_11, ↓gIL_12, ↓gIL_13, ↓gIL_14, ↓gIL_15, ↓pIL_0, ↓pIL_10, ↓pIL_11, ↓pIL_12, ↓pIL_13, ↓pIL_14, ↓pIL_15, ↓gRL_1, ↓gRL_2, ↓gRL_3, ↓gRL_4, ↓gRL_5, ↓gRL_6, ↓gRL_7, ↓gRL_8, ↓gRL_9, ↓aIL1, ↓sZL1, ↓lnL1, ↓aIL2, ↓sIL2, ↓lnL2, ↓aIL3, ↓sIL3, ↓lnL3, ↓aIL4, ↓sIL4, ↓lnL4, ↓aIL5, ↓sIL5, ↓lnL5, ↓aIL6, ↓sIL6, ↓lnL6, ↓aIL7, ↓sIL7, ↓lnL7, ↓rc36, ↓gI36_4, ↓pI36_4, ↓gR36_0, ↓gR36_1, ↓gR36_2, ↓gR36_3, ↓aI37, ↓sI37, ↓ln37, ↓aI38, ↓sI38, ↓ln38, ↓aI39, ↓sI39, ↓ln39, ↓aI40, ↓sI40, ↓ln40, ↓c_I, ↓c_J, ↓c_Q, ↓c_V, ↓c_It, ↓c_Jt, ↓c_Vt, ↓k_I, ↓k_J, ↓n_I, ↓n_V, li0, li1, li2, li3, li4, li5, li6, li7, li8, li9, li10, li11, li12, li13, li14, li15, li16, li17, li18, li19, li20, li21, li22, li23, li24, li25, li26, li27, li28, li29, li30, li31, li32, li33, li34, li35, li36, li37, li38, li39, li40, li41, li42, li44, li48, li57, li63, li64, li65, li97, li99, li100, li101, li102, li104, li105, li106, li109, li114, li120, li128, li130, li300, li514, li999, li1000, li8192, li9999, li65536, li1000000, li1000001, li1000002, li1000003, li1000004, li1000005, li1000006, li1000007, li1000008, li1000009, li1000010, li1000011, li1000012, li1000013, li1000014, li1000015, li1000016, li1000017, li1000018, li1000019, li2147483647, lj0, lj1, W_add, W_sub, W_mul, W_neg, V_add, V_sub, V_mul, V_neg, W_ite, W_le, W_lt, W_inj, V_le, V_lt, V_inj, W_V, V_W, lgc_ge, lgc_gt, lgc_le, lgc_lt, lgc_eq, ge_iff_le, gt_iff_lt, h10, n1, e1, v2, v3, z1, Int.reduceEq, ↓reduceIte]
      · rw [bb_neg hq] at e1
        obtain ⟨I', k1, k2⟩ := ih (k + 1) I (by omega) (by omega) (by omega) hY (hD.skip hq) hz0 (by omega) ho2
        refine ⟨I', ?_, k2⟩
        rw [← k1]
        simp (disch := first | assumption | omega) only [f_X0_growTracks_b51, f_X0_growTracks_b86, ↓rcL, ↓gIL_0, ↓gIL_10, ↓gIL_11, ↓gIL_12, ↓gIL_13, ↓gIL_14, ↓gIL_15, ↓pIL_0, ↓pIL_10, ↓pIL_11, ↓pIL_12, ↓pIL_13, ↓pIL_14, ↓pIL_15, ↓gRL_1, ↓gRL_2, ↓gRL_3, ↓gRL_4, ↓gRL_5, ↓gRL_6, ↓gRL_7, ↓gRL_8, ↓gRL_9, ↓aIL1, ↓sZL1, ↓lnL1, ↓aIL2, ↓sIL2, ↓lnL2, ↓aIL3, ↓sIL3, ↓lnL3, ↓aIL4, ↓sIL4, ↓lnL4, ↓aIL5, ↓sIL5, ↓lnL5, ↓aIL6, ↓sIL6, ↓lnL6, ↓aIL7, ↓sIL7, ↓lnL7, ↓rc36, ↓gI36_4, ↓pI36_4, ↓gR36_0, ↓gR36_1, ↓gR36_2, ↓gR36_3, ↓aI37, ↓sI37, ↓ln37, ↓aI38, ↓sI38, ↓ln38, ↓aI39, ↓sI39, ↓ln39, ↓aI40, ↓sI40, ↓ln40, ↓c_I, ↓c_J, ↓c_Q, ↓c_V, ↓c_It, ↓c_Jt, ↓c_Vt, ↓k_I, ↓k_J, ↓n_I, ↓n_V, li0, li1, li2, li3, li4, li5, li6, li7, li8, li9, li10, li11, li12, li13, li14, li15, li16, li17, li18, li19, li20, li21, li22, li23, li24, li25, li26, li27, li28, li29, li30, li31, li32, li33, li34, li35, li36, li37, li38, li39, li40, li41, li42, li44, li48, li57, li63, li64, li65, li97, li99, li100, li101, li102, li104, li105, li106, li109, li114, li120, li128, li130, li300, li514, li999, li1000, li8192, li9999, li65536, li1000000, li1000001, li1000002, li1000003, li1000004, li1000005, li1000006, li1000007, li1000008, li1000009, li1000010, li1000011, li1000012, li1000013, li1000014, li1000015, li1000016, li1000017, li1000018, li1000019, li2147483647, lj0, lj1, W_add, W_sub, W_mul, W_neg, V_add, V_sub, V_mul, V_neg, W_ite, W_le, W_lt, W_inj, V_le, V_lt, V_inj, W_V, V_W, lgc_ge, lgc_gt, lgc_le, lgc_lt, lgc_eq, ge_iff_le, gt_iff_lt, h10, n1, e1, ↓reduceIte]
theorem e_grow {I : CF} (hY : LY I A o ax) (hS2 : ∀ k, 0 ≤ k → k < 65 → I (o + 2) k = bas A ax k) (hS3 : ∀ k, 0 ≤ k → k < 65 → I (o + 3) k = lim A ax k) :
    ∃ I', f_X0_growTracks (Sx I J b c) o 36 = some (Sx I' J b c, xv) ∧ (∀ k, 0 ≤ k → k < 65 → I' (o + 4) k = grw A ax k) ∧ ∀ a : Int, (a < 36 ∨ 40 < a) → a ≠ o + 4 → I' a = I a := by
  have hY' := hY
  obtain ⟨⟨ho, hx, h1, hA, hP, hM, hR⟩, h10, h12, h14, h11, h13, hcl⟩ := hY'
  have hob := isL_bd ho
  have hnt := hP.2 ax (by omega) (by omega)
  have hzb := (hA.2.2.2.1 ax (by omega) (by omega)).2.1
  have hzb : -1 ≤ asz A ax ∧ asz A ax ≤ 9999 := hzb
  have c2 : ((o + 2 : Nat) : Int) = o + 2 := by omega
  have c3 : ((o + 3 : Nat) : Int) = o + 3 := by omega
  have c4 : ((o + 4 : Nat) : Int) = o + 4 := by omega
  by_cases hz : asz A ax = -1
  · refine ⟨cpf I (o + 3) 0 (o + 4) 0 65, ?_, fun k k0 k1 => ?_, fun a ha ha' => cp_obj ha'⟩
    · have hcp := fun (f : HP → Option XR) => c_p (I := I) (J := J) (b := b) (c := c) (s := o + 3) (d := o + 4) (n0 := 65) (n1 := 65) (sp := 0) (dp := 0) (n := 65) (f := f) (shL3 ho) (shL4 ho) (by decide) (by decide) (by omega) (by omega) (by omega) (by omega) (by omega)
      rw [c3, c4] at hcp
      simp (disch := first | assumption | omega) only [f_X0_growTracks, ↓rcL, ↓gIL_0, ↓gIL_10, ↓gIL_11, ↓gIL_12, ↓gIL_13, ↓gIL_14, ↓gIL_15, ↓pIL_0, ↓pIL_10, ↓pIL_11, ↓pIL_12, ↓pIL_13, ↓pIL_14, ↓pIL_15, ↓gRL_1, ↓gRL_2, ↓gRL_3, ↓gRL_4, ↓gRL_5, ↓gRL_6, ↓gRL_7, ↓gRL_8, ↓gRL_9, ↓aIL1, ↓sZL1, ↓lnL1, ↓aIL2, ↓sIL2, ↓lnL2, ↓aIL3, ↓sIL3, ↓lnL3, ↓aIL4, ↓sIL4, ↓lnL4, ↓aIL5, ↓sIL5, ↓lnL5, ↓aIL6, ↓sIL6, ↓lnL6, ↓aIL7, ↓sIL7, ↓lnL7, ↓c_I, ↓c_J, ↓c_Q, ↓c_V, ↓c_It, ↓c_Jt, ↓c_Vt, ↓k_I, ↓k_J, ↓n_I, ↓n_V, li0, li1, li2, li3, li4, li5, li6, li7, li8, li9, li10, li11, li12, li13, li14, li15, li16, li17, li18, li19, li20, li21, li22, li23, li24, li25, li26, li27, li28, li29, li30, li31, li32, li33, li34, li35, li36, li37, li38, li39, li40, li41, li42, li44, li48, li57, li63, li64, li65, li97, li99, li100, li101, li102, li104, li105, li106, li109, li114, li120, li128, li130, li300, li514, li999, li1000, li8192, li9999, li65536, li1000000, li1000001, li1000002, li1000003, li1000004, li1000005, li1000006, li1000007, li1000008, li1000009, li1000010, li1000011, li1000012, li1000013, li1000014, li1000015, li1000016, li1000017, li1000018, li1000019, li2147483647, lj0, lj1, W_add, W_sub, W_mul, W_neg, V_add, V_sub, V_mul, V_neg, W_ite, W_le, W_lt, W_inj, V_le, V_lt, V_inj, W_V, V_W, lgc_ge, lgc_gt, lgc_le, lgc_lt, lgc_eq, ge_iff_le, gt_iff_lt, h14, hz, hcp, ↓reduceIte]
    · rw [cp_in k0 (by omega), show (0 : Int) + (k - 0) = k by omega, hS3 k k0 k1]
      unfold grw
      rw [if_pos hz]
  · have hcp := fun (f : HP → Option XR) => c_p (I := I) (J := J) (b := b) (c := c) (s := o + 2) (d := o + 4) (n0 := 65) (n1 := 65) (sp := 0) (dp := 0) (n := 65) (f := f) (shL2 ho) (shL4 ho) (by decide) (by decide) (by omega) (by omega) (by omega) (by omega) (by omega)
    rw [c2, c4] at hcp
    have e2 := e_startAnew (I := cpf I (o + 2) 0 (o + 4) 0 65) (J := J) (b := b) (c := c)
    have hw : ∀ a : Int, (a < 36 ∨ 40 < a) → a ≠ o + 4 → uI (cpf I (o + 2) 0 (o + 4) 0 65) 36 4 0 a = I a := fun a ha ha' => by rw [u_obj (by omega), cp_obj ha']
    have hY2 : LY (uI (cpf I (o + 2) 0 (o + 4) 0 65) 36 4 0) A o ax := hY.fr (fun k _ _ => by rw [hw o (by omega) (by omega)]) (hw _ (by omega) (by omega)) (fun a ha => hw a (by omega) (by omega))
    obtain ⟨I', k1, k2, k3⟩ := e_grow_L (J := J) (b := b) (c := c) (A := A) (o := o) (ax := ax) (I0 := uI (cpf I (o + 2) 0 (o + 4) 0 65) 36 4 0) (by rw [hw _ (by omega) (by omega)]; exact hS2) (by rw [hw _ (by omega) (by omega)]; exact hS3) (fun k k0 k1 => by rw [u_obj (by omega), cp_in k0 (by omega), show (0 : Int) + (k - 0) = k by omega]; exact hS2 k k0 k1) hz FU 1 _ (by unfold FU; omega) (by omega) (by omega) hY2 (ADM.none u_eq (fun t ht => by have := ht.1.1; omega)) (fun j j0 j1 => by rw [u_eq] at j1; omega) (by rw [u_eq]; omega) (fun _ _ => rfl)
    refine ⟨I', ?_, k2, fun a ha ha' => by rw [k3 a ha ha', hw a ha ha']⟩
    rw [← k1]
    simp (disch := first | assumption | omega) only [f_X0_growTracks, ↓rcL, ↓gIL_0, ↓gIL_10, ↓gIL_11, ↓gIL_12, ↓gIL_13, ↓gIL_14, ↓gIL_15, ↓pIL_0, ↓pIL_10, ↓pIL_11, ↓pIL_12, ↓pIL_13, ↓pIL_14, ↓pIL_15, ↓gRL_1, ↓gRL_2, ↓gRL_3, ↓gRL_4, ↓gRL_5, ↓gRL_6, ↓gRL_7, ↓gRL_8, ↓gRL_9, ↓aIL1, ↓sZL1, ↓lnL1, ↓aIL2, ↓sIL2, ↓lnL2, ↓aIL3, ↓sIL3, ↓lnL3, ↓aIL4, ↓sIL4, ↓lnL4, ↓aIL5, ↓sIL5, ↓lnL5, ↓aIL6, ↓sIL6, ↓lnL6, ↓aIL7, ↓sIL7, ↓lnL7, ↓rc36, ↓gI36_4, ↓pI36_4, ↓gR36_0, ↓gR36_1, ↓gR36_2, ↓gR36_3, ↓aI37, ↓sI37, ↓ln37, ↓aI38, ↓sI38, ↓ln38, ↓aI39, ↓sI39, ↓ln39, ↓aI40, ↓sI40, ↓ln40, ↓c_I, ↓c_J, ↓c_Q, ↓c_V, ↓c_It, ↓c_Jt, ↓c_Vt, ↓k_I, ↓k_J, ↓n_I, ↓n_V, li0, li1, li2, li3, li4, li5, li6, li7, li8, li9, li10, li11, li12, li13, li14, li15, li16, li17, li18, li19, li20, li21, li22, li23, li24, li25, li26, li27, li28, li29, li30, li31, li32, li33, li34, li35, li36, li37, li38, li39, li40, li41, li42, li44, li48, li57, li63, li64, li65, li97, li99, li100, li101, li102, li104, li105, li106, li109, li114, li120, li128, li130, li300, li514, li999, li1000, li8192, li9999, li65536, li1000000, li1000001, li1000002, li1000003, li1000004, li1000005, li1000006, li1000007, li1000008, li1000009, li1000010, li1000011, li1000012, li1000013, li1000014, li1000015, li1000016, li1000017, li1000018, li1000019, li2147483647, lj0, lj1, W_add, W_sub, W_mul, W_neg, V_add, V_sub, V_mul, V_neg, W_ite, W_le, W_lt, W_inj, V_le, V_lt, V_inj, W_V, V_W, lgc_ge, lgc_gt, lgc_le, lgc_lt, lgc_eq, ge_iff_le, gt_iff_lt, h14, hz, hcp, e2, ↓reduceIte]
end GrowE

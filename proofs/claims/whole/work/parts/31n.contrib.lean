/-! ===== the engine's Contributions ===== -/
/-- the tracks that take part in a filling, with their weights and rooms -/
def ADM (I : CF) (may : Int → Prop) (w r : Int → Int) : Prop := (0 ≤ I 36 4 ∧ I 36 4 ≤ 64) ∧ (∀ i j, 0 ≤ i → i < j → j < I 36 4 → I 37 i < I 37 j) ∧ (∀ i, 0 ≤ i → i < I 36 4 → may (I 37 i) ∧ I 38 i = w (I 37 i) ∧ I 39 i = r (I 37 i)) ∧ ∀ t, may t → ∃ i, 0 ≤ i ∧ i < I 36 4 ∧ I 37 i = t
theorem ADM.congr {I : CF} {may may' : Int → Prop} {w r : Int → Int} (h : ADM I may w r) (hm : ∀ t, may' t ↔ may t) : ADM I may' w r :=
  ⟨h.1, h.2.1, fun i i0 i1 => ⟨(hm _).mpr (h.2.2.1 i i0 i1).1, (h.2.2.1 i i0 i1).2⟩, fun t ht => h.2.2.2 t ((hm t).mp ht)⟩
theorem ADM.none {I : CF} {may : Int → Prop} {w r : Int → Int} (h : I 36 4 = 0) (hm : ∀ t, ¬ may t) : ADM I may w r :=
  ⟨by omega, fun i j _ _ _ => by omega, fun i _ _ => by omega, fun t ht => absurd ht (hm t)⟩
theorem ADM.more {I I' : CF} {may : Int → Prop} {w r : Int → Int} {k wk rk : Int} (h : ADM I (fun t => may t ∧ t < k) w r) (hz : ∀ i, 0 ≤ i → i < I 36 4 → I 40 i = 0) (hn : I 36 4 < 64) (hm : may k) (hw : wk = w k) (hr : rk = r k) (e4 : I' 36 4 = I 36 4 + 1) (e37 : I' 37 = up1 (I 37) (I 36 4) k) (e38 : I' 38 = up1 (I 38) (I 36 4) wk) (e39 : I' 39 = up1 (I 39) (I 36 4) rk) (e40 : I' 40 = up1 (I 40) (I 36 4) 0) :
    ADM I' (fun t => may t ∧ t < k + 1) w r ∧ ∀ i, 0 ≤ i → i < I' 36 4 → I' 40 i = 0 := by
  obtain ⟨h1, h2, h3, h4⟩ := h
  unfold ADM
  rw [e4, e37, e38, e39, e40]
  refine ⟨⟨by omega, ?_, ?_, ?_⟩, ?_⟩
  · intro i j i0 i1 j1
    by_cases e : j = I 36 4
    · subst e
      rw [up1_eq, up1_ne (by omega)]
      exact (h3 i i0 i1).1.2
    · rw [up1_ne e, up1_ne (by omega)]
      exact h2 i j i0 i1 (by omega)
  · intro i i0 i1
    by_cases e : i = I 36 4
    · subst e
      rw [up1_eq, up1_eq, up1_eq]
      exact ⟨⟨hm, by omega⟩, hw, hr⟩
    · rw [up1_ne e, up1_ne e, up1_ne e]
      have := h3 i i0 (by omega)
      exact ⟨⟨this.1.1, by have := this.1.2; omega⟩, this.2⟩
  · rintro t ⟨t1, t2⟩
    by_cases e : t = k
    · exact ⟨I 36 4, by omega, by omega, by rw [up1_eq, e]⟩
    · obtain ⟨i, i0, i1, i2⟩ := h4 t ⟨t1, by omega⟩
      exact ⟨i, i0, by omega, by rw [up1_ne (by omega)]; exact i2⟩
  · intro i i0 i1
    by_cases e : i = I 36 4
    · rw [e, up1_eq]
    · rw [up1_ne e]
      exact hz i i0 (by omega)
theorem ADM.skip {I : CF} {may : Int → Prop} {w r : Int → Int} {k : Int} (h : ADM I (fun t => may t ∧ t < k) w r) (hm : ¬ may k) : ADM I (fun t => may t ∧ t < k + 1) w r := h.congr fun t => by
  constructor
  · rintro ⟨h1, h2⟩
    refine ⟨h1, ?_⟩
    by_cases e : t = k
    · subst e
      exact absurd h1 hm
    · omega
  · rintro ⟨h1, h2⟩
    exact ⟨h1, by omega⟩
section ConE
variable {J : CF} {b : Nat} {c : Bool}
theorem e_pourT {I : CF} {may : Int → Prop} {w r g : Int → Int} (h : ADM I may w r) (hw : ∀ t, may t → 0 < w t ∧ w t ≤ 999) (hr : ∀ t, may t → 0 ≤ r t ∧ r t ≤ 1000000) (hg : ∀ i, 0 ≤ i → i < I 36 4 → g (I 37 i) = I 40 i ∧ 0 ≤ I 40 i ∧ I 40 i ≤ 100000) {p : Int} (p0 : -2000000000 ≤ p) (p1 : p ≤ 99999) :
    ∃ I' s g', f_X2_pour (Sx I J b c) 36 (iW p) = some (Sx I' J b c, xi (iW (s : Nat))) ∧ (∀ a, a ≠ 40 → I' a = I a) ∧ Gr may w r p.toNat g g' s ∧ ∀ i, 0 ≤ i → i < I 36 4 → g' (I 37 i) = I' 40 i := by
  have hF : FOK I := ⟨h.1, fun i i0 i1 => by
    obtain ⟨a1, a2, a3⟩ := h.2.2.1 i i0 i1
    rw [a2, a3]
    have := hg i i0 i1
    exact ⟨hw _ a1, hr _ a1, by omega⟩⟩
  obtain ⟨I', s, k1, k2, k3⟩ := e_pour (J := J) (b := b) (c := c) hF p0 p1 (fun i i0 i1 => (hg i i0 i1).2.2)
  obtain ⟨g', z1, z2⟩ := Gr.tracks (w' := w) (r' := r) h.2.1 h.2.2.1 h.2.2.2 (fun i i0 i1 => (hg i i0 i1).1) k3
  exact ⟨I', s, g', k1, k2, z1, z2⟩
theorem e_raiseT {r1 r2 : Nat} (s1 : SHL[r1]? = some (100, 65)) (s2 : SHL[r2]? = some (100, 65)) (g1 : (r1 : Int) ≠ r2) (g2 : (r2 : Int) < 36 ∨ 40 < (r2 : Int)) {I : CF} {may : Int → Prop} {w r g : Int → Int} (h : ADM I may w r) (hm : ∀ t, may t → 1 ≤ t ∧ t < 65)
    (hg : ∀ i, 0 ≤ i → i < I 36 4 → g (I 37 i) = I 40 i ∧ 0 ≤ I 40 i ∧ I 40 i ≤ 1000000) (hb : ∀ t, 0 ≤ t → t < 65 → (0 ≤ I r1 t ∧ I r1 t ≤ 100000000) ∧ (0 ≤ I r2 t ∧ I r2 t ≤ 100000000)) :
    ∃ I', f_X2_raise (Sx I J b c) 36 r1 r2 = some (Sx I' J b c, xv) ∧ (∀ a : Int, a ≠ r2 → I' a = I a) ∧ (∀ t, ¬ may t → I' r2 t = I r2 t) ∧ ∀ t, may t → I' r2 t = max (I r2 t) (I r1 t + g t) := by
  obtain ⟨h1, h2, h3, h4⟩ := h
  obtain ⟨I', k1, k2, k3, k4⟩ := e_raise_L (J := J) (b := b) (c := c) s1 s2 g1 g2 (I0 := I) h1.1 h1.2 (fun i i0 i1 => by
    have a1 := hm _ (h3 i i0 i1).1
    have a2 := hg i i0 i1
    omega) hb (gT := g) (fun i i0 i1 => (hg i i0 i1).1) h2 FU 0 I (by unfold FU; omega) (by omega) h1.1 (fun _ _ => rfl) (fun t _ => rfl) (fun i i0 i1 => by omega)
  refine ⟨I', k1, k2, fun t ht => k3 t (fun i i0 i1 e => ht (e ▸ (h3 i i0 i1).1)), fun t ht => ?_⟩
  obtain ⟨i, i0, i1, rfl⟩ := h4 t ht
  exact k4 i i0 i1
end ConE
section ConF
variable {J : CF} {b : Nat} {c : Bool} {A : CF} {o : Nat} {ax : Int}
theorem e_groups_L : ∀ (fuel : Nat) (i : Int) (I I0 : CF), nit A - i < fuel → 0 ≤ i → i ≤ nit A → LY I A o ax → (∀ a, a ≠ 43 → I a = I0 a) → (∀ j, 0 ≤ j → j < i → I 43 j = grp A ax j) →
    ∃ I', f_X1_findGroups_L2 fuel (Sx I J b c) 41 o (iW i) = some (Sx I' J b c, xv) ∧ LY I' A o ax ∧ (∀ a, a ≠ 43 → I' a = I0 a) ∧ ∀ j, 0 ≤ j → j < nit A → I' 43 j = grp A ax j := by
  intro fuel
  induction fuel with
  | zero => intro i I I0 a1 a2 a3; omega
  | succ fuel ih =>
    intro i I I0 a1 a2 a3 hY ho2 hj
    show ∃ I', f_X1_findGroups_b2 (f_X1_findGroups_L2 fuel) (Sx I J b c) 41 o (iW i) = _ ∧ _
    have hN := hY.1.2.2.2.1.1
    have ho := hY.1.1
    have hob := isL_bd ho
    have e0 := e_itemCount (J := J) (b := b) (c := c) hY.1
    by_cases hk : i = nit A
    · have n0 : nit A ≤ i := by omega
      refine ⟨I, ?_, hY, ho2, fun j j0 j1 => hj j j0 (by omega)⟩
      simp (disch := first | assumption | omega) only [f_X1_findGroups_b2, f_X1_findGroups_b48, ↓rcL, ↓gIL_0, ↓gIL_10, ↓gIL_11, ↓gIL_12, ↓gIL_13, ↓gIL_14, ↓gIL_15, ↓pIL_0, ↓pIL_10, ↓pIL_11, ↓pIL_12, ↓pIL_13, ↓pIL_14, ↓pIL_15, ↓gRL_1, ↓gRL_2, ↓gRL_3, ↓gRL_4, ↓gRL_5, ↓gRL_6, ↓gRL_7, ↓gRL_8, ↓gRL_9, ↓aIL1, ↓sZL1, ↓lnL1, ↓aIL2, ↓sIL2, ↓lnL2, ↓aIL3, ↓sIL3, ↓lnL3, ↓aIL4, ↓sIL4, ↓lnL4, ↓aIL5, ↓sIL5, ↓lnL5, ↓aIL6, ↓sIL6, ↓lnL6, ↓aIL7, ↓sIL7, ↓lnL7, ↓rc41, ↓gR41_0, ↓gR41_1, ↓gR41_2, ↓aI42, ↓sI42, ↓ln42, ↓aI43, ↓sI43, ↓ln43, ↓c_I, ↓c_J, ↓c_Q, ↓c_V, ↓c_It, ↓c_Jt, ↓c_Vt, ↓k_I, ↓k_J, ↓n_I, ↓n_V, li0, li1, li2, li3, li4, li5, li6, li7, li8, li9, li10, li11, li12, li13, li14, li15, li16, li17, li18, li19, li20, li21, li22, li23, li24, li25, li26, li27, li28, li29, li30, li31, li32, li33, li34, li35, li36, li37, li38, li39, li40, li41, li42, li44, li48, li57, li63, li64, li65, li97, li99, li100, li101, li102, li104, li105, li106, li109, li114, li120, li128, li130, li300, li514, li999, li1000, li8192, li9999, li65536, li1000000, li1000001, li1000002, li1000003, li1000004, li1000005, li1000006, li1000007, li1000008, li1000009, li1000010, li1000011, li1000012, li1000013, li1000014, li1000015, li1000016, li1000017, li1000018, li1000019, li2147483647, lj0, lj1, W_add, W_sub, W_mul, W_neg, V_add, V_sub, V_mul, V_neg, W_ite, W_le, W_lt, W_inj, V_le, V_lt, V_inj, W_V, V_W, lgc_ge, lgc_gt, lgc_le, lgc_lt, lgc_eq, ge_iff_le, gt_iff_lt, e0, n0, ↓reduceIte]
    · have n1 : ¬ (nit A ≤ i) := by omega
      have n2 : ¬ (12 ≤ i) := by omega
      have e1 := e_onFlex (J := J) (b := b) (c := c) hY (i := i) a2 (by omega)
      have e2 := e_itemF (J := J) (b := b) (c := c) hY.1 (i := i) (f := 3) a2 (by omega) (by omega) (by omega)
      have go : ∀ v, v = grp A ax i → ∃ I', f_X1_findGroups_L2 fuel (Sx (uI I 43 i v) J b c) 41 o (iW (i + 1)) = some (Sx I' J b c, xv) ∧ LY I' A o ax ∧ (∀ a, a ≠ 43 → I' a = I0 a) ∧ ∀ j, 0 ≤ j → j < nit A → I' 43 j = grp A ax j := by
        intro v hv
        refine ih (i + 1) (uI I 43 i v) I0 (by omega) (by omega) (by omega) (hY.fr (fun k _ _ => by rw [u_obj (by omega)]) (u_obj (by omega)) (fun a ha => u_obj (by omega))) (fun a ha => by rw [u_obj ha]; exact ho2 a ha) (fun j j0 j1 => ?_)
        rw [u_at]
        by_cases e : j = i
        · rw [if_pos e, e, hv]
        · rw [if_neg e]
          exact hj j j0 (by omega)
      by_cases q : onF A ax i
      · rw [bb_pos q] at e1
        obtain ⟨I', k1, k2⟩ := go 5 (cif_pos q).symm
        refine ⟨I', ?_, k2⟩
        rw [← k1]
        simp (disch := first | assumption | omega) only [f_X1_findGroups_b2, f_X1_findGroups_b41, ↓rcL, ↓gIL_0, ↓gIL_10, ↓gIL_11, ↓gIL_12, ↓gIL_13, ↓gIL_14, ↓gIL_15, ↓pIL_0, ↓pIL_10, ↓pIL_11, ↓pIL_12, ↓pIL_13, ↓pIL_14, ↓pIL_15, ↓gRL_1, ↓gRL_2, ↓gRL_3, ↓gRL_4, ↓gRL_5, ↓gRL_6, ↓gRL_7, ↓gRL_8, ↓gRL_9, ↓aIL1, ↓sZL1, ↓lnL1, ↓aIL2, ↓sIL2, ↓lnL2, ↓aIL3, ↓sIL3, ↓lnL3, ↓aIL4, ↓sIL4, ↓lnL4, ↓aIL5, ↓sIL5, ↓lnL5, ↓aIL6, ↓sIL6, ↓lnL6, ↓aIL7, ↓sIL7, ↓lnL7, ↓rc41, ↓gR41_0, ↓gR41_1, ↓gR41_2, ↓aI42, ↓sI42, ↓ln42, ↓aI43, ↓sI43, ↓ln43, ↓c_I, ↓c_J, ↓c_Q, ↓c_V, ↓c_It, ↓c_Jt, ↓c_Vt, ↓k_I, ↓k_J, ↓n_I, ↓n_V, li0, li1, li2, li3, li4, li5, li6, li7, li8, li9, li10, li11, li12, li13, li14, li15, li16, li17, li18, li19, li20, li21, li22, li23, li24, li25, li26, li27, li28, li29, li30, li31, li32, li33, li34, li35, li36, li37, li38, li39, li40, li41, li42, li44, li48, li57, li63, li64, li65, li97, li99, li100, li101, li102, li104, li105, li106, li109, li114, li120, li128, li130, li300, li514, li999, li1000, li8192, li9999, li65536, li1000000, li1000001, li1000002, li1000003, li1000004, li1000005, li1000006, li1000007, li1000008, li1000009, li1000010, li1000011, li1000012, li1000013, li1000014, li1000015, li1000016, li1000017, li1000018, li1000019, li2147483647, lj0, lj1, W_add, W_sub, W_mul, W_neg, V_add, V_sub, V_mul, V_neg, W_ite, W_le, W_lt, W_inj, V_le, V_lt, V_inj, W_V, V_W, lgc_ge, lgc_gt, lgc_le, lgc_lt, lgc_eq, ge_iff_le, gt_iff_lt, e0, n1, n2, e1, Int.reduceEq, ↓reduceIte]
      · rw [bb_neg q] at e1
        obtain ⟨I', k1, k2⟩ := go (itf A i ax 3) (cif_neg q).symm
        refine ⟨I', ?_, k2⟩
        rw [← k1]
        simp (disch := first | assumption | omega) only [f_X1_findGroups_b2, f_X1_findGroups_b41, ↓rcL, ↓gIL_0, ↓gIL_10, ↓gIL_11, ↓gIL_12, ↓gIL_13, ↓gIL_14, ↓gIL_15, ↓pIL_0, ↓pIL_10, ↓pIL_11, ↓pIL_12, ↓pIL_13, ↓pIL_14, ↓pIL_15, ↓gRL_1, ↓gRL_2, ↓gRL_3, ↓gRL_4, ↓gRL_5, ↓gRL_6, ↓gRL_7, ↓gRL_8, ↓gRL_9, ↓aIL1, ↓sZL1, ↓lnL1, ↓aIL2, ↓sIL2, ↓lnL2, ↓aIL3, ↓sIL3, ↓lnL3, ↓aIL4, ↓sIL4, ↓lnL4, ↓aIL5, ↓sIL5, ↓lnL5, ↓aIL6, ↓sIL6, ↓lnL6, ↓aIL7, ↓sIL7, ↓lnL7, ↓rc41, ↓gR41_0, ↓gR41_1, ↓gR41_2, ↓aI42, ↓sI42, ↓ln42, ↓aI43, ↓sI43, ↓ln43, ↓c_I, ↓c_J, ↓c_Q, ↓c_V, ↓c_It, ↓c_Jt, ↓c_Vt, ↓k_I, ↓k_J, ↓n_I, ↓n_V, li0, li1, li2, li3, li4, li5, li6, li7, li8, li9, li10, li11, li12, li13, li14, li15, li16, li17, li18, li19, li20, li21, li22, li23, li24, li25, li26, li27, li28, li29, li30, li31, li32, li33, li34, li35, li36, li37, li38, li39, li40, li41, li42, li44, li48, li57, li63, li64, li65, li97, li99, li100, li101, li102, li104, li105, li106, li109, li114, li120, li128, li130, li300, li514, li999, li1000, li8192, li9999, li65536, li1000000, li1000001, li1000002, li1000003, li1000004, li1000005, li1000006, li1000007, li1000008, li1000009, li1000010, li1000011, li1000012, li1000013, li1000014, li1000015, li1000016, li1000017, li1000018, li1000019, li2147483647, lj0, lj1, W_add, W_sub, W_mul, W_neg, V_add, V_sub, V_mul, V_neg, W_ite, W_le, W_lt, W_inj, V_le, V_lt, V_inj, W_V, V_W, lgc_ge, lgc_gt, lgc_le, lgc_lt, lgc_eq, ge_iff_le, gt_iff_lt, e0, n1, n2, e1, e2, ↓reduceIte]
variable {I : CF}
theorem e_baseAsked (h : LX I A o ax) {g k : Int} (hg : g = 0 ∨ g = 1) (k0 : 1 ≤ k) (k1 : k ≤ 100) : f_X1_isBaseAsked (Sx I J b c) 41 o (iW k) (iW g) = some (Sx I J b c, xi (iW (bb (asked A ax 1 g k)))) := by
  have e1 := e_part (J := J) (b := b) (c := c) h (k := k) (p := 0) k0 k1 (by omega) (by omega)
  obtain ⟨ho, hx, h1, hA, hP, hM, hR⟩ := h
  have hpt := tpt_ok hA (ax := ax) (by omega) (by omega) k0
  have ha : asked A ax 1 g k ↔ (if g = 0 then tpt A ax k 0 ≠ 0 else tpt A ax k 0 = 2) := by unfold asked; rw [if_pos rfl]
  rw [bb_congr ha]
  rcases hg with rfl | rfl
  · rw [if_pos rfl]
    by_cases q : tpt A ax k 0 = 0
    · rw [bb_neg (fun z => z q)]
      simp (disch := first | assumption | omega) only [f_X1_isBaseAsked, f_X1_isBaseAsked_b36, ↓rcL, ↓gIL_0, ↓gIL_10, ↓gIL_11, ↓gIL_12, ↓gIL_13, ↓gIL_14, ↓gIL_15, ↓pIL_0, ↓pIL_10, ↓pIL_11, ↓pIL_12, ↓pIL_13, ↓pIL_14, ↓pIL_15, ↓gRL_1, ↓gRL_2, ↓gRL_3, ↓gRL_4, ↓gRL_5, ↓gRL_6, ↓gRL_7, ↓gRL_8, ↓gRL_9, ↓aIL1, ↓sZL1, ↓lnL1, ↓aIL2, ↓sIL2, ↓lnL2, ↓aIL3, ↓sIL3, ↓lnL3, ↓aIL4, ↓sIL4, ↓lnL4, ↓aIL5, ↓sIL5, ↓lnL5, ↓aIL6, ↓sIL6, ↓lnL6, ↓aIL7, ↓sIL7, ↓lnL7, ↓rc41, ↓gR41_0, ↓gR41_1, ↓gR41_2, ↓aI42, ↓sI42, ↓ln42, ↓aI43, ↓sI43, ↓ln43, ↓c_I, ↓c_J, ↓c_Q, ↓c_V, ↓c_It, ↓c_Jt, ↓c_Vt, ↓k_I, ↓k_J, ↓n_I, ↓n_V, li0, li1, li2, li3, li4, li5, li6, li7, li8, li9, li10, li11, li12, li13, li14, li15, li16, li17, li18, li19, li20, li21, li22, li23, li24, li25, li26, li27, li28, li29, li30, li31, li32, li33, li34, li35, li36, li37, li38, li39, li40, li41, li42, li44, li48, li57, li63, li64, li65, li97, li99, li100, li101, li102, li104, li105, li106, li109, li114, li120, li128, li130, li300, li514, li999, li1000, li8192, li9999, li65536, li1000000, li1000001, li1000002, li1000003, li1000004, li1000005, li1000006, li1000007, li1000008, li1000009, li1000010, li1000011, li1000012, li1000013, li1000014, li1000015, li1000016, li1000017, li1000018, li1000019, li2147483647, lj0, lj1, W_add, W_sub, W_mul, W_neg, V_add, V_sub, V_mul, V_neg, W_ite, W_le, W_lt, W_inj, V_le, V_lt, V_inj, W_V, V_W, lgc_ge, lgc_gt, lgc_le, lgc_lt, lgc_eq, ge_iff_le, gt_iff_lt, e1, q, ↓reduceIte, r_Z]
    · rw [bb_pos q]
      simp (disch := first | assumption | omega) only [f_X1_isBaseAsked, f_X1_isBaseAsked_b36, ↓rcL, ↓gIL_0, ↓gIL_10, ↓gIL_11, ↓gIL_12, ↓gIL_13, ↓gIL_14, ↓gIL_15, ↓pIL_0, ↓pIL_10, ↓pIL_11, ↓pIL_12, ↓pIL_13, ↓pIL_14, ↓pIL_15, ↓gRL_1, ↓gRL_2, ↓gRL_3, ↓gRL_4, ↓gRL_5, ↓gRL_6, ↓gRL_7, ↓gRL_8, ↓gRL_9, ↓aIL1, ↓sZL1, ↓lnL1, ↓aIL2, ↓sIL2, ↓lnL2, ↓aIL3, ↓sIL3, ↓lnL3, ↓aIL4, ↓sIL4, ↓lnL4, ↓aIL5, ↓sIL5, ↓lnL5, ↓aIL6, ↓sIL6, ↓lnL6, ↓aIL7, ↓sIL7, ↓lnL7, ↓rc41, ↓gR41_0, ↓gR41_1, ↓gR41_2, ↓aI42, ↓sI42, ↓ln42, ↓aI43, ↓sI43, ↓ln43, ↓c_I, ↓c_J, ↓c_Q, ↓c_V, ↓c_It, ↓c_Jt, ↓c_Vt, ↓k_I, ↓k_J, ↓n_I, ↓n_V, li0, li1, li2, li3, li4, li5, li6, li7, li8, li9, li10, li11, li12, li13, li14, li15, li16, li17, li18, li19, li20, li21, li22, li23, li24, li25, li26, li27, li28, li29, li30, li31, li32, li33, li34, li35, li36, li37, li38, li39, li40, li41, li42, li44, li48, li57, li63, li64, li65, li97, li99, li100, li101, li102, li104, li105, li106, li109, li114, li120, li128, li130, li300, li514, li999, li1000, li8192, li9999, li65536, li1000000, li1000001, li1000002, li1000003, li1000004, li1000005, li1000006, li1000007, li1000008, li1000009, li1000010, li1000011, li1000012, li1000013, li1000014, li1000015, li1000016, li1000017, li1000018, li1000019, li2147483647, lj0, lj1, W_add, W_sub, W_mul, W_neg, V_add, V_sub, V_mul, V_neg, W_ite, W_le, W_lt, W_inj, V_le, V_lt, V_inj, W_V, V_W, lgc_ge, lgc_gt, lgc_le, lgc_lt, lgc_eq, ge_iff_le, gt_iff_lt, e1, q, ↓reduceIte, r_Z]
  · rw [if_neg (by decide)]
    by_cases q : tpt A ax k 0 = 2
    · rw [bb_pos q]
      simp (disch := first | assumption | omega) only [f_X1_isBaseAsked, f_X1_isBaseAsked_b36, ↓rcL, ↓gIL_0, ↓gIL_10, ↓gIL_11, ↓gIL_12, ↓gIL_13, ↓gIL_14, ↓gIL_15, ↓pIL_0, ↓pIL_10, ↓pIL_11, ↓pIL_12, ↓pIL_13, ↓pIL_14, ↓pIL_15, ↓gRL_1, ↓gRL_2, ↓gRL_3, ↓gRL_4, ↓gRL_5, ↓gRL_6, ↓gRL_7, ↓gRL_8, ↓gRL_9, ↓aIL1, ↓sZL1, ↓lnL1, ↓aIL2, ↓sIL2, ↓lnL2, ↓aIL3, ↓sIL3, ↓lnL3, ↓aIL4, ↓sIL4, ↓lnL4, ↓aIL5, ↓sIL5, ↓lnL5, ↓aIL6, ↓sIL6, ↓lnL6, ↓aIL7, ↓sIL7, ↓lnL7, ↓rc41, ↓gR41_0, ↓gR41_1, ↓gR41_2, ↓aI42, ↓sI42, ↓ln42, ↓aI43, ↓sI43, ↓ln43, ↓c_I, ↓c_J, ↓c_Q, ↓c_V, ↓c_It, ↓c_Jt, ↓c_Vt, ↓k_I, ↓k_J, ↓n_I, ↓n_V, li0, li1, li2, li3, li4, li5, li6, li7, li8, li9, li10, li11, li12, li13, li14, li15, li16, li17, li18, li19, li20, li21, li22, li23, li24, li25, li26, li27, li28, li29, li30, li31, li32, li33, li34, li35, li36, li37, li38, li39, li40, li41, li42, li44, li48, li57, li63, li64, li65, li97, li99, li100, li101, li102, li104, li105, li106, li109, li114, li120, li128, li130, li300, li514, li999, li1000, li8192, li9999, li65536, li1000000, li1000001, li1000002, li1000003, li1000004, li1000005, li1000006, li1000007, li1000008, li1000009, li1000010, li1000011, li1000012, li1000013, li1000014, li1000015, li1000016, li1000017, li1000018, li1000019, li2147483647, lj0, lj1, W_add, W_sub, W_mul, W_neg, V_add, V_sub, V_mul, V_neg, W_ite, W_le, W_lt, W_inj, V_le, V_lt, V_inj, W_V, V_W, lgc_ge, lgc_gt, lgc_le, lgc_lt, lgc_eq, ge_iff_le, gt_iff_lt, e1, q, Int.reduceEq, ↓reduceIte, r_Z]
    · rw [bb_neg q]
      simp (disch := first | assumption | omega) only [f_X1_isBaseAsked, f_X1_isBaseAsked_b36, ↓rcL, ↓gIL_0, ↓gIL_10, ↓gIL_11, ↓gIL_12, ↓gIL_13, ↓gIL_14, ↓gIL_15, ↓pIL_0, ↓pIL_10, ↓pIL_11, ↓pIL_12, ↓pIL_13, ↓pIL_14, ↓pIL_15, ↓gRL_1, ↓gRL_2, ↓gRL_3, ↓gRL_4, ↓gRL_5, ↓gRL_6, ↓gRL_7, ↓gRL_8, ↓gRL_9, ↓aIL1, ↓sZL1, ↓lnL1, ↓aIL2, ↓sIL2, ↓lnL2, ↓aIL3, ↓sIL3, ↓lnL3, ↓aIL4, ↓sIL4, ↓lnL4, ↓aIL5, ↓sIL5, ↓lnL5, ↓aIL6, ↓sIL6, ↓lnL6, ↓aIL7, ↓sIL7, ↓lnL7, ↓rc41, ↓gR41_0, ↓gR41_1, ↓gR41_2, ↓aI42, ↓sI42, ↓ln42, ↓aI43, ↓sI43, ↓ln43, ↓c_I, ↓c_J, ↓c_Q, ↓c_V, ↓c_It, ↓c_Jt, ↓c_Vt, ↓k_I, ↓k_J, ↓n_I, ↓n_V, li0, li1, li2, li3, li4, li5, li6, li7, li8, li9, li10, li11, li12, li13, li14, li15, li16, li17, li18, li19, li20, li21, li22, li23, li24, li25, li26, li27, li28, li29, li30, li31, li32, li33, li34, li35, li36, li37, li38, li39, li40, li41, li42, li44, li48, li57, li63, li64, li65, li97, li99, li100, li101, li102, li104, li105, li106, li109, li114, li120, li128, li130, li300, li514, li999, li1000, li8192, li9999, li65536, li1000000, li1000001, li1000002, li1000003, li1000004, li1000005, li1000006, li1000007, li1000008, li1000009, li1000010, li1000011, li1000012, li1000013, li1000014, li1000015, li1000016, li1000017, li1000018, li1000019, li2147483647, lj0, lj1, W_add, W_sub, W_mul, W_neg, V_add, V_sub, V_mul, V_neg, W_ite, W_le, W_lt, W_inj, V_le, V_lt, V_inj, W_V, V_W, lgc_ge, lgc_gt, lgc_le, lgc_lt, lgc_eq, ge_iff_le, gt_iff_lt, e1, q, Int.reduceEq, ↓reduceIte, r_Z]
theorem e_limitAsked (h : LX I A o ax) {g k : Int} (hg : g = 0 ∨ g = 1) (k0 : 1 ≤ k) (k1 : k ≤ 100) : f_X1_isLimitAsked (Sx I J b c) 41 o (iW k) (iW g) = some (Sx I J b c, xi (iW (bb (asked A ax 2 g k)))) := by
  have e1 := e_part (J := J) (b := b) (c := c) h (k := k) (p := 2) k0 k1 (by omega) (by omega)
  obtain ⟨ho, hx, h1, hA, hP, hM, hR⟩ := h
  have hpt := tpt_ok hA (ax := ax) (by omega) (by omega) k0
  have ha : asked A ax 2 g k ↔ (tpt A ax k 2 ≠ 0 ∧ tpt A ax k 2 ≠ 5 ∧ (g ≠ 0 → tpt A ax k 2 ≠ 1)) := by unfold asked; rw [if_neg (by decide)]
  rw [bb_congr ha]
  by_cases q0 : tpt A ax k 2 = 0
  · rw [bb_neg (fun z => z.1 q0)]
    simp (disch := first | assumption | omega) only [f_X1_isLimitAsked, f_X1_isLimitAsked_b33, f_X1_isLimitAsked_b34, ↓rcL, ↓gIL_0, ↓gIL_10, ↓gIL_11, ↓gIL_12, ↓gIL_13, ↓gIL_14, ↓gIL_15, ↓pIL_0, ↓pIL_10, ↓pIL_11, ↓pIL_12, ↓pIL_13, ↓pIL_14, ↓pIL_15, ↓gRL_1, ↓gRL_2, ↓gRL_3, ↓gRL_4, ↓gRL_5, ↓gRL_6, ↓gRL_7, ↓gRL_8, ↓gRL_9, ↓aIL1, ↓sZL1, ↓lnL1, ↓aIL2, ↓sIL2, ↓lnL2, ↓aIL3, ↓sIL3, ↓lnL3, ↓aIL4, ↓sIL4, ↓lnL4, ↓aIL5, ↓sIL5, ↓lnL5, ↓aIL6, ↓sIL6, ↓lnL6, ↓aIL7, ↓sIL7, ↓lnL7, ↓rc41, ↓gR41_0, ↓gR41_1, ↓gR41_2, ↓aI42, ↓sI42, ↓ln42, ↓aI43, ↓sI43, ↓ln43, ↓c_I, ↓c_J, ↓c_Q, ↓c_V, ↓c_It, ↓c_Jt, ↓c_Vt, ↓k_I, ↓k_J, ↓n_I, ↓n_V, li0, li1, li2, li3, li4, li5, li6, li7, li8, li9, li10, li11, li12, li13, li14, li15, li16, li17, li18, li19, li20, li21, li22, li23, li24, li25, li26, li27, li28, li29, li30, li31, li32, li33, li34, li35, li36, li37, li38, li39, li40, li41, li42, li44, li48, li57, li63, li64, li65, li97, li99, li100, li101, li102, li104, li105, li106, li109, li114, li120, li128, li130, li300, li514, li999, li1000, li8192, li9999, li65536, li1000000, li1000001, li1000002, li1000003, li1000004, li1000005, li1000006, li1000007, li1000008, li1000009, li1000010, li1000011, li1000012, li1000013, li1000014, li1000015, li1000016, li1000017, li1000018, li1000019, li2147483647, lj0, lj1, W_add, W_sub, W_mul, W_neg, V_add, V_sub, V_mul, V_neg, W_ite, W_le, W_lt, W_inj, V_le, V_lt, V_inj, W_V, V_W, lgc_ge, lgc_gt, lgc_le, lgc_lt, lgc_eq, ge_iff_le, gt_iff_lt, e1, q0, ↓reduceIte, r_Z]
  · by_cases q5 : tpt A ax k 2 = 5
    · rw [bb_neg (fun z => z.2.1 q5)]
      simp (disch := first | assumption | omega) only [f_X1_isLimitAsked, f_X1_isLimitAsked_b33, f_X1_isLimitAsked_b34, ↓rcL, ↓gIL_0, ↓gIL_10, ↓gIL_11, ↓gIL_12, ↓gIL_13, ↓gIL_14, ↓gIL_15, ↓pIL_0, ↓pIL_10, ↓pIL_11, ↓pIL_12, ↓pIL_13, ↓pIL_14, ↓pIL_15, ↓gRL_1, ↓gRL_2, ↓gRL_3, ↓gRL_4, ↓gRL_5, ↓gRL_6, ↓gRL_7, ↓gRL_8, ↓gRL_9, ↓aIL1, ↓sZL1, ↓lnL1, ↓aIL2, ↓sIL2, ↓lnL2, ↓aIL3, ↓sIL3, ↓lnL3, ↓aIL4, ↓sIL4, ↓lnL4, ↓aIL5, ↓sIL5, ↓lnL5, ↓aIL6, ↓sIL6, ↓lnL6, ↓aIL7, ↓sIL7, ↓lnL7, ↓rc41, ↓gR41_0, ↓gR41_1, ↓gR41_2, ↓aI42, ↓sI42, ↓ln42, ↓aI43, ↓sI43, ↓ln43, ↓c_I, ↓c_J, ↓c_Q, ↓c_V, ↓c_It, ↓c_Jt, ↓c_Vt, ↓k_I, ↓k_J, ↓n_I, ↓n_V, li0, li1, li2, li3, li4, li5, li6, li7, li8, li9, li10, li11, li12, li13, li14, li15, li16, li17, li18, li19, li20, li21, li22, li23, li24, li25, li26, li27, li28, li29, li30, li31, li32, li33, li34, li35, li36, li37, li38, li39, li40, li41, li42, li44, li48, li57, li63, li64, li65, li97, li99, li100, li101, li102, li104, li105, li106, li109, li114, li120, li128, li130, li300, li514, li999, li1000, li8192, li9999, li65536, li1000000, li1000001, li1000002, li1000003, li1000004, li1000005, li1000006, li1000007, li1000008, li1000009, li1000010, li1000011, li1000012, li1000013, li1000014, li1000015, li1000016, li1000017, li1000018, li1000019, li2147483647, lj0, lj1, W_add, W_sub, W_mul, W_neg, V_add, V_sub, V_mul, V_neg, W_ite, W_le, W_lt, W_inj, V_le, V_lt, V_inj, W_V, V_W, lgc_ge, lgc_gt, lgc_le, lgc_lt, lgc_eq, ge_iff_le, gt_iff_lt, e1, q5, Int.reduceEq, ↓reduceIte, r_Z]
    · rcases hg with rfl | rfl
      · rw [bb_pos ⟨q0, q5, fun z => absurd rfl z⟩]
        simp (disch := first | assumption | omega) only [f_X1_isLimitAsked, f_X1_isLimitAsked_b29, f_X1_isLimitAsked_b34, ↓rcL, ↓gIL_0, ↓gIL_10, ↓gIL_11, ↓gIL_12, ↓gIL_13, ↓gIL_14, ↓gIL_15, ↓pIL_0, ↓pIL_10, ↓pIL_11, ↓pIL_12, ↓pIL_13, ↓pIL_14, ↓pIL_15, ↓gRL_1, ↓gRL_2, ↓gRL_3, ↓gRL_4, ↓gRL_5, ↓gRL_6, ↓gRL_7, ↓gRL_8, ↓gRL_9, ↓aIL1, ↓sZL1, ↓lnL1, ↓aIL2, ↓sIL2, ↓lnL2, ↓aIL3, ↓sIL3, ↓lnL3, ↓aIL4, ↓sIL4, ↓lnL4, ↓aIL5, ↓sIL5, ↓lnL5, ↓aIL6, ↓sIL6, ↓lnL6, ↓aIL7, ↓sIL7, ↓lnL7, ↓rc41, ↓gR41_0, ↓gR41_1, ↓gR41_2, ↓aI42, ↓sI42, ↓ln42, ↓aI43, ↓sI43, ↓ln43, ↓c_I, ↓c_J, ↓c_Q, ↓c_V, ↓c_It, ↓c_Jt, ↓c_Vt, ↓k_I, ↓k_J, ↓n_I, ↓n_V, li0, li1, li2, li3, li4, li5, li6, li7, li8, li9, li10, li11, li12, li13, li14, li15, li16, li17, li18, li19, li20, li21, li22, li23, li24, li25, li26, li27, li28, li29, li30, li31, li32, li33, li34, li35, li36, li37, li38, li39, li40, li41, li42, li44, li48, li57, li63, li64, li65, li97, li99, li100, li101, li102, li104, li105, li106, li109, li114, li120, li128, li130, li300, li514, li999, li1000, li8192, li9999, li65536, li1000000, li1000001, li1000002, li1000003, li1000004, li1000005, li1000006, li1000007, li1000008, li1000009, li1000010, li1000011, li1000012, li1000013, li1000014, li1000015, li1000016, li1000017, li1000018, li1000019, li2147483647, lj0, lj1, W_add, W_sub, W_mul, W_neg, V_add, V_sub, V_mul, V_neg, W_ite, W_le, W_lt, W_inj, V_le, V_lt, V_inj, W_V, V_W, lgc_ge, lgc_gt, lgc_le, lgc_lt, lgc_eq, ge_iff_le, gt_iff_lt, e1, q0, q5, ↓reduceIte, r_Z]
      · by_cases q1 : tpt A ax k 2 = 1
        · rw [bb_neg (fun z => z.2.2 (by decide) q1)]
          simp (disch := first | assumption | omega) only [f_X1_isLimitAsked, f_X1_isLimitAsked_b33, f_X1_isLimitAsked_b34, ↓rcL, ↓gIL_0, ↓gIL_10, ↓gIL_11, ↓gIL_12, ↓gIL_13, ↓gIL_14, ↓gIL_15, ↓pIL_0, ↓pIL_10, ↓pIL_11, ↓pIL_12, ↓pIL_13, ↓pIL_14, ↓pIL_15, ↓gRL_1, ↓gRL_2, ↓gRL_3, ↓gRL_4, ↓gRL_5, ↓gRL_6, ↓gRL_7, ↓gRL_8, ↓gRL_9, ↓aIL1, ↓sZL1, ↓lnL1, ↓aIL2, ↓sIL2, ↓lnL2, ↓aIL3, ↓sIL3, ↓lnL3, ↓aIL4, ↓sIL4, ↓lnL4, ↓aIL5, ↓sIL5, ↓lnL5, ↓aIL6, ↓sIL6, ↓lnL6, ↓aIL7, ↓sIL7, ↓lnL7, ↓rc41, ↓gR41_0, ↓gR41_1, ↓gR41_2, ↓aI42, ↓sI42, ↓ln42, ↓aI43, ↓sI43, ↓ln43, ↓c_I, ↓c_J, ↓c_Q, ↓c_V, ↓c_It, ↓c_Jt, ↓c_Vt, ↓k_I, ↓k_J, ↓n_I, ↓n_V, li0, li1, li2, li3, li4, li5, li6, li7, li8, li9, li10, li11, li12, li13, li14, li15, li16, li17, li18, li19, li20, li21, li22, li23, li24, li25, li26, li27, li28, li29, li30, li31, li32, li33, li34, li35, li36, li37, li38, li39, li40, li41, li42, li44, li48, li57, li63, li64, li65, li97, li99, li100, li101, li102, li104, li105, li106, li109, li114, li120, li128, li130, li300, li514, li999, li1000, li8192, li9999, li65536, li1000000, li1000001, li1000002, li1000003, li1000004, li1000005, li1000006, li1000007, li1000008, li1000009, li1000010, li1000011, li1000012, li1000013, li1000014, li1000015, li1000016, li1000017, li1000018, li1000019, li2147483647, lj0, lj1, W_add, W_sub, W_mul, W_neg, V_add, V_sub, V_mul, V_neg, W_ite, W_le, W_lt, W_inj, V_le, V_lt, V_inj, W_V, V_W, lgc_ge, lgc_gt, lgc_le, lgc_lt, lgc_eq, ge_iff_le, gt_iff_lt, e1, q1, Int.reduceEq, ↓reduceIte, r_Z]
        · rw [bb_pos ⟨q0, q5, fun _ => q1⟩]
          simp (disch := first | assumption | omega) only [f_X1_isLimitAsked, f_X1_isLimitAsked_b29, f_X1_isLimitAsked_b34, ↓rcL, ↓gIL_0, ↓gIL_10, ↓gIL_11, ↓gIL_12, ↓gIL_13, ↓gIL_14, ↓gIL_15, ↓pIL_0, ↓pIL_10, ↓pIL_11, ↓pIL_12, ↓pIL_13, ↓pIL_14, ↓pIL_15, ↓gRL_1, ↓gRL_2, ↓gRL_3, ↓gRL_4, ↓gRL_5, ↓gRL_6, ↓gRL_7, ↓gRL_8, ↓gRL_9, ↓aIL1, ↓sZL1, ↓lnL1, ↓aIL2, ↓sIL2, ↓lnL2, ↓aIL3, ↓sIL3, ↓lnL3, ↓aIL4, ↓sIL4, ↓lnL4, ↓aIL5, ↓sIL5, ↓lnL5, ↓aIL6, ↓sIL6, ↓lnL6, ↓aIL7, ↓sIL7, ↓lnL7, ↓rc41, ↓gR41_0, ↓gR41_1, ↓gR41_2, ↓aI42, ↓sI42, ↓ln42, ↓aI43, ↓sI43, ↓ln43, ↓c_I, ↓c_J, ↓c_Q, ↓c_V, ↓c_It, ↓c_Jt, ↓c_Vt, ↓k_I, ↓k_J, ↓n_I, ↓n_V, li0, li1, li2, li3, li4, li5, li6, li7, li8, li9, li10, li11, li12, li13, li14, li15, li16, li17, li18, li19, li20, li21, li22, li23, li24, li25, li26, li27, li28, li29, li30, li31, li32, li33, li34, li35, li36, li37, li38, li39, li40, li41, li42, li44, li48, li57, li63, li64, li65, li97, li99, li100, li101, li102, li104, li105, li106, li109, li114, li120, li128, li130, li300, li514, li999, li1000, li8192, li9999, li65536, li1000000, li1000001, li1000002, li1000003, li1000004, li1000005, li1000006, li1000007, li1000008, li1000009, li1000010, li1000011, li1000012, li1000013, li1000014, li1000015, li1000016, li1000017, li1000018, li1000019, li2147483647, lj0, lj1, W_add, W_sub, W_mul, W_neg, V_add, V_sub, V_mul, V_neg, W_ite, W_le, W_lt, W_inj, V_le, V_lt, V_inj, W_V, V_W, lgc_ge, lgc_gt, lgc_le, lgc_lt, lgc_eq, ge_iff_le, gt_iff_lt, e1, q0, q5, q1, Int.reduceEq, ↓reduceIte, r_Z]
/-- a group's work: what the sizes were before, and the groups -/
def CX (I A : CF) (o : Nat) (ax s : Int) (base f : Int → Int) : Prop := LY I A o ax ∧ (s = 1 ∨ s = 2) ∧ (∀ i, 0 ≤ i → i < nit A → I 43 i = grp A ax i) ∧ (∀ k, 0 ≤ k → k < 65 → I 42 k = f k) ∧ (s = 2 → ∀ k, 0 ≤ k → k < 65 → I (o + 2) k = base k) ∧ (∀ k, 0 ≤ f k ∧ f k ≤ 999) ∧ ∀ k, 0 ≤ base k ∧ base k ≤ 999
theorem e_room {s : Int} {base f : Int → Int} (h : CX I A o ax s base f) {k : Int} (k0 : 1 ≤ k) (k1 : k ≤ nt A ax) : ∃ v, f_X1_roomOf (Sx I J b c) 41 o (iW k) (iW s) = some (Sx I J b c, xi (iW v)) ∧ (if 0 < v then v else 0) = rmF A ax s base f k ∧ -1000 ≤ v ∧ v ≤ 1000000 := by
  obtain ⟨hY, hs, hgr, hf, hb, hfb, hbb⟩ := h
  have hX := hY.1
  obtain ⟨ho, hx, h1, hA, hP, hM, hR⟩ := hX
  have hnt := hP.2 ax (by omega) (by omega)
  have e2 := e_part (J := J) (b := b) (c := c) hY.1 (k := k) (p := 2) k0 (by omega) (by omega) (by omega)
  have e3 := e_part (J := J) (b := b) (c := c) hY.1 (k := k) (p := 3) k0 (by omega) (by omega) (by omega)
  have hpt := tpt_ok hA (ax := ax) (by omega) (by omega) k0
  have f1 := hf k (by omega) (by omega)
  have f2 := hfb k
  have f3 := hbb k
  have hif : ∀ v : Int, (if 0 < v then v else 0) = max 0 v := fun v => by split <;> omega
  unfold rmF
  rcases hs with rfl | rfl
  · rw [if_pos rfl]
    by_cases q : tpt A ax k 2 = 0
    · refine ⟨max (tpt A ax k 3) (f k) - f k, ?_, by rw [if_pos q, hif], by omega, by omega⟩
      have hmax : (if tpt A ax k 3 < f k then f k else tpt A ax k 3) = max (tpt A ax k 3) (f k) := by split <;> omega
      simp (disch := first | assumption | omega) only [f_X1_roomOf, f_X1_roomOf_b10, f_X1_roomOf_b46, ↓rcL, ↓gIL_0, ↓gIL_10, ↓gIL_11, ↓gIL_12, ↓gIL_13, ↓gIL_14, ↓gIL_15, ↓pIL_0, ↓pIL_10, ↓pIL_11, ↓pIL_12, ↓pIL_13, ↓pIL_14, ↓pIL_15, ↓gRL_1, ↓gRL_2, ↓gRL_3, ↓gRL_4, ↓gRL_5, ↓gRL_6, ↓gRL_7, ↓gRL_8, ↓gRL_9, ↓aIL1, ↓sZL1, ↓lnL1, ↓aIL2, ↓sIL2, ↓lnL2, ↓aIL3, ↓sIL3, ↓lnL3, ↓aIL4, ↓sIL4, ↓lnL4, ↓aIL5, ↓sIL5, ↓lnL5, ↓aIL6, ↓sIL6, ↓lnL6, ↓aIL7, ↓sIL7, ↓lnL7, ↓rc41, ↓gR41_0, ↓gR41_1, ↓gR41_2, ↓aI42, ↓sI42, ↓ln42, ↓aI43, ↓sI43, ↓ln43, ↓c_I, ↓c_J, ↓c_Q, ↓c_V, ↓c_It, ↓c_Jt, ↓c_Vt, ↓k_I, ↓k_J, ↓n_I, ↓n_V, li0, li1, li2, li3, li4, li5, li6, li7, li8, li9, li10, li11, li12, li13, li14, li15, li16, li17, li18, li19, li20, li21, li22, li23, li24, li25, li26, li27, li28, li29, li30, li31, li32, li33, li34, li35, li36, li37, li38, li39, li40, li41, li42, li44, li48, li57, li63, li64, li65, li97, li99, li100, li101, li102, li104, li105, li106, li109, li114, li120, li128, li130, li300, li514, li999, li1000, li8192, li9999, li65536, li1000000, li1000001, li1000002, li1000003, li1000004, li1000005, li1000006, li1000007, li1000008, li1000009, li1000010, li1000011, li1000012, li1000013, li1000014, li1000015, li1000016, li1000017, li1000018, li1000019, li2147483647, lj0, lj1, W_add, W_sub, W_mul, W_neg, V_add, V_sub, V_mul, V_neg, W_ite, W_le, W_lt, W_inj, V_le, V_lt, V_inj, W_V, V_W, lgc_ge, lgc_gt, lgc_le, lgc_lt, lgc_eq, ge_iff_le, gt_iff_lt, e2, e3, q, f1, hmax, ↓reduceIte]
    · refine ⟨1000000, ?_, by rw [if_neg q, hif], by omega, by omega⟩
      simp (disch := first | assumption | omega) only [f_X1_roomOf, f_X1_roomOf_b10, f_X1_roomOf_b46, ↓rcL, ↓gIL_0, ↓gIL_10, ↓gIL_11, ↓gIL_12, ↓gIL_13, ↓gIL_14, ↓gIL_15, ↓pIL_0, ↓pIL_10, ↓pIL_11, ↓pIL_12, ↓pIL_13, ↓pIL_14, ↓pIL_15, ↓gRL_1, ↓gRL_2, ↓gRL_3, ↓gRL_4, ↓gRL_5, ↓gRL_6, ↓gRL_7, ↓gRL_8, ↓gRL_9, ↓aIL1, ↓sZL1, ↓lnL1, ↓aIL2, ↓sIL2, ↓lnL2, ↓aIL3, ↓sIL3, ↓lnL3, ↓aIL4, ↓sIL4, ↓lnL4, ↓aIL5, ↓sIL5, ↓lnL5, ↓aIL6, ↓sIL6, ↓lnL6, ↓aIL7, ↓sIL7, ↓lnL7, ↓rc41, ↓gR41_0, ↓gR41_1, ↓gR41_2, ↓aI42, ↓sI42, ↓ln42, ↓aI43, ↓sI43, ↓ln43, ↓c_I, ↓c_J, ↓c_Q, ↓c_V, ↓c_It, ↓c_Jt, ↓c_Vt, ↓k_I, ↓k_J, ↓n_I, ↓n_V, li0, li1, li2, li3, li4, li5, li6, li7, li8, li9, li10, li11, li12, li13, li14, li15, li16, li17, li18, li19, li20, li21, li22, li23, li24, li25, li26, li27, li28, li29, li30, li31, li32, li33, li34, li35, li36, li37, li38, li39, li40, li41, li42, li44, li48, li57, li63, li64, li65, li97, li99, li100, li101, li102, li104, li105, li106, li109, li114, li120, li128, li130, li300, li514, li999, li1000, li8192, li9999, li65536, li1000000, li1000001, li1000002, li1000003, li1000004, li1000005, li1000006, li1000007, li1000008, li1000009, li1000010, li1000011, li1000012, li1000013, li1000014, li1000015, li1000016, li1000017, li1000018, li1000019, li2147483647, lj0, lj1, W_add, W_sub, W_mul, W_neg, V_add, V_sub, V_mul, V_neg, W_ite, W_le, W_lt, W_inj, V_le, V_lt, V_inj, W_V, V_W, lgc_ge, lgc_gt, lgc_le, lgc_lt, lgc_eq, ge_iff_le, gt_iff_lt, e2, q, ↓reduceIte]
  · rw [if_neg (by decide)]
    have f4 := hb rfl k (by omega) (by omega)
    by_cases q : tpt A ax k 2 = 4
    · refine ⟨max (tpt A ax k 3) (base k) - f k, ?_, by rw [if_pos q, hif], by omega, by omega⟩
      have hmax : (if tpt A ax k 3 < base k then base k else tpt A ax k 3) = max (tpt A ax k 3) (base k) := by split <;> omega
      simp (disch := first | assumption | omega) only [f_X1_roomOf, f_X1_roomOf_b10, f_X1_roomOf_b46, ↓rcL, ↓gIL_0, ↓gIL_10, ↓gIL_11, ↓gIL_12, ↓gIL_13, ↓gIL_14, ↓gIL_15, ↓pIL_0, ↓pIL_10, ↓pIL_11, ↓pIL_12, ↓pIL_13, ↓pIL_14, ↓pIL_15, ↓gRL_1, ↓gRL_2, ↓gRL_3, ↓gRL_4, ↓gRL_5, ↓gRL_6, ↓gRL_7, ↓gRL_8, ↓gRL_9, ↓aIL1, ↓sZL1, ↓lnL1, ↓aIL2, ↓sIL2, ↓lnL2, ↓aIL3, ↓sIL3, ↓lnL3, ↓aIL4, ↓sIL4, ↓lnL4, ↓aIL5, ↓sIL5, ↓lnL5, ↓aIL6, ↓sIL6, ↓lnL6, ↓aIL7, ↓sIL7, ↓lnL7, ↓rc41, ↓gR41_0, ↓gR41_1, ↓gR41_2, ↓aI42, ↓sI42, ↓ln42, ↓aI43, ↓sI43, ↓ln43, ↓c_I, ↓c_J, ↓c_Q, ↓c_V, ↓c_It, ↓c_Jt, ↓c_Vt, ↓k_I, ↓k_J, ↓n_I, ↓n_V, li0, li1, li2, li3, li4, li5, li6, li7, li8, li9, li10, li11, li12, li13, li14, li15, li16, li17, li18, li19, li20, li21, li22, li23, li24, li25, li26, li27, li28, li29, li30, li31, li32, li33, li34, li35, li36, li37, li38, li39, li40, li41, li42, li44, li48, li57, li63, li64, li65, li97, li99, li100, li101, li102, li104, li105, li106, li109, li114, li120, li128, li130, li300, li514, li999, li1000, li8192, li9999, li65536, li1000000, li1000001, li1000002, li1000003, li1000004, li1000005, li1000006, li1000007, li1000008, li1000009, li1000010, li1000011, li1000012, li1000013, li1000014, li1000015, li1000016, li1000017, li1000018, li1000019, li2147483647, lj0, lj1, W_add, W_sub, W_mul, W_neg, V_add, V_sub, V_mul, V_neg, W_ite, W_le, W_lt, W_inj, V_le, V_lt, V_inj, W_V, V_W, lgc_ge, lgc_gt, lgc_le, lgc_lt, lgc_eq, ge_iff_le, gt_iff_lt, e2, e3, q, f1, f4, hmax, Int.reduceEq, ↓reduceIte]
    · refine ⟨1000000, ?_, by rw [if_neg q, hif], by omega, by omega⟩
      simp (disch := first | assumption | omega) only [f_X1_roomOf, f_X1_roomOf_b10, f_X1_roomOf_b46, ↓rcL, ↓gIL_0, ↓gIL_10, ↓gIL_11, ↓gIL_12, ↓gIL_13, ↓gIL_14, ↓gIL_15, ↓pIL_0, ↓pIL_10, ↓pIL_11, ↓pIL_12, ↓pIL_13, ↓pIL_14, ↓pIL_15, ↓gRL_1, ↓gRL_2, ↓gRL_3, ↓gRL_4, ↓gRL_5, ↓gRL_6, ↓gRL_7, ↓gRL_8, ↓gRL_9, ↓aIL1, ↓sZL1, ↓lnL1, ↓aIL2, ↓sIL2, ↓lnL2, ↓aIL3, ↓sIL3, ↓lnL3, ↓aIL4, ↓sIL4, ↓lnL4, ↓aIL5, ↓sIL5, ↓lnL5, ↓aIL6, ↓sIL6, ↓lnL6, ↓aIL7, ↓sIL7, ↓lnL7, ↓rc41, ↓gR41_0, ↓gR41_1, ↓gR41_2, ↓aI42, ↓sI42, ↓ln42, ↓aI43, ↓sI43, ↓ln43, ↓c_I, ↓c_J, ↓c_Q, ↓c_V, ↓c_It, ↓c_Jt, ↓c_Vt, ↓k_I, ↓k_J, ↓n_I, ↓n_V, li0, li1, li2, li3, li4, li5, li6, li7, li8, li9, li10, li11, li12, li13, li14, li15, li16, li17, li18, li19, li20, li21, li22, li23, li24, li25, li26, li27, li28, li29, li30, li31, li32, li33, li34, li35, li36, li37, li38, li39, li40, li41, li42, li44, li48, li57, li63, li64, li65, li97, li99, li100, li101, li102, li104, li105, li106, li109, li114, li120, li128, li130, li300, li514, li999, li1000, li8192, li9999, li65536, li1000000, li1000001, li1000002, li1000003, li1000004, li1000005, li1000006, li1000007, li1000008, li1000009, li1000010, li1000011, li1000012, li1000013, li1000014, li1000015, li1000016, li1000017, li1000018, li1000019, li2147483647, lj0, lj1, W_add, W_sub, W_mul, W_neg, V_add, V_sub, V_mul, V_neg, W_ite, W_le, W_lt, W_inj, V_le, V_lt, V_inj, W_V, V_W, lgc_ge, lgc_gt, lgc_le, lgc_lt, lgc_eq, ge_iff_le, gt_iff_lt, e2, q, Int.reduceEq, ↓reduceIte]
theorem e_space_L {s : Int} {base f : Int → Int} (h : CX I A o ax s base f) {i : Int} (i0 : 0 ≤ i) (i1 : i < nit A) : ∀ (fuel : Nat) (k : Int), pl A i ax + itf A i ax 3 - k < fuel → pl A i ax ≤ k → k ≤ pl A i ax + itf A i ax 3 → f_X1_spaceOf_L13 fuel (Sx I J b c) 41 o (iW i) (iW (gpa A ax * (itf A i ax 3 - 1) + rs f (pl A i ax) (k - 1))) (iW k) = some (Sx I J b c, xi (iW (spc A ax f i))) := by
  obtain ⟨hY, hs, hgr, hf, hb, hfb, hbb⟩ := h
  have hX := hY.1
  obtain ⟨ho, hx, h1, hA, hP, hM, hR⟩ := hX
  have hpb := hP.1 i ax i0 i1 (by omega) (by omega)
  have hnt := hP.2 ax (by omega) (by omega)
  have hsp := (hA.2.2.2.2.2 i ax i0 i1 (by omega) (by omega)).2.2.1
  have e1 := e_last (J := J) (b := b) (c := c) hY i0 i1
  intro fuel
  induction fuel with
  | zero => intro k a1 a2 a3; omega
  | succ fuel ih =>
    intro k a1 a2 a3
    show f_X1_spaceOf_b13 (f_X1_spaceOf_L13 fuel) (Sx I J b c) 41 o (iW i) _ (iW k) = _
    by_cases hk : pl A i ax + itf A i ax 3 - 1 < k
    · have e : k - 1 = pl A i ax + itf A i ax 3 - 1 := by omega
      rw [e]
      unfold spc
      simp (disch := first | assumption | omega) only [f_X1_spaceOf_b13, ↓rcL, ↓gIL_0, ↓gIL_10, ↓gIL_11, ↓gIL_12, ↓gIL_13, ↓gIL_14, ↓gIL_15, ↓pIL_0, ↓pIL_10, ↓pIL_11, ↓pIL_12, ↓pIL_13, ↓pIL_14, ↓pIL_15, ↓gRL_1, ↓gRL_2, ↓gRL_3, ↓gRL_4, ↓gRL_5, ↓gRL_6, ↓gRL_7, ↓gRL_8, ↓gRL_9, ↓aIL1, ↓sZL1, ↓lnL1, ↓aIL2, ↓sIL2, ↓lnL2, ↓aIL3, ↓sIL3, ↓lnL3, ↓aIL4, ↓sIL4, ↓lnL4, ↓aIL5, ↓sIL5, ↓lnL5, ↓aIL6, ↓sIL6, ↓lnL6, ↓aIL7, ↓sIL7, ↓lnL7, ↓rc41, ↓gR41_0, ↓gR41_1, ↓gR41_2, ↓aI42, ↓sI42, ↓ln42, ↓aI43, ↓sI43, ↓ln43, ↓c_I, ↓c_J, ↓c_Q, ↓c_V, ↓c_It, ↓c_Jt, ↓c_Vt, ↓k_I, ↓k_J, ↓n_I, ↓n_V, li0, li1, li2, li3, li4, li5, li6, li7, li8, li9, li10, li11, li12, li13, li14, li15, li16, li17, li18, li19, li20, li21, li22, li23, li24, li25, li26, li27, li28, li29, li30, li31, li32, li33, li34, li35, li36, li37, li38, li39, li40, li41, li42, li44, li48, li57, li63, li64, li65, li97, li99, li100, li101, li102, li104, li105, li106, li109, li114, li120, li128, li130, li300, li514, li999, li1000, li8192, li9999, li65536, li1000000, li1000001, li1000002, li1000003, li1000004, li1000005, li1000006, li1000007, li1000008, li1000009, li1000010, li1000011, li1000012, li1000013, li1000014, li1000015, li1000016, li1000017, li1000018, li1000019, li2147483647, lj0, lj1, W_add, W_sub, W_mul, W_neg, V_add, V_sub, V_mul, V_neg, W_ite, W_le, W_lt, W_inj, V_le, V_lt, V_inj, W_V, V_W, lgc_ge, lgc_gt, lgc_le, lgc_lt, lgc_eq, ge_iff_le, gt_iff_lt, e1, hk, ↓reduceIte]
    · have hnext := ih (k + 1) (by omega) (by omega) (by omega)
      have hrs : rs f (pl A i ax) (k + 1 - 1) = rs f (pl A i ax) (k - 1) + f k := by
        rw [show k + 1 - 1 = k by omega]
        exact rs_s (by omega)
      rw [hrs, ← Int.add_assoc] at hnext
      have f1 := hf k (by omega) (by omega)
      simp (disch := first | assumption | omega) only [f_X1_spaceOf_b13, ↓rcL, ↓gIL_0, ↓gIL_10, ↓gIL_11, ↓gIL_12, ↓gIL_13, ↓gIL_14, ↓gIL_15, ↓pIL_0, ↓pIL_10, ↓pIL_11, ↓pIL_12, ↓pIL_13, ↓pIL_14, ↓pIL_15, ↓gRL_1, ↓gRL_2, ↓gRL_3, ↓gRL_4, ↓gRL_5, ↓gRL_6, ↓gRL_7, ↓gRL_8, ↓gRL_9, ↓aIL1, ↓sZL1, ↓lnL1, ↓aIL2, ↓sIL2, ↓lnL2, ↓aIL3, ↓sIL3, ↓lnL3, ↓aIL4, ↓sIL4, ↓lnL4, ↓aIL5, ↓sIL5, ↓lnL5, ↓aIL6, ↓sIL6, ↓lnL6, ↓aIL7, ↓sIL7, ↓lnL7, ↓rc41, ↓gR41_0, ↓gR41_1, ↓gR41_2, ↓aI42, ↓sI42, ↓ln42, ↓aI43, ↓sI43, ↓ln43, ↓c_I, ↓c_J, ↓c_Q, ↓c_V, ↓c_It, ↓c_Jt, ↓c_Vt, ↓k_I, ↓k_J, ↓n_I, ↓n_V, li0, li1, li2, li3, li4, li5, li6, li7, li8, li9, li10, li11, li12, li13, li14, li15, li16, li17, li18, li19, li20, li21, li22, li23, li24, li25, li26, li27, li28, li29, li30, li31, li32, li33, li34, li35, li36, li37, li38, li39, li40, li41, li42, li44, li48, li57, li63, li64, li65, li97, li99, li100, li101, li102, li104, li105, li106, li109, li114, li120, li128, li130, li300, li514, li999, li1000, li8192, li9999, li65536, li1000000, li1000001, li1000002, li1000003, li1000004, li1000005, li1000006, li1000007, li1000008, li1000009, li1000010, li1000011, li1000012, li1000013, li1000014, li1000015, li1000016, li1000017, li1000018, li1000019, li2147483647, lj0, lj1, W_add, W_sub, W_mul, W_neg, V_add, V_sub, V_mul, V_neg, W_ite, W_le, W_lt, W_inj, V_le, V_lt, V_inj, W_V, V_W, lgc_ge, lgc_gt, lgc_le, lgc_lt, lgc_eq, ge_iff_le, gt_iff_lt, e1, hk, f1, ↓reduceIte, hnext]
theorem e_space {s : Int} {base f : Int → Int} (h : CX I A o ax s base f) {i : Int} (i0 : 0 ≤ i) (i1 : i < nit A) : f_X1_spaceOf (Sx I J b c) 41 o (iW i) = some (Sx I J b c, xi (iW (spc A ax f i))) := by
  have hsp := (h.1.1.2.2.2.1.2.2.2.2.2 i ax i0 i1 (by have := h.1.1.2.1; omega) (by have := h.1.1.2.1; omega)).2.2.1
  have hL := e_space_L (J := J) (b := b) (c := c) h i0 i1 FU (pl A i ax) (by unfold FU; omega) (by omega) (by omega)
  rw [rs_0 (by omega), Int.add_zero] at hL
  have ho := h.1.1.1
  have e1 := e_first (J := J) (b := b) (c := c) h.1.1 i0 i1
  have e2 := e_guttersWithin (J := J) (b := b) (c := c) h.1 i0 i1
  simp (disch := first | assumption | omega) only [f_X1_spaceOf, ↓rcL, ↓gIL_0, ↓gIL_10, ↓gIL_11, ↓gIL_12, ↓gIL_13, ↓gIL_14, ↓gIL_15, ↓pIL_0, ↓pIL_10, ↓pIL_11, ↓pIL_12, ↓pIL_13, ↓pIL_14, ↓pIL_15, ↓gRL_1, ↓gRL_2, ↓gRL_3, ↓gRL_4, ↓gRL_5, ↓gRL_6, ↓gRL_7, ↓gRL_8, ↓gRL_9, ↓aIL1, ↓sZL1, ↓lnL1, ↓aIL2, ↓sIL2, ↓lnL2, ↓aIL3, ↓sIL3, ↓lnL3, ↓aIL4, ↓sIL4, ↓lnL4, ↓aIL5, ↓sIL5, ↓lnL5, ↓aIL6, ↓sIL6, ↓lnL6, ↓aIL7, ↓sIL7, ↓lnL7, ↓rc41, ↓gR41_0, ↓gR41_1, ↓gR41_2, ↓aI42, ↓sI42, ↓ln42, ↓aI43, ↓sI43, ↓ln43, ↓c_I, ↓c_J, ↓c_Q, ↓c_V, ↓c_It, ↓c_Jt, ↓c_Vt, ↓k_I, ↓k_J, ↓n_I, ↓n_V, li0, li1, li2, li3, li4, li5, li6, li7, li8, li9, li10, li11, li12, li13, li14, li15, li16, li17, li18, li19, li20, li21, li22, li23, li24, li25, li26, li27, li28, li29, li30, li31, li32, li33, li34, li35, li36, li37, li38, li39, li40, li41, li42, li44, li48, li57, li63, li64, li65, li97, li99, li100, li101, li102, li104, li105, li106, li109, li114, li120, li128, li130, li300, li514, li999, li1000, li8192, li9999, li65536, li1000000, li1000001, li1000002, li1000003, li1000004, li1000005, li1000006, li1000007, li1000008, li1000009, li1000010, li1000011, li1000012, li1000013, li1000014, li1000015, li1000016, li1000017, li1000018, li1000019, li2147483647, lj0, lj1, W_add, W_sub, W_mul, W_neg, V_add, V_sub, V_mul, V_neg, W_ite, W_le, W_lt, W_inj, V_le, V_lt, V_inj, W_V, V_W, lgc_ge, lgc_gt, lgc_le, lgc_lt, lgc_eq, ge_iff_le, gt_iff_lt, e1, e2, hL]
end ConF

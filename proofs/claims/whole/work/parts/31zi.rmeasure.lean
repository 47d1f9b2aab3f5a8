/-! ===== the reference: stretching; an axis measured ===== -/
theorem Gr.room {may : Int → Prop} {w r1 r2 : Int → Int} {M : Int} (h1 : ∀ k, M ≤ r1 k) (h2 : ∀ k, M ≤ r2 k) : ∀ {p : Nat} {g g' : Int → Int} {s : Nat}, (∀ k, g k + p ≤ M) → (Gr may w r1 p g g' s ↔ Gr may w r2 p g g' s) := by
  intro p
  induction p with
  | zero =>
    intro g g' s _
    exact Iff.rfl
  | succ p ih =>
    intro g g' s hg
    have e : av may r1 g = av may r2 g := funext fun k => propext ⟨fun z => ⟨z.1, by have := hg k; have := h2 k; omega⟩, fun z => ⟨z.1, by have := hg k; have := h1 k; omega⟩⟩
    unfold Gr
    rw [e]
    refine or_congr Iff.rfl (exists_congr fun b => and_congr_right fun _ => ih fun k => ?_)
    have h3 := hg k
    unfold up1
    split
    · next e => rw [← e]; omega
    · omega
theorem dch {α : Type} {P Q : α → Prop} {d : α} (h : P = Q) : @dite α (∃ x, P x) (Classical.propDecidable _) (fun h => Classical.choose h) (fun _ => d) = @dite α (∃ x, Q x) (Classical.propDecidable _) (fun h => Classical.choose h) (fun _ => d) := by
  subst h
  rfl
theorem fil_room {may : Int → Prop} {w r1 r2 : Int → Int} {p : Nat} {M : Int} (h1 : ∀ k, M ≤ r1 k) (h2 : ∀ k, M ≤ r2 k) (hp : (p : Int) ≤ M) : fil false may w r1 p = fil false may w r2 p := by
  have e : grf may w r1 p (fun _ => 0) = grf may w r2 p (fun _ => 0) := by
    unfold grf
    exact dch (funext fun x => propext (Gr.room h1 h2 (fun k => by show (0 : Int) + p ≤ M; omega)))
  unfold fil
  rw [if_neg (by decide), if_neg (by decide), e]
section RStretch
variable {J : CF} {b : Nat} {c : Bool} {A : CF} {ax : Int}
theorem r_str108 {n : Int} {m : Int → Int} (hn : n ≤ 63) {I0 : CF} (h28 : I0 102 28 = n) (hr : ∀ k, 1 ≤ k → k ≤ n → I0 229 k = m k) : ∀ (fuel : Nat) (k : Int) (I : CF), n - k + 1 < fuel → 1 ≤ k → k ≤ n + 1 → (∀ a : Int, a ≠ 228 → I a = I0 a) → (∀ j, 1 ≤ j → j < k → I 228 j = m j) →
    ∃ I', f_X8_stretch_L108 fuel (Sx I J b c) 102 (iW k) = some (Sx I' J b c, xv) ∧ (∀ j, 1 ≤ j → j ≤ n → I' 228 j = m j) ∧ ∀ a : Int, a ≠ 228 → I' a = I0 a := by
  intro fuel
  induction fuel with
  | zero => intro k I a1 a2 a3; omega
  | succ fuel ih =>
    intro k I a1 a2 a3 hIo hd
    show ∃ I', f_X8_stretch_b108 (f_X8_stretch_L108 fuel) (Sx I J b c) 102 (iW k) = _ ∧ _
    have g28 : I 102 28 = n := by rw [hIo 102 (by omega)]; exact h28
    by_cases hk : k = n + 1
    · have n0 : n < k := by omega
      refine ⟨I, ?_, fun j j0 j1 => hd j j0 (by omega), hIo⟩
      simp (disch := first | assumption | omega) only [f_X8_stretch_b108, ↓rc102, ↓gI102_0, ↓gI102_6, ↓gI102_8, ↓gI102_9, ↓gI102_13, ↓gI102_15, ↓gI102_16, ↓gI102_17, ↓gI102_18, ↓gI102_19, ↓gI102_27, ↓gI102_28, ↓gI102_29, ↓gJ102_39, ↓gJ102_40, ↓gJ102_41, ↓gJ102_42, ↓pI102_0, ↓pI102_6, ↓pI102_9, ↓pI102_13, ↓pI102_15, ↓pI102_16, ↓pI102_17, ↓pI102_27, ↓pI102_28, ↓pI102_29, ↓pZ102_8, ↓pZ102_18, ↓pZ102_19, ↓pJ102_39, ↓pJ102_40, ↓pJ102_41, ↓pJ102_42, ↓gR102_1, ↓gR102_2, ↓gR102_3, ↓gR102_4, ↓gR102_5, ↓gR102_7, ↓gR102_10, ↓gR102_11, ↓gR102_12, ↓gR102_14, ↓gR102_20, ↓gR102_21, ↓gR102_22, ↓gR102_23, ↓gR102_24, ↓gR102_25, ↓gR102_26, ↓gR102_30, ↓gR102_31, ↓gR102_32, ↓gR102_33, ↓gR102_34, ↓gR102_35, ↓gR102_36, ↓gR102_37, ↓gR102_38, ↓aI103, ↓sI103, ↓ln103, ↓aI137, ↓sI137, ↓ln137, ↓aI188, ↓sZ188, ↓ln188, ↓aI189, ↓ln189, ↓aI203, ↓sI203, ↓ln203, ↓aI217, ↓sZ217, ↓ln217, ↓aI218, ↓sI218, ↓ln218, ↓aI219, ↓sI219, ↓ln219, ↓aI220, ↓sZ220, ↓ln220, ↓aI221, ↓sZ221, ↓ln221, ↓aI229, ↓sI229, ↓ln229, ↓aI230, ↓sI230, ↓ln230, ↓aI231, ↓sI231, ↓ln231, ↓aI232, ↓sI232, ↓ln232, ↓aI233, ↓sI233, ↓ln233, ↓aI234, ↓sZ234, ↓ln234, ↓aI235, ↓sZ235, ↓ln235, ↓aR104, ↓aR131, ↓aR134, ↓aR138, ↓aR175, ↓aR179, ↓aR190, ↓aR204, ↓aR222, ↓aR105, ↓aR139, ↓aI106, ↓sI106, ↓lI106, ↓aI132, ↓sI132, ↓lI132, ↓aI135, ↓sI135, ↓lI135, ↓aI140, ↓sI140, ↓lI140, ↓aI176, ↓sI176, ↓lI176, ↓aI180, ↓sI180, ↓lI180, ↓aI191, ↓sI191, ↓lI191, ↓aI205, ↓sI205, ↓lI205, ↓aI223, ↓sI223, ↓lI223, ↓c_I, ↓c_J, ↓c_Q, ↓c_V, ↓c_It, ↓c_Jt, ↓c_Vt, ↓k_I, ↓k_J, ↓n_I, ↓n_V, li0, li1, li2, li3, li4, li5, li6, li7, li8, li9, li10, li11, li12, li13, li14, li15, li16, li17, li18, li19, li20, li21, li22, li23, li24, li25, li26, li27, li28, li29, li30, li31, li32, li33, li34, li35, li36, li37, li38, li39, li40, li41, li42, li44, li48, li57, li63, li64, li65, li97, li99, li100, li101, li102, li104, li105, li106, li109, li114, li120, li128, li130, li300, li514, li999, li1000, li8192, li9999, li65536, li1000000, li1000001, li1000002, li1000003, li1000004, li1000005, li1000006, li1000007, li1000008, li1000009, li1000010, li1000011, li1000012, li1000013, li1000014, li1000015, li1000016, li1000017, li1000018, li1000019, li2147483647, lj0, lj1, W_add, W_sub, W_mul, W_neg, V_add, V_sub, V_mul, V_neg, W_ite, W_le, W_lt, W_inj, V_le, V_lt, V_inj, W_V, V_W, lgc_ge, lgc_gt, lgc_le, lgc_lt, lgc_eq, ge_iff_le, gt_iff_lt, g28, n0, ↓reduceIte]
    · have n1 : ¬ (n < k) := by omega
      have g2 : I 229 k = m k := by rw [hIo 229 (by omega)]; exact hr k a2 (by omega)
      obtain ⟨I', k1, k2⟩ := ih (k + 1) (uI I 228 k (m k)) (by omega) (by omega) (by omega) (fun a ha => by rw [u_obj ha]; exact hIo a ha) (fun j j0 j1 => by
        rw [u_at]
        by_cases e : j = k
        · rw [if_pos e, e]
        · rw [if_neg e]
          exact hd j j0 (by omega))
      refine ⟨I', ?_, k2⟩
      rw [← k1]
      simp (disch := first | assumption | omega) only [f_X8_stretch_b108, ↓rc102, ↓gI102_0, ↓gI102_6, ↓gI102_8, ↓gI102_9, ↓gI102_13, ↓gI102_15, ↓gI102_16, ↓gI102_17, ↓gI102_18, ↓gI102_19, ↓gI102_27, ↓gI102_28, ↓gI102_29, ↓gJ102_39, ↓gJ102_40, ↓gJ102_41, ↓gJ102_42, ↓pI102_0, ↓pI102_6, ↓pI102_9, ↓pI102_13, ↓pI102_15, ↓pI102_16, ↓pI102_17, ↓pI102_27, ↓pI102_28, ↓pI102_29, ↓pZ102_8, ↓pZ102_18, ↓pZ102_19, ↓pJ102_39, ↓pJ102_40, ↓pJ102_41, ↓pJ102_42, ↓gR102_1, ↓gR102_2, ↓gR102_3, ↓gR102_4, ↓gR102_5, ↓gR102_7, ↓gR102_10, ↓gR102_11, ↓gR102_12, ↓gR102_14, ↓gR102_20, ↓gR102_21, ↓gR102_22, ↓gR102_23, ↓gR102_24, ↓gR102_25, ↓gR102_26, ↓gR102_30, ↓gR102_31, ↓gR102_32, ↓gR102_33, ↓gR102_34, ↓gR102_35, ↓gR102_36, ↓gR102_37, ↓gR102_38, ↓aI103, ↓sI103, ↓ln103, ↓aI137, ↓sI137, ↓ln137, ↓aI188, ↓sZ188, ↓ln188, ↓aI189, ↓ln189, ↓aI203, ↓sI203, ↓ln203, ↓aI217, ↓sZ217, ↓ln217, ↓aI218, ↓sI218, ↓ln218, ↓aI219, ↓sI219, ↓ln219, ↓aI220, ↓sZ220, ↓ln220, ↓aI221, ↓sZ221, ↓ln221, ↓aI229, ↓sI229, ↓ln229, ↓aI230, ↓sI230, ↓ln230, ↓aI231, ↓sI231, ↓ln231, ↓aI232, ↓sI232, ↓ln232, ↓aI233, ↓sI233, ↓ln233, ↓aI234, ↓sZ234, ↓ln234, ↓aI235, ↓sZ235, ↓ln235, ↓aR104, ↓aR131, ↓aR134, ↓aR138, ↓aR175, ↓aR179, ↓aR190, ↓aR204, ↓aR222, ↓aR105, ↓aR139, ↓aI106, ↓sI106, ↓lI106, ↓aI132, ↓sI132, ↓lI132, ↓aI135, ↓sI135, ↓lI135, ↓aI140, ↓sI140, ↓lI140, ↓aI176, ↓sI176, ↓lI176, ↓aI180, ↓sI180, ↓lI180, ↓aI191, ↓sI191, ↓lI191, ↓aI205, ↓sI205, ↓lI205, ↓aI223, ↓sI223, ↓lI223, ↓c_I, ↓c_J, ↓c_Q, ↓c_V, ↓c_It, ↓c_Jt, ↓c_Vt, ↓k_I, ↓k_J, ↓n_I, ↓n_V, li0, li1, li2, li3, li4, li5, li6, li7, li8, li9, li10, li11, li12, li13, li14, li15, li16, li17, li18, li19, li20, li21, li22, li23, li24, li25, li26, li27, li28, li29, li30, li31, li32, li33, li34, li35, li36, li37, li38, li39, li40, li41, li42, li44, li48, li57, li63, li64, li65, li97, li99, li100, li101, li102, li104, li105, li106, li109, li114, li120, li128, li130, li300, li514, li999, li1000, li8192, li9999, li65536, li1000000, li1000001, li1000002, li1000003, li1000004, li1000005, li1000006, li1000007, li1000008, li1000009, li1000010, li1000011, li1000012, li1000013, li1000014, li1000015, li1000016, li1000017, li1000018, li1000019, li2147483647, lj0, lj1, W_add, W_sub, W_mul, W_neg, V_add, V_sub, V_mul, V_neg, W_ite, W_le, W_lt, W_inj, V_le, V_lt, V_inj, W_V, V_W, lgc_ge, lgc_gt, lgc_le, lgc_lt, lgc_eq, ge_iff_le, gt_iff_lt, aR222, g28, n1, g2, c223_5, ↓reduceIte]
theorem r_str12 {I0 : CF} (h0 : RX I0 A ax) (hS : ∀ k, 1 ≤ k → k ≤ nt A ax → I0 227 k = shd A ax k) (hPF : PF I0 (nt A ax) (shd A ax)) : ∀ (fuel : Nat) (k : Int) (I : CF), nt A ax - k + 1 < fuel → 1 ≤ k → k ≤ nt A ax + 1 → (∀ a : Int, a ≠ 234 → I a = I0 a) → (∀ j, 1 ≤ j → j < k → I 234 j = bb (opn A ax j ∧ tpt A ax j 2 = 3)) →
    ∃ I', f_X8_stretch_L12 fuel (Sx I J b c) 102 (iW k) = some (Sx I' J b c, xv) ∧ (∀ j, 1 ≤ j → j ≤ nt A ax → I' 228 j = str A ax j) ∧ ∀ a : Int, (a < 228 ∨ 234 < a) → I' a = I0 a := by
  have h0' := h0
  obtain ⟨hA, hx, hN, h27, h28, h29, hc⟩ := h0'
  have hP := plB_of hA
  have hnt := hP.2 ax (by omega) (by omega)
  have hst := (hA.2.2.2.1 ax (by omega) (by omega)).2
  have hzb : -1 ≤ asz A ax ∧ asz A ax ≤ 9999 := hst.1
  have hcb := hst.2.2
  intro fuel
  induction fuel with
  | zero => intro k I a1 a2 a3; omega
  | succ fuel ih =>
    intro k I a1 a2 a3 hIo hd
    show ∃ I', f_X8_stretch_b12 (f_X8_stretch_L12 fuel) (Sx I J b c) 102 (iW k) = _ ∧ _
    have hR : RX I A ax := h0.fr (hIo 102 (by omega)) (fun a a0 a1 => hIo a (by omega))
    have g28 := hR.2.2.2.2.1
    have g27 := hR.2.2.2.1
    have gz : I (135 + ax) 0 = asz A ax := hR.2.2.1.1.2.2.2.1 ax 0 (by omega) (by omega) (by omega) (by omega)
    have gc : I (135 + ax) 2 = stg A ax 2 := hR.2.2.1.1.2.2.2.1 ax 2 (by omega) (by omega) (by omega) (by omega)
    by_cases hk : k = nt A ax + 1
    · have n0 : nt A ax < k := by omega
      have fin : ∀ I1 : CF, I1 102 28 = nt A ax → (∀ j, 1 ≤ j → j ≤ nt A ax → I1 229 j = str A ax j) → (∀ a : Int, (a < 228 ∨ 234 < a) → I1 a = I0 a) → ∃ I', f_X8_stretch_L108 FU (Sx I1 J b c) 102 (iW 1) = some (Sx I' J b c, xv) ∧ (∀ j, 1 ≤ j → j ≤ nt A ax → I' 228 j = str A ax j) ∧ ∀ a : Int, (a < 228 ∨ 234 < a) → I' a = I0 a := fun I1 w1 w2 w3 => by
        obtain ⟨I', k1, k2, k3⟩ := r_str108 (J := J) (b := b) (c := c) (n := nt A ax) (m := str A ax) (by omega) w1 w2 FU 1 I1 (by unfold FU; omega) (by omega) (by omega) (fun _ _ => rfl) (fun j j0 j1 => by omega)
        exact ⟨I', k1, k2, fun a ha => by rw [k3 a (by omega), w3 a ha]⟩
      have plain : str A ax = shd A ax → ∃ I', f_X8_stretch_L108 FU (Sx I J b c) 102 (iW 1) = some (Sx I' J b c, xv) ∧ (∀ j, 1 ≤ j → j ≤ nt A ax → I' 228 j = str A ax j) ∧ ∀ a : Int, (a < 228 ∨ 234 < a) → I' a = I0 a := fun hs => fin I g28 (fun j j0 j1 => by rw [hIo 229 (by omega), (hPF j j0 j1).1, hs]) (fun a ha => hIo a (by omega))
      by_cases q : asz A ax = -1
      · obtain ⟨I', k1, k2⟩ := plain (if_neg (fun z => z.1 q))
        refine ⟨I', ?_, k2⟩
        rw [← k1]
        simp (disch := first | assumption | omega) only [f_X8_stretch_b12, f_X8_stretch_b106, ↓rc102, ↓gI102_0, ↓gI102_6, ↓gI102_8, ↓gI102_9, ↓gI102_13, ↓gI102_15, ↓gI102_16, ↓gI102_17, ↓gI102_18, ↓gI102_19, ↓gI102_27, ↓gI102_28, ↓gI102_29, ↓gJ102_39, ↓gJ102_40, ↓gJ102_41, ↓gJ102_42, ↓pI102_0, ↓pI102_6, ↓pI102_9, ↓pI102_13, ↓pI102_15, ↓pI102_16, ↓pI102_17, ↓pI102_27, ↓pI102_28, ↓pI102_29, ↓pZ102_8, ↓pZ102_18, ↓pZ102_19, ↓pJ102_39, ↓pJ102_40, ↓pJ102_41, ↓pJ102_42, ↓gR102_1, ↓gR102_2, ↓gR102_3, ↓gR102_4, ↓gR102_5, ↓gR102_7, ↓gR102_10, ↓gR102_11, ↓gR102_12, ↓gR102_14, ↓gR102_20, ↓gR102_21, ↓gR102_22, ↓gR102_23, ↓gR102_24, ↓gR102_25, ↓gR102_26, ↓gR102_30, ↓gR102_31, ↓gR102_32, ↓gR102_33, ↓gR102_34, ↓gR102_35, ↓gR102_36, ↓gR102_37, ↓gR102_38, ↓aI103, ↓sI103, ↓ln103, ↓aI137, ↓sI137, ↓ln137, ↓aI188, ↓sZ188, ↓ln188, ↓aI189, ↓ln189, ↓aI203, ↓sI203, ↓ln203, ↓aI217, ↓sZ217, ↓ln217, ↓aI218, ↓sI218, ↓ln218, ↓aI219, ↓sI219, ↓ln219, ↓aI220, ↓sZ220, ↓ln220, ↓aI221, ↓sZ221, ↓ln221, ↓aI229, ↓sI229, ↓ln229, ↓aI230, ↓sI230, ↓ln230, ↓aI231, ↓sI231, ↓ln231, ↓aI232, ↓sI232, ↓ln232, ↓aI233, ↓sI233, ↓ln233, ↓aI234, ↓sZ234, ↓ln234, ↓aI235, ↓sZ235, ↓ln235, ↓aR104, ↓aR131, ↓aR134, ↓aR138, ↓aR175, ↓aR179, ↓aR190, ↓aR204, ↓aR222, ↓aR105, ↓aR139, ↓aI106, ↓sI106, ↓lI106, ↓aI132, ↓sI132, ↓lI132, ↓aI135, ↓sI135, ↓lI135, ↓aI140, ↓sI140, ↓lI140, ↓aI176, ↓sI176, ↓lI176, ↓aI180, ↓sI180, ↓lI180, ↓aI191, ↓sI191, ↓lI191, ↓aI205, ↓sI205, ↓lI205, ↓aI223, ↓sI223, ↓lI223, ↓c_I, ↓c_J, ↓c_Q, ↓c_V, ↓c_It, ↓c_Jt, ↓c_Vt, ↓k_I, ↓k_J, ↓n_I, ↓n_V, li0, li1, li2, li3, li4, li5, li6, li7, li8, li9, li10, li11, li12, li13, li14, li15, li16, li17, li18, li19, li20, li21, li22, li23, li24, li25, li26, li27, li28, li29, li30, li31, li32, li33, li34, li35, li36, li37, li38, li39, li40, li41, li42, li44, li48, li57, li63, li64, li65, li97, li99, li100, li101, li102, li104, li105, li106, li109, li114, li120, li128, li130, li300, li514, li999, li1000, li8192, li9999, li65536, li1000000, li1000001, li1000002, li1000003, li1000004, li1000005, li1000006, li1000007, li1000008, li1000009, li1000010, li1000011, li1000012, li1000013, li1000014, li1000015, li1000016, li1000017, li1000018, li1000019, li2147483647, lj0, lj1, W_add, W_sub, W_mul, W_neg, V_add, V_sub, V_mul, V_neg, W_ite, W_le, W_lt, W_inj, V_le, V_lt, V_inj, W_V, V_W, lgc_ge, lgc_gt, lgc_le, lgc_lt, lgc_eq, ge_iff_le, gt_iff_lt, g27, g28, n0, gz, q, ↓reduceIte]
      · by_cases q2 : stg A ax 2 = 0
        · have hbb := fun k => shd_bd hA hP (ax := ax) (by omega) (by omega) k
          have htb := tot_bd hA hP (ax := ax) (by omega) (by omega) (M := 11100000) (by omega) (fun k => (hbb k).1)
          have es := r_sum (J := J) (b := b) (c := c) hR (s := 4) (f := shd A ax) (by omega) (by omega) (fun j j0 j1 => by
            rw [c223_4, hIo 227 (by omega)]
            exact hS j j0 j1) (fun k hk => (hbb k).2 (fun z => z.2 hk))
          have hRF : RF I (nt A ax) (fun k => opn A ax k ∧ tpt A ax k 2 = 3) (fun _ => 1) (shd A ax) (fun _ => 0) := by
            refine ⟨⟨g28, hnt.2.1, hnt.2.2⟩, fun k hk => hk.1.1, fun k k0 k1 => hd k k0 (by omega), fun k hk => ?_, fun k k0 k1 => ?_⟩
            · rw [hIo 230 (by omega), (hPF k hk.1.1.1 hk.1.1.2).2.2.1]
              show (1 : Int) = 1 ∧ (0 : Int) < 1 ∧ (1 : Int) ≤ 999
              omega
            · rw [hIo 229 (by omega), hIo 232 (by omega), (hPF k k0 k1).1, (hPF k k0 k1).2.2.2.2]
              have := (hbb k).1
              show shd A ax k = shd A ax k + 0 ∧ (0 : Int) = 0 ∧ ((0 : Int) ≤ 0 ∧ (0 : Int) ≤ 20000) ∧ _
              omega
          have h231 : ∀ k, 1 ≤ k → k ≤ nt A ax → I 231 k = 2147483647 := fun k k0 k1 => by
            rw [hIo 231 (by omega)]
            exact (hPF k k0 k1).2.2.2.1
          obtain ⟨I1, x1, x2, x3⟩ := r_fill (J := J) (b := b) (c := c) (rg := 0) (r := fun _ => 1000000) (p := asz A ax - tot A ax (shd A ax)) (by omega) (fun k k0 k1 => by
            rw [h231 k k0 k1]
            omega) (fun k hk x x0 x1 => by
            rw [h231 k hk.1.1.1 hk.1.1.2]
            have := (hbb k).1
            show shd A ax k + x < 2147483647 ↔ x < 1000000
            omega) (by omega) (by omega) hRF
          have hdec : (decide ((0 : Int) = 1)) = false := rfl
          have hroom := fil_room (may := fun k => opn A ax k ∧ tpt A ax k 2 = 3) (w := fun _ => 1) (r1 := fun _ => 1000000) (r2 := fun _ => 9999) (p := (asz A ax - tot A ax (shd A ax)).toNat) (M := 9999) (fun _ => by show (9999 : Int) ≤ 1000000; omega) (fun _ => by show (9999 : Int) ≤ 9999; omega) (by omega)
          rw [hdec, hroom] at x2
          have hstr : str A ax = fun k => shd A ax k + fil false (fun k => opn A ax k ∧ tpt A ax k 2 = 3) (fun _ => 1) (fun _ => 9999) (asz A ax - tot A ax (shd A ax)).toNat k := if_pos ⟨q, q2⟩
          obtain ⟨I', k1, k2⟩ := fin I1 (by rw [x3 102 (by omega) (by omega)]; exact g28) (fun j j0 j1 => by rw [x2 j j0 j1, hstr]) (fun a ha => by rw [x3 a (by omega) (by omega), hIo a (by omega)])
          refine ⟨I', ?_, k2⟩
          rw [← k1]
          simp (disch := first | assumption | omega) only [f_X8_stretch_b12, f_X8_stretch_b106, ↓rc102, ↓gI102_0, ↓gI102_6, ↓gI102_8, ↓gI102_9, ↓gI102_13, ↓gI102_15, ↓gI102_16, ↓gI102_17, ↓gI102_18, ↓gI102_19, ↓gI102_27, ↓gI102_28, ↓gI102_29, ↓gJ102_39, ↓gJ102_40, ↓gJ102_41, ↓gJ102_42, ↓pI102_0, ↓pI102_6, ↓pI102_9, ↓pI102_13, ↓pI102_15, ↓pI102_16, ↓pI102_17, ↓pI102_27, ↓pI102_28, ↓pI102_29, ↓pZ102_8, ↓pZ102_18, ↓pZ102_19, ↓pJ102_39, ↓pJ102_40, ↓pJ102_41, ↓pJ102_42, ↓gR102_1, ↓gR102_2, ↓gR102_3, ↓gR102_4, ↓gR102_5, ↓gR102_7, ↓gR102_10, ↓gR102_11, ↓gR102_12, ↓gR102_14, ↓gR102_20, ↓gR102_21, ↓gR102_22, ↓gR102_23, ↓gR102_24, ↓gR102_25, ↓gR102_26, ↓gR102_30, ↓gR102_31, ↓gR102_32, ↓gR102_33, ↓gR102_34, ↓gR102_35, ↓gR102_36, ↓gR102_37, ↓gR102_38, ↓aI103, ↓sI103, ↓ln103, ↓aI137, ↓sI137, ↓ln137, ↓aI188, ↓sZ188, ↓ln188, ↓aI189, ↓ln189, ↓aI203, ↓sI203, ↓ln203, ↓aI217, ↓sZ217, ↓ln217, ↓aI218, ↓sI218, ↓ln218, ↓aI219, ↓sI219, ↓ln219, ↓aI220, ↓sZ220, ↓ln220, ↓aI221, ↓sZ221, ↓ln221, ↓aI229, ↓sI229, ↓ln229, ↓aI230, ↓sI230, ↓ln230, ↓aI231, ↓sI231, ↓ln231, ↓aI232, ↓sI232, ↓ln232, ↓aI233, ↓sI233, ↓ln233, ↓aI234, ↓sZ234, ↓ln234, ↓aI235, ↓sZ235, ↓ln235, ↓aR104, ↓aR131, ↓aR134, ↓aR138, ↓aR175, ↓aR179, ↓aR190, ↓aR204, ↓aR222, ↓aR105, ↓aR139, ↓aI106, ↓sI106, ↓lI106, ↓aI132, ↓sI132, ↓lI132, ↓aI135, ↓sI135, ↓lI135, ↓aI140, ↓sI140, ↓lI140, ↓aI176, ↓sI176, ↓lI176, ↓aI180, ↓sI180, ↓lI180, ↓aI191, ↓sI191, ↓lI191, ↓aI205, ↓sI205, ↓lI205, ↓aI223, ↓sI223, ↓lI223, ↓c_I, ↓c_J, ↓c_Q, ↓c_V, ↓c_It, ↓c_Jt, ↓c_Vt, ↓k_I, ↓k_J, ↓n_I, ↓n_V, li0, li1, li2, li3, li4, li5, li6, li7, li8, li9, li10, li11, li12, li13, li14, li15, li16, li17, li18, li19, li20, li21, li22, li23, li24, li25, li26, li27, li28, li29, li30, li31, li32, li33, li34, li35, li36, li37, li38, li39, li40, li41, li42, li44, li48, li57, li63, li64, li65, li97, li99, li100, li101, li102, li104, li105, li106, li109, li114, li120, li128, li130, li300, li514, li999, li1000, li8192, li9999, li65536, li1000000, li1000001, li1000002, li1000003, li1000004, li1000005, li1000006, li1000007, li1000008, li1000009, li1000010, li1000011, li1000012, li1000013, li1000014, li1000015, li1000016, li1000017, li1000018, li1000019, li2147483647, lj0, lj1, W_add, W_sub, W_mul, W_neg, V_add, V_sub, V_mul, V_neg, W_ite, W_le, W_lt, W_inj, V_le, V_lt, V_inj, W_V, V_W, lgc_ge, lgc_gt, lgc_le, lgc_lt, lgc_eq, ge_iff_le, gt_iff_lt, g27, g28, n0, gz, gc, q, q2, es, x1, ↓reduceIte]
        · obtain ⟨I', k1, k2⟩ := plain (if_neg (fun z => q2 z.2))
          refine ⟨I', ?_, k2⟩
          rw [← k1]
          simp (disch := first | assumption | omega) only [f_X8_stretch_b12, f_X8_stretch_b106, ↓rc102, ↓gI102_0, ↓gI102_6, ↓gI102_8, ↓gI102_9, ↓gI102_13, ↓gI102_15, ↓gI102_16, ↓gI102_17, ↓gI102_18, ↓gI102_19, ↓gI102_27, ↓gI102_28, ↓gI102_29, ↓gJ102_39, ↓gJ102_40, ↓gJ102_41, ↓gJ102_42, ↓pI102_0, ↓pI102_6, ↓pI102_9, ↓pI102_13, ↓pI102_15, ↓pI102_16, ↓pI102_17, ↓pI102_27, ↓pI102_28, ↓pI102_29, ↓pZ102_8, ↓pZ102_18, ↓pZ102_19, ↓pJ102_39, ↓pJ102_40, ↓pJ102_41, ↓pJ102_42, ↓gR102_1, ↓gR102_2, ↓gR102_3, ↓gR102_4, ↓gR102_5, ↓gR102_7, ↓gR102_10, ↓gR102_11, ↓gR102_12, ↓gR102_14, ↓gR102_20, ↓gR102_21, ↓gR102_22, ↓gR102_23, ↓gR102_24, ↓gR102_25, ↓gR102_26, ↓gR102_30, ↓gR102_31, ↓gR102_32, ↓gR102_33, ↓gR102_34, ↓gR102_35, ↓gR102_36, ↓gR102_37, ↓gR102_38, ↓aI103, ↓sI103, ↓ln103, ↓aI137, ↓sI137, ↓ln137, ↓aI188, ↓sZ188, ↓ln188, ↓aI189, ↓ln189, ↓aI203, ↓sI203, ↓ln203, ↓aI217, ↓sZ217, ↓ln217, ↓aI218, ↓sI218, ↓ln218, ↓aI219, ↓sI219, ↓ln219, ↓aI220, ↓sZ220, ↓ln220, ↓aI221, ↓sZ221, ↓ln221, ↓aI229, ↓sI229, ↓ln229, ↓aI230, ↓sI230, ↓ln230, ↓aI231, ↓sI231, ↓ln231, ↓aI232, ↓sI232, ↓ln232, ↓aI233, ↓sI233, ↓ln233, ↓aI234, ↓sZ234, ↓ln234, ↓aI235, ↓sZ235, ↓ln235, ↓aR104, ↓aR131, ↓aR134, ↓aR138, ↓aR175, ↓aR179, ↓aR190, ↓aR204, ↓aR222, ↓aR105, ↓aR139, ↓aI106, ↓sI106, ↓lI106, ↓aI132, ↓sI132, ↓lI132, ↓aI135, ↓sI135, ↓lI135, ↓aI140, ↓sI140, ↓lI140, ↓aI176, ↓sI176, ↓lI176, ↓aI180, ↓sI180, ↓lI180, ↓aI191, ↓sI191, ↓lI191, ↓aI205, ↓sI205, ↓lI205, ↓aI223, ↓sI223, ↓lI223, ↓c_I, ↓c_J, ↓c_Q, ↓c_V, ↓c_It, ↓c_Jt, ↓c_Vt, ↓k_I, ↓k_J, ↓n_I, ↓n_V, li0, li1, li2, li3, li4, li5, li6, li7, li8, li9, li10, li11, li12, li13, li14, li15, li16, li17, li18, li19, li20, li21, li22, li23, li24, li25, li26, li27, li28, li29, li30, li31, li32, li33, li34, li35, li36, li37, li38, li39, li40, li41, li42, li44, li48, li57, li63, li64, li65, li97, li99, li100, li101, li102, li104, li105, li106, li109, li114, li120, li128, li130, li300, li514, li999, li1000, li8192, li9999, li65536, li1000000, li1000001, li1000002, li1000003, li1000004, li1000005, li1000006, li1000007, li1000008, li1000009, li1000010, li1000011, li1000012, li1000013, li1000014, li1000015, li1000016, li1000017, li1000018, li1000019, li2147483647, lj0, lj1, W_add, W_sub, W_mul, W_neg, V_add, V_sub, V_mul, V_neg, W_ite, W_le, W_lt, W_inj, V_le, V_lt, V_inj, W_V, V_W, lgc_ge, lgc_gt, lgc_le, lgc_lt, lgc_eq, ge_iff_le, gt_iff_lt, g27, g28, n0, gz, gc, q, q2, ↓reduceIte]
    · have n1 : ¬ (nt A ax < k) := by omega
      have hck : I 221 k = bb (col A ax k) := hR.2.2.2.2.2.2 k a2 (by omega)
      have e2 := r_kind (J := J) (b := b) (c := c) hR (k := k) a2 (by omega)
      have tb := (tpt_ok hA (ax := ax) (k := k) (by omega) (by omega) a2).2.2.1
      have go : ∀ v : Int, v = bb (opn A ax k ∧ tpt A ax k 2 = 3) → ∃ I', f_X8_stretch_L12 fuel (Sx (uI I 234 k v) J b c) 102 (iW (k + 1)) = some (Sx I' J b c, xv) ∧ (∀ j, 1 ≤ j → j ≤ nt A ax → I' 228 j = str A ax j) ∧ ∀ a : Int, (a < 228 ∨ 234 < a) → I' a = I0 a := fun v hv => ih (k + 1) _ (by omega) (by omega) (by omega) (fun a h1 => by rw [u_obj h1]; exact hIo a h1) (fun j j0 j1 => by
          by_cases e : j = k
          · rw [e, u_eq]
            exact hv
          · rw [u_ne e]
            exact hd j j0 (by omega))
      by_cases q : col A ax k
      · rw [bb_pos q] at hck
        obtain ⟨I', k1, k2⟩ := go 0 (bb_neg (fun z => z.1.2 q)).symm
        refine ⟨I', ?_, k2⟩
        rw [← k1]
        simp (disch := first | assumption | omega) only [f_X8_stretch_b12, f_X8_stretch_b47, f_X8_stretch_b48, ↓rc102, ↓gI102_0, ↓gI102_6, ↓gI102_8, ↓gI102_9, ↓gI102_13, ↓gI102_15, ↓gI102_16, ↓gI102_17, ↓gI102_18, ↓gI102_19, ↓gI102_27, ↓gI102_28, ↓gI102_29, ↓gJ102_39, ↓gJ102_40, ↓gJ102_41, ↓gJ102_42, ↓pI102_0, ↓pI102_6, ↓pI102_9, ↓pI102_13, ↓pI102_15, ↓pI102_16, ↓pI102_17, ↓pI102_27, ↓pI102_28, ↓pI102_29, ↓pZ102_8, ↓pZ102_18, ↓pZ102_19, ↓pJ102_39, ↓pJ102_40, ↓pJ102_41, ↓pJ102_42, ↓gR102_1, ↓gR102_2, ↓gR102_3, ↓gR102_4, ↓gR102_5, ↓gR102_7, ↓gR102_10, ↓gR102_11, ↓gR102_12, ↓gR102_14, ↓gR102_20, ↓gR102_21, ↓gR102_22, ↓gR102_23, ↓gR102_24, ↓gR102_25, ↓gR102_26, ↓gR102_30, ↓gR102_31, ↓gR102_32, ↓gR102_33, ↓gR102_34, ↓gR102_35, ↓gR102_36, ↓gR102_37, ↓gR102_38, ↓aI103, ↓sI103, ↓ln103, ↓aI137, ↓sI137, ↓ln137, ↓aI188, ↓sZ188, ↓ln188, ↓aI189, ↓ln189, ↓aI203, ↓sI203, ↓ln203, ↓aI217, ↓sZ217, ↓ln217, ↓aI218, ↓sI218, ↓ln218, ↓aI219, ↓sI219, ↓ln219, ↓aI220, ↓sZ220, ↓ln220, ↓aI221, ↓sZ221, ↓ln221, ↓aI229, ↓sI229, ↓ln229, ↓aI230, ↓sI230, ↓ln230, ↓aI231, ↓sI231, ↓ln231, ↓aI232, ↓sI232, ↓ln232, ↓aI233, ↓sI233, ↓ln233, ↓aI234, ↓sZ234, ↓ln234, ↓aI235, ↓sZ235, ↓ln235, ↓aR104, ↓aR131, ↓aR134, ↓aR138, ↓aR175, ↓aR179, ↓aR190, ↓aR204, ↓aR222, ↓aR105, ↓aR139, ↓aI106, ↓sI106, ↓lI106, ↓aI132, ↓sI132, ↓lI132, ↓aI135, ↓sI135, ↓lI135, ↓aI140, ↓sI140, ↓lI140, ↓aI176, ↓sI176, ↓lI176, ↓aI180, ↓sI180, ↓lI180, ↓aI191, ↓sI191, ↓lI191, ↓aI205, ↓sI205, ↓lI205, ↓aI223, ↓sI223, ↓lI223, ↓c_I, ↓c_J, ↓c_Q, ↓c_V, ↓c_It, ↓c_Jt, ↓c_Vt, ↓k_I, ↓k_J, ↓n_I, ↓n_V, li0, li1, li2, li3, li4, li5, li6, li7, li8, li9, li10, li11, li12, li13, li14, li15, li16, li17, li18, li19, li20, li21, li22, li23, li24, li25, li26, li27, li28, li29, li30, li31, li32, li33, li34, li35, li36, li37, li38, li39, li40, li41, li42, li44, li48, li57, li63, li64, li65, li97, li99, li100, li101, li102, li104, li105, li106, li109, li114, li120, li128, li130, li300, li514, li999, li1000, li8192, li9999, li65536, li1000000, li1000001, li1000002, li1000003, li1000004, li1000005, li1000006, li1000007, li1000008, li1000009, li1000010, li1000011, li1000012, li1000013, li1000014, li1000015, li1000016, li1000017, li1000018, li1000019, li2147483647, lj0, lj1, W_add, W_sub, W_mul, W_neg, V_add, V_sub, V_mul, V_neg, W_ite, W_le, W_lt, W_inj, V_le, V_lt, V_inj, W_V, V_W, lgc_ge, lgc_gt, lgc_le, lgc_lt, lgc_eq, ge_iff_le, gt_iff_lt, g28, n1, hck, Int.reduceEq, ↓reduceIte]
      · rw [bb_neg q] at hck
        by_cases q3 : tpt A ax k 2 = 3
        · obtain ⟨I', k1, k2⟩ := go 1 (bb_pos (show opn A ax k ∧ tpt A ax k 2 = 3 from ⟨⟨⟨a2, by omega⟩, q⟩, q3⟩)).symm
          refine ⟨I', ?_, k2⟩
          rw [← k1]
          simp (disch := first | assumption | omega) only [f_X8_stretch_b12, f_X8_stretch_b47, f_X8_stretch_b48, ↓rc102, ↓gI102_0, ↓gI102_6, ↓gI102_8, ↓gI102_9, ↓gI102_13, ↓gI102_15, ↓gI102_16, ↓gI102_17, ↓gI102_18, ↓gI102_19, ↓gI102_27, ↓gI102_28, ↓gI102_29, ↓gJ102_39, ↓gJ102_40, ↓gJ102_41, ↓gJ102_42, ↓pI102_0, ↓pI102_6, ↓pI102_9, ↓pI102_13, ↓pI102_15, ↓pI102_16, ↓pI102_17, ↓pI102_27, ↓pI102_28, ↓pI102_29, ↓pZ102_8, ↓pZ102_18, ↓pZ102_19, ↓pJ102_39, ↓pJ102_40, ↓pJ102_41, ↓pJ102_42, ↓gR102_1, ↓gR102_2, ↓gR102_3, ↓gR102_4, ↓gR102_5, ↓gR102_7, ↓gR102_10, ↓gR102_11, ↓gR102_12, ↓gR102_14, ↓gR102_20, ↓gR102_21, ↓gR102_22, ↓gR102_23, ↓gR102_24, ↓gR102_25, ↓gR102_26, ↓gR102_30, ↓gR102_31, ↓gR102_32, ↓gR102_33, ↓gR102_34, ↓gR102_35, ↓gR102_36, ↓gR102_37, ↓gR102_38, ↓aI103, ↓sI103, ↓ln103, ↓aI137, ↓sI137, ↓ln137, ↓aI188, ↓sZ188, ↓ln188, ↓aI189, ↓ln189, ↓aI203, ↓sI203, ↓ln203, ↓aI217, ↓sZ217, ↓ln217, ↓aI218, ↓sI218, ↓ln218, ↓aI219, ↓sI219, ↓ln219, ↓aI220, ↓sZ220, ↓ln220, ↓aI221, ↓sZ221, ↓ln221, ↓aI229, ↓sI229, ↓ln229, ↓aI230, ↓sI230, ↓ln230, ↓aI231, ↓sI231, ↓ln231, ↓aI232, ↓sI232, ↓ln232, ↓aI233, ↓sI233, ↓ln233, ↓aI234, ↓sZ234, ↓ln234, ↓aI235, ↓sZ235, ↓ln235, ↓aR104, ↓aR131, ↓aR134, ↓aR138, ↓aR175, ↓aR179, ↓aR190, ↓aR204, ↓aR222, ↓aR105, ↓aR139, ↓aI106, ↓sI106, ↓lI106, ↓aI132, ↓sI132, ↓lI132, ↓aI135, ↓sI135, ↓lI135, ↓aI140, ↓sI140, ↓lI140, ↓aI176, ↓sI176, ↓lI176, ↓aI180, ↓sI180, ↓lI180, ↓aI191, ↓sI191, ↓lI191, ↓aI205, ↓sI205, ↓lI205, ↓aI223, ↓sI223, ↓lI223, ↓c_I, ↓c_J, ↓c_Q, ↓c_V, ↓c_It, ↓c_Jt, ↓c_Vt, ↓k_I, ↓k_J, ↓n_I, ↓n_V, li0, li1, li2, li3, li4, li5, li6, li7, li8, li9, li10, li11, li12, li13, li14, li15, li16, li17, li18, li19, li20, li21, li22, li23, li24, li25, li26, li27, li28, li29, li30, li31, li32, li33, li34, li35, li36, li37, li38, li39, li40, li41, li42, li44, li48, li57, li63, li64, li65, li97, li99, li100, li101, li102, li104, li105, li106, li109, li114, li120, li128, li130, li300, li514, li999, li1000, li8192, li9999, li65536, li1000000, li1000001, li1000002, li1000003, li1000004, li1000005, li1000006, li1000007, li1000008, li1000009, li1000010, li1000011, li1000012, li1000013, li1000014, li1000015, li1000016, li1000017, li1000018, li1000019, li2147483647, lj0, lj1, W_add, W_sub, W_mul, W_neg, V_add, V_sub, V_mul, V_neg, W_ite, W_le, W_lt, W_inj, V_le, V_lt, V_inj, W_V, V_W, lgc_ge, lgc_gt, lgc_le, lgc_lt, lgc_eq, ge_iff_le, gt_iff_lt, g28, n1, hck, e2, q3, Int.reduceEq, ↓reduceIte]
        · obtain ⟨I', k1, k2⟩ := go 0 (bb_neg (fun z => q3 z.2)).symm
          refine ⟨I', ?_, k2⟩
          rw [← k1]
          simp (disch := first | assumption | omega) only [f_X8_stretch_b12, f_X8_stretch_b47, f_X8_stretch_b48, ↓rc102, ↓gI102_0, ↓gI102_6, ↓gI102_8, ↓gI102_9, ↓gI102_13, ↓gI102_15, ↓gI102_16, ↓gI102_17, ↓gI102_18, ↓gI102_19, ↓gI102_27, ↓gI102_28, ↓gI102_29, ↓gJ102_39, ↓gJ102_40, ↓gJ102_41, ↓gJ102_42, ↓pI102_0, ↓pI102_6, ↓pI102_9, ↓pI102_13, ↓pI102_15, ↓pI102_16, ↓pI102_17, ↓pI102_27, ↓pI102_28, ↓pI102_29, ↓pZ102_8, ↓pZ102_18, ↓pZ102_19, ↓pJ102_39, ↓pJ102_40, ↓pJ102_41, ↓pJ102_42, ↓gR102_1, ↓gR102_2, ↓gR102_3, ↓gR102_4, ↓gR102_5, ↓gR102_7, ↓gR102_10, ↓gR102_11, ↓gR102_12, ↓gR102_14, ↓gR102_20, ↓gR102_21, ↓gR102_22, ↓gR102_23, ↓gR102_24, ↓gR102_25, ↓gR102_26, ↓gR102_30, ↓gR102_31, ↓gR102_32, ↓gR102_33, ↓gR102_34, ↓gR102_35, ↓gR102_36, ↓gR102_37, ↓gR102_38, ↓aI103, ↓sI103, ↓ln103, ↓aI137, ↓sI137, ↓ln137, ↓aI188, ↓sZ188, ↓ln188, ↓aI189, ↓ln189, ↓aI203, ↓sI203, ↓ln203, ↓aI217, ↓sZ217, ↓ln217, ↓aI218, ↓sI218, ↓ln218, ↓aI219, ↓sI219, ↓ln219, ↓aI220, ↓sZ220, ↓ln220, ↓aI221, ↓sZ221, ↓ln221, ↓aI229, ↓sI229, ↓ln229, ↓aI230, ↓sI230, ↓ln230, ↓aI231, ↓sI231, ↓ln231, ↓aI232, ↓sI232, ↓ln232, ↓aI233, ↓sI233, ↓ln233, ↓aI234, ↓sZ234, ↓ln234, ↓aI235, ↓sZ235, ↓ln235, ↓aR104, ↓aR131, ↓aR134, ↓aR138, ↓aR175, ↓aR179, ↓aR190, ↓aR204, ↓aR222, ↓aR105, ↓aR139, ↓aI106, ↓sI106, ↓lI106, ↓aI132, ↓sI132, ↓lI132, ↓aI135, ↓sI135, ↓lI135, ↓aI140, ↓sI140, ↓lI140, ↓aI176, ↓sI176, ↓lI176, ↓aI180, ↓sI180, ↓lI180, ↓aI191, ↓sI191, ↓lI191, ↓aI205, ↓sI205, ↓lI205, ↓aI223, ↓sI223, ↓lI223, ↓c_I, ↓c_J, ↓c_Q, ↓c_V, ↓c_It, ↓c_Jt, ↓c_Vt, ↓k_I, ↓k_J, ↓n_I, ↓n_V, li0, li1, li2, li3, li4, li5, li6, li7, li8, li9, li10, li11, li12, li13, li14, li15, li16, li17, li18, li19, li20, li21, li22, li23, li24, li25, li26, li27, li28, li29, li30, li31, li32, li33, li34, li35, li36, li37, li38, li39, li40, li41, li42, li44, li48, li57, li63, li64, li65, li97, li99, li100, li101, li102, li104, li105, li106, li109, li114, li120, li128, li130, li300, li514, li999, li1000, li8192, li9999, li65536, li1000000, li1000001, li1000002, li1000003, li1000004, li1000005, li1000006, li1000007, li1000008, li1000009, li1000010, li1000011, li1000012, li1000013, li1000014, li1000015, li1000016, li1000017, li1000018, li1000019, li2147483647, lj0, lj1, W_add, W_sub, W_mul, W_neg, V_add, V_sub, V_mul, V_neg, W_ite, W_le, W_lt, W_inj, V_le, V_lt, V_inj, W_V, V_W, lgc_ge, lgc_gt, lgc_le, lgc_lt, lgc_eq, ge_iff_le, gt_iff_lt, g28, n1, hck, e2, q3, Int.reduceEq, ↓reduceIte]
theorem r_stretch {I : CF} (h0 : RX I A ax) (hS : ∀ k, 1 ≤ k → k ≤ nt A ax → I 227 k = shd A ax k) :
    ∃ I', f_X8_stretch (Sx I J b c) 102 = some (Sx I' J b c, xv) ∧ (∀ j, 1 ≤ j → j ≤ nt A ax → I' 228 j = str A ax j) ∧ ∀ a : Int, (a < 228 ∨ 234 < a) → I' a = I a := by
  have h0' := h0
  obtain ⟨hA, hx, hN, h27, h28, h29, hc⟩ := h0'
  have hP := plB_of hA
  have hnt := hP.2 ax (by omega) (by omega)
  obtain ⟨I1, x1, x2, x3⟩ := r_prepare (J := J) (b := b) (c := c) (z := 227) (n := nt A ax) (f := shd A ax) (sh_I223 4 (by decide)) (by omega) hnt.2.1 (by omega) h28 hS
  have hR1 : RX I1 A ax := h0.fr (x3 102 (by omega)) (fun a a0 a1 => x3 a (by omega))
  obtain ⟨I', k1, k2, k3⟩ := r_str12 (J := J) (b := b) (c := c) hR1 (by rw [x3 227 (by omega)]; exact hS) x2 FU 1 I1 (by unfold FU; omega) (by omega) (by omega) (fun _ _ => rfl) (fun j j0 j1 => by omega)
  refine ⟨I', ?_, k2, fun a ha => by rw [k3 a ha, x3 a (by omega)]⟩
  rw [← k1]
  have x1' : f_X8_prepareFilling (Sx I J b c) 102 (223 + (4 : Int).toNat) = some (Sx I1 J b c, xv) := x1
  simp (disch := first | assumption | omega) only [f_X8_stretch, ↓rc102, ↓gI102_0, ↓gI102_6, ↓gI102_8, ↓gI102_9, ↓gI102_13, ↓gI102_15, ↓gI102_16, ↓gI102_17, ↓gI102_18, ↓gI102_19, ↓gI102_27, ↓gI102_28, ↓gI102_29, ↓gJ102_39, ↓gJ102_40, ↓gJ102_41, ↓gJ102_42, ↓pI102_0, ↓pI102_6, ↓pI102_9, ↓pI102_13, ↓pI102_15, ↓pI102_16, ↓pI102_17, ↓pI102_27, ↓pI102_28, ↓pI102_29, ↓pZ102_8, ↓pZ102_18, ↓pZ102_19, ↓pJ102_39, ↓pJ102_40, ↓pJ102_41, ↓pJ102_42, ↓gR102_1, ↓gR102_2, ↓gR102_3, ↓gR102_4, ↓gR102_5, ↓gR102_7, ↓gR102_10, ↓gR102_11, ↓gR102_12, ↓gR102_14, ↓gR102_20, ↓gR102_21, ↓gR102_22, ↓gR102_23, ↓gR102_24, ↓gR102_25, ↓gR102_26, ↓gR102_30, ↓gR102_31, ↓gR102_32, ↓gR102_33, ↓gR102_34, ↓gR102_35, ↓gR102_36, ↓gR102_37, ↓gR102_38, ↓aI103, ↓sI103, ↓ln103, ↓aI137, ↓sI137, ↓ln137, ↓aI188, ↓sZ188, ↓ln188, ↓aI189, ↓ln189, ↓aI203, ↓sI203, ↓ln203, ↓aI217, ↓sZ217, ↓ln217, ↓aI218, ↓sI218, ↓ln218, ↓aI219, ↓sI219, ↓ln219, ↓aI220, ↓sZ220, ↓ln220, ↓aI221, ↓sZ221, ↓ln221, ↓aI229, ↓sI229, ↓ln229, ↓aI230, ↓sI230, ↓ln230, ↓aI231, ↓sI231, ↓ln231, ↓aI232, ↓sI232, ↓ln232, ↓aI233, ↓sI233, ↓ln233, ↓aI234, ↓sZ234, ↓ln234, ↓aI235, ↓sZ235, ↓ln235, ↓aR104, ↓aR131, ↓aR134, ↓aR138, ↓aR175, ↓aR179, ↓aR190, ↓aR204, ↓aR222, ↓aR105, ↓aR139, ↓aI106, ↓sI106, ↓lI106, ↓aI132, ↓sI132, ↓lI132, ↓aI135, ↓sI135, ↓lI135, ↓aI140, ↓sI140, ↓lI140, ↓aI176, ↓sI176, ↓lI176, ↓aI180, ↓sI180, ↓lI180, ↓aI191, ↓sI191, ↓lI191, ↓aI205, ↓sI205, ↓lI205, ↓aI223, ↓sI223, ↓lI223, ↓c_I, ↓c_J, ↓c_Q, ↓c_V, ↓c_It, ↓c_Jt, ↓c_Vt, ↓k_I, ↓k_J, ↓n_I, ↓n_V, li0, li1, li2, li3, li4, li5, li6, li7, li8, li9, li10, li11, li12, li13, li14, li15, li16, li17, li18, li19, li20, li21, li22, li23, li24, li25, li26, li27, li28, li29, li30, li31, li32, li33, li34, li35, li36, li37, li38, li39, li40, li41, li42, li44, li48, li57, li63, li64, li65, li97, li99, li100, li101, li102, li104, li105, li106, li109, li114, li120, li128, li130, li300, li514, li999, li1000, li8192, li9999, li65536, li1000000, li1000001, li1000002, li1000003, li1000004, li1000005, li1000006, li1000007, li1000008, li1000009, li1000010, li1000011, li1000012, li1000013, li1000014, li1000015, li1000016, li1000017, li1000018, li1000019, li2147483647, lj0, lj1, W_add, W_sub, W_mul, W_neg, V_add, V_sub, V_mul, V_neg, W_ite, W_le, W_lt, W_inj, V_le, V_lt, V_inj, W_V, V_W, lgc_ge, lgc_gt, lgc_le, lgc_lt, lgc_eq, ge_iff_le, gt_iff_lt, aR222, x1', ↓reduceIte]
end RStretch

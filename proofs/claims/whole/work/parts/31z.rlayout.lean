/-! ===== the reference lays the grid out ===== -/
theorem plB_of {A : CF} (hA : okA A) : plB A := by
  have hM : EM (fun a k => if a = 9 then A 0 k else if a = 10 then A 1 k else if a = 11 then A 2 k else if a = 12 then A 3 k else if k = 4 then A 4 0 else if k = 5 then A 4 1 else A 4 2) A :=
    ⟨fun _ _ _ => rfl, fun _ _ _ => rfl, fun _ _ _ => rfl, fun _ _ _ => rfl, rfl, rfl, rfl⟩
  obtain ⟨I', -, -, h, -⟩ := e_placeAll (J := fun _ _ => 0) (b := 0) (c := true) hA hM
  exact h
section RLay
variable {J : CF} {b : Nat} {c : Bool} {A : CF}
def RN (I A : CF) : Prop := RM I A ∧ (∀ i ax, 0 ≤ i → i < nit A → 0 ≤ ax → ax < 2 → I (205 + i) ax = pl A i ax) ∧ ∀ ax, 0 ≤ ax → ax < 2 → I 218 ax = nt A ax
theorem r_tracks285 {k262 : HP → Nat → Int32 → Option XR} {ax : Int} (hA : okA A) (x0 : 0 ≤ ax) (x1 : ax < 2) {I0 : CF} : ∀ (fuel : Nat) (k : Nat) (I : CF), nit A - k < fuel → (k : Int) ≤ nit A → RM I A → (∀ i, 0 ≤ i → i < nit A → I (205 + i) ax = pl A i ax) → I 218 ax = ntN A ax k → (∀ a j, ¬ (a = 218 ∧ j = ax) → I a j = I0 a j) →
    ∃ I', f_X8_layOut_L285 k262 fuel (Sx I J b c) 102 (iW ax) (iW k) = k262 (Sx I' J b c) 102 (iW (ax + 1)) ∧ I' 218 ax = nt A ax ∧ ∀ a j, ¬ (a = 218 ∧ j = ax) → I' a j = I0 a j := by
  have hN := hA.1
  have hP := plB_of hA
  have hnt := hP.2 ax x0 x1
  have hE := (hA.2.2.2.1 ax x0 x1).1
  have hnb := fun n hn => ntN_bd (A := A) (ax := ax) (B := nt A ax) hnt.1 (hA.2.2.2.1 ax x0 x1).1.1 (fun k k0 k1 => (hP.1 k ax k0 k1 x0 x1).2) n hn
  intro fuel
  induction fuel with
  | zero => intro k I a1 a2; omega
  | succ fuel ih =>
    intro k I a1 a2 hM hs h8 hIo
    show ∃ I', f_X8_layOut_b285 k262 (f_X8_layOut_L285 k262 fuel) (Sx I J b c) 102 (iW ax) (iW k) = _ ∧ _
    have hN2 : I 102 6 = nit A := hM.2.2.2.2.2.2.1
    by_cases hk : (k : Int) = nit A
    · have n0 : nit A ≤ (k : Int) := by omega
      refine ⟨I, ?_, ?_, hIo⟩
      · simp (disch := first | assumption | omega) only [f_X8_layOut_b285, ↓rc102, ↓gI102_0, ↓gI102_6, ↓gI102_8, ↓gI102_9, ↓gI102_13, ↓gI102_15, ↓gI102_16, ↓gI102_17, ↓gI102_18, ↓gI102_19, ↓gI102_27, ↓gI102_28, ↓gI102_29, ↓gJ102_39, ↓gJ102_40, ↓gJ102_41, ↓gJ102_42, ↓pI102_0, ↓pI102_6, ↓pI102_9, ↓pI102_13, ↓pI102_15, ↓pI102_16, ↓pI102_17, ↓pI102_27, ↓pI102_28, ↓pI102_29, ↓pZ102_8, ↓pZ102_18, ↓pZ102_19, ↓pJ102_39, ↓pJ102_40, ↓pJ102_41, ↓pJ102_42, ↓gR102_1, ↓gR102_2, ↓gR102_3, ↓gR102_4, ↓gR102_5, ↓gR102_7, ↓gR102_10, ↓gR102_11, ↓gR102_12, ↓gR102_14, ↓gR102_20, ↓gR102_21, ↓gR102_22, ↓gR102_23, ↓gR102_24, ↓gR102_25, ↓gR102_26, ↓gR102_30, ↓gR102_31, ↓gR102_32, ↓gR102_33, ↓gR102_34, ↓gR102_35, ↓gR102_36, ↓gR102_37, ↓gR102_38, ↓aI103, ↓sI103, ↓ln103, ↓aI137, ↓sI137, ↓ln137, ↓aI188, ↓sZ188, ↓ln188, ↓aI189, ↓ln189, ↓aI203, ↓sI203, ↓ln203, ↓aI217, ↓sZ217, ↓ln217, ↓aI218, ↓sI218, ↓ln218, ↓aI219, ↓sI219, ↓ln219, ↓aI220, ↓sZ220, ↓ln220, ↓aI221, ↓sZ221, ↓ln221, ↓aI229, ↓sI229, ↓ln229, ↓aI230, ↓sI230, ↓ln230, ↓aI231, ↓sI231, ↓ln231, ↓aI232, ↓sI232, ↓ln232, ↓aI233, ↓sI233, ↓ln233, ↓aI234, ↓sZ234, ↓ln234, ↓aI235, ↓sZ235, ↓ln235, ↓aR104, ↓aR131, ↓aR134, ↓aR138, ↓aR175, ↓aR179, ↓aR190, ↓aR204, ↓aR222, ↓aR105, ↓aR139, ↓aI106, ↓sI106, ↓lI106, ↓aI132, ↓sI132, ↓lI132, ↓aI135, ↓sI135, ↓lI135, ↓aI140, ↓sI140, ↓lI140, ↓aI176, ↓sI176, ↓lI176, ↓aI180, ↓sI180, ↓lI180, ↓aI191, ↓sI191, ↓lI191, ↓aI205, ↓sI205, ↓lI205, ↓aI223, ↓sI223, ↓lI223, ↓c_I, ↓c_J, ↓c_Q, ↓c_V, ↓c_It, ↓c_Jt, ↓c_Vt, ↓k_I, ↓k_J, ↓n_I, ↓n_V, li0, li1, li2, li3, li4, li5, li6, li7, li8, li9, li10, li11, li12, li13, li14, li15, li16, li17, li18, li19, li20, li21, li22, li23, li24, li25, li26, li27, li28, li29, li30, li31, li32, li33, li34, li35, li36, li37, li38, li39, li40, li41, li42, li44, li48, li57, li63, li64, li65, li97, li99, li100, li101, li102, li104, li105, li106, li109, li114, li120, li128, li130, li300, li514, li999, li1000, li8192, li9999, li65536, li1000000, li1000001, li1000002, li1000003, li1000004, li1000005, li1000006, li1000007, li1000008, li1000009, li1000010, li1000011, li1000012, li1000013, li1000014, li1000015, li1000016, li1000017, li1000018, li1000019, li2147483647, lj0, lj1, W_add, W_sub, W_mul, W_neg, V_add, V_sub, V_mul, V_neg, W_ite, W_le, W_lt, W_inj, V_le, V_lt, V_inj, W_V, V_W, lgc_ge, lgc_gt, lgc_le, lgc_lt, lgc_eq, ge_iff_le, gt_iff_lt, hN2, n0, ↓reduceIte]
      · rw [h8]
        unfold nt
        rw [show (nit A).toNat = k by omega]
    · have n1 : ¬ (nit A ≤ (k : Int)) := by omega
      have hc : ((k + 1 : Nat) : Int) = (k : Int) + 1 := by omega
      have nb := hnb k a2
      have e1 := r_end (J := J) (b := b) (c := c) hM (i := k) (ax := ax) (by omega) (by omega) x0 x1
      rw [hs k (by omega) (by omega)] at e1
      have hpb := hP.1 k ax (by omega) (by omega) x0 x1
      have r3 := (hA.2.2.2.2.2 k ax (by omega) (by omega) x0 x1).2.2.1
      obtain ⟨I', k1, k2⟩ := ih (k + 1) (uI I 218 ax (max (ntN A ax k) (pl A k ax + itf A k ax 3 - 1))) (by omega) (by omega) (hM.fr (u_obj' (by decide)) (fun a a0 a1 => u_obj (by omega))) (fun i i0 i1 => by rw [u_obj (by omega)]; exact hs i i0 i1) u_eq (fun a j hj => by
        rw [← hIo a j hj]
        unfold uI
        rw [if_neg hj])
      refine ⟨I', ?_, k2⟩
      rw [← k1, hc]
      by_cases q : pl A k ax + itf A k ax 3 - 1 ≤ ntN A ax k
      · rw [show max (ntN A ax k) (pl A k ax + itf A k ax 3 - 1) = ntN A ax k by omega]
        simp (disch := first | assumption | omega) only [f_X8_layOut_b285, f_X8_layOut_b336, ↓rc102, ↓gI102_0, ↓gI102_6, ↓gI102_8, ↓gI102_9, ↓gI102_13, ↓gI102_15, ↓gI102_16, ↓gI102_17, ↓gI102_18, ↓gI102_19, ↓gI102_27, ↓gI102_28, ↓gI102_29, ↓gJ102_39, ↓gJ102_40, ↓gJ102_41, ↓gJ102_42, ↓pI102_0, ↓pI102_6, ↓pI102_9, ↓pI102_13, ↓pI102_15, ↓pI102_16, ↓pI102_17, ↓pI102_27, ↓pI102_28, ↓pI102_29, ↓pZ102_8, ↓pZ102_18, ↓pZ102_19, ↓pJ102_39, ↓pJ102_40, ↓pJ102_41, ↓pJ102_42, ↓gR102_1, ↓gR102_2, ↓gR102_3, ↓gR102_4, ↓gR102_5, ↓gR102_7, ↓gR102_10, ↓gR102_11, ↓gR102_12, ↓gR102_14, ↓gR102_20, ↓gR102_21, ↓gR102_22, ↓gR102_23, ↓gR102_24, ↓gR102_25, ↓gR102_26, ↓gR102_30, ↓gR102_31, ↓gR102_32, ↓gR102_33, ↓gR102_34, ↓gR102_35, ↓gR102_36, ↓gR102_37, ↓gR102_38, ↓aI103, ↓sI103, ↓ln103, ↓aI137, ↓sI137, ↓ln137, ↓aI188, ↓sZ188, ↓ln188, ↓aI189, ↓ln189, ↓aI203, ↓sI203, ↓ln203, ↓aI217, ↓sZ217, ↓ln217, ↓aI218, ↓sI218, ↓ln218, ↓aI219, ↓sI219, ↓ln219, ↓aI220, ↓sZ220, ↓ln220, ↓aI221, ↓sZ221, ↓ln221, ↓aI229, ↓sI229, ↓ln229, ↓aI230, ↓sI230, ↓ln230, ↓aI231, ↓sI231, ↓ln231, ↓aI232, ↓sI232, ↓ln232, ↓aI233, ↓sI233, ↓ln233, ↓aI234, ↓sZ234, ↓ln234, ↓aI235, ↓sZ235, ↓ln235, ↓aR104, ↓aR131, ↓aR134, ↓aR138, ↓aR175, ↓aR179, ↓aR190, ↓aR204, ↓aR222, ↓aR105, ↓aR139, ↓aI106, ↓sI106, ↓lI106, ↓aI132, ↓sI132, ↓lI132, ↓aI135, ↓sI135, ↓lI135, ↓aI140, ↓sI140, ↓lI140, ↓aI176, ↓sI176, ↓lI176, ↓aI180, ↓sI180, ↓lI180, ↓aI191, ↓sI191, ↓lI191, ↓aI205, ↓sI205, ↓lI205, ↓aI223, ↓sI223, ↓lI223, ↓c_I, ↓c_J, ↓c_Q, ↓c_V, ↓c_It, ↓c_Jt, ↓c_Vt, ↓k_I, ↓k_J, ↓n_I, ↓n_V, li0, li1, li2, li3, li4, li5, li6, li7, li8, li9, li10, li11, li12, li13, li14, li15, li16, li17, li18, li19, li20, li21, li22, li23, li24, li25, li26, li27, li28, li29, li30, li31, li32, li33, li34, li35, li36, li37, li38, li39, li40, li41, li42, li44, li48, li57, li63, li64, li65, li97, li99, li100, li101, li102, li104, li105, li106, li109, li114, li120, li128, li130, li300, li514, li999, li1000, li8192, li9999, li65536, li1000000, li1000001, li1000002, li1000003, li1000004, li1000005, li1000006, li1000007, li1000008, li1000009, li1000010, li1000011, li1000012, li1000013, li1000014, li1000015, li1000016, li1000017, li1000018, li1000019, li2147483647, lj0, lj1, W_add, W_sub, W_mul, W_neg, V_add, V_sub, V_mul, V_neg, W_ite, W_le, W_lt, W_inj, V_le, V_lt, V_inj, W_V, V_W, lgc_ge, lgc_gt, lgc_le, lgc_lt, lgc_eq, ge_iff_le, gt_iff_lt, hN2, n1, e1, h8, q, ↓reduceIte]
      · rw [show max (ntN A ax k) (pl A k ax + itf A k ax 3 - 1) = pl A k ax + itf A k ax 3 - 1 by omega]
        simp (disch := first | assumption | omega) only [f_X8_layOut_b285, f_X8_layOut_b336, ↓rc102, ↓gI102_0, ↓gI102_6, ↓gI102_8, ↓gI102_9, ↓gI102_13, ↓gI102_15, ↓gI102_16, ↓gI102_17, ↓gI102_18, ↓gI102_19, ↓gI102_27, ↓gI102_28, ↓gI102_29, ↓gJ102_39, ↓gJ102_40, ↓gJ102_41, ↓gJ102_42, ↓pI102_0, ↓pI102_6, ↓pI102_9, ↓pI102_13, ↓pI102_15, ↓pI102_16, ↓pI102_17, ↓pI102_27, ↓pI102_28, ↓pI102_29, ↓pZ102_8, ↓pZ102_18, ↓pZ102_19, ↓pJ102_39, ↓pJ102_40, ↓pJ102_41, ↓pJ102_42, ↓gR102_1, ↓gR102_2, ↓gR102_3, ↓gR102_4, ↓gR102_5, ↓gR102_7, ↓gR102_10, ↓gR102_11, ↓gR102_12, ↓gR102_14, ↓gR102_20, ↓gR102_21, ↓gR102_22, ↓gR102_23, ↓gR102_24, ↓gR102_25, ↓gR102_26, ↓gR102_30, ↓gR102_31, ↓gR102_32, ↓gR102_33, ↓gR102_34, ↓gR102_35, ↓gR102_36, ↓gR102_37, ↓gR102_38, ↓aI103, ↓sI103, ↓ln103, ↓aI137, ↓sI137, ↓ln137, ↓aI188, ↓sZ188, ↓ln188, ↓aI189, ↓ln189, ↓aI203, ↓sI203, ↓ln203, ↓aI217, ↓sZ217, ↓ln217, ↓aI218, ↓sI218, ↓ln218, ↓aI219, ↓sI219, ↓ln219, ↓aI220, ↓sZ220, ↓ln220, ↓aI221, ↓sZ221, ↓ln221, ↓aI229, ↓sI229, ↓ln229, ↓aI230, ↓sI230, ↓ln230, ↓aI231, ↓sI231, ↓ln231, ↓aI232, ↓sI232, ↓ln232, ↓aI233, ↓sI233, ↓ln233, ↓aI234, ↓sZ234, ↓ln234, ↓aI235, ↓sZ235, ↓ln235, ↓aR104, ↓aR131, ↓aR134, ↓aR138, ↓aR175, ↓aR179, ↓aR190, ↓aR204, ↓aR222, ↓aR105, ↓aR139, ↓aI106, ↓sI106, ↓lI106, ↓aI132, ↓sI132, ↓lI132, ↓aI135, ↓sI135, ↓lI135, ↓aI140, ↓sI140, ↓lI140, ↓aI176, ↓sI176, ↓lI176, ↓aI180, ↓sI180, ↓lI180, ↓aI191, ↓sI191, ↓lI191, ↓aI205, ↓sI205, ↓lI205, ↓aI223, ↓sI223, ↓lI223, ↓c_I, ↓c_J, ↓c_Q, ↓c_V, ↓c_It, ↓c_Jt, ↓c_Vt, ↓k_I, ↓k_J, ↓n_I, ↓n_V, li0, li1, li2, li3, li4, li5, li6, li7, li8, li9, li10, li11, li12, li13, li14, li15, li16, li17, li18, li19, li20, li21, li22, li23, li24, li25, li26, li27, li28, li29, li30, li31, li32, li33, li34, li35, li36, li37, li38, li39, li40, li41, li42, li44, li48, li57, li63, li64, li65, li97, li99, li100, li101, li102, li104, li105, li106, li109, li114, li120, li128, li130, li300, li514, li999, li1000, li8192, li9999, li65536, li1000000, li1000001, li1000002, li1000003, li1000004, li1000005, li1000006, li1000007, li1000008, li1000009, li1000010, li1000011, li1000012, li1000013, li1000014, li1000015, li1000016, li1000017, li1000018, li1000019, li2147483647, lj0, lj1, W_add, W_sub, W_mul, W_neg, V_add, V_sub, V_mul, V_neg, W_ite, W_le, W_lt, W_inj, V_le, V_lt, V_inj, W_V, V_W, lgc_ge, lgc_gt, lgc_le, lgc_lt, lgc_eq, ge_iff_le, gt_iff_lt, hN2, n1, e1, h8, q, ↓reduceIte]
theorem r_tracks262 (hA : okA A) {I0 : CF} : ∀ (fuel : Nat) (ax : Int) (I : CF), 2 - ax < fuel → 0 ≤ ax → ax ≤ 2 → RM I A → (∀ i ax, 0 ≤ i → i < nit A → 0 ≤ ax → ax < 2 → I (205 + i) ax = pl A i ax) → (∀ j, 0 ≤ j → j < ax → I 218 j = nt A j) → (∀ a, a ≠ 218 → I a = I0 a) →
    ∃ I', f_X8_layOut_L262 fuel (Sx I J b c) 102 (iW ax) = some (Sx I' J b c, xv) ∧ RN I' A ∧ ∀ a, a ≠ 218 → I' a = I0 a := by
  have hN := hA.1
  intro fuel
  induction fuel with
  | zero => intro ax I a1 a2 a3; omega
  | succ fuel ih =>
    intro ax I a1 a2 a3 hM hs h8 hIo
    show ∃ I', f_X8_layOut_b262 (f_X8_layOut_L262 fuel) (Sx I J b c) 102 (iW ax) = _ ∧ _
    by_cases hk : ax = 2
    · subst hk
      have n0 : (2 : Int) ≤ 2 := by omega
      refine ⟨I, ?_, ⟨hM, hs, h8⟩, hIo⟩
      simp (disch := first | assumption | omega) only [f_X8_layOut_b262, li0, li1, li2, li3, li4, li5, li6, li7, li8, li9, li10, li11, li12, li13, li14, li15, li16, li17, li18, li19, li20, li21, li22, li23, li24, li25, li26, li27, li28, li29, li30, li31, li32, li33, li34, li35, li36, li37, li38, li39, li40, li41, li42, li44, li48, li57, li63, li64, li65, li97, li99, li100, li101, li102, li104, li105, li106, li109, li114, li120, li128, li130, li300, li514, li999, li1000, li8192, li9999, li65536, li1000000, li1000001, li1000002, li1000003, li1000004, li1000005, li1000006, li1000007, li1000008, li1000009, li1000010, li1000011, li1000012, li1000013, li1000014, li1000015, li1000016, li1000017, li1000018, li1000019, li2147483647, lj0, lj1, W_add, W_sub, W_mul, W_neg, V_add, V_sub, V_mul, V_neg, W_ite, W_le, W_lt, W_inj, V_le, V_lt, V_inj, W_V, V_W, lgc_ge, lgc_gt, lgc_le, lgc_lt, lgc_eq, ge_iff_le, gt_iff_lt, n0, ↓reduceIte]
    · have n1 : ¬ ((2 : Int) ≤ ax) := by omega
      have h1 := hM.1 ax a2 (by omega)
      have hM1 : RM (uI I 218 ax (A 1 ax)) A := hM.fr (u_obj' (by decide)) (fun a a0 a1 => u_obj (by omega))
      obtain ⟨I1, k1, k2, k3⟩ := r_tracks285 (J := J) (b := b) (c := c) (k262 := f_X8_layOut_L262 fuel) (I0 := uI I 218 ax (A 1 ax)) hA a2 (show ax < 2 by omega) FU 0 (uI I 218 ax (A 1 ax)) (by have := hA.1; unfold FU; omega) (by have := hA.1; omega) hM1 (fun i i0 i1 => by rw [u_obj (by omega)]; exact hs i ax i0 i1 a2 (by omega)) u_eq (fun _ _ _ => rfl)
      have hob : ∀ a, a ≠ 218 → I1 a = I a := fun a ha => by
        funext j
        rw [k3 a j (fun z => ha z.1), u_obj ha]
      obtain ⟨I', z1, z2⟩ := ih (ax + 1) I1 (by omega) (by omega) (by omega) (hM.fr (by rw [hob 102 (by decide)]) (fun a a0 a1 => hob a (by omega))) (fun i x i0 i1 x0 x1 => by rw [hob _ (by omega)]; exact hs i x i0 i1 x0 x1) (fun j j0 j1 => by
        by_cases e : j = ax
        · rw [e, k2]
        · rw [k3 218 j (fun z => e z.2), u_ne e]
          exact h8 j j0 (by omega)) (fun a ha => by rw [hob a ha, hIo a ha])
      refine ⟨I', ?_, z2⟩
      rw [← z1, ← k1]
      simp (disch := first | assumption | omega) only [f_X8_layOut_b262, ↓rc102, ↓gI102_0, ↓gI102_6, ↓gI102_8, ↓gI102_9, ↓gI102_13, ↓gI102_15, ↓gI102_16, ↓gI102_17, ↓gI102_18, ↓gI102_19, ↓gI102_27, ↓gI102_28, ↓gI102_29, ↓gJ102_39, ↓gJ102_40, ↓gJ102_41, ↓gJ102_42, ↓pI102_0, ↓pI102_6, ↓pI102_9, ↓pI102_13, ↓pI102_15, ↓pI102_16, ↓pI102_17, ↓pI102_27, ↓pI102_28, ↓pI102_29, ↓pZ102_8, ↓pZ102_18, ↓pZ102_19, ↓pJ102_39, ↓pJ102_40, ↓pJ102_41, ↓pJ102_42, ↓gR102_1, ↓gR102_2, ↓gR102_3, ↓gR102_4, ↓gR102_5, ↓gR102_7, ↓gR102_10, ↓gR102_11, ↓gR102_12, ↓gR102_14, ↓gR102_20, ↓gR102_21, ↓gR102_22, ↓gR102_23, ↓gR102_24, ↓gR102_25, ↓gR102_26, ↓gR102_30, ↓gR102_31, ↓gR102_32, ↓gR102_33, ↓gR102_34, ↓gR102_35, ↓gR102_36, ↓gR102_37, ↓gR102_38, ↓aI103, ↓sI103, ↓ln103, ↓aI137, ↓sI137, ↓ln137, ↓aI188, ↓sZ188, ↓ln188, ↓aI189, ↓ln189, ↓aI203, ↓sI203, ↓ln203, ↓aI217, ↓sZ217, ↓ln217, ↓aI218, ↓sI218, ↓ln218, ↓aI219, ↓sI219, ↓ln219, ↓aI220, ↓sZ220, ↓ln220, ↓aI221, ↓sZ221, ↓ln221, ↓aI229, ↓sI229, ↓ln229, ↓aI230, ↓sI230, ↓ln230, ↓aI231, ↓sI231, ↓ln231, ↓aI232, ↓sI232, ↓ln232, ↓aI233, ↓sI233, ↓ln233, ↓aI234, ↓sZ234, ↓ln234, ↓aI235, ↓sZ235, ↓ln235, ↓aR104, ↓aR131, ↓aR134, ↓aR138, ↓aR175, ↓aR179, ↓aR190, ↓aR204, ↓aR222, ↓aR105, ↓aR139, ↓aI106, ↓sI106, ↓lI106, ↓aI132, ↓sI132, ↓lI132, ↓aI135, ↓sI135, ↓lI135, ↓aI140, ↓sI140, ↓lI140, ↓aI176, ↓sI176, ↓lI176, ↓aI180, ↓sI180, ↓lI180, ↓aI191, ↓sI191, ↓lI191, ↓aI205, ↓sI205, ↓lI205, ↓aI223, ↓sI223, ↓lI223, ↓c_I, ↓c_J, ↓c_Q, ↓c_V, ↓c_It, ↓c_Jt, ↓c_Vt, ↓k_I, ↓k_J, ↓n_I, ↓n_V, li0, li1, li2, li3, li4, li5, li6, li7, li8, li9, li10, li11, li12, li13, li14, li15, li16, li17, li18, li19, li20, li21, li22, li23, li24, li25, li26, li27, li28, li29, li30, li31, li32, li33, li34, li35, li36, li37, li38, li39, li40, li41, li42, li44, li48, li57, li63, li64, li65, li97, li99, li100, li101, li102, li104, li105, li106, li109, li114, li120, li128, li130, li300, li514, li999, li1000, li8192, li9999, li65536, li1000000, li1000001, li1000002, li1000003, li1000004, li1000005, li1000006, li1000007, li1000008, li1000009, li1000010, li1000011, li1000012, li1000013, li1000014, li1000015, li1000016, li1000017, li1000018, li1000019, li2147483647, lj0, lj1, W_add, W_sub, W_mul, W_neg, V_add, V_sub, V_mul, V_neg, W_ite, W_le, W_lt, W_inj, V_le, V_lt, V_inj, W_V, V_W, lgc_ge, lgc_gt, lgc_le, lgc_lt, lgc_eq, ge_iff_le, gt_iff_lt, n1, h1, ↓reduceIte]
      rfl
/-- step 4 -/
theorem r_step4 {mx cnt : Int} (hmg : mx = gmx A) (hcg : cnt = pcnt A) (hcnt : ∀ i, 0 ≤ i → i < nit A → ¬ hs A i mx → ¬ hs A i (1 - mx) → itf A i (1 - mx) 3 ≤ cnt) (hc1 : 1 ≤ cnt) (hc2 : cnt ≤ 63) {I0 : CF} : ∀ (fuel : Nat) (n : Nat) (I : CF), nit A - n < fuel → (n : Int) ≤ nit A → RP I A mx (pP4 A mx n) (pS4 A (pst2 A) mx cnt n).1 → pB A (pS4 A (pst2 A) mx cnt n).1 mx (pP4 A mx n) (15 + 4 * n) 63 → I 219 mx = (pS4 A (pst2 A) mx cnt n).2.1 → I 219 (1 - mx) = (pS4 A (pst2 A) mx cnt n).2.2 → (1 ≤ I 219 mx ∧ I 219 mx ≤ 15 + 4 * n) → (1 ≤ I 219 (1 - mx) ∧ I 219 (1 - mx) ≤ 63) → (∀ a, (a < 205 ∨ 220 < a) → I a = I0 a) →
    ∃ I', f_X8_layOut_L173 fuel (Sx I J b c) 102 (iW mx) (iW (1 - mx)) (iW cnt) (iW n) = some (Sx I' J b c, xv) ∧ RN I' A ∧ ∀ a, (a < 205 ∨ 220 < a) → I' a = I0 a := by
  intro fuel
  induction fuel with
  | zero => intro n I a1 a2; omega
  | succ fuel ih =>
    intro n I a1 a2 hW hB h7 h8 h7b h8b hIo
    show ∃ I', f_X8_layOut_b173 (f_X8_layOut_L173 fuel) (Sx I J b c) 102 (iW mx) (iW (1 - mx)) (iW cnt) (iW n) = _ ∧ _
    have hA := hW.1
    have hm := hW.2.1
    have hM := hW.2.2.1
    have hN := hA.1
    have hN2 : I 102 6 = nit A := hM.2.2.2.2.2.2.1
    have hD := hM.2.2.2.2.2.1
    have hA2 := hA.2.2.1
    by_cases hk : (n : Int) = nit A
    · have n0 : nit A ≤ (n : Int) := by omega
      obtain ⟨I', k1, k2, k3⟩ := r_tracks262 (J := J) (b := b) (c := c) hA (I0 := I) FU 0 I (by unfold FU; omega) (by omega) (by omega) hM (fun i ax i0 i1 x0 x1 => by
        rw [(hW.2.2.2.2 i i0 i1 (Or.inr (by omega)) ax x0 x1).1]
        unfold pl
        rw [← hmg, ← hcg, show (nit A).toNat = n by omega]) (fun j j0 j1 => by omega) (fun _ _ => rfl)
      refine ⟨I', ?_, k2, fun a ha => by rw [k3 a (by omega), hIo a ha]⟩
      rw [← k1]
      simp (disch := first | assumption | omega) only [f_X8_layOut_b173, ↓rc102, ↓gI102_0, ↓gI102_6, ↓gI102_8, ↓gI102_9, ↓gI102_13, ↓gI102_15, ↓gI102_16, ↓gI102_17, ↓gI102_18, ↓gI102_19, ↓gI102_27, ↓gI102_28, ↓gI102_29, ↓gJ102_39, ↓gJ102_40, ↓gJ102_41, ↓gJ102_42, ↓pI102_0, ↓pI102_6, ↓pI102_9, ↓pI102_13, ↓pI102_15, ↓pI102_16, ↓pI102_17, ↓pI102_27, ↓pI102_28, ↓pI102_29, ↓pZ102_8, ↓pZ102_18, ↓pZ102_19, ↓pJ102_39, ↓pJ102_40, ↓pJ102_41, ↓pJ102_42, ↓gR102_1, ↓gR102_2, ↓gR102_3, ↓gR102_4, ↓gR102_5, ↓gR102_7, ↓gR102_10, ↓gR102_11, ↓gR102_12, ↓gR102_14, ↓gR102_20, ↓gR102_21, ↓gR102_22, ↓gR102_23, ↓gR102_24, ↓gR102_25, ↓gR102_26, ↓gR102_30, ↓gR102_31, ↓gR102_32, ↓gR102_33, ↓gR102_34, ↓gR102_35, ↓gR102_36, ↓gR102_37, ↓gR102_38, ↓aI103, ↓sI103, ↓ln103, ↓aI137, ↓sI137, ↓ln137, ↓aI188, ↓sZ188, ↓ln188, ↓aI189, ↓ln189, ↓aI203, ↓sI203, ↓ln203, ↓aI217, ↓sZ217, ↓ln217, ↓aI218, ↓sI218, ↓ln218, ↓aI219, ↓sI219, ↓ln219, ↓aI220, ↓sZ220, ↓ln220, ↓aI221, ↓sZ221, ↓ln221, ↓aI229, ↓sI229, ↓ln229, ↓aI230, ↓sI230, ↓ln230, ↓aI231, ↓sI231, ↓ln231, ↓aI232, ↓sI232, ↓ln232, ↓aI233, ↓sI233, ↓ln233, ↓aI234, ↓sZ234, ↓ln234, ↓aI235, ↓sZ235, ↓ln235, ↓aR104, ↓aR131, ↓aR134, ↓aR138, ↓aR175, ↓aR179, ↓aR190, ↓aR204, ↓aR222, ↓aR105, ↓aR139, ↓aI106, ↓sI106, ↓lI106, ↓aI132, ↓sI132, ↓lI132, ↓aI135, ↓sI135, ↓lI135, ↓aI140, ↓sI140, ↓lI140, ↓aI176, ↓sI176, ↓lI176, ↓aI180, ↓sI180, ↓lI180, ↓aI191, ↓sI191, ↓lI191, ↓aI205, ↓sI205, ↓lI205, ↓aI223, ↓sI223, ↓lI223, ↓c_I, ↓c_J, ↓c_Q, ↓c_V, ↓c_It, ↓c_Jt, ↓c_Vt, ↓k_I, ↓k_J, ↓n_I, ↓n_V, li0, li1, li2, li3, li4, li5, li6, li7, li8, li9, li10, li11, li12, li13, li14, li15, li16, li17, li18, li19, li20, li21, li22, li23, li24, li25, li26, li27, li28, li29, li30, li31, li32, li33, li34, li35, li36, li37, li38, li39, li40, li41, li42, li44, li48, li57, li63, li64, li65, li97, li99, li100, li101, li102, li104, li105, li106, li109, li114, li120, li128, li130, li300, li514, li999, li1000, li8192, li9999, li65536, li1000000, li1000001, li1000002, li1000003, li1000004, li1000005, li1000006, li1000007, li1000008, li1000009, li1000010, li1000011, li1000012, li1000013, li1000014, li1000015, li1000016, li1000017, li1000018, li1000019, li2147483647, lj0, lj1, W_add, W_sub, W_mul, W_neg, V_add, V_sub, V_mul, V_neg, W_ite, W_le, W_lt, W_inj, V_le, V_lt, V_inj, W_V, V_W, lgc_ge, lgc_gt, lgc_le, lgc_lt, lgc_eq, ge_iff_le, gt_iff_lt, hN2, n0, ↓reduceIte]
    · have n1 : ¬ (nit A ≤ (n : Int)) := by omega
      have hc : ((n + 1 : Nat) : Int) = (n : Int) + 1 := by omega
      have e0 := r_hasStart (J := J) (b := b) (c := c) hA hM (i := n) (ax := mx) (by omega) (by omega) (by omega) (by omega)
      by_cases hP : hs A n mx
      · rw [bb_pos hP] at e0
        have hpS : pS4 A (pst2 A) mx cnt (n + 1) = pS4 A (pst2 A) mx cnt n := cif_pos hP
        have hQ : ∀ k, 0 ≤ k → k < nit A → (pP4 A mx ((n + 1 : Nat) : Int) k ↔ pP4 A mx n k) := by
          intro k k0 k1
          unfold pP4
          constructor
          · rintro (h1 | h1)
            · exact Or.inl h1
            · by_cases e : k = n
              · subst e
                exact Or.inl hP
              · exact Or.inr (by omega)
          · rintro (h1 | h1)
            · exact Or.inl h1
            · exact Or.inr (by omega)
        obtain ⟨I', k1, k2⟩ := ih (n + 1) I (by omega) (by omega) (by rw [hpS]; exact hW.congr hQ) (by rw [hpS]; exact (hB.congr fun k k0 k1 h => (hQ k k0 k1).mp h).mono (by omega) (Int.le_refl _)) (by rw [hpS]; exact h7) (by rw [hpS]; exact h8) (by omega) (by omega) hIo
        refine ⟨I', ?_, k2⟩
        rw [← k1, hc]
        simp (disch := first | assumption | omega) only [f_X8_layOut_b173, f_X8_layOut_b253, ↓rc102, ↓gI102_0, ↓gI102_6, ↓gI102_8, ↓gI102_9, ↓gI102_13, ↓gI102_15, ↓gI102_16, ↓gI102_17, ↓gI102_18, ↓gI102_19, ↓gI102_27, ↓gI102_28, ↓gI102_29, ↓gJ102_39, ↓gJ102_40, ↓gJ102_41, ↓gJ102_42, ↓pI102_0, ↓pI102_6, ↓pI102_9, ↓pI102_13, ↓pI102_15, ↓pI102_16, ↓pI102_17, ↓pI102_27, ↓pI102_28, ↓pI102_29, ↓pZ102_8, ↓pZ102_18, ↓pZ102_19, ↓pJ102_39, ↓pJ102_40, ↓pJ102_41, ↓pJ102_42, ↓gR102_1, ↓gR102_2, ↓gR102_3, ↓gR102_4, ↓gR102_5, ↓gR102_7, ↓gR102_10, ↓gR102_11, ↓gR102_12, ↓gR102_14, ↓gR102_20, ↓gR102_21, ↓gR102_22, ↓gR102_23, ↓gR102_24, ↓gR102_25, ↓gR102_26, ↓gR102_30, ↓gR102_31, ↓gR102_32, ↓gR102_33, ↓gR102_34, ↓gR102_35, ↓gR102_36, ↓gR102_37, ↓gR102_38, ↓aI103, ↓sI103, ↓ln103, ↓aI137, ↓sI137, ↓ln137, ↓aI188, ↓sZ188, ↓ln188, ↓aI189, ↓ln189, ↓aI203, ↓sI203, ↓ln203, ↓aI217, ↓sZ217, ↓ln217, ↓aI218, ↓sI218, ↓ln218, ↓aI219, ↓sI219, ↓ln219, ↓aI220, ↓sZ220, ↓ln220, ↓aI221, ↓sZ221, ↓ln221, ↓aI229, ↓sI229, ↓ln229, ↓aI230, ↓sI230, ↓ln230, ↓aI231, ↓sI231, ↓ln231, ↓aI232, ↓sI232, ↓ln232, ↓aI233, ↓sI233, ↓ln233, ↓aI234, ↓sZ234, ↓ln234, ↓aI235, ↓sZ235, ↓ln235, ↓aR104, ↓aR131, ↓aR134, ↓aR138, ↓aR175, ↓aR179, ↓aR190, ↓aR204, ↓aR222, ↓aR105, ↓aR139, ↓aI106, ↓sI106, ↓lI106, ↓aI132, ↓sI132, ↓lI132, ↓aI135, ↓sI135, ↓lI135, ↓aI140, ↓sI140, ↓lI140, ↓aI176, ↓sI176, ↓lI176, ↓aI180, ↓sI180, ↓lI180, ↓aI191, ↓sI191, ↓lI191, ↓aI205, ↓sI205, ↓lI205, ↓aI223, ↓sI223, ↓lI223, ↓c_I, ↓c_J, ↓c_Q, ↓c_V, ↓c_It, ↓c_Jt, ↓c_Vt, ↓k_I, ↓k_J, ↓n_I, ↓n_V, li0, li1, li2, li3, li4, li5, li6, li7, li8, li9, li10, li11, li12, li13, li14, li15, li16, li17, li18, li19, li20, li21, li22, li23, li24, li25, li26, li27, li28, li29, li30, li31, li32, li33, li34, li35, li36, li37, li38, li39, li40, li41, li42, li44, li48, li57, li63, li64, li65, li97, li99, li100, li101, li102, li104, li105, li106, li109, li114, li120, li128, li130, li300, li514, li999, li1000, li8192, li9999, li65536, li1000000, li1000001, li1000002, li1000003, li1000004, li1000005, li1000006, li1000007, li1000008, li1000009, li1000010, li1000011, li1000012, li1000013, li1000014, li1000015, li1000016, li1000017, li1000018, li1000019, li2147483647, lj0, lj1, W_add, W_sub, W_mul, W_neg, V_add, V_sub, V_mul, V_neg, W_ite, W_le, W_lt, W_inj, V_le, V_lt, V_inj, W_V, V_W, lgc_ge, lgc_gt, lgc_le, lgc_lt, lgc_eq, ge_iff_le, gt_iff_lt, hN2, n1, e0, Int.reduceEq, ↓reduceIte]
      · rw [bb_neg hP] at e0
        have hPn : ¬ pP4 A mx n n := fun h => h.elim hP (by omega)
        have r := hA.2.2.2.2.2 n (1 - mx) (by omega) (by omega) (by omega) (by omega)
        have r33 := r.2.2.1
        have rm := (hA.2.2.2.2.2 n mx (by omega) (by omega) (by omega) (by omega)).2.2.1
        have hpS : pS4 A (pst2 A) mx cnt (n + 1) = (put (pS4 A (pst2 A) mx cnt n).1 n mx (pgo A (pS4 A (pst2 A) mx cnt n).1 mx cnt n (pcu A (pS4 A (pst2 A) mx cnt n).2)).1 (pgo A (pS4 A (pst2 A) mx cnt n).1 mx cnt n (pcu A (pS4 A (pst2 A) mx cnt n).2)).2, pgo A (pS4 A (pst2 A) mx cnt n).1 mx cnt n (pcu A (pS4 A (pst2 A) mx cnt n).2)) := cif_neg hP
        have hx : ∃ x : Int × Int, x = pcu A (pS4 A (pst2 A) mx cnt n).2 ∧ 1 ≤ x.1 ∧ x.1 ≤ 15 + 4 * n ∧ 1 ≤ x.2 ∧ x.2 ≤ 63 := by
          refine ⟨_, rfl, ?_⟩
          unfold pcu
          split
          · rw [← h7, ← h8]
            omega
          · show (1 : Int) ≤ 1 ∧ (1 : Int) ≤ 15 + 4 * n ∧ (1 : Int) ≤ 1 ∧ (1 : Int) ≤ 63
            omega
        obtain ⟨x, ex, x1, x2, x3, x4⟩ := hx
        rw [← ex] at hpS
        have hQ : ∀ k, 0 ≤ k → k < nit A → (pP4 A mx ((n + 1 : Nat) : Int) k ↔ pP4 A mx n k ∨ k = n) := by
          intro k k0 k1
          unfold pP4
          constructor
          · rintro (h1 | h1)
            · exact Or.inl (Or.inl h1)
            · by_cases e : k = n
              · exact Or.inr e
              · exact Or.inl (Or.inr (by omega))
          · rintro ((h1 | h1) | rfl)
            · exact Or.inl h1
            · exact Or.inr (by omega)
            · exact Or.inr (by omega)
        -- the cursor set
        have cu : ∃ I1, (I1 219 mx = x.1 ∧ I1 219 (1 - mx) = x.2) ∧ (∀ a, a ≠ 219 → I1 a = I a) ∧ f_X8_layOut_b173 (f_X8_layOut_L173 fuel) (Sx I J b c) 102 (iW mx) (iW (1 - mx)) (iW cnt) (iW n) = x_cV (f_X8_placeByCursor (Sx I1 J b c) 102 (iW n) (iW mx) (iW (1 - mx)) (iW cnt)) fun h2 => f_X8_layOut_b253 (f_X8_layOut_L173 fuel) h2 102 (iW mx) (iW (1 - mx)) (iW cnt) (iW n) := by
          by_cases hd : A 4 2 = 0
          · have ex2 : x = (I 219 mx, I 219 (1 - mx)) := by
              rw [ex, h7, h8]
              exact if_pos hd
            refine ⟨uI (uI I 219 0 (I 219 0)) 219 1 (I 219 1), ?_, fun a ha => by rw [u_obj ha, u_obj ha], ?_⟩
            · rw [ex2]
              have e1 : uI (uI I 219 0 (I 219 0)) 219 1 (I 219 1) = I := by rw [u_self, u_self]
              rw [e1]
              exact ⟨rfl, rfl⟩
            · have ho1 : uI I 219 0 (I 219 0) 219 1 = I 219 1 := by rw [u_ne (by decide)]
              have ho7 : uI I 219 0 (I 219 0) 137 1 = A 4 2 := by rw [u_obj (by decide)]; exact hD
              simp (disch := first | assumption | omega) only [f_X8_layOut_b173, f_X8_layOut_b217, f_X8_layOut_b243, ↓rc102, ↓gI102_0, ↓gI102_6, ↓gI102_8, ↓gI102_9, ↓gI102_13, ↓gI102_15, ↓gI102_16, ↓gI102_17, ↓gI102_18, ↓gI102_19, ↓gI102_27, ↓gI102_28, ↓gI102_29, ↓gJ102_39, ↓gJ102_40, ↓gJ102_41, ↓gJ102_42, ↓pI102_0, ↓pI102_6, ↓pI102_9, ↓pI102_13, ↓pI102_15, ↓pI102_16, ↓pI102_17, ↓pI102_27, ↓pI102_28, ↓pI102_29, ↓pZ102_8, ↓pZ102_18, ↓pZ102_19, ↓pJ102_39, ↓pJ102_40, ↓pJ102_41, ↓pJ102_42, ↓gR102_1, ↓gR102_2, ↓gR102_3, ↓gR102_4, ↓gR102_5, ↓gR102_7, ↓gR102_10, ↓gR102_11, ↓gR102_12, ↓gR102_14, ↓gR102_20, ↓gR102_21, ↓gR102_22, ↓gR102_23, ↓gR102_24, ↓gR102_25, ↓gR102_26, ↓gR102_30, ↓gR102_31, ↓gR102_32, ↓gR102_33, ↓gR102_34, ↓gR102_35, ↓gR102_36, ↓gR102_37, ↓gR102_38, ↓aI103, ↓sI103, ↓ln103, ↓aI137, ↓sI137, ↓ln137, ↓aI188, ↓sZ188, ↓ln188, ↓aI189, ↓ln189, ↓aI203, ↓sI203, ↓ln203, ↓aI217, ↓sZ217, ↓ln217, ↓aI218, ↓sI218, ↓ln218, ↓aI219, ↓sI219, ↓ln219, ↓aI220, ↓sZ220, ↓ln220, ↓aI221, ↓sZ221, ↓ln221, ↓aI229, ↓sI229, ↓ln229, ↓aI230, ↓sI230, ↓ln230, ↓aI231, ↓sI231, ↓ln231, ↓aI232, ↓sI232, ↓ln232, ↓aI233, ↓sI233, ↓ln233, ↓aI234, ↓sZ234, ↓ln234, ↓aI235, ↓sZ235, ↓ln235, ↓aR104, ↓aR131, ↓aR134, ↓aR138, ↓aR175, ↓aR179, ↓aR190, ↓aR204, ↓aR222, ↓aR105, ↓aR139, ↓aI106, ↓sI106, ↓lI106, ↓aI132, ↓sI132, ↓lI132, ↓aI135, ↓sI135, ↓lI135, ↓aI140, ↓sI140, ↓lI140, ↓aI176, ↓sI176, ↓lI176, ↓aI180, ↓sI180, ↓lI180, ↓aI191, ↓sI191, ↓lI191, ↓aI205, ↓sI205, ↓lI205, ↓aI223, ↓sI223, ↓lI223, ↓c_I, ↓c_J, ↓c_Q, ↓c_V, ↓c_It, ↓c_Jt, ↓c_Vt, ↓k_I, ↓k_J, ↓n_I, ↓n_V, li0, li1, li2, li3, li4, li5, li6, li7, li8, li9, li10, li11, li12, li13, li14, li15, li16, li17, li18, li19, li20, li21, li22, li23, li24, li25, li26, li27, li28, li29, li30, li31, li32, li33, li34, li35, li36, li37, li38, li39, li40, li41, li42, li44, li48, li57, li63, li64, li65, li97, li99, li100, li101, li102, li104, li105, li106, li109, li114, li120, li128, li130, li300, li514, li999, li1000, li8192, li9999, li65536, li1000000, li1000001, li1000002, li1000003, li1000004, li1000005, li1000006, li1000007, li1000008, li1000009, li1000010, li1000011, li1000012, li1000013, li1000014, li1000015, li1000016, li1000017, li1000018, li1000019, li2147483647, lj0, lj1, W_add, W_sub, W_mul, W_neg, V_add, V_sub, V_mul, V_neg, W_ite, W_le, W_lt, W_inj, V_le, V_lt, V_inj, W_V, V_W, lgc_ge, lgc_gt, lgc_le, lgc_lt, lgc_eq, ge_iff_le, gt_iff_lt, hN2, n1, e0, hD, ho7, hd, ho1, Int.reduceEq, ↓reduceIte]
          · have hd1 : A 4 2 = 1 := by omega
            have ex2 : x = (1, 1) := by
              rw [ex]
              exact if_neg hd
            refine ⟨uI (uI I 219 0 1) 219 1 1, ?_, fun a ha => by rw [u_obj ha, u_obj ha], ?_⟩
            · rw [ex2]
              have e : ∀ j, (j = 0 ∨ j = 1) → uI (uI I 219 0 1) 219 1 1 219 j = 1 := fun j hj => by
                rcases hj with rfl | rfl
                · rw [u_ne (by decide), u_eq]
                · rw [u_eq]
              exact ⟨e mx hm, e (1 - mx) (by omega)⟩
            · have ho7 : uI I 219 0 1 137 1 = A 4 2 := by rw [u_obj (by decide)]; exact hD
              simp (disch := first | assumption | omega) only [f_X8_layOut_b173, f_X8_layOut_b217, f_X8_layOut_b243, ↓rc102, ↓gI102_0, ↓gI102_6, ↓gI102_8, ↓gI102_9, ↓gI102_13, ↓gI102_15, ↓gI102_16, ↓gI102_17, ↓gI102_18, ↓gI102_19, ↓gI102_27, ↓gI102_28, ↓gI102_29, ↓gJ102_39, ↓gJ102_40, ↓gJ102_41, ↓gJ102_42, ↓pI102_0, ↓pI102_6, ↓pI102_9, ↓pI102_13, ↓pI102_15, ↓pI102_16, ↓pI102_17, ↓pI102_27, ↓pI102_28, ↓pI102_29, ↓pZ102_8, ↓pZ102_18, ↓pZ102_19, ↓pJ102_39, ↓pJ102_40, ↓pJ102_41, ↓pJ102_42, ↓gR102_1, ↓gR102_2, ↓gR102_3, ↓gR102_4, ↓gR102_5, ↓gR102_7, ↓gR102_10, ↓gR102_11, ↓gR102_12, ↓gR102_14, ↓gR102_20, ↓gR102_21, ↓gR102_22, ↓gR102_23, ↓gR102_24, ↓gR102_25, ↓gR102_26, ↓gR102_30, ↓gR102_31, ↓gR102_32, ↓gR102_33, ↓gR102_34, ↓gR102_35, ↓gR102_36, ↓gR102_37, ↓gR102_38, ↓aI103, ↓sI103, ↓ln103, ↓aI137, ↓sI137, ↓ln137, ↓aI188, ↓sZ188, ↓ln188, ↓aI189, ↓ln189, ↓aI203, ↓sI203, ↓ln203, ↓aI217, ↓sZ217, ↓ln217, ↓aI218, ↓sI218, ↓ln218, ↓aI219, ↓sI219, ↓ln219, ↓aI220, ↓sZ220, ↓ln220, ↓aI221, ↓sZ221, ↓ln221, ↓aI229, ↓sI229, ↓ln229, ↓aI230, ↓sI230, ↓ln230, ↓aI231, ↓sI231, ↓ln231, ↓aI232, ↓sI232, ↓ln232, ↓aI233, ↓sI233, ↓ln233, ↓aI234, ↓sZ234, ↓ln234, ↓aI235, ↓sZ235, ↓ln235, ↓aR104, ↓aR131, ↓aR134, ↓aR138, ↓aR175, ↓aR179, ↓aR190, ↓aR204, ↓aR222, ↓aR105, ↓aR139, ↓aI106, ↓sI106, ↓lI106, ↓aI132, ↓sI132, ↓lI132, ↓aI135, ↓sI135, ↓lI135, ↓aI140, ↓sI140, ↓lI140, ↓aI176, ↓sI176, ↓lI176, ↓aI180, ↓sI180, ↓lI180, ↓aI191, ↓sI191, ↓lI191, ↓aI205, ↓sI205, ↓lI205, ↓aI223, ↓sI223, ↓lI223, ↓c_I, ↓c_J, ↓c_Q, ↓c_V, ↓c_It, ↓c_Jt, ↓c_Vt, ↓k_I, ↓k_J, ↓n_I, ↓n_V, li0, li1, li2, li3, li4, li5, li6, li7, li8, li9, li10, li11, li12, li13, li14, li15, li16, li17, li18, li19, li20, li21, li22, li23, li24, li25, li26, li27, li28, li29, li30, li31, li32, li33, li34, li35, li36, li37, li38, li39, li40, li41, li42, li44, li48, li57, li63, li64, li65, li97, li99, li100, li101, li102, li104, li105, li106, li109, li114, li120, li128, li130, li300, li514, li999, li1000, li8192, li9999, li65536, li1000000, li1000001, li1000002, li1000003, li1000004, li1000005, li1000006, li1000007, li1000008, li1000009, li1000010, li1000011, li1000012, li1000013, li1000014, li1000015, li1000016, li1000017, li1000018, li1000019, li2147483647, lj0, lj1, W_add, W_sub, W_mul, W_neg, V_add, V_sub, V_mul, V_neg, W_ite, W_le, W_lt, W_inj, V_le, V_lt, V_inj, W_V, V_W, lgc_ge, lgc_gt, lgc_le, lgc_lt, lgc_eq, ge_iff_le, gt_iff_lt, hN2, n1, e0, hD, ho7, hd1, ↓reduceIte]
        obtain ⟨I1, ⟨g1, g2⟩, g3, g4⟩ := cu
        have hW1 : RP I1 A mx (pP4 A mx n) (pS4 A (pst2 A) mx cnt n).1 := hW.fr (by rw [g3 102 (by decide)]) (fun a a0 a1 => g3 a (by omega)) (g3 217 (by decide)) (fun k k0 k1 _ => g3 _ (by omega))
        obtain ⟨y, I2, z1, z2, z3, z4, z5, z6, z7, z8⟩ := r_byCursor (J := J) (b := b) (c := c) (x := x) hB (by omega) (i := n) (by omega) (by omega) hPn (fun _ => Iff.rfl) (fun h => hcnt n (by omega) (by omega) hP h) (by omega) hW1 g1 g2 x1 x2 x3 (by omega)
        rw [← z2] at hpS
        have hW2 := RP_put (Q := pP4 A mx ((n + 1 : Nat) : Int)) (hW1.cur (i := n) (by omega) (by omega) hPn z8) (i := n) (by omega) (by omega) z7.2.2.1 z7.2.2.2 z3 (by omega) z5 (by omega) hQ
        have ho2 : ∀ a, (a < 205 ∨ 220 < a) → uI I2 217 n 1 a = I0 a := fun a ha => by rw [u_obj (by omega), z8 a (by omega) (by omega), g3 a (by omega), hIo a ha]
        obtain ⟨I', k1, k2⟩ := ih (n + 1) (uI I2 217 n 1) (by omega) (by omega) (by rw [hpS]; exact hW2) (by
          rw [hpS]
          exact pB_put hm (hB.mono (by omega) (Int.le_refl _)) (by omega) (by omega) (fun k k0 k1 h => (hQ k k0 k1).mp h)) (by rw [u_obj (by omega), hpS]; exact z7.1) (by rw [u_obj (by omega), hpS]; exact z7.2.1) (by rw [u_obj (by omega), z7.1]; omega) (by rw [u_obj (by omega), z7.2.1]; omega) ho2
        refine ⟨I', ?_, k2⟩
        rw [← k1, hc, g4, z1, c_V]
        simp (disch := first | assumption | omega) only [f_X8_layOut_b253, li0, li1, li2, li3, li4, li5, li6, li7, li8, li9, li10, li11, li12, li13, li14, li15, li16, li17, li18, li19, li20, li21, li22, li23, li24, li25, li26, li27, li28, li29, li30, li31, li32, li33, li34, li35, li36, li37, li38, li39, li40, li41, li42, li44, li48, li57, li63, li64, li65, li97, li99, li100, li101, li102, li104, li105, li106, li109, li114, li120, li128, li130, li300, li514, li999, li1000, li8192, li9999, li65536, li1000000, li1000001, li1000002, li1000003, li1000004, li1000005, li1000006, li1000007, li1000008, li1000009, li1000010, li1000011, li1000012, li1000013, li1000014, li1000015, li1000016, li1000017, li1000018, li1000019, li2147483647, lj0, lj1, W_add, W_sub, W_mul, W_neg, V_add, V_sub, V_mul, V_neg, W_ite]
/-- step 2, and what follows -/
theorem r_step2 {mx : Int} (hmg : mx = gmx A) {I0 : CF} : ∀ (fuel : Nat) (n : Nat) (I : CF), nit A - n < fuel → (n : Int) ≤ nit A → RP I A mx (pP2 A mx n) (pS2 A mx n) → pB A (pS2 A mx n) mx (pP2 A mx n) 15 (15 + 4 * n) → (∀ j : Int, 0 ≤ j → j < nit A → I 220 j = bb ((hs A j mx ∧ ¬ hs A j (1 - mx)) ∧ j < n)) → (∀ a, (a < 205 ∨ 220 < a) → I a = I0 a) →
    ∃ I', f_X8_layOut_L106 fuel (Sx I J b c) 102 (iW mx) (iW (1 - mx)) (iW n) = some (Sx I' J b c, xv) ∧ RN I' A ∧ ∀ a, (a < 205 ∨ 220 < a) → I' a = I0 a := by
  intro fuel
  induction fuel with
  | zero => intro n I a1 a2; omega
  | succ fuel ih =>
    intro n I a1 a2 hW hB h220 hIo
    show ∃ I', f_X8_layOut_b106 (f_X8_layOut_L106 fuel) (Sx I J b c) 102 (iW mx) (iW (1 - mx)) (iW n) = _ ∧ _
    have hA := hW.1
    have hm := hW.2.1
    have hM := hW.2.2.1
    have hN := hA.1
    have hN2 : I 102 6 = nit A := hM.2.2.2.2.2.2.1
    by_cases hk : (n : Int) = nit A
    · have n0 : nit A ≤ (n : Int) := by omega
      have hst : pS2 A mx n = pst2 A := by
        unfold pst2
        rw [← hmg, show (nit A).toNat = n by omega]
      rw [hst] at hW hB
      have hP3 : ∀ k, 0 ≤ k → k < nit A → (pP2 A mx n k ↔ hs A k mx) := fun k k0 k1 => ⟨fun h => h.1, fun h => ⟨h, Or.inr (by omega)⟩⟩
      have hsct := sct_bd hB hA hm (by omega) (fun k k0 k1 h => (hP3 k k0 k1).mpr h)
      have d1 := r_side (J := J) (b := b) (c := c) (xx := iW mx) hW hP3 (fun n hn => by have := hsct n hn; omega)
      have hcg : sct A (pst2 A) mx (nit A).toNat = pcnt A := by
        unfold pcnt
        rw [← hmg]
      rw [hcg] at d1
      have hcnt := hsct (nit A).toNat (by omega)
      rw [hcg] at hcnt
      have hW4 : RP (uI (uI I 219 0 1) 219 1 1) A mx (pP4 A mx ((0 : Nat) : Int)) (pS4 A (pst2 A) mx (pcnt A) 0).1 := by
        refine (hW.congr fun k k0 k1 => ?_).fr (by rw [u_obj (by decide), u_obj (by decide)]) (fun a a0 a1 => by rw [u_obj (by omega), u_obj (by omega)]) (by rw [u_obj (by decide), u_obj (by decide)]) (fun k k0 k1 _ => by rw [u_obj (by omega), u_obj (by omega)])
        rw [hP3 k k0 k1]
        exact ⟨fun h => h.elim (fun h => h) (fun h => by omega), Or.inl⟩
      have hB4 : pB A (pS4 A (pst2 A) mx (pcnt A) 0).1 mx (pP4 A mx ((0 : Nat) : Int)) (15 + 4 * ((0 : Nat) : Int)) 63 := by
        refine (hB.congr fun k k0 k1 h => ?_).mono (by omega) (by omega)
        exact (hP3 k k0 k1).mpr (h.elim (fun h => h) (fun h => by omega))
      have ecu : ∀ j, (j = 0 ∨ j = 1) → uI (uI I 219 0 1) 219 1 1 219 j = 1 := fun j hj => by
        rcases hj with rfl | rfl
        · rw [u_ne (by decide), u_eq]
        · rw [u_eq]
      obtain ⟨I', k1, k2, k3⟩ := r_step4 (J := J) (b := b) (c := c) hmg rfl (cnt := pcnt A) (fun i i0 i1 h1 h2 => by
        rcases hcnt.2.2 i i0 (by omega) with h | h | h
        · exact h
        · exact absurd h h2
        · exact absurd h h1) hcnt.1 (by omega) (I0 := I0) FU 0 (uI (uI I 219 0 1) 219 1 1) (by unfold FU; omega) (by omega) hW4 hB4 (ecu mx hm) (ecu (1 - mx) (by omega)) (by rw [ecu mx hm]; omega) (by rw [ecu (1 - mx) (by omega)]; omega) (fun a ha => by rw [u_obj (by omega), u_obj (by omega)]; exact hIo a ha)
      refine ⟨I', ?_, k2, k3⟩
      rw [← k1]
      simp (disch := first | assumption | omega) only [f_X8_layOut_b106, ↓rc102, ↓gI102_0, ↓gI102_6, ↓gI102_8, ↓gI102_9, ↓gI102_13, ↓gI102_15, ↓gI102_16, ↓gI102_17, ↓gI102_18, ↓gI102_19, ↓gI102_27, ↓gI102_28, ↓gI102_29, ↓gJ102_39, ↓gJ102_40, ↓gJ102_41, ↓gJ102_42, ↓pI102_0, ↓pI102_6, ↓pI102_9, ↓pI102_13, ↓pI102_15, ↓pI102_16, ↓pI102_17, ↓pI102_27, ↓pI102_28, ↓pI102_29, ↓pZ102_8, ↓pZ102_18, ↓pZ102_19, ↓pJ102_39, ↓pJ102_40, ↓pJ102_41, ↓pJ102_42, ↓gR102_1, ↓gR102_2, ↓gR102_3, ↓gR102_4, ↓gR102_5, ↓gR102_7, ↓gR102_10, ↓gR102_11, ↓gR102_12, ↓gR102_14, ↓gR102_20, ↓gR102_21, ↓gR102_22, ↓gR102_23, ↓gR102_24, ↓gR102_25, ↓gR102_26, ↓gR102_30, ↓gR102_31, ↓gR102_32, ↓gR102_33, ↓gR102_34, ↓gR102_35, ↓gR102_36, ↓gR102_37, ↓gR102_38, ↓aI103, ↓sI103, ↓ln103, ↓aI137, ↓sI137, ↓ln137, ↓aI188, ↓sZ188, ↓ln188, ↓aI189, ↓ln189, ↓aI203, ↓sI203, ↓ln203, ↓aI217, ↓sZ217, ↓ln217, ↓aI218, ↓sI218, ↓ln218, ↓aI219, ↓sI219, ↓ln219, ↓aI220, ↓sZ220, ↓ln220, ↓aI221, ↓sZ221, ↓ln221, ↓aI229, ↓sI229, ↓ln229, ↓aI230, ↓sI230, ↓ln230, ↓aI231, ↓sI231, ↓ln231, ↓aI232, ↓sI232, ↓ln232, ↓aI233, ↓sI233, ↓ln233, ↓aI234, ↓sZ234, ↓ln234, ↓aI235, ↓sZ235, ↓ln235, ↓aR104, ↓aR131, ↓aR134, ↓aR138, ↓aR175, ↓aR179, ↓aR190, ↓aR204, ↓aR222, ↓aR105, ↓aR139, ↓aI106, ↓sI106, ↓lI106, ↓aI132, ↓sI132, ↓lI132, ↓aI135, ↓sI135, ↓lI135, ↓aI140, ↓sI140, ↓lI140, ↓aI176, ↓sI176, ↓lI176, ↓aI180, ↓sI180, ↓lI180, ↓aI191, ↓sI191, ↓lI191, ↓aI205, ↓sI205, ↓lI205, ↓aI223, ↓sI223, ↓lI223, ↓c_I, ↓c_J, ↓c_Q, ↓c_V, ↓c_It, ↓c_Jt, ↓c_Vt, ↓k_I, ↓k_J, ↓n_I, ↓n_V, li0, li1, li2, li3, li4, li5, li6, li7, li8, li9, li10, li11, li12, li13, li14, li15, li16, li17, li18, li19, li20, li21, li22, li23, li24, li25, li26, li27, li28, li29, li30, li31, li32, li33, li34, li35, li36, li37, li38, li39, li40, li41, li42, li44, li48, li57, li63, li64, li65, li97, li99, li100, li101, li102, li104, li105, li106, li109, li114, li120, li128, li130, li300, li514, li999, li1000, li8192, li9999, li65536, li1000000, li1000001, li1000002, li1000003, li1000004, li1000005, li1000006, li1000007, li1000008, li1000009, li1000010, li1000011, li1000012, li1000013, li1000014, li1000015, li1000016, li1000017, li1000018, li1000019, li2147483647, lj0, lj1, W_add, W_sub, W_mul, W_neg, V_add, V_sub, V_mul, V_neg, W_ite, W_le, W_lt, W_inj, V_le, V_lt, V_inj, W_V, V_W, lgc_ge, lgc_gt, lgc_le, lgc_lt, lgc_eq, ge_iff_le, gt_iff_lt, hN2, n0, d1, ↓reduceIte]
      rfl
    · have n1 : ¬ (nit A ≤ (n : Int)) := by omega
      have hc : ((n + 1 : Nat) : Int) = (n : Int) + 1 := by omega
      have e1 := r_hasStart (J := J) (b := b) (c := c) hA hM (i := n) (ax := mx) (by omega) (by omega) (by omega) (by omega)
      have e2 := r_hasStart (J := J) (b := b) (c := c) hA hM (i := n) (ax := 1 - mx) (by omega) (by omega) (by omega) (by omega)
      by_cases hP : hs A n mx ∧ ¬ hs A n (1 - mx)
      · have hPn : ¬ pP2 A mx n n := fun z => z.2.elim hP.2 (fun h => by omega)
        have r1 := (hA.2.2.2.2.2 n mx (by omega) (by omega) (by omega) (by omega)).2.1
        have r3 := (hA.2.2.2.2.2 n mx (by omega) (by omega) (by omega) (by omega)).2.2.1
        have r4 := (hA.2.2.2.2.2 n (1 - mx) (by omega) (by omega) (by omega) (by omega)).2.2.1
        have hh1 : itf A n mx 2 ≠ -1 := hP.1
        obtain ⟨y, z1, z2, z3, z4⟩ := r_placeOnMain (J := J) (b := b) (c := c) hW hB (fun j j0 j1 => by
          rw [h220 j j0 (by omega)]
          exact bb_congr ⟨fun z => z.1, fun z => ⟨z, j1⟩⟩) (by omega) hP
        have hQ : ∀ k, 0 ≤ k → k < nit A → (pP2 A mx ((n + 1 : Nat) : Int) k ↔ pP2 A mx n k ∨ k = n) := by
          intro k k0 k1
          unfold pP2
          constructor
          · rintro ⟨h1, h2 | h2⟩
            · exact Or.inl ⟨h1, Or.inl h2⟩
            · by_cases e : k = n
              · exact Or.inr e
              · exact Or.inl ⟨h1, Or.inr (by omega)⟩
          · rintro (⟨h1, h2 | h2⟩ | rfl)
            · exact ⟨h1, Or.inl h2⟩
            · exact ⟨h1, Or.inr (by omega)⟩
            · exact ⟨hP.1, Or.inr (by omega)⟩
        have hW2 := RP_put (Q := pP2 A mx ((n + 1 : Nat) : Int)) (hW.rst (i := n) (m := itf A n mx 2) (s := y) (by omega) (by omega) hPn) (i := n) (by omega) (by omega) (rst2_m hm) rst2_s (by omega) (by omega) z3 (by omega) hQ
        rw [← z2] at hW2
        have hW3 := hW2.fr (I' := uI (uI (rst2 I n mx (itf A n mx 2) y) 217 n 1) 220 n 1) (u_obj' (by omega)) (fun a a0 a1 => u_obj (by omega)) (u_obj (by omega)) (fun k k0 k1 _ => u_obj (by omega))
        obtain ⟨I', k1, k2⟩ := ih (n + 1) _ (by omega) (by omega) hW3 (by
          rw [z2]
          exact pB_put hm (hB.mono (Int.le_refl _) (by omega)) (by omega) (by omega) (fun k k0 k1 h => (hQ k k0 k1).mp h)) (fun j j0 j1 => by
          rw [u_at]
          by_cases e : j = n
          · rw [if_pos e, e, bb_pos ⟨hP, by omega⟩]
          · rw [if_neg e, u_obj (by omega), rst2_o (by omega), h220 j j0 j1]
            exact bb_congr ⟨fun z => ⟨z.1, by omega⟩, fun z => ⟨z.1, by omega⟩⟩) (fun a ha => by rw [u_obj (by omega), u_obj (by omega), rst2_o (by omega)]; exact hIo a ha)
        refine ⟨I', ?_, k2⟩
        rw [← k1, hc]
        rw [bb_pos hP.1] at e1
        rw [bb_neg hP.2] at e2
        simp (disch := first | assumption | omega) only [f_X8_layOut_b106, f_X8_layOut_b143, ↓rc102, ↓gI102_0, ↓gI102_6, ↓gI102_8, ↓gI102_9, ↓gI102_13, ↓gI102_15, ↓gI102_16, ↓gI102_17, ↓gI102_18, ↓gI102_19, ↓gI102_27, ↓gI102_28, ↓gI102_29, ↓gJ102_39, ↓gJ102_40, ↓gJ102_41, ↓gJ102_42, ↓pI102_0, ↓pI102_6, ↓pI102_9, ↓pI102_13, ↓pI102_15, ↓pI102_16, ↓pI102_17, ↓pI102_27, ↓pI102_28, ↓pI102_29, ↓pZ102_8, ↓pZ102_18, ↓pZ102_19, ↓pJ102_39, ↓pJ102_40, ↓pJ102_41, ↓pJ102_42, ↓gR102_1, ↓gR102_2, ↓gR102_3, ↓gR102_4, ↓gR102_5, ↓gR102_7, ↓gR102_10, ↓gR102_11, ↓gR102_12, ↓gR102_14, ↓gR102_20, ↓gR102_21, ↓gR102_22, ↓gR102_23, ↓gR102_24, ↓gR102_25, ↓gR102_26, ↓gR102_30, ↓gR102_31, ↓gR102_32, ↓gR102_33, ↓gR102_34, ↓gR102_35, ↓gR102_36, ↓gR102_37, ↓gR102_38, ↓aI103, ↓sI103, ↓ln103, ↓aI137, ↓sI137, ↓ln137, ↓aI188, ↓sZ188, ↓ln188, ↓aI189, ↓ln189, ↓aI203, ↓sI203, ↓ln203, ↓aI217, ↓sZ217, ↓ln217, ↓aI218, ↓sI218, ↓ln218, ↓aI219, ↓sI219, ↓ln219, ↓aI220, ↓sZ220, ↓ln220, ↓aI221, ↓sZ221, ↓ln221, ↓aI229, ↓sI229, ↓ln229, ↓aI230, ↓sI230, ↓ln230, ↓aI231, ↓sI231, ↓ln231, ↓aI232, ↓sI232, ↓ln232, ↓aI233, ↓sI233, ↓ln233, ↓aI234, ↓sZ234, ↓ln234, ↓aI235, ↓sZ235, ↓ln235, ↓aR104, ↓aR131, ↓aR134, ↓aR138, ↓aR175, ↓aR179, ↓aR190, ↓aR204, ↓aR222, ↓aR105, ↓aR139, ↓aI106, ↓sI106, ↓lI106, ↓aI132, ↓sI132, ↓lI132, ↓aI135, ↓sI135, ↓lI135, ↓aI140, ↓sI140, ↓lI140, ↓aI176, ↓sI176, ↓lI176, ↓aI180, ↓sI180, ↓lI180, ↓aI191, ↓sI191, ↓lI191, ↓aI205, ↓sI205, ↓lI205, ↓aI223, ↓sI223, ↓lI223, ↓c_I, ↓c_J, ↓c_Q, ↓c_V, ↓c_It, ↓c_Jt, ↓c_Vt, ↓k_I, ↓k_J, ↓n_I, ↓n_V, li0, li1, li2, li3, li4, li5, li6, li7, li8, li9, li10, li11, li12, li13, li14, li15, li16, li17, li18, li19, li20, li21, li22, li23, li24, li25, li26, li27, li28, li29, li30, li31, li32, li33, li34, li35, li36, li37, li38, li39, li40, li41, li42, li44, li48, li57, li63, li64, li65, li97, li99, li100, li101, li102, li104, li105, li106, li109, li114, li120, li128, li130, li300, li514, li999, li1000, li8192, li9999, li65536, li1000000, li1000001, li1000002, li1000003, li1000004, li1000005, li1000006, li1000007, li1000008, li1000009, li1000010, li1000011, li1000012, li1000013, li1000014, li1000015, li1000016, li1000017, li1000018, li1000019, li2147483647, lj0, lj1, W_add, W_sub, W_mul, W_neg, V_add, V_sub, V_mul, V_neg, W_ite, W_le, W_lt, W_inj, V_le, V_lt, V_inj, W_V, V_W, lgc_ge, lgc_gt, lgc_le, lgc_lt, lgc_eq, ge_iff_le, gt_iff_lt, hN2, n1, e1, e2, z1, Int.reduceEq, ↓reduceIte]
      · have hpS : pS2 A mx (n + 1) = pS2 A mx n := cif_neg hP
        have hQ : ∀ k, 0 ≤ k → k < nit A → (pP2 A mx ((n + 1 : Nat) : Int) k ↔ pP2 A mx n k) := by
          intro k k0 k1
          unfold pP2
          constructor
          · rintro ⟨h1, h2 | h2⟩
            · exact ⟨h1, Or.inl h2⟩
            · by_cases e : k = n
              · subst e
                refine ⟨h1, Or.inl ?_⟩
                apply Classical.byContradiction
                intro h3
                exact hP ⟨h1, h3⟩
              · exact ⟨h1, Or.inr (by omega)⟩
          · rintro ⟨h1, h2 | h2⟩
            · exact ⟨h1, Or.inl h2⟩
            · exact ⟨h1, Or.inr (by omega)⟩
        obtain ⟨I', k1, k2⟩ := ih (n + 1) I (by omega) (by omega) (by rw [hpS]; exact hW.congr hQ) (by rw [hpS]; exact (hB.congr fun k k0 k1 h => (hQ k k0 k1).mp h).mono (Int.le_refl _) (by omega)) (fun j j0 j1 => by
          rw [h220 j j0 j1]
          refine bb_congr ⟨fun z => ⟨z.1, by omega⟩, fun z => ⟨z.1, ?_⟩⟩
          by_cases e : j = n
          · subst e
            exact absurd z.1 hP
          · omega) hIo
        refine ⟨I', ?_, k2⟩
        rw [← k1, hc]
        by_cases h1 : hs A n mx
        · have h2 : hs A n (1 - mx) := by
            apply Classical.byContradiction
            intro h3
            exact hP ⟨h1, h3⟩
          rw [bb_pos h1] at e1
          rw [bb_pos h2] at e2
          simp (disch := first | assumption | omega) only [f_X8_layOut_b106, f_X8_layOut_b143, ↓rc102, ↓gI102_0, ↓gI102_6, ↓gI102_8, ↓gI102_9, ↓gI102_13, ↓gI102_15, ↓gI102_16, ↓gI102_17, ↓gI102_18, ↓gI102_19, ↓gI102_27, ↓gI102_28, ↓gI102_29, ↓gJ102_39, ↓gJ102_40, ↓gJ102_41, ↓gJ102_42, ↓pI102_0, ↓pI102_6, ↓pI102_9, ↓pI102_13, ↓pI102_15, ↓pI102_16, ↓pI102_17, ↓pI102_27, ↓pI102_28, ↓pI102_29, ↓pZ102_8, ↓pZ102_18, ↓pZ102_19, ↓pJ102_39, ↓pJ102_40, ↓pJ102_41, ↓pJ102_42, ↓gR102_1, ↓gR102_2, ↓gR102_3, ↓gR102_4, ↓gR102_5, ↓gR102_7, ↓gR102_10, ↓gR102_11, ↓gR102_12, ↓gR102_14, ↓gR102_20, ↓gR102_21, ↓gR102_22, ↓gR102_23, ↓gR102_24, ↓gR102_25, ↓gR102_26, ↓gR102_30, ↓gR102_31, ↓gR102_32, ↓gR102_33, ↓gR102_34, ↓gR102_35, ↓gR102_36, ↓gR102_37, ↓gR102_38, ↓aI103, ↓sI103, ↓ln103, ↓aI137, ↓sI137, ↓ln137, ↓aI188, ↓sZ188, ↓ln188, ↓aI189, ↓ln189, ↓aI203, ↓sI203, ↓ln203, ↓aI217, ↓sZ217, ↓ln217, ↓aI218, ↓sI218, ↓ln218, ↓aI219, ↓sI219, ↓ln219, ↓aI220, ↓sZ220, ↓ln220, ↓aI221, ↓sZ221, ↓ln221, ↓aI229, ↓sI229, ↓ln229, ↓aI230, ↓sI230, ↓ln230, ↓aI231, ↓sI231, ↓ln231, ↓aI232, ↓sI232, ↓ln232, ↓aI233, ↓sI233, ↓ln233, ↓aI234, ↓sZ234, ↓ln234, ↓aI235, ↓sZ235, ↓ln235, ↓aR104, ↓aR131, ↓aR134, ↓aR138, ↓aR175, ↓aR179, ↓aR190, ↓aR204, ↓aR222, ↓aR105, ↓aR139, ↓aI106, ↓sI106, ↓lI106, ↓aI132, ↓sI132, ↓lI132, ↓aI135, ↓sI135, ↓lI135, ↓aI140, ↓sI140, ↓lI140, ↓aI176, ↓sI176, ↓lI176, ↓aI180, ↓sI180, ↓lI180, ↓aI191, ↓sI191, ↓lI191, ↓aI205, ↓sI205, ↓lI205, ↓aI223, ↓sI223, ↓lI223, ↓c_I, ↓c_J, ↓c_Q, ↓c_V, ↓c_It, ↓c_Jt, ↓c_Vt, ↓k_I, ↓k_J, ↓n_I, ↓n_V, li0, li1, li2, li3, li4, li5, li6, li7, li8, li9, li10, li11, li12, li13, li14, li15, li16, li17, li18, li19, li20, li21, li22, li23, li24, li25, li26, li27, li28, li29, li30, li31, li32, li33, li34, li35, li36, li37, li38, li39, li40, li41, li42, li44, li48, li57, li63, li64, li65, li97, li99, li100, li101, li102, li104, li105, li106, li109, li114, li120, li128, li130, li300, li514, li999, li1000, li8192, li9999, li65536, li1000000, li1000001, li1000002, li1000003, li1000004, li1000005, li1000006, li1000007, li1000008, li1000009, li1000010, li1000011, li1000012, li1000013, li1000014, li1000015, li1000016, li1000017, li1000018, li1000019, li2147483647, lj0, lj1, W_add, W_sub, W_mul, W_neg, V_add, V_sub, V_mul, V_neg, W_ite, W_le, W_lt, W_inj, V_le, V_lt, V_inj, W_V, V_W, lgc_ge, lgc_gt, lgc_le, lgc_lt, lgc_eq, ge_iff_le, gt_iff_lt, hN2, n1, e1, e2, Int.reduceEq, ↓reduceIte]
        · rw [bb_neg h1] at e1
          simp (disch := first | assumption | omega) only [f_X8_layOut_b106, f_X8_layOut_b143, ↓rc102, ↓gI102_0, ↓gI102_6, ↓gI102_8, ↓gI102_9, ↓gI102_13, ↓gI102_15, ↓gI102_16, ↓gI102_17, ↓gI102_18, ↓gI102_19, ↓gI102_27, ↓gI102_28, ↓gI102_29, ↓gJ102_39, ↓gJ102_40, ↓gJ102_41, ↓gJ102_42, ↓pI102_0, ↓pI102_6, ↓pI102_9, ↓pI102_13, ↓pI102_15, ↓pI102_16, ↓pI102_17, ↓pI102_27, ↓pI102_28, ↓pI102_29, ↓pZ102_8, ↓pZ102_18, ↓pZ102_19, ↓pJ102_39, ↓pJ102_40, ↓pJ102_41, ↓pJ102_42, ↓gR102_1, ↓gR102_2, ↓gR102_3, ↓gR102_4, ↓gR102_5, ↓gR102_7, ↓gR102_10, ↓gR102_11, ↓gR102_12, ↓gR102_14, ↓gR102_20, ↓gR102_21, ↓gR102_22, ↓gR102_23, ↓gR102_24, ↓gR102_25, ↓gR102_26, ↓gR102_30, ↓gR102_31, ↓gR102_32, ↓gR102_33, ↓gR102_34, ↓gR102_35, ↓gR102_36, ↓gR102_37, ↓gR102_38, ↓aI103, ↓sI103, ↓ln103, ↓aI137, ↓sI137, ↓ln137, ↓aI188, ↓sZ188, ↓ln188, ↓aI189, ↓ln189, ↓aI203, ↓sI203, ↓ln203, ↓aI217, ↓sZ217, ↓ln217, ↓aI218, ↓sI218, ↓ln218, ↓aI219, ↓sI219, ↓ln219, ↓aI220, ↓sZ220, ↓ln220, ↓aI221, ↓sZ221, ↓ln221, ↓aI229, ↓sI229, ↓ln229, ↓aI230, ↓sI230, ↓ln230, ↓aI231, ↓sI231, ↓ln231, ↓aI232, ↓sI232, ↓ln232, ↓aI233, ↓sI233, ↓ln233, ↓aI234, ↓sZ234, ↓ln234, ↓aI235, ↓sZ235, ↓ln235, ↓aR104, ↓aR131, ↓aR134, ↓aR138, ↓aR175, ↓aR179, ↓aR190, ↓aR204, ↓aR222, ↓aR105, ↓aR139, ↓aI106, ↓sI106, ↓lI106, ↓aI132, ↓sI132, ↓lI132, ↓aI135, ↓sI135, ↓lI135, ↓aI140, ↓sI140, ↓lI140, ↓aI176, ↓sI176, ↓lI176, ↓aI180, ↓sI180, ↓lI180, ↓aI191, ↓sI191, ↓lI191, ↓aI205, ↓sI205, ↓lI205, ↓aI223, ↓sI223, ↓lI223, ↓c_I, ↓c_J, ↓c_Q, ↓c_V, ↓c_It, ↓c_Jt, ↓c_Vt, ↓k_I, ↓k_J, ↓n_I, ↓n_V, li0, li1, li2, li3, li4, li5, li6, li7, li8, li9, li10, li11, li12, li13, li14, li15, li16, li17, li18, li19, li20, li21, li22, li23, li24, li25, li26, li27, li28, li29, li30, li31, li32, li33, li34, li35, li36, li37, li38, li39, li40, li41, li42, li44, li48, li57, li63, li64, li65, li97, li99, li100, li101, li102, li104, li105, li106, li109, li114, li120, li128, li130, li300, li514, li999, li1000, li8192, li9999, li65536, li1000000, li1000001, li1000002, li1000003, li1000004, li1000005, li1000006, li1000007, li1000008, li1000009, li1000010, li1000011, li1000012, li1000013, li1000014, li1000015, li1000016, li1000017, li1000018, li1000019, li2147483647, lj0, lj1, W_add, W_sub, W_mul, W_neg, V_add, V_sub, V_mul, V_neg, W_ite, W_le, W_lt, W_inj, V_le, V_lt, V_inj, W_V, V_W, lgc_ge, lgc_gt, lgc_le, lgc_lt, lgc_eq, ge_iff_le, gt_iff_lt, hN2, n1, e1, ↓reduceIte]
/-- step 1 -/
theorem r_step1 (hA : okA A) {mx : Int} (hmg : mx = gmx A) (hm : mx = 0 ∨ mx = 1) {I0 : CF} : ∀ (fuel : Nat) (n : Int) (I : CF), nit A - n < fuel → 0 ≤ n → n ≤ nit A → RM I A → (∀ k, 0 ≤ k → k < n → I 217 k = bb (hs A k 0 ∧ hs A k 1) ∧ I 220 k = 0 ∧ I (205 + k) 0 = itf A k 0 2 ∧ I (205 + k) 1 = itf A k 1 2) → (∀ a, (a < 205 ∨ 220 < a) → I a = I0 a) →
    ∃ I', f_X8_layOut_L18 fuel (Sx I J b c) 102 (iW mx) (iW (1 - mx)) (iW n) = some (Sx I' J b c, xv) ∧ RN I' A ∧ ∀ a, (a < 205 ∨ 220 < a) → I' a = I0 a := by
  have hN := hA.1
  intro fuel
  induction fuel with
  | zero => intro n I a1 a2 a3; omega
  | succ fuel ih =>
    intro n I a1 a2 a3 hM hd hIo
    show ∃ I', f_X8_layOut_b18 (f_X8_layOut_L18 fuel) (Sx I J b c) 102 (iW mx) (iW (1 - mx)) (iW n) = _ ∧ _
    have hN2 : I 102 6 = nit A := hM.2.2.2.2.2.2.1
    by_cases hk : n = nit A
    · have n0 : nit A ≤ n := by omega
      have hpp : ∀ k, (pP2 A mx ((0 : Nat) : Int) k ↔ hs A k 0 ∧ hs A k 1) ∨ k < 0 := fun k => by
        by_cases hk0 : k < 0
        · exact Or.inr hk0
        · refine Or.inl ?_
          unfold pP2
          rcases hm with rfl | rfl
          · exact ⟨fun z => ⟨z.1, z.2.elim (fun h => h) (fun h => by omega)⟩, fun z => ⟨z.1, Or.inl z.2⟩⟩
          · exact ⟨fun z => ⟨z.2.elim (fun h => h) (fun h => by omega), z.1⟩, fun z => ⟨z.2, Or.inl z.1⟩⟩
      have hst : ∀ k ax, 0 ≤ k → k < nit A → 0 ≤ ax → ax < 2 → I (205 + k) ax = itf A k ax 2 := fun k ax k0 k1 x0 x1 => by
        have h := hd k k0 (by omega)
        have e : ax = 0 ∨ ax = 1 := by omega
        rcases e with rfl | rfl
        · exact h.2.2.1
        · exact h.2.2.2
      have hW : RP I A mx (pP2 A mx ((0 : Nat) : Int)) (pS2 A mx 0) := by
        refine ⟨hA, hm, hM, fun k k0 k1 => ?_, fun k k0 k1 hkp ax x0 x1 => ?_⟩
        · rw [(hd k k0 (by omega)).1]
          exact bb_congr ((hpp k).resolve_right (by omega)).symm
        · have h2 := ((hpp k).resolve_right (by omega)).mp hkp
          have r := (hA.2.2.2.2.2 k ax k0 k1 x0 x1).2.1
          have hne : itf A k ax 2 ≠ -1 := by
            have e : ax = 0 ∨ ax = 1 := by omega
            rcases e with rfl | rfl
            · exact h2.1
            · exact h2.2
          refine ⟨hst k ax k0 k1 x0 x1, ?_⟩
          show 1 ≤ itf A k ax 2 ∧ itf A k ax 2 ≤ 100
          omega
      have hB : pB A (pS2 A mx 0) mx (pP2 A mx ((0 : Nat) : Int)) 15 (15 + 4 * ((0 : Nat) : Int)) := by
        intro k k0 k1 hk
        have r1 := hA.2.2.2.2.2 k mx k0 k1 (by omega) (by omega)
        have r2 := hA.2.2.2.2.2 k (1 - mx) k0 k1 (by omega) (by omega)
        have r3 := r1.2.1
        have r4 := r1.2.2.1
        have r5 := r2.2.1
        have r6 := r2.2.2.1
        show itf A k mx 2 + _ - 1 ≤ 15 ∧ itf A k (1 - mx) 2 + _ - 1 ≤ _
        omega
      obtain ⟨I', k1, k2⟩ := r_step2 (J := J) (b := b) (c := c) hmg (I0 := I0) FU 0 I (by unfold FU; omega) (by omega) hW hB (fun j j0 j1 => by rw [(hd j j0 (by omega)).2.1, bb_neg]; intro z; have := z.2; omega) hIo
      refine ⟨I', ?_, k2⟩
      rw [← k1]
      simp (disch := first | assumption | omega) only [f_X8_layOut_b18, ↓rc102, ↓gI102_0, ↓gI102_6, ↓gI102_8, ↓gI102_9, ↓gI102_13, ↓gI102_15, ↓gI102_16, ↓gI102_17, ↓gI102_18, ↓gI102_19, ↓gI102_27, ↓gI102_28, ↓gI102_29, ↓gJ102_39, ↓gJ102_40, ↓gJ102_41, ↓gJ102_42, ↓pI102_0, ↓pI102_6, ↓pI102_9, ↓pI102_13, ↓pI102_15, ↓pI102_16, ↓pI102_17, ↓pI102_27, ↓pI102_28, ↓pI102_29, ↓pZ102_8, ↓pZ102_18, ↓pZ102_19, ↓pJ102_39, ↓pJ102_40, ↓pJ102_41, ↓pJ102_42, ↓gR102_1, ↓gR102_2, ↓gR102_3, ↓gR102_4, ↓gR102_5, ↓gR102_7, ↓gR102_10, ↓gR102_11, ↓gR102_12, ↓gR102_14, ↓gR102_20, ↓gR102_21, ↓gR102_22, ↓gR102_23, ↓gR102_24, ↓gR102_25, ↓gR102_26, ↓gR102_30, ↓gR102_31, ↓gR102_32, ↓gR102_33, ↓gR102_34, ↓gR102_35, ↓gR102_36, ↓gR102_37, ↓gR102_38, ↓aI103, ↓sI103, ↓ln103, ↓aI137, ↓sI137, ↓ln137, ↓aI188, ↓sZ188, ↓ln188, ↓aI189, ↓ln189, ↓aI203, ↓sI203, ↓ln203, ↓aI217, ↓sZ217, ↓ln217, ↓aI218, ↓sI218, ↓ln218, ↓aI219, ↓sI219, ↓ln219, ↓aI220, ↓sZ220, ↓ln220, ↓aI221, ↓sZ221, ↓ln221, ↓aI229, ↓sI229, ↓ln229, ↓aI230, ↓sI230, ↓ln230, ↓aI231, ↓sI231, ↓ln231, ↓aI232, ↓sI232, ↓ln232, ↓aI233, ↓sI233, ↓ln233, ↓aI234, ↓sZ234, ↓ln234, ↓aI235, ↓sZ235, ↓ln235, ↓aR104, ↓aR131, ↓aR134, ↓aR138, ↓aR175, ↓aR179, ↓aR190, ↓aR204, ↓aR222, ↓aR105, ↓aR139, ↓aI106, ↓sI106, ↓lI106, ↓aI132, ↓sI132, ↓lI132, ↓aI135, ↓sI135, ↓lI135, ↓aI140, ↓sI140, ↓lI140, ↓aI176, ↓sI176, ↓lI176, ↓aI180, ↓sI180, ↓lI180, ↓aI191, ↓sI191, ↓lI191, ↓aI205, ↓sI205, ↓lI205, ↓aI223, ↓sI223, ↓lI223, ↓c_I, ↓c_J, ↓c_Q, ↓c_V, ↓c_It, ↓c_Jt, ↓c_Vt, ↓k_I, ↓k_J, ↓n_I, ↓n_V, li0, li1, li2, li3, li4, li5, li6, li7, li8, li9, li10, li11, li12, li13, li14, li15, li16, li17, li18, li19, li20, li21, li22, li23, li24, li25, li26, li27, li28, li29, li30, li31, li32, li33, li34, li35, li36, li37, li38, li39, li40, li41, li42, li44, li48, li57, li63, li64, li65, li97, li99, li100, li101, li102, li104, li105, li106, li109, li114, li120, li128, li130, li300, li514, li999, li1000, li8192, li9999, li65536, li1000000, li1000001, li1000002, li1000003, li1000004, li1000005, li1000006, li1000007, li1000008, li1000009, li1000010, li1000011, li1000012, li1000013, li1000014, li1000015, li1000016, li1000017, li1000018, li1000019, li2147483647, lj0, lj1, W_add, W_sub, W_mul, W_neg, V_add, V_sub, V_mul, V_neg, W_ite, W_le, W_lt, W_inj, V_le, V_lt, V_inj, W_V, V_W, lgc_ge, lgc_gt, lgc_le, lgc_lt, lgc_eq, ge_iff_le, gt_iff_lt, hN2, n0, ↓reduceIte]
      rfl
    · have n1 : ¬ (nit A ≤ n) := by omega
      have e1 := r_hasStart (J := J) (b := b) (c := c) hA hM (i := n) (ax := 0) a2 (by omega) (by omega) (by omega)
      have e2 := r_hasStart (J := J) (b := b) (c := c) hA hM (i := n) (ax := 1) a2 (by omega) (by omega) (by omega)
      have f0 := r_itemF hM a2 (show n < 12 by omega) (ax := 0) (f := 2) (by omega) (by omega) (by omega) (by omega)
      have f1 := r_itemF hM a2 (show n < 12 by omega) (ax := 1) (f := 2) (by omega) (by omega) (by omega) (by omega)
      have hz0 : (0 : Int) = 0 ∨ (0 : Int) = 1 := Or.inl rfl
      have hz1 : (1 : Int) = 0 ∨ (1 : Int) = 1 := Or.inr rfl
      have go : ∀ v : Int, (v = 0 ∨ v = 1) → v = bb (hs A n 0 ∧ hs A n 1) → ∃ I', f_X8_layOut_b54 (f_X8_layOut_L18 fuel) (Sx I J b c) (iW v) (iW n) 217 102 (iW mx) (iW (1 - mx)) (iW n) = some (Sx I' J b c, xv) ∧ RN I' A ∧ ∀ a, (a < 205 ∨ 220 < a) → I' a = I0 a := by
        intro v hv hv2
        obtain ⟨I', k1, k2⟩ := ih (n + 1) (uI (uI (uI (uI I 217 n v) 220 n 0) (205 + n) 0 (itf A n 0 2)) (205 + n) 1 (itf A n 1 2)) (by omega) (by omega) (by omega) (hM.fr (by rw [u_obj (by omega), u_obj (by omega), u_obj (by omega), u_obj (by omega)]) (fun a a0 a1 => by rw [u_obj (by omega), u_obj (by omega), u_obj (by omega), u_obj (by omega)])) (fun k k0 k1 => by
          by_cases e : k = n
          · subst e
            refine ⟨?_, ?_, ?_, ?_⟩
            · rw [u_obj (by omega), u_obj (by omega), u_obj (by omega), u_eq]
              exact hv2
            · rw [u_obj (by omega), u_obj (by omega), u_eq]
            · rw [u_ne (by decide), u_eq]
            · rw [u_eq]
          · have h := hd k k0 (by omega)
            refine ⟨?_, ?_, ?_, ?_⟩
            · rw [u_obj (by omega), u_obj (by omega), u_obj (by omega), u_ne e]
              exact h.1
            · rw [u_obj (by omega), u_obj (by omega), u_ne e, u_obj (by omega)]
              exact h.2.1
            · rw [u_obj (by omega), u_obj (by omega), u_obj (by omega), u_obj (by omega)]
              exact h.2.2.1
            · rw [u_obj (by omega), u_obj (by omega), u_obj (by omega), u_obj (by omega)]
              exact h.2.2.2) (fun a ha => by rw [u_obj (by omega), u_obj (by omega), u_obj (by omega), u_obj (by omega)]; exact hIo a ha)
        refine ⟨I', ?_, k2⟩
        rw [← k1]
        have g0 : uI (uI I 217 n v) 220 n 0 (140 + 3 * n + 0) 2 = itf A n 0 2 := by rw [u_obj (by omega), u_obj (by omega)]; exact f0
        have g1 : uI (uI (uI I 217 n v) 220 n 0) (205 + n) 0 (itf A n 0 2) (140 + 3 * n + 1) 2 = itf A n 1 2 := by rw [u_obj (by omega), u_obj (by omega), u_obj (by omega)]; exact f1
        simp (disch := first | assumption | omega) only [f_X8_layOut_b54, ↓rc102, ↓gI102_0, ↓gI102_6, ↓gI102_8, ↓gI102_9, ↓gI102_13, ↓gI102_15, ↓gI102_16, ↓gI102_17, ↓gI102_18, ↓gI102_19, ↓gI102_27, ↓gI102_28, ↓gI102_29, ↓gJ102_39, ↓gJ102_40, ↓gJ102_41, ↓gJ102_42, ↓pI102_0, ↓pI102_6, ↓pI102_9, ↓pI102_13, ↓pI102_15, ↓pI102_16, ↓pI102_17, ↓pI102_27, ↓pI102_28, ↓pI102_29, ↓pZ102_8, ↓pZ102_18, ↓pZ102_19, ↓pJ102_39, ↓pJ102_40, ↓pJ102_41, ↓pJ102_42, ↓gR102_1, ↓gR102_2, ↓gR102_3, ↓gR102_4, ↓gR102_5, ↓gR102_7, ↓gR102_10, ↓gR102_11, ↓gR102_12, ↓gR102_14, ↓gR102_20, ↓gR102_21, ↓gR102_22, ↓gR102_23, ↓gR102_24, ↓gR102_25, ↓gR102_26, ↓gR102_30, ↓gR102_31, ↓gR102_32, ↓gR102_33, ↓gR102_34, ↓gR102_35, ↓gR102_36, ↓gR102_37, ↓gR102_38, ↓aI103, ↓sI103, ↓ln103, ↓aI137, ↓sI137, ↓ln137, ↓aI188, ↓sZ188, ↓ln188, ↓aI189, ↓ln189, ↓aI203, ↓sI203, ↓ln203, ↓aI217, ↓sZ217, ↓ln217, ↓aI218, ↓sI218, ↓ln218, ↓aI219, ↓sI219, ↓ln219, ↓aI220, ↓sZ220, ↓ln220, ↓aI221, ↓sZ221, ↓ln221, ↓aI229, ↓sI229, ↓ln229, ↓aI230, ↓sI230, ↓ln230, ↓aI231, ↓sI231, ↓ln231, ↓aI232, ↓sI232, ↓ln232, ↓aI233, ↓sI233, ↓ln233, ↓aI234, ↓sZ234, ↓ln234, ↓aI235, ↓sZ235, ↓ln235, ↓aR104, ↓aR131, ↓aR134, ↓aR138, ↓aR175, ↓aR179, ↓aR190, ↓aR204, ↓aR222, ↓aR105, ↓aR139, ↓aI106, ↓sI106, ↓lI106, ↓aI132, ↓sI132, ↓lI132, ↓aI135, ↓sI135, ↓lI135, ↓aI140, ↓sI140, ↓lI140, ↓aI176, ↓sI176, ↓lI176, ↓aI180, ↓sI180, ↓lI180, ↓aI191, ↓sI191, ↓lI191, ↓aI205, ↓sI205, ↓lI205, ↓aI223, ↓sI223, ↓lI223, ↓c_I, ↓c_J, ↓c_Q, ↓c_V, ↓c_It, ↓c_Jt, ↓c_Vt, ↓k_I, ↓k_J, ↓n_I, ↓n_V, li0, li1, li2, li3, li4, li5, li6, li7, li8, li9, li10, li11, li12, li13, li14, li15, li16, li17, li18, li19, li20, li21, li22, li23, li24, li25, li26, li27, li28, li29, li30, li31, li32, li33, li34, li35, li36, li37, li38, li39, li40, li41, li42, li44, li48, li57, li63, li64, li65, li97, li99, li100, li101, li102, li104, li105, li106, li109, li114, li120, li128, li130, li300, li514, li999, li1000, li8192, li9999, li65536, li1000000, li1000001, li1000002, li1000003, li1000004, li1000005, li1000006, li1000007, li1000008, li1000009, li1000010, li1000011, li1000012, li1000013, li1000014, li1000015, li1000016, li1000017, li1000018, li1000019, li2147483647, lj0, lj1, W_add, W_sub, W_mul, W_neg, V_add, V_sub, V_mul, V_neg, W_ite, W_le, W_lt, W_inj, V_le, V_lt, V_inj, W_V, V_W, lgc_ge, lgc_gt, lgc_le, lgc_lt, lgc_eq, ge_iff_le, gt_iff_lt, g0, g1, ↓reduceIte]
      by_cases q0 : hs A n 0
      · rw [bb_pos q0] at e1
        by_cases q1 : hs A n 1
        · rw [bb_pos q1] at e2
          obtain ⟨I', k1, k2⟩ := go 1 (Or.inr rfl) (bb_pos ⟨q0, q1⟩).symm
          refine ⟨I', ?_, k2⟩
          rw [← k1]
          simp (disch := first | assumption | omega) only [f_X8_layOut_b18, ↓rc102, ↓gI102_0, ↓gI102_6, ↓gI102_8, ↓gI102_9, ↓gI102_13, ↓gI102_15, ↓gI102_16, ↓gI102_17, ↓gI102_18, ↓gI102_19, ↓gI102_27, ↓gI102_28, ↓gI102_29, ↓gJ102_39, ↓gJ102_40, ↓gJ102_41, ↓gJ102_42, ↓pI102_0, ↓pI102_6, ↓pI102_9, ↓pI102_13, ↓pI102_15, ↓pI102_16, ↓pI102_17, ↓pI102_27, ↓pI102_28, ↓pI102_29, ↓pZ102_8, ↓pZ102_18, ↓pZ102_19, ↓pJ102_39, ↓pJ102_40, ↓pJ102_41, ↓pJ102_42, ↓gR102_1, ↓gR102_2, ↓gR102_3, ↓gR102_4, ↓gR102_5, ↓gR102_7, ↓gR102_10, ↓gR102_11, ↓gR102_12, ↓gR102_14, ↓gR102_20, ↓gR102_21, ↓gR102_22, ↓gR102_23, ↓gR102_24, ↓gR102_25, ↓gR102_26, ↓gR102_30, ↓gR102_31, ↓gR102_32, ↓gR102_33, ↓gR102_34, ↓gR102_35, ↓gR102_36, ↓gR102_37, ↓gR102_38, ↓aI103, ↓sI103, ↓ln103, ↓aI137, ↓sI137, ↓ln137, ↓aI188, ↓sZ188, ↓ln188, ↓aI189, ↓ln189, ↓aI203, ↓sI203, ↓ln203, ↓aI217, ↓sZ217, ↓ln217, ↓aI218, ↓sI218, ↓ln218, ↓aI219, ↓sI219, ↓ln219, ↓aI220, ↓sZ220, ↓ln220, ↓aI221, ↓sZ221, ↓ln221, ↓aI229, ↓sI229, ↓ln229, ↓aI230, ↓sI230, ↓ln230, ↓aI231, ↓sI231, ↓ln231, ↓aI232, ↓sI232, ↓ln232, ↓aI233, ↓sI233, ↓ln233, ↓aI234, ↓sZ234, ↓ln234, ↓aI235, ↓sZ235, ↓ln235, ↓aR104, ↓aR131, ↓aR134, ↓aR138, ↓aR175, ↓aR179, ↓aR190, ↓aR204, ↓aR222, ↓aR105, ↓aR139, ↓aI106, ↓sI106, ↓lI106, ↓aI132, ↓sI132, ↓lI132, ↓aI135, ↓sI135, ↓lI135, ↓aI140, ↓sI140, ↓lI140, ↓aI176, ↓sI176, ↓lI176, ↓aI180, ↓sI180, ↓lI180, ↓aI191, ↓sI191, ↓lI191, ↓aI205, ↓sI205, ↓lI205, ↓aI223, ↓sI223, ↓lI223, ↓c_I, ↓c_J, ↓c_Q, ↓c_V, ↓c_It, ↓c_Jt, ↓c_Vt, ↓k_I, ↓k_J, ↓n_I, ↓n_V, li0, li1, li2, li3, li4, li5, li6, li7, li8, li9, li10, li11, li12, li13, li14, li15, li16, li17, li18, li19, li20, li21, li22, li23, li24, li25, li26, li27, li28, li29, li30, li31, li32, li33, li34, li35, li36, li37, li38, li39, li40, li41, li42, li44, li48, li57, li63, li64, li65, li97, li99, li100, li101, li102, li104, li105, li106, li109, li114, li120, li128, li130, li300, li514, li999, li1000, li8192, li9999, li65536, li1000000, li1000001, li1000002, li1000003, li1000004, li1000005, li1000006, li1000007, li1000008, li1000009, li1000010, li1000011, li1000012, li1000013, li1000014, li1000015, li1000016, li1000017, li1000018, li1000019, li2147483647, lj0, lj1, W_add, W_sub, W_mul, W_neg, V_add, V_sub, V_mul, V_neg, W_ite, W_le, W_lt, W_inj, V_le, V_lt, V_inj, W_V, V_W, lgc_ge, lgc_gt, lgc_le, lgc_lt, lgc_eq, ge_iff_le, gt_iff_lt, hN2, n1, e1, e2, Int.reduceEq, ↓reduceIte]
        · rw [bb_neg q1] at e2
          obtain ⟨I', k1, k2⟩ := go 0 (Or.inl rfl) (bb_neg (fun z => q1 z.2)).symm
          refine ⟨I', ?_, k2⟩
          rw [← k1]
          simp (disch := first | assumption | omega) only [f_X8_layOut_b18, f_X8_layOut_b53, ↓rc102, ↓gI102_0, ↓gI102_6, ↓gI102_8, ↓gI102_9, ↓gI102_13, ↓gI102_15, ↓gI102_16, ↓gI102_17, ↓gI102_18, ↓gI102_19, ↓gI102_27, ↓gI102_28, ↓gI102_29, ↓gJ102_39, ↓gJ102_40, ↓gJ102_41, ↓gJ102_42, ↓pI102_0, ↓pI102_6, ↓pI102_9, ↓pI102_13, ↓pI102_15, ↓pI102_16, ↓pI102_17, ↓pI102_27, ↓pI102_28, ↓pI102_29, ↓pZ102_8, ↓pZ102_18, ↓pZ102_19, ↓pJ102_39, ↓pJ102_40, ↓pJ102_41, ↓pJ102_42, ↓gR102_1, ↓gR102_2, ↓gR102_3, ↓gR102_4, ↓gR102_5, ↓gR102_7, ↓gR102_10, ↓gR102_11, ↓gR102_12, ↓gR102_14, ↓gR102_20, ↓gR102_21, ↓gR102_22, ↓gR102_23, ↓gR102_24, ↓gR102_25, ↓gR102_26, ↓gR102_30, ↓gR102_31, ↓gR102_32, ↓gR102_33, ↓gR102_34, ↓gR102_35, ↓gR102_36, ↓gR102_37, ↓gR102_38, ↓aI103, ↓sI103, ↓ln103, ↓aI137, ↓sI137, ↓ln137, ↓aI188, ↓sZ188, ↓ln188, ↓aI189, ↓ln189, ↓aI203, ↓sI203, ↓ln203, ↓aI217, ↓sZ217, ↓ln217, ↓aI218, ↓sI218, ↓ln218, ↓aI219, ↓sI219, ↓ln219, ↓aI220, ↓sZ220, ↓ln220, ↓aI221, ↓sZ221, ↓ln221, ↓aI229, ↓sI229, ↓ln229, ↓aI230, ↓sI230, ↓ln230, ↓aI231, ↓sI231, ↓ln231, ↓aI232, ↓sI232, ↓ln232, ↓aI233, ↓sI233, ↓ln233, ↓aI234, ↓sZ234, ↓ln234, ↓aI235, ↓sZ235, ↓ln235, ↓aR104, ↓aR131, ↓aR134, ↓aR138, ↓aR175, ↓aR179, ↓aR190, ↓aR204, ↓aR222, ↓aR105, ↓aR139, ↓aI106, ↓sI106, ↓lI106, ↓aI132, ↓sI132, ↓lI132, ↓aI135, ↓sI135, ↓lI135, ↓aI140, ↓sI140, ↓lI140, ↓aI176, ↓sI176, ↓lI176, ↓aI180, ↓sI180, ↓lI180, ↓aI191, ↓sI191, ↓lI191, ↓aI205, ↓sI205, ↓lI205, ↓aI223, ↓sI223, ↓lI223, ↓c_I, ↓c_J, ↓c_Q, ↓c_V, ↓c_It, ↓c_Jt, ↓c_Vt, ↓k_I, ↓k_J, ↓n_I, ↓n_V, li0, li1, li2, li3, li4, li5, li6, li7, li8, li9, li10, li11, li12, li13, li14, li15, li16, li17, li18, li19, li20, li21, li22, li23, li24, li25, li26, li27, li28, li29, li30, li31, li32, li33, li34, li35, li36, li37, li38, li39, li40, li41, li42, li44, li48, li57, li63, li64, li65, li97, li99, li100, li101, li102, li104, li105, li106, li109, li114, li120, li128, li130, li300, li514, li999, li1000, li8192, li9999, li65536, li1000000, li1000001, li1000002, li1000003, li1000004, li1000005, li1000006, li1000007, li1000008, li1000009, li1000010, li1000011, li1000012, li1000013, li1000014, li1000015, li1000016, li1000017, li1000018, li1000019, li2147483647, lj0, lj1, W_add, W_sub, W_mul, W_neg, V_add, V_sub, V_mul, V_neg, W_ite, W_le, W_lt, W_inj, V_le, V_lt, V_inj, W_V, V_W, lgc_ge, lgc_gt, lgc_le, lgc_lt, lgc_eq, ge_iff_le, gt_iff_lt, hN2, n1, e1, e2, Int.reduceEq, ↓reduceIte]
      · rw [bb_neg q0] at e1
        obtain ⟨I', k1, k2⟩ := go 0 (Or.inl rfl) (bb_neg (fun z => q0 z.1)).symm
        refine ⟨I', ?_, k2⟩
        rw [← k1]
        simp (disch := first | assumption | omega) only [f_X8_layOut_b18, f_X8_layOut_b53, ↓rc102, ↓gI102_0, ↓gI102_6, ↓gI102_8, ↓gI102_9, ↓gI102_13, ↓gI102_15, ↓gI102_16, ↓gI102_17, ↓gI102_18, ↓gI102_19, ↓gI102_27, ↓gI102_28, ↓gI102_29, ↓gJ102_39, ↓gJ102_40, ↓gJ102_41, ↓gJ102_42, ↓pI102_0, ↓pI102_6, ↓pI102_9, ↓pI102_13, ↓pI102_15, ↓pI102_16, ↓pI102_17, ↓pI102_27, ↓pI102_28, ↓pI102_29, ↓pZ102_8, ↓pZ102_18, ↓pZ102_19, ↓pJ102_39, ↓pJ102_40, ↓pJ102_41, ↓pJ102_42, ↓gR102_1, ↓gR102_2, ↓gR102_3, ↓gR102_4, ↓gR102_5, ↓gR102_7, ↓gR102_10, ↓gR102_11, ↓gR102_12, ↓gR102_14, ↓gR102_20, ↓gR102_21, ↓gR102_22, ↓gR102_23, ↓gR102_24, ↓gR102_25, ↓gR102_26, ↓gR102_30, ↓gR102_31, ↓gR102_32, ↓gR102_33, ↓gR102_34, ↓gR102_35, ↓gR102_36, ↓gR102_37, ↓gR102_38, ↓aI103, ↓sI103, ↓ln103, ↓aI137, ↓sI137, ↓ln137, ↓aI188, ↓sZ188, ↓ln188, ↓aI189, ↓ln189, ↓aI203, ↓sI203, ↓ln203, ↓aI217, ↓sZ217, ↓ln217, ↓aI218, ↓sI218, ↓ln218, ↓aI219, ↓sI219, ↓ln219, ↓aI220, ↓sZ220, ↓ln220, ↓aI221, ↓sZ221, ↓ln221, ↓aI229, ↓sI229, ↓ln229, ↓aI230, ↓sI230, ↓ln230, ↓aI231, ↓sI231, ↓ln231, ↓aI232, ↓sI232, ↓ln232, ↓aI233, ↓sI233, ↓ln233, ↓aI234, ↓sZ234, ↓ln234, ↓aI235, ↓sZ235, ↓ln235, ↓aR104, ↓aR131, ↓aR134, ↓aR138, ↓aR175, ↓aR179, ↓aR190, ↓aR204, ↓aR222, ↓aR105, ↓aR139, ↓aI106, ↓sI106, ↓lI106, ↓aI132, ↓sI132, ↓lI132, ↓aI135, ↓sI135, ↓lI135, ↓aI140, ↓sI140, ↓lI140, ↓aI176, ↓sI176, ↓lI176, ↓aI180, ↓sI180, ↓lI180, ↓aI191, ↓sI191, ↓lI191, ↓aI205, ↓sI205, ↓lI205, ↓aI223, ↓sI223, ↓lI223, ↓c_I, ↓c_J, ↓c_Q, ↓c_V, ↓c_It, ↓c_Jt, ↓c_Vt, ↓k_I, ↓k_J, ↓n_I, ↓n_V, li0, li1, li2, li3, li4, li5, li6, li7, li8, li9, li10, li11, li12, li13, li14, li15, li16, li17, li18, li19, li20, li21, li22, li23, li24, li25, li26, li27, li28, li29, li30, li31, li32, li33, li34, li35, li36, li37, li38, li39, li40, li41, li42, li44, li48, li57, li63, li64, li65, li97, li99, li100, li101, li102, li104, li105, li106, li109, li114, li120, li128, li130, li300, li514, li999, li1000, li8192, li9999, li65536, li1000000, li1000001, li1000002, li1000003, li1000004, li1000005, li1000006, li1000007, li1000008, li1000009, li1000010, li1000011, li1000012, li1000013, li1000014, li1000015, li1000016, li1000017, li1000018, li1000019, li2147483647, lj0, lj1, W_add, W_sub, W_mul, W_neg, V_add, V_sub, V_mul, V_neg, W_ite, W_le, W_lt, W_inj, V_le, V_lt, V_inj, W_V, V_W, lgc_ge, lgc_gt, lgc_le, lgc_lt, lgc_eq, ge_iff_le, gt_iff_lt, hN2, n1, e1, ↓reduceIte]
theorem r_layOut {I : CF} (hA : okA A) (hM : RM I A) : ∃ I', f_X8_layOut (Sx I J b c) 102 = some (Sx I' J b c, xv) ∧ RN I' A ∧ ∀ a, (a < 205 ∨ 220 < a) → I' a = I a := by
  have hF := hM.2.2.2.2.1
  have hA1 := hA.2.1
  have hm : gmx A = 0 ∨ gmx A = 1 := by unfold gmx; split <;> omega
  have he : gmx A = 1 - A 4 1 := by unfold gmx; split <;> omega
  obtain ⟨I', k1, k2⟩ := r_step1 (J := J) (b := b) (c := c) hA rfl hm (I0 := I) FU 0 I (by have := hA.1; unfold FU; omega) (by omega) hA.1.1 hM (fun k k0 k1 => by omega) (fun _ _ => rfl)
  refine ⟨I', ?_, k2⟩
  rw [← k1, he, show (1 : Int) - (1 - A 4 1) = A 4 1 by omega]
  simp (disch := first | assumption | omega) only [f_X8_layOut, ↓rc102, ↓gI102_0, ↓gI102_6, ↓gI102_8, ↓gI102_9, ↓gI102_13, ↓gI102_15, ↓gI102_16, ↓gI102_17, ↓gI102_18, ↓gI102_19, ↓gI102_27, ↓gI102_28, ↓gI102_29, ↓gJ102_39, ↓gJ102_40, ↓gJ102_41, ↓gJ102_42, ↓pI102_0, ↓pI102_6, ↓pI102_9, ↓pI102_13, ↓pI102_15, ↓pI102_16, ↓pI102_17, ↓pI102_27, ↓pI102_28, ↓pI102_29, ↓pZ102_8, ↓pZ102_18, ↓pZ102_19, ↓pJ102_39, ↓pJ102_40, ↓pJ102_41, ↓pJ102_42, ↓gR102_1, ↓gR102_2, ↓gR102_3, ↓gR102_4, ↓gR102_5, ↓gR102_7, ↓gR102_10, ↓gR102_11, ↓gR102_12, ↓gR102_14, ↓gR102_20, ↓gR102_21, ↓gR102_22, ↓gR102_23, ↓gR102_24, ↓gR102_25, ↓gR102_26, ↓gR102_30, ↓gR102_31, ↓gR102_32, ↓gR102_33, ↓gR102_34, ↓gR102_35, ↓gR102_36, ↓gR102_37, ↓gR102_38, ↓aI103, ↓sI103, ↓ln103, ↓aI137, ↓sI137, ↓ln137, ↓aI188, ↓sZ188, ↓ln188, ↓aI189, ↓ln189, ↓aI203, ↓sI203, ↓ln203, ↓aI217, ↓sZ217, ↓ln217, ↓aI218, ↓sI218, ↓ln218, ↓aI219, ↓sI219, ↓ln219, ↓aI220, ↓sZ220, ↓ln220, ↓aI221, ↓sZ221, ↓ln221, ↓aI229, ↓sI229, ↓ln229, ↓aI230, ↓sI230, ↓ln230, ↓aI231, ↓sI231, ↓ln231, ↓aI232, ↓sI232, ↓ln232, ↓aI233, ↓sI233, ↓ln233, ↓aI234, ↓sZ234, ↓ln234, ↓aI235, ↓sZ235, ↓ln235, ↓aR104, ↓aR131, ↓aR134, ↓aR138, ↓aR175, ↓aR179, ↓aR190, ↓aR204, ↓aR222, ↓aR105, ↓aR139, ↓aI106, ↓sI106, ↓lI106, ↓aI132, ↓sI132, ↓lI132, ↓aI135, ↓sI135, ↓lI135, ↓aI140, ↓sI140, ↓lI140, ↓aI176, ↓sI176, ↓lI176, ↓aI180, ↓sI180, ↓lI180, ↓aI191, ↓sI191, ↓lI191, ↓aI205, ↓sI205, ↓lI205, ↓aI223, ↓sI223, ↓lI223, ↓c_I, ↓c_J, ↓c_Q, ↓c_V, ↓c_It, ↓c_Jt, ↓c_Vt, ↓k_I, ↓k_J, ↓n_I, ↓n_V, li0, li1, li2, li3, li4, li5, li6, li7, li8, li9, li10, li11, li12, li13, li14, li15, li16, li17, li18, li19, li20, li21, li22, li23, li24, li25, li26, li27, li28, li29, li30, li31, li32, li33, li34, li35, li36, li37, li38, li39, li40, li41, li42, li44, li48, li57, li63, li64, li65, li97, li99, li100, li101, li102, li104, li105, li106, li109, li114, li120, li128, li130, li300, li514, li999, li1000, li8192, li9999, li65536, li1000000, li1000001, li1000002, li1000003, li1000004, li1000005, li1000006, li1000007, li1000008, li1000009, li1000010, li1000011, li1000012, li1000013, li1000014, li1000015, li1000016, li1000017, li1000018, li1000019, li2147483647, lj0, lj1, W_add, W_sub, W_mul, W_neg, V_add, V_sub, V_mul, V_neg, W_ite, W_le, W_lt, W_inj, V_le, V_lt, V_inj, W_V, V_W, lgc_ge, lgc_gt, lgc_le, lgc_lt, lgc_eq, ge_iff_le, gt_iff_lt, hF]
end RLay

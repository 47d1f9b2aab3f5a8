/-! ===== save, restore, undo, feed: both sides ===== -/
def svS (S : ST) (s : Int) : ST := (S.1, S.2.1, S.2.2.1, (fun j => j = s ∨ S.2.2.2.1 j), (fun j => if j = s then S.1 else S.2.2.2.2.1 j), S.2.2.2.2.2)
def unS (S : ST) : ST := (S.2.2.1 0, S.2.1 - 1, (fun j => S.2.2.1 (j + 1)), S.2.2.2)
def fdS (S : ST) (v : Int) : ST := (S.1, S.2.1, S.2.2.1, S.2.2.2.1, S.2.2.2.2.1, S.2.2.2.2.2.1 + 1, fun k => if k = S.2.2.2.2.2.1 then v else S.2.2.2.2.2.2 k)
theorem okS.sv {S : ST} (h : okS S) {s : Int} : okS (svS S s) := by
  obtain ⟨h1, h2, h3, h4, h5⟩ := h
  refine ⟨h1, h2, h3, fun j j0 j1 hj => ?_, h5⟩
  show okA (if j = s then S.1 else S.2.2.2.2.1 j)
  by_cases q : j = s
  · rw [if_pos q]; exact h1
  · rw [if_neg q]
    rcases hj with hj | hj
    · exact absurd hj q
    · exact h4 j j0 j1 hj
theorem okS.un {S : ST} (h : okS S) (hn : 0 < S.2.1) : okS (unS S) := by
  obtain ⟨h1, h2, h3, h4⟩ := h
  exact ⟨h3 0 (by omega) hn, ⟨show 0 ≤ S.2.1 - 1 by omega, show S.2.1 - 1 ≤ 8 by omega⟩, fun j j0 j1 => h3 (j + 1) (by omega) (by have j1 : j < S.2.1 - 1 := j1; omega), h4⟩
theorem okS.fd {S : ST} (h : okS S) {v : Int} (hL : S.2.2.2.2.2.1 < 120) (v0 : 0 ≤ v) (v1 : v < 65536) : okS (fdS S v) := by
  obtain ⟨h1, h2, h3, h4, h5, h6⟩ := h
  refine ⟨h1, h2, h3, h4, ⟨show 0 ≤ S.2.2.2.2.2.1 + 1 by omega, show S.2.2.2.2.2.1 + 1 ≤ 120 by omega⟩, fun k k0 k1 => ?_⟩
  have k1 : k < S.2.2.2.2.2.1 + 1 := k1
  show 0 ≤ (if k = S.2.2.2.2.2.1 then v else S.2.2.2.2.2.2 k) ∧ (if k = S.2.2.2.2.2.1 then v else S.2.2.2.2.2.2 k) < 65536
  by_cases q : k = S.2.2.2.2.2.1
  · rw [if_pos q]; exact ⟨v0, v1⟩
  · rw [if_neg q]; exact h6 k k0 (by omega)
section UndoW
variable {J : CF} {b : Nat} {c : Bool} {I : CF} {S : ST}
theorem e_chkSlot {v : Int} (v0 : -2147483648 ≤ v) (v1 : v ≤ 2147483647) : f_X7_checkSlot (Sx I J b c) 0 (iW v) = if 0 ≤ v ∧ v ≤ 2 then some (Sx I J b c, xv) else some (Sx I J b false, xt "java/lang/IndexOutOfBoundsException") := by
  by_cases q1 : v < 0
  · rw [if_neg (by omega)]
    simp (disch := first | assumption | omega) only [f_X7_checkSlot, f_X7_checkSlot_b9, S_dirty, li0, li1, li2, li3, li4, li5, li6, li7, li8, li9, li10, li11, li12, li13, li14, li15, li16, li17, li18, li19, li20, li21, li22, li23, li24, li25, li26, li27, li28, li29, li30, li31, li32, li33, li34, li35, li36, li37, li38, li39, li40, li41, li42, li44, li48, li57, li63, li64, li65, li97, li99, li100, li101, li102, li104, li105, li106, li109, li114, li120, li128, li130, li300, li514, li999, li1000, li8192, li9999, li65536, li1000000, li1000001, li1000002, li1000003, li1000004, li1000005, li1000006, li1000007, li1000008, li1000009, li1000010, li1000011, li1000012, li1000013, li1000014, li1000015, li1000016, li1000017, li1000018, li1000019, li2147483647, lj0, lj1, W_add, W_sub, W_mul, W_neg, V_add, V_sub, V_mul, V_neg, W_ite, W_le, W_lt, W_inj, V_le, V_lt, V_inj, W_V, V_W, lgc_ge, lgc_gt, lgc_le, lgc_lt, lgc_eq, ge_iff_le, gt_iff_lt, q1, ↓reduceIte]
  · by_cases q2 : v < 3
    · rw [if_pos (by omega)]
      simp (disch := first | assumption | omega) only [f_X7_checkSlot, f_X7_checkSlot_b9, S_dirty, li0, li1, li2, li3, li4, li5, li6, li7, li8, li9, li10, li11, li12, li13, li14, li15, li16, li17, li18, li19, li20, li21, li22, li23, li24, li25, li26, li27, li28, li29, li30, li31, li32, li33, li34, li35, li36, li37, li38, li39, li40, li41, li42, li44, li48, li57, li63, li64, li65, li97, li99, li100, li101, li102, li104, li105, li106, li109, li114, li120, li128, li130, li300, li514, li999, li1000, li8192, li9999, li65536, li1000000, li1000001, li1000002, li1000003, li1000004, li1000005, li1000006, li1000007, li1000008, li1000009, li1000010, li1000011, li1000012, li1000013, li1000014, li1000015, li1000016, li1000017, li1000018, li1000019, li2147483647, lj0, lj1, W_add, W_sub, W_mul, W_neg, V_add, V_sub, V_mul, V_neg, W_ite, W_le, W_lt, W_inj, V_le, V_lt, V_inj, W_V, V_W, lgc_ge, lgc_gt, lgc_le, lgc_lt, lgc_eq, ge_iff_le, gt_iff_lt, q1, q2, ↓reduceIte]
    · rw [if_neg (by omega)]
      simp (disch := first | assumption | omega) only [f_X7_checkSlot, f_X7_checkSlot_b9, S_dirty, li0, li1, li2, li3, li4, li5, li6, li7, li8, li9, li10, li11, li12, li13, li14, li15, li16, li17, li18, li19, li20, li21, li22, li23, li24, li25, li26, li27, li28, li29, li30, li31, li32, li33, li34, li35, li36, li37, li38, li39, li40, li41, li42, li44, li48, li57, li63, li64, li65, li97, li99, li100, li101, li102, li104, li105, li106, li109, li114, li120, li128, li130, li300, li514, li999, li1000, li8192, li9999, li65536, li1000000, li1000001, li1000002, li1000003, li1000004, li1000005, li1000006, li1000007, li1000008, li1000009, li1000010, li1000011, li1000012, li1000013, li1000014, li1000015, li1000016, li1000017, li1000018, li1000019, li2147483647, lj0, lj1, W_add, W_sub, W_mul, W_neg, V_add, V_sub, V_mul, V_neg, W_ite, W_le, W_lt, W_inj, V_le, V_lt, V_inj, W_V, V_W, lgc_ge, lgc_gt, lgc_le, lgc_lt, lgc_eq, ge_iff_le, gt_iff_lt, q1, q2, ↓reduceIte]
/-- the engine shows the same, apart from other objects -/
theorem ES.fr {I' A : CF} (h : ES I A) (h15 : I' 0 15 = I 0 15) (hf : ∀ a : Int, 8 ≤ a → a ≤ 46 → a ≠ 14 → I' a = I a) : ES I' A := by
  obtain ⟨hA, hM, h20, h28, h01, hz⟩ := h
  refine ⟨hA, hM.fr (fun a a0 a1 => hf a (by omega) (by omega) (by omega)), by rw [hf 20 (by omega) (by omega) (by omega)]; exact h20, by rw [hf 28 (by omega) (by omega) (by omega)]; exact h28, by rw [h15]; exact h01, fun z => ?_⟩
  rw [h15] at z
  obtain ⟨z1, z2⟩ := hz z
  have key : ∀ (o : Nat) (ax : Int), isL o → LZ I A o ax → LZ I' A o ax := fun o ax ho hq => by
    have hob := isL_bd ho
    obtain ⟨hY, h15', hS, hp⟩ := hq
    refine ⟨hY.fr (fun k _ _ => by rw [hf o (by omega) (by omega) (by omega)]) (hf _ (by omega) (by omega) (by omega)) (fun a ha => hf a (by omega) (by omega) (by omega)), by rw [hf o (by omega) (by omega) (by omega)]; exact h15', fun k k0 k1 => by rw [hf _ (by omega) (by omega) (by omega), hf _ (by omega) (by omega) (by omega), hf _ (by omega) (by omega) (by omega), hf _ (by omega) (by omega) (by omega), hf _ (by omega) (by omega) (by omega)]; exact hS k k0 k1, fun k k0 k1 => by rw [hf _ (by omega) (by omega) (by omega)]; exact hp k k0 k1⟩
  exact ⟨key 20 0 (Or.inl rfl) z1, key 28 1 (Or.inr rfl) z2⟩
theorem x_save (h : EW I S) {s : Int} (s0 : -2147483648 ≤ s) (s1 : s ≤ 2147483647) (E2 : String) :
    EStp (f_X7_save (Sx I J b c) 0 (iW s)) I J c "java/lang/IndexOutOfBoundsException" E2 (if 0 ≤ s ∧ s ≤ 2 then nit S.1 else 0) (if 0 ≤ s ∧ s ≤ 2 then 0 else 1) (if 0 ≤ s ∧ s ≤ 2 then svS S s else S) := by
  have es := e_chkSlot (I := I) (J := J) (b := b) (c := c) s0 s1
  by_cases qs : 0 ≤ s ∧ s ≤ 2
  · rw [if_pos qs] at es
    rw [if_pos qs, if_pos qs, if_pos qs]
    have h' := h
    obtain ⟨g1, p, g2⟩ := h'
    have hmm := isM_s qs.1 (show s < 3 by omega)
    obtain ⟨I1, k1, k2, k3⟩ := e_copyFrom (J := J) (b := b) (c := c) hmm isM_8 (by omega) (EM8.2 g1.2.1) g1.1.2.2.1
    have k3' : ∀ a : Int, (a < 47 + 5 * s ∨ 47 + 5 * s + 4 < a) → I1 a = I a := fun a ha => k3 a (by omega)
    have k2' : EMm I1 (47 + 5 * s) S.1 := by
      rw [show 47 + 5 * s = ((47 + 5 * s.toNat : Nat) : Int) by omega]
      exact k2
    have hn : uI I1 14 s 1 8 4 = nit S.1 := by rw [u_obj (by omega), k3' _ (by omega)]; exact g1.2.1.2.2.2.2.1
    have hrc := fun f => rcM (I := I) (J := J) (b := b) (c := c) hmm (k := f)
    refine ⟨uI I1 14 s 1, J, b, ?_, ⟨g1.fr (by rw [u_obj (by omega), k3' _ (by omega)]) (fun a a0 a1 a2 => by rw [u_obj a2, k3' a (by omega)]), p, ?_⟩, fun a ha => by rw [u_obj (by omega), k3' a (by omega)], fun _ _ => rfl⟩
    · rw [if_pos rfl]
      simp (disch := first | assumption | omega) only [f_X7_save, ↓rc0, ↓gI0_1, ↓gI0_7, ↓gI0_8, ↓gI0_15, ↓pI0_1, ↓pI0_7, ↓pI0_8, ↓pZ0_15, ↓gR0_0, ↓gR0_2, ↓gR0_3, ↓gR0_4, ↓gR0_5, ↓gR0_6, ↓gR0_9, ↓gR0_10, ↓gR0_11, ↓gR0_12, ↓gR0_13, ↓gR0_14, ↓aI1, ↓ln1, ↓aI14, ↓sZ14, ↓ln14, ↓aR13, ↓aR15, ↓rc8, ↓gI8_4, ↓gI8_5, ↓gI8_6, ↓pI8_4, ↓pI8_5, ↓pZ8_6, ↓gR8_0, ↓gR8_1, ↓gR8_2, ↓gR8_3, ↓aI9, ↓sI9, ↓ln9, ↓aI10, ↓sI10, ↓ln10, ↓aI11, ↓sI11, ↓ln11, ↓aI12, ↓sI12, ↓ln12, ↓c_I, ↓c_J, ↓c_Q, ↓c_V, ↓c_It, ↓c_Jt, ↓c_Vt, ↓k_I, ↓k_J, ↓n_I, ↓n_V, li0, li1, li2, li3, li4, li5, li6, li7, li8, li9, li10, li11, li12, li13, li14, li15, li16, li17, li18, li19, li20, li21, li22, li23, li24, li25, li26, li27, li28, li29, li30, li31, li32, li33, li34, li35, li36, li37, li38, li39, li40, li41, li42, li44, li48, li57, li63, li64, li65, li97, li99, li100, li101, li102, li104, li105, li106, li109, li114, li120, li128, li130, li300, li514, li999, li1000, li8192, li9999, li65536, li1000000, li1000001, li1000002, li1000003, li1000004, li1000005, li1000006, li1000007, li1000008, li1000009, li1000010, li1000011, li1000012, li1000013, li1000014, li1000015, li1000016, li1000017, li1000018, li1000019, li2147483647, lj0, lj1, W_add, W_sub, W_mul, W_neg, V_add, V_sub, V_mul, V_neg, W_ite, es, hrc, k1, hn]
    · obtain ⟨⟨a1, a2, a3, a4, a5, a6⟩, a7, a8, a9, a10⟩ := g2
      refine ⟨⟨by rw [u_obj (by omega), k3' 0 (by omega)]; exact a1, by rw [u_obj (by omega), k3' 0 (by omega)]; exact a2, a3, a4, a5, a6⟩, fun j j0 j1 => (a7 j j0 j1).fr (fun a c0 c1 => by
        have : 0 ≤ rgp p j := by unfold rgp; omega
        rw [u_obj (by omega), k3' a (by omega)]), fun r r0 r1 => ?_, by rw [u_obj (by omega), k3' 0 (by omega)]; exact a9, fun k e0 e1 => by rw [u_obj (by omega), k3' 1 (by omega)]; exact a10 k e0 e1⟩
      show uI I1 14 s 1 14 r = bb (r = s ∨ S.2.2.2.1 r) ∧ ((r = s ∨ S.2.2.2.1 r) → EMm (uI I1 14 s 1) (47 + 5 * r) (if r = s then S.1 else S.2.2.2.2.1 r))
      rw [u_at]
      by_cases q : r = s
      · rw [if_pos q, if_pos q, bb_pos (Or.inl q), q]
        exact ⟨rfl, fun _ => k2'.fr (fun a c0 c1 => u_obj (by omega))⟩
      · rw [if_neg q, if_neg q, k3' 14 (by omega), bb_congr (show (r = s ∨ S.2.2.2.1 r) ↔ S.2.2.2.1 r from ⟨fun z => z.resolve_left q, Or.inr⟩)]
        exact ⟨(a8 r r0 r1).1, fun z => ((a8 r r0 r1).2 (z.resolve_left q)).fr (fun a c0 c1 => by rw [u_obj (by omega), k3' a (by omega)])⟩
  · rw [if_neg qs] at es
    rw [if_neg qs, if_neg qs, if_neg qs]
    have hgo : f_X7_save (Sx I J b c) 0 (iW s) = some (Sx I J b false, xt "java/lang/IndexOutOfBoundsException") := by
      simp (disch := first | assumption | omega) only [f_X7_save, ↓rc0, ↓gI0_1, ↓gI0_7, ↓gI0_8, ↓gI0_15, ↓pI0_1, ↓pI0_7, ↓pI0_8, ↓pZ0_15, ↓gR0_0, ↓gR0_2, ↓gR0_3, ↓gR0_4, ↓gR0_5, ↓gR0_6, ↓gR0_9, ↓gR0_10, ↓gR0_11, ↓gR0_12, ↓gR0_13, ↓gR0_14, ↓aI1, ↓ln1, ↓aI14, ↓sZ14, ↓ln14, ↓aR13, ↓aR15, ↓c_I, ↓c_J, ↓c_Q, ↓c_V, ↓c_It, ↓c_Jt, ↓c_Vt, ↓k_I, ↓k_J, ↓n_I, ↓n_V, li0, li1, li2, li3, li4, li5, li6, li7, li8, li9, li10, li11, li12, li13, li14, li15, li16, li17, li18, li19, li20, li21, li22, li23, li24, li25, li26, li27, li28, li29, li30, li31, li32, li33, li34, li35, li36, li37, li38, li39, li40, li41, li42, li44, li48, li57, li63, li64, li65, li97, li99, li100, li101, li102, li104, li105, li106, li109, li114, li120, li128, li130, li300, li514, li999, li1000, li8192, li9999, li65536, li1000000, li1000001, li1000002, li1000003, li1000004, li1000005, li1000006, li1000007, li1000008, li1000009, li1000010, li1000011, li1000012, li1000013, li1000014, li1000015, li1000016, li1000017, li1000018, li1000019, li2147483647, lj0, lj1, W_add, W_sub, W_mul, W_neg, V_add, V_sub, V_mul, V_neg, W_ite, es]
    rw [hgo]
    exact h.t (t := 1) (Or.inl rfl)
theorem q_save (hA : okA S.1) (h : RWd I S) {s : Int} (s0 : -2147483648 ≤ s) (s1 : s ≤ 2147483647) :
    RStp (f_X8_save (Sx I J b c) 102 (iW s)) I J b c (if 0 ≤ s ∧ s ≤ 2 then nit S.1 else 0) (if 0 ≤ s ∧ s ≤ 2 then 0 else 1) (if 0 ≤ s ∧ s ≤ 2 then svS S s else S) := by
  have es := r_between (h := Sx I J b c) (v := s) (lo := 0) (hi := 2) s0 s1 (by omega) (by omega) (by omega) (by omega)
  by_cases qs : 0 ≤ s ∧ s ≤ 2
  · rw [bb_pos qs] at es
    rw [if_pos qs, if_pos qs, if_pos qs]
    have h0 : RWd (uI I 102 0 0) S := h.t
    obtain ⟨I1, k1, k2, k3, k4, k5⟩ := r_write (J := J) (b := b) (c := c) (R := 176 + s.toNat) (by omega) (sh_I176 _ (by omega)) h0.1
    have k2' : VR (I1 (176 + s)) S.1 := by
      rw [show 176 + s = ((176 + s.toNat : Nat) : Int) by omega]
      exact k2
    have k5' : ∀ a : Int, a ≠ 176 + s → a ≠ 102 → I1 a = I a := fun a ha hb => by rw [k5 a (by omega) hb, u_obj hb]
    have hn : uI I1 188 s 1 102 6 = nit S.1 := by rw [u_obj (by omega)]; exact k3.2.2.2.2.2.2.1
    obtain ⟨⟨a1, a2, a3⟩, a7, a8, a9, a10⟩ := h.2
    refine ⟨uI I1 188 s 1, J, ?_, by rw [u_obj (by omega), k4 0 (by omega) (by omega), u_eq], ⟨k3.fr (by rw [u_obj (by omega)]) (fun a c0 c1 => u_obj (by omega)), ⟨by rw [u_obj (by omega), k4 _ (by omega) (by omega), u_ne (by omega)]; exact a1, a2, a3⟩, fun j j0 j1 => by have j1 : j < S.2.1 := j1; (show VR (uI I1 188 s 1 (180 + (S.2.1 - 1 - j))) (S.2.2.1 j)); rw [u_obj (by omega), k5' _ (by omega) (by omega)]; exact a7 j j0 j1, fun r r0 r1 => ?_, by rw [u_obj (by omega), k4 _ (by omega) (by omega), u_ne (by omega)]; exact a9, fun k e0 e1 => by rw [u_obj (by omega), k5' _ (by omega) (by omega)]; exact a10 k e0 e1⟩, fun a ha => by rw [u_obj (by omega), k5' a (by omega) (by omega)], fun _ _ => rfl⟩
    · simp (disch := first | assumption | omega) only [f_X8_save, f_X8_save_b16, ↓rc102, ↓gI102_0, ↓gI102_6, ↓gI102_8, ↓gI102_9, ↓gI102_13, ↓gI102_15, ↓gI102_16, ↓gI102_17, ↓gI102_18, ↓gI102_19, ↓gI102_27, ↓gI102_28, ↓gI102_29, ↓gJ102_39, ↓gJ102_40, ↓gJ102_41, ↓gJ102_42, ↓pI102_0, ↓pI102_6, ↓pI102_9, ↓pI102_13, ↓pI102_15, ↓pI102_16, ↓pI102_17, ↓pI102_27, ↓pI102_28, ↓pI102_29, ↓pZ102_8, ↓pZ102_18, ↓pZ102_19, ↓pJ102_39, ↓pJ102_40, ↓pJ102_41, ↓pJ102_42, ↓gR102_1, ↓gR102_2, ↓gR102_3, ↓gR102_4, ↓gR102_5, ↓gR102_7, ↓gR102_10, ↓gR102_11, ↓gR102_12, ↓gR102_14, ↓gR102_20, ↓gR102_21, ↓gR102_22, ↓gR102_23, ↓gR102_24, ↓gR102_25, ↓gR102_26, ↓gR102_30, ↓gR102_31, ↓gR102_32, ↓gR102_33, ↓gR102_34, ↓gR102_35, ↓gR102_36, ↓gR102_37, ↓gR102_38, ↓aI103, ↓sI103, ↓ln103, ↓aI137, ↓sI137, ↓ln137, ↓aI188, ↓sZ188, ↓ln188, ↓aI189, ↓ln189, ↓aI203, ↓sI203, ↓ln203, ↓aI217, ↓sZ217, ↓ln217, ↓aI218, ↓sI218, ↓ln218, ↓aI219, ↓sI219, ↓ln219, ↓aI220, ↓sZ220, ↓ln220, ↓aI221, ↓sZ221, ↓ln221, ↓aI229, ↓sI229, ↓ln229, ↓aI230, ↓sI230, ↓ln230, ↓aI231, ↓sI231, ↓ln231, ↓aI232, ↓sI232, ↓ln232, ↓aI233, ↓sI233, ↓ln233, ↓aI234, ↓sZ234, ↓ln234, ↓aI235, ↓sZ235, ↓ln235, ↓aR104, ↓aR131, ↓aR134, ↓aR138, ↓aR175, ↓aR179, ↓aR190, ↓aR204, ↓aR222, ↓aR105, ↓aR139, ↓aI106, ↓sI106, ↓lI106, ↓aI132, ↓sI132, ↓lI132, ↓aI135, ↓sI135, ↓lI135, ↓aI140, ↓sI140, ↓lI140, ↓aI176, ↓sI176, ↓lI176, ↓aI180, ↓sI180, ↓lI180, ↓aI191, ↓sI191, ↓lI191, ↓aI205, ↓sI205, ↓lI205, ↓aI223, ↓sI223, ↓lI223, ↓c_I, ↓c_J, ↓c_Q, ↓c_V, ↓c_It, ↓c_Jt, ↓c_Vt, ↓k_I, ↓k_J, ↓n_I, ↓n_V, li0, li1, li2, li3, li4, li5, li6, li7, li8, li9, li10, li11, li12, li13, li14, li15, li16, li17, li18, li19, li20, li21, li22, li23, li24, li25, li26, li27, li28, li29, li30, li31, li32, li33, li34, li35, li36, li37, li38, li39, li40, li41, li42, li44, li48, li57, li63, li64, li65, li97, li99, li100, li101, li102, li104, li105, li106, li109, li114, li120, li128, li130, li300, li514, li999, li1000, li8192, li9999, li65536, li1000000, li1000001, li1000002, li1000003, li1000004, li1000005, li1000006, li1000007, li1000008, li1000009, li1000010, li1000011, li1000012, li1000013, li1000014, li1000015, li1000016, li1000017, li1000018, li1000019, li2147483647, lj0, lj1, W_add, W_sub, W_mul, W_neg, V_add, V_sub, V_mul, V_neg, W_ite, W_le, W_lt, W_inj, V_le, V_lt, V_inj, W_V, V_W, lgc_ge, lgc_gt, lgc_le, lgc_lt, lgc_eq, ge_iff_le, gt_iff_lt, es, r_fails0, r_fails1, k1, hn, Int.reduceEq, ↓reduceIte]
    · show uI I1 188 s 1 188 r = bb (r = s ∨ S.2.2.2.1 r) ∧ ((r = s ∨ S.2.2.2.1 r) → VR (uI I1 188 s 1 (176 + r)) (if r = s then S.1 else S.2.2.2.2.1 r))
      rw [u_at, u_obj (show 176 + r ≠ 188 by omega)]
      by_cases q : r = s
      · rw [if_pos q, if_pos q, bb_pos (Or.inl q), q]
        exact ⟨rfl, fun _ => k2'⟩
      · rw [if_neg q, if_neg q, k5' 188 (by omega) (by omega), k5' (176 + r) (by omega) (by omega), bb_congr (show (r = s ∨ S.2.2.2.1 r) ↔ S.2.2.2.1 r from ⟨fun z => z.resolve_left q, Or.inr⟩)]
        exact ⟨(a8 r r0 r1).1, fun z => (a8 r r0 r1).2 (z.resolve_left q)⟩
  · rw [bb_neg qs] at es
    rw [if_neg qs, if_neg qs, if_neg qs]
    have hgo : f_X8_save (Sx I J b c) 102 (iW s) = some (Sx (uI I 102 0 1) J b c, xi (iW 0)) := by
      simp (disch := first | assumption | omega) only [f_X8_save, f_X8_save_b16, ↓rc102, ↓gI102_0, ↓gI102_6, ↓gI102_8, ↓gI102_9, ↓gI102_13, ↓gI102_15, ↓gI102_16, ↓gI102_17, ↓gI102_18, ↓gI102_19, ↓gI102_27, ↓gI102_28, ↓gI102_29, ↓gJ102_39, ↓gJ102_40, ↓gJ102_41, ↓gJ102_42, ↓pI102_0, ↓pI102_6, ↓pI102_9, ↓pI102_13, ↓pI102_15, ↓pI102_16, ↓pI102_17, ↓pI102_27, ↓pI102_28, ↓pI102_29, ↓pZ102_8, ↓pZ102_18, ↓pZ102_19, ↓pJ102_39, ↓pJ102_40, ↓pJ102_41, ↓pJ102_42, ↓gR102_1, ↓gR102_2, ↓gR102_3, ↓gR102_4, ↓gR102_5, ↓gR102_7, ↓gR102_10, ↓gR102_11, ↓gR102_12, ↓gR102_14, ↓gR102_20, ↓gR102_21, ↓gR102_22, ↓gR102_23, ↓gR102_24, ↓gR102_25, ↓gR102_26, ↓gR102_30, ↓gR102_31, ↓gR102_32, ↓gR102_33, ↓gR102_34, ↓gR102_35, ↓gR102_36, ↓gR102_37, ↓gR102_38, ↓aI103, ↓sI103, ↓ln103, ↓aI137, ↓sI137, ↓ln137, ↓aI188, ↓sZ188, ↓ln188, ↓aI189, ↓ln189, ↓aI203, ↓sI203, ↓ln203, ↓aI217, ↓sZ217, ↓ln217, ↓aI218, ↓sI218, ↓ln218, ↓aI219, ↓sI219, ↓ln219, ↓aI220, ↓sZ220, ↓ln220, ↓aI221, ↓sZ221, ↓ln221, ↓aI229, ↓sI229, ↓ln229, ↓aI230, ↓sI230, ↓ln230, ↓aI231, ↓sI231, ↓ln231, ↓aI232, ↓sI232, ↓ln232, ↓aI233, ↓sI233, ↓ln233, ↓aI234, ↓sZ234, ↓ln234, ↓aI235, ↓sZ235, ↓ln235, ↓aR104, ↓aR131, ↓aR134, ↓aR138, ↓aR175, ↓aR179, ↓aR190, ↓aR204, ↓aR222, ↓aR105, ↓aR139, ↓aI106, ↓sI106, ↓lI106, ↓aI132, ↓sI132, ↓lI132, ↓aI135, ↓sI135, ↓lI135, ↓aI140, ↓sI140, ↓lI140, ↓aI176, ↓sI176, ↓lI176, ↓aI180, ↓sI180, ↓lI180, ↓aI191, ↓sI191, ↓lI191, ↓aI205, ↓sI205, ↓lI205, ↓aI223, ↓sI223, ↓lI223, ↓c_I, ↓c_J, ↓c_Q, ↓c_V, ↓c_It, ↓c_Jt, ↓c_Vt, ↓k_I, ↓k_J, ↓n_I, ↓n_V, li0, li1, li2, li3, li4, li5, li6, li7, li8, li9, li10, li11, li12, li13, li14, li15, li16, li17, li18, li19, li20, li21, li22, li23, li24, li25, li26, li27, li28, li29, li30, li31, li32, li33, li34, li35, li36, li37, li38, li39, li40, li41, li42, li44, li48, li57, li63, li64, li65, li97, li99, li100, li101, li102, li104, li105, li106, li109, li114, li120, li128, li130, li300, li514, li999, li1000, li8192, li9999, li65536, li1000000, li1000001, li1000002, li1000003, li1000004, li1000005, li1000006, li1000007, li1000008, li1000009, li1000010, li1000011, li1000012, li1000013, li1000014, li1000015, li1000016, li1000017, li1000018, li1000019, li2147483647, lj0, lj1, W_add, W_sub, W_mul, W_neg, V_add, V_sub, V_mul, V_neg, W_ite, W_le, W_lt, W_inj, V_le, V_lt, V_inj, W_V, V_W, lgc_ge, lgc_gt, lgc_le, lgc_lt, lgc_eq, ge_iff_le, gt_iff_lt, es, r_fails0, r_fails1, Int.reduceEq, ↓reduceIte]
    rw [hgo]
    exact RStp.bad h
theorem x_restore (hS : okS S) (h : EW I S) {s : Int} (s0 : -2147483648 ≤ s) (s1 : s ≤ 2147483647) :
    EStp (f_X7_restore (Sx I J b c) 0 (iW s)) I J c "java/lang/IndexOutOfBoundsException" "java/lang/IllegalStateException" (if 0 ≤ s ∧ s ≤ 2 then (cif (S.2.2.2.1 s) (nit (S.2.2.2.2.1 s)) 0) else 0) (if 0 ≤ s ∧ s ≤ 2 then (cif (S.2.2.2.1 s) 0 2) else 1) (if 0 ≤ s ∧ s ≤ 2 then (cif (S.2.2.2.1 s) (chg S (S.2.2.2.2.1 s)) S) else S) := by
  have es := e_chkSlot (I := I) (J := J) (b := b) (c := c) s0 s1
  by_cases qs : 0 ≤ s ∧ s ≤ 2
  · rw [if_pos qs] at es
    rw [if_pos qs, if_pos qs, if_pos qs]
    have h' := h
    obtain ⟨g1, p, g2⟩ := h'
    have hf := g2.2.2.1 s (by omega) (by omega)
    by_cases q : S.2.2.2.1 s
    · rw [cif_pos q, cif_pos q, cif_pos q]
      have hf1 := hf.1
      rw [bb_pos q] at hf1
      obtain ⟨I1, k1, k2, k3, k4, k5⟩ := e_chg (J := J) (b := b) (c := c) h
      obtain ⟨p', k3'⟩ := k3
      have hm := (k3'.2.2.1 s (by omega) (by omega)).2 q
      have hm' : EMm I1 ((47 + 5 * s.toNat : Nat) : Int) (S.2.2.2.2.1 s) := by
        rw [show ((47 + 5 * s.toNat : Nat) : Int) = 47 + 5 * s by omega]
        exact hm
      have hV := hS.2.2.2.1 s (by omega) (by omega) q
      have hmm := isM_s qs.1 (show s < 3 by omega)
      obtain ⟨I2, m1, m2, m3⟩ := e_copyFrom (J := J) (b := b) (c := c) isM_8 hmm (by omega) hm' hV.2.2.1
      have hn : I2 8 4 = nit (S.2.2.2.2.1 s) := m2.2.2.2.2.1
      refine ⟨I2, J, b, ?_, EW.mk ⟨p', k3'⟩ k4 hV (EM8.1 m2) (fun a ha => m3 a (by omega)), fun a ha => by rw [m3 a (by omega), k5 a (by omega) (by omega)], fun _ _ => rfl⟩
      rw [if_pos rfl]
      simp (disch := first | assumption | omega) only [f_X7_restore, ↓rc0, ↓gI0_1, ↓gI0_7, ↓gI0_8, ↓gI0_15, ↓pI0_1, ↓pI0_7, ↓pI0_8, ↓pZ0_15, ↓gR0_0, ↓gR0_2, ↓gR0_3, ↓gR0_4, ↓gR0_5, ↓gR0_6, ↓gR0_9, ↓gR0_10, ↓gR0_11, ↓gR0_12, ↓gR0_13, ↓gR0_14, ↓aI1, ↓ln1, ↓aI14, ↓sZ14, ↓ln14, ↓aR13, ↓aR15, ↓rc8, ↓gI8_4, ↓gI8_5, ↓gI8_6, ↓pI8_4, ↓pI8_5, ↓pZ8_6, ↓gR8_0, ↓gR8_1, ↓gR8_2, ↓gR8_3, ↓aI9, ↓sI9, ↓ln9, ↓aI10, ↓sI10, ↓ln10, ↓aI11, ↓sI11, ↓ln11, ↓aI12, ↓sI12, ↓ln12, ↓c_I, ↓c_J, ↓c_Q, ↓c_V, ↓c_It, ↓c_Jt, ↓c_Vt, ↓k_I, ↓k_J, ↓n_I, ↓n_V, li0, li1, li2, li3, li4, li5, li6, li7, li8, li9, li10, li11, li12, li13, li14, li15, li16, li17, li18, li19, li20, li21, li22, li23, li24, li25, li26, li27, li28, li29, li30, li31, li32, li33, li34, li35, li36, li37, li38, li39, li40, li41, li42, li44, li48, li57, li63, li64, li65, li97, li99, li100, li101, li102, li104, li105, li106, li109, li114, li120, li128, li130, li300, li514, li999, li1000, li8192, li9999, li65536, li1000000, li1000001, li1000002, li1000003, li1000004, li1000005, li1000006, li1000007, li1000008, li1000009, li1000010, li1000011, li1000012, li1000013, li1000014, li1000015, li1000016, li1000017, li1000018, li1000019, li2147483647, lj0, lj1, W_add, W_sub, W_mul, W_neg, V_add, V_sub, V_mul, V_neg, W_ite, W_le, W_lt, W_inj, V_le, V_lt, V_inj, W_V, V_W, lgc_ge, lgc_gt, lgc_le, lgc_lt, lgc_eq, ge_iff_le, gt_iff_lt, es, hf1, k1, m1, hn, Int.reduceEq, ↓reduceIte]
    · rw [cif_neg q, cif_neg q, cif_neg q]
      have hf1 := hf.1
      rw [bb_neg q] at hf1
      have hgo : f_X7_restore (Sx I J b c) 0 (iW s) = some (Sx I J b false, xt "java/lang/IllegalStateException") := by
        simp (disch := first | assumption | omega) only [f_X7_restore, S_dirty, ↓rc0, ↓gI0_1, ↓gI0_7, ↓gI0_8, ↓gI0_15, ↓pI0_1, ↓pI0_7, ↓pI0_8, ↓pZ0_15, ↓gR0_0, ↓gR0_2, ↓gR0_3, ↓gR0_4, ↓gR0_5, ↓gR0_6, ↓gR0_9, ↓gR0_10, ↓gR0_11, ↓gR0_12, ↓gR0_13, ↓gR0_14, ↓aI1, ↓ln1, ↓aI14, ↓sZ14, ↓ln14, ↓aR13, ↓aR15, ↓c_I, ↓c_J, ↓c_Q, ↓c_V, ↓c_It, ↓c_Jt, ↓c_Vt, ↓k_I, ↓k_J, ↓n_I, ↓n_V, li0, li1, li2, li3, li4, li5, li6, li7, li8, li9, li10, li11, li12, li13, li14, li15, li16, li17, li18, li19, li20, li21, li22, li23, li24, li25, li26, li27, li28, li29, li30, li31, li32, li33, li34, li35, li36, li37, li38, li39, li40, li41, li42, li44, li48, li57, li63, li64, li65, li97, li99, li100, li101, li102, li104, li105, li106, li109, li114, li120, li128, li130, li300, li514, li999, li1000, li8192, li9999, li65536, li1000000, li1000001, li1000002, li1000003, li1000004, li1000005, li1000006, li1000007, li1000008, li1000009, li1000010, li1000011, li1000012, li1000013, li1000014, li1000015, li1000016, li1000017, li1000018, li1000019, li2147483647, lj0, lj1, W_add, W_sub, W_mul, W_neg, V_add, V_sub, V_mul, V_neg, W_ite, W_le, W_lt, W_inj, V_le, V_lt, V_inj, W_V, V_W, lgc_ge, lgc_gt, lgc_le, lgc_lt, lgc_eq, ge_iff_le, gt_iff_lt, es, hf1, ↓reduceIte]
      rw [hgo]
      exact h.t (t := 2) (Or.inr rfl)
  · rw [if_neg qs] at es
    rw [if_neg qs, if_neg qs, if_neg qs]
    have hgo : f_X7_restore (Sx I J b c) 0 (iW s) = some (Sx I J b false, xt "java/lang/IndexOutOfBoundsException") := by
      simp (disch := first | assumption | omega) only [f_X7_restore, ↓rc0, ↓gI0_1, ↓gI0_7, ↓gI0_8, ↓gI0_15, ↓pI0_1, ↓pI0_7, ↓pI0_8, ↓pZ0_15, ↓gR0_0, ↓gR0_2, ↓gR0_3, ↓gR0_4, ↓gR0_5, ↓gR0_6, ↓gR0_9, ↓gR0_10, ↓gR0_11, ↓gR0_12, ↓gR0_13, ↓gR0_14, ↓aI1, ↓ln1, ↓aI14, ↓sZ14, ↓ln14, ↓aR13, ↓aR15, ↓c_I, ↓c_J, ↓c_Q, ↓c_V, ↓c_It, ↓c_Jt, ↓c_Vt, ↓k_I, ↓k_J, ↓n_I, ↓n_V, li0, li1, li2, li3, li4, li5, li6, li7, li8, li9, li10, li11, li12, li13, li14, li15, li16, li17, li18, li19, li20, li21, li22, li23, li24, li25, li26, li27, li28, li29, li30, li31, li32, li33, li34, li35, li36, li37, li38, li39, li40, li41, li42, li44, li48, li57, li63, li64, li65, li97, li99, li100, li101, li102, li104, li105, li106, li109, li114, li120, li128, li130, li300, li514, li999, li1000, li8192, li9999, li65536, li1000000, li1000001, li1000002, li1000003, li1000004, li1000005, li1000006, li1000007, li1000008, li1000009, li1000010, li1000011, li1000012, li1000013, li1000014, li1000015, li1000016, li1000017, li1000018, li1000019, li2147483647, lj0, lj1, W_add, W_sub, W_mul, W_neg, V_add, V_sub, V_mul, V_neg, W_ite, es]
    rw [hgo]
    exact h.t (t := 1) (Or.inl rfl)
theorem q_restore (hA : okA S.1) (h : RWd I S) {s : Int} (s0 : -2147483648 ≤ s) (s1 : s ≤ 2147483647) :
    RStp (f_X8_restore (Sx I J b c) 102 (iW s)) I J b c (if 0 ≤ s ∧ s ≤ 2 then (cif (S.2.2.2.1 s) (nit (S.2.2.2.2.1 s)) 0) else 0) (if 0 ≤ s ∧ s ≤ 2 then (cif (S.2.2.2.1 s) 0 2) else 1) (if 0 ≤ s ∧ s ≤ 2 then (cif (S.2.2.2.1 s) (chg S (S.2.2.2.2.1 s)) S) else S) := by
  have es := r_between (h := Sx I J b c) (v := s) (lo := 0) (hi := 2) s0 s1 (by omega) (by omega) (by omega) (by omega)
  by_cases qs : 0 ≤ s ∧ s ≤ 2
  · rw [bb_pos qs] at es
    rw [if_pos qs, if_pos qs, if_pos qs]
    have hf := h.2.2.2.1 s (by omega) (by omega)
    by_cases q : S.2.2.2.1 s
    · rw [cif_pos q, cif_pos q, cif_pos q]
      have hf1 : uI I 102 0 0 188 s = 1 := by rw [u_obj (by omega), hf.1, bb_pos q]
      have h0 : RWd (uI (uI I 102 0 0) 102 0 0) S := h.t.t
      obtain ⟨I1, k1, k2, k3, k4, k5⟩ := r_chg (J := J) (b := b) (c := c) h0
      have hv : VR (I1 ((176 + s.toNat : Nat) : Int)) (S.2.2.2.2.1 s) := by
        rw [show ((176 + s.toNat : Nat) : Int) = 176 + s by omega]
        exact (k2.2.2.1 s (by omega) (by omega)).2 q
      obtain ⟨I2, m1, m2, m3, m4⟩ := r_read (J := J) (b := b) (c := c) (R := 176 + s.toNat) (by omega) (sh_I176 _ (by omega)) hv
      have hn : I2 102 6 = nit (S.2.2.2.2.1 s) := m2.2.2.2.2.2.2.1
      refine ⟨I2, J, ?_, by rw [m3 0 (by omega) (by omega) (by omega), k4, u_eq], ⟨m2, k2.fr (m3 13 (by omega) (by omega) (by omega)) (m3 15 (by omega) (by omega) (by omega)) (fun a a0 a1 => m4 a (by omega))⟩, fun a ha => by rw [m4 a (by omega), k5 a ha, u_obj (by omega), u_obj (by omega)], fun _ _ => rfl⟩
      simp (disch := first | assumption | omega) only [f_X8_restore, f_X8_restore_b16, f_X8_restore_b38, ↓rc102, ↓gI102_0, ↓gI102_6, ↓gI102_8, ↓gI102_9, ↓gI102_13, ↓gI102_15, ↓gI102_16, ↓gI102_17, ↓gI102_18, ↓gI102_19, ↓gI102_27, ↓gI102_28, ↓gI102_29, ↓gJ102_39, ↓gJ102_40, ↓gJ102_41, ↓gJ102_42, ↓pI102_0, ↓pI102_6, ↓pI102_9, ↓pI102_13, ↓pI102_15, ↓pI102_16, ↓pI102_17, ↓pI102_27, ↓pI102_28, ↓pI102_29, ↓pZ102_8, ↓pZ102_18, ↓pZ102_19, ↓pJ102_39, ↓pJ102_40, ↓pJ102_41, ↓pJ102_42, ↓gR102_1, ↓gR102_2, ↓gR102_3, ↓gR102_4, ↓gR102_5, ↓gR102_7, ↓gR102_10, ↓gR102_11, ↓gR102_12, ↓gR102_14, ↓gR102_20, ↓gR102_21, ↓gR102_22, ↓gR102_23, ↓gR102_24, ↓gR102_25, ↓gR102_26, ↓gR102_30, ↓gR102_31, ↓gR102_32, ↓gR102_33, ↓gR102_34, ↓gR102_35, ↓gR102_36, ↓gR102_37, ↓gR102_38, ↓aI103, ↓sI103, ↓ln103, ↓aI137, ↓sI137, ↓ln137, ↓aI188, ↓sZ188, ↓ln188, ↓aI189, ↓ln189, ↓aI203, ↓sI203, ↓ln203, ↓aI217, ↓sZ217, ↓ln217, ↓aI218, ↓sI218, ↓ln218, ↓aI219, ↓sI219, ↓ln219, ↓aI220, ↓sZ220, ↓ln220, ↓aI221, ↓sZ221, ↓ln221, ↓aI229, ↓sI229, ↓ln229, ↓aI230, ↓sI230, ↓ln230, ↓aI231, ↓sI231, ↓ln231, ↓aI232, ↓sI232, ↓ln232, ↓aI233, ↓sI233, ↓ln233, ↓aI234, ↓sZ234, ↓ln234, ↓aI235, ↓sZ235, ↓ln235, ↓aR104, ↓aR131, ↓aR134, ↓aR138, ↓aR175, ↓aR179, ↓aR190, ↓aR204, ↓aR222, ↓aR105, ↓aR139, ↓aI106, ↓sI106, ↓lI106, ↓aI132, ↓sI132, ↓lI132, ↓aI135, ↓sI135, ↓lI135, ↓aI140, ↓sI140, ↓lI140, ↓aI176, ↓sI176, ↓lI176, ↓aI180, ↓sI180, ↓lI180, ↓aI191, ↓sI191, ↓lI191, ↓aI205, ↓sI205, ↓lI205, ↓aI223, ↓sI223, ↓lI223, ↓c_I, ↓c_J, ↓c_Q, ↓c_V, ↓c_It, ↓c_Jt, ↓c_Vt, ↓k_I, ↓k_J, ↓n_I, ↓n_V, li0, li1, li2, li3, li4, li5, li6, li7, li8, li9, li10, li11, li12, li13, li14, li15, li16, li17, li18, li19, li20, li21, li22, li23, li24, li25, li26, li27, li28, li29, li30, li31, li32, li33, li34, li35, li36, li37, li38, li39, li40, li41, li42, li44, li48, li57, li63, li64, li65, li97, li99, li100, li101, li102, li104, li105, li106, li109, li114, li120, li128, li130, li300, li514, li999, li1000, li8192, li9999, li65536, li1000000, li1000001, li1000002, li1000003, li1000004, li1000005, li1000006, li1000007, li1000008, li1000009, li1000010, li1000011, li1000012, li1000013, li1000014, li1000015, li1000016, li1000017, li1000018, li1000019, li2147483647, lj0, lj1, W_add, W_sub, W_mul, W_neg, V_add, V_sub, V_mul, V_neg, W_ite, W_le, W_lt, W_inj, V_le, V_lt, V_inj, W_V, V_W, lgc_ge, lgc_gt, lgc_le, lgc_lt, lgc_eq, ge_iff_le, gt_iff_lt, es, r_fails0, r_fails1, hf1, k1, m1, hn, Int.reduceEq, ↓reduceIte]
    · rw [cif_neg q, cif_neg q, cif_neg q]
      have hf1 : uI I 102 0 0 188 s = 0 := by rw [u_obj (by omega), hf.1, bb_neg q]
      have hgo : f_X8_restore (Sx I J b c) 102 (iW s) = some (Sx (uI (uI I 102 0 0) 102 0 2) J b c, xi (iW 0)) := by
        simp (disch := first | assumption | omega) only [f_X8_restore, f_X8_restore_b16, f_X8_restore_b38, f_X8_restore_b44, ↓rc102, ↓gI102_0, ↓gI102_6, ↓gI102_8, ↓gI102_9, ↓gI102_13, ↓gI102_15, ↓gI102_16, ↓gI102_17, ↓gI102_18, ↓gI102_19, ↓gI102_27, ↓gI102_28, ↓gI102_29, ↓gJ102_39, ↓gJ102_40, ↓gJ102_41, ↓gJ102_42, ↓pI102_0, ↓pI102_6, ↓pI102_9, ↓pI102_13, ↓pI102_15, ↓pI102_16, ↓pI102_17, ↓pI102_27, ↓pI102_28, ↓pI102_29, ↓pZ102_8, ↓pZ102_18, ↓pZ102_19, ↓pJ102_39, ↓pJ102_40, ↓pJ102_41, ↓pJ102_42, ↓gR102_1, ↓gR102_2, ↓gR102_3, ↓gR102_4, ↓gR102_5, ↓gR102_7, ↓gR102_10, ↓gR102_11, ↓gR102_12, ↓gR102_14, ↓gR102_20, ↓gR102_21, ↓gR102_22, ↓gR102_23, ↓gR102_24, ↓gR102_25, ↓gR102_26, ↓gR102_30, ↓gR102_31, ↓gR102_32, ↓gR102_33, ↓gR102_34, ↓gR102_35, ↓gR102_36, ↓gR102_37, ↓gR102_38, ↓aI103, ↓sI103, ↓ln103, ↓aI137, ↓sI137, ↓ln137, ↓aI188, ↓sZ188, ↓ln188, ↓aI189, ↓ln189, ↓aI203, ↓sI203, ↓ln203, ↓aI217, ↓sZ217, ↓ln217, ↓aI218, ↓sI218, ↓ln218, ↓aI219, ↓sI219, ↓ln219, ↓aI220, ↓sZ220, ↓ln220, ↓aI221, ↓sZ221, ↓ln221, ↓aI229, ↓sI229, ↓ln229, ↓aI230, ↓sI230, ↓ln230, ↓aI231, ↓sI231, ↓ln231, ↓aI232, ↓sI232, ↓ln232, ↓aI233, ↓sI233, ↓ln233, ↓aI234, ↓sZ234, ↓ln234, ↓aI235, ↓sZ235, ↓ln235, ↓aR104, ↓aR131, ↓aR134, ↓aR138, ↓aR175, ↓aR179, ↓aR190, ↓aR204, ↓aR222, ↓aR105, ↓aR139, ↓aI106, ↓sI106, ↓lI106, ↓aI132, ↓sI132, ↓lI132, ↓aI135, ↓sI135, ↓lI135, ↓aI140, ↓sI140, ↓lI140, ↓aI176, ↓sI176, ↓lI176, ↓aI180, ↓sI180, ↓lI180, ↓aI191, ↓sI191, ↓lI191, ↓aI205, ↓sI205, ↓lI205, ↓aI223, ↓sI223, ↓lI223, ↓c_I, ↓c_J, ↓c_Q, ↓c_V, ↓c_It, ↓c_Jt, ↓c_Vt, ↓k_I, ↓k_J, ↓n_I, ↓n_V, li0, li1, li2, li3, li4, li5, li6, li7, li8, li9, li10, li11, li12, li13, li14, li15, li16, li17, li18, li19, li20, li21, li22, li23, li24, li25, li26, li27, li28, li29, li30, li31, li32, li33, li34, li35, li36, li37, li38, li39, li40, li41, li42, li44, li48, li57, li63, li64, li65, li97, li99, li100, li101, li102, li104, li105, li106, li109, li114, li120, li128, li130, li300, li514, li999, li1000, li8192, li9999, li65536, li1000000, li1000001, li1000002, li1000003, li1000004, li1000005, li1000006, li1000007, li1000008, li1000009, li1000010, li1000011, li1000012, li1000013, li1000014, li1000015, li1000016, li1000017, li1000018, li1000019, li2147483647, lj0, lj1, W_add, W_sub, W_mul, W_neg, V_add, V_sub, V_mul, V_neg, W_ite, W_le, W_lt, W_inj, V_le, V_lt, V_inj, W_V, V_W, lgc_ge, lgc_gt, lgc_le, lgc_lt, lgc_eq, ge_iff_le, gt_iff_lt, es, r_fails0, r_fails1, hf1, Int.reduceEq, ↓reduceIte]
      rw [hgo]
      exact RStp.bad2 h
  · rw [bb_neg qs] at es
    rw [if_neg qs, if_neg qs, if_neg qs]
    have hgo : f_X8_restore (Sx I J b c) 102 (iW s) = some (Sx (uI I 102 0 1) J b c, xi (iW 0)) := by
      simp (disch := first | assumption | omega) only [f_X8_restore, f_X8_restore_b16, f_X8_restore_b44, ↓rc102, ↓gI102_0, ↓gI102_6, ↓gI102_8, ↓gI102_9, ↓gI102_13, ↓gI102_15, ↓gI102_16, ↓gI102_17, ↓gI102_18, ↓gI102_19, ↓gI102_27, ↓gI102_28, ↓gI102_29, ↓gJ102_39, ↓gJ102_40, ↓gJ102_41, ↓gJ102_42, ↓pI102_0, ↓pI102_6, ↓pI102_9, ↓pI102_13, ↓pI102_15, ↓pI102_16, ↓pI102_17, ↓pI102_27, ↓pI102_28, ↓pI102_29, ↓pZ102_8, ↓pZ102_18, ↓pZ102_19, ↓pJ102_39, ↓pJ102_40, ↓pJ102_41, ↓pJ102_42, ↓gR102_1, ↓gR102_2, ↓gR102_3, ↓gR102_4, ↓gR102_5, ↓gR102_7, ↓gR102_10, ↓gR102_11, ↓gR102_12, ↓gR102_14, ↓gR102_20, ↓gR102_21, ↓gR102_22, ↓gR102_23, ↓gR102_24, ↓gR102_25, ↓gR102_26, ↓gR102_30, ↓gR102_31, ↓gR102_32, ↓gR102_33, ↓gR102_34, ↓gR102_35, ↓gR102_36, ↓gR102_37, ↓gR102_38, ↓aI103, ↓sI103, ↓ln103, ↓aI137, ↓sI137, ↓ln137, ↓aI188, ↓sZ188, ↓ln188, ↓aI189, ↓ln189, ↓aI203, ↓sI203, ↓ln203, ↓aI217, ↓sZ217, ↓ln217, ↓aI218, ↓sI218, ↓ln218, ↓aI219, ↓sI219, ↓ln219, ↓aI220, ↓sZ220, ↓ln220, ↓aI221, ↓sZ221, ↓ln221, ↓aI229, ↓sI229, ↓ln229, ↓aI230, ↓sI230, ↓ln230, ↓aI231, ↓sI231, ↓ln231, ↓aI232, ↓sI232, ↓ln232, ↓aI233, ↓sI233, ↓ln233, ↓aI234, ↓sZ234, ↓ln234, ↓aI235, ↓sZ235, ↓ln235, ↓aR104, ↓aR131, ↓aR134, ↓aR138, ↓aR175, ↓aR179, ↓aR190, ↓aR204, ↓aR222, ↓aR105, ↓aR139, ↓aI106, ↓sI106, ↓lI106, ↓aI132, ↓sI132, ↓lI132, ↓aI135, ↓sI135, ↓lI135, ↓aI140, ↓sI140, ↓lI140, ↓aI176, ↓sI176, ↓lI176, ↓aI180, ↓sI180, ↓lI180, ↓aI191, ↓sI191, ↓lI191, ↓aI205, ↓sI205, ↓lI205, ↓aI223, ↓sI223, ↓lI223, ↓c_I, ↓c_J, ↓c_Q, ↓c_V, ↓c_It, ↓c_Jt, ↓c_Vt, ↓k_I, ↓k_J, ↓n_I, ↓n_V, li0, li1, li2, li3, li4, li5, li6, li7, li8, li9, li10, li11, li12, li13, li14, li15, li16, li17, li18, li19, li20, li21, li22, li23, li24, li25, li26, li27, li28, li29, li30, li31, li32, li33, li34, li35, li36, li37, li38, li39, li40, li41, li42, li44, li48, li57, li63, li64, li65, li97, li99, li100, li101, li102, li104, li105, li106, li109, li114, li120, li128, li130, li300, li514, li999, li1000, li8192, li9999, li65536, li1000000, li1000001, li1000002, li1000003, li1000004, li1000005, li1000006, li1000007, li1000008, li1000009, li1000010, li1000011, li1000012, li1000013, li1000014, li1000015, li1000016, li1000017, li1000018, li1000019, li2147483647, lj0, lj1, W_add, W_sub, W_mul, W_neg, V_add, V_sub, V_mul, V_neg, W_ite, W_le, W_lt, W_inj, V_le, V_lt, V_inj, W_V, V_W, lgc_ge, lgc_gt, lgc_le, lgc_lt, lgc_eq, ge_iff_le, gt_iff_lt, es, r_fails0, r_fails1, Int.reduceEq, ↓reduceIte]
    rw [hgo]
    exact RStp.bad h
theorem x_undo (hS : okS S) (h : EW I S) (E2 : String) :
    EStp (f_X7_undo (Sx I J b c) 0) I J c "java/lang/IllegalStateException" E2 (if 0 < S.2.1 then S.2.1 - 1 else 0) (if 0 < S.2.1 then 0 else 1) (if 0 < S.2.1 then unS S else S) := by
  have h' := h
  obtain ⟨g1, p, g2⟩ := h'
  obtain ⟨⟨a1, a2, a3, a4, a5, a6⟩, a7, a8, a9, a10⟩ := g2
  by_cases q : 0 < S.2.1
  · rw [if_pos q, if_pos q, if_pos q]
    obtain ⟨p', hp'⟩ : ∃ p' : Int, p' = if p ≤ 0 then 7 else p - 1 := ⟨_, rfl⟩
    have pb : 0 ≤ p' ∧ p' < 8 := by rw [hp']; split <;> omega
    have hr0 : rgp p 0 = p' := by rw [hp']; unfold rgp; split <;> omega
    have hm := a7 0 (by omega) q
    rw [hr0] at hm
    obtain ⟨I1, hI1⟩ : ∃ X, X = uI (uI I 0 7 p') 0 8 (S.2.1 - 1) := ⟨_, rfl⟩
    have f1 : ∀ a : Int, a ≠ 0 → I1 a = I a := fun a ha => by rw [hI1, u_obj ha, u_obj ha]
    have hm' : EMm I1 ((62 + 5 * p'.toNat : Nat) : Int) (S.2.2.1 0) := by
      rw [show ((62 + 5 * p'.toNat : Nat) : Int) = 62 + 5 * p' by omega]
      exact hm.fr (fun a c0 c1 => f1 a (by omega))
    have hH := hS.2.2.1 0 (by omega) q
    have hmm := isM_r pb.1 pb.2
    obtain ⟨I2, m1, m2, m3⟩ := e_copyFrom (J := J) (b := b) (c := c) isM_8 hmm (by omega) hm' hH.2.2.1
    have r7 : I1 0 7 = p' := by rw [hI1, u_ne (by omega), u_eq]
    have r8 : I1 0 8 = S.2.1 - 1 := by rw [hI1, u_eq]
    have m3' : ∀ a : Int, (a < 8 ∨ 12 < a) → I2 a = I1 a := fun a ha => m3 a (by omega)
    have r8' : uI I2 0 15 0 0 8 = S.2.1 - 1 := by rw [u_ne (by omega), m3' _ (by omega), r8]
    have e8 : uI I 0 7 p' 0 8 = S.2.1 := by rw [u_ne (by omega)]; exact a1
    refine ⟨uI I2 0 15 0, J, b, ?_, ⟨⟨hH, (EM8.1 m2).fr (fun a c0 c1 => u_obj (by omega)), by rw [u_obj (by omega), m3' _ (by omega), f1 _ (by omega)]; exact g1.2.2.1, by rw [u_obj (by omega), m3' _ (by omega), f1 _ (by omega)]; exact g1.2.2.2.1, Or.inl u_eq, fun z => by rw [u_eq] at z; exact absurd z (by decide)⟩, p', ⟨r8', by rw [u_ne (by omega), m3' _ (by omega), r7], show 0 ≤ S.2.1 - 1 by omega, show S.2.1 - 1 ≤ 8 by omega, pb.1, pb.2⟩, fun j j0 j1 => ?_, fun s s0 s1 => ?_, ?_, fun k k0 k1 => ?_⟩, fun a ha => by rw [u_obj (by omega), m3' _ (by omega), f1 _ (by omega)], fun _ _ => rfl⟩
    · rw [if_pos rfl]
      have hb : f_X7_undo_b37 (Sx I J b c) (iW p') 0 0 = some (Sx (uI I2 0 15 0) J b c, xi (iW (S.2.1 - 1))) := by
        simp (disch := first | assumption | omega) only [f_X7_undo_b37, ↓rc0, ↓gI0_1, ↓gI0_7, ↓gI0_8, ↓gI0_15, ↓pI0_1, ↓pI0_7, ↓pI0_8, ↓pZ0_15, ↓gR0_0, ↓gR0_2, ↓gR0_3, ↓gR0_4, ↓gR0_5, ↓gR0_6, ↓gR0_9, ↓gR0_10, ↓gR0_11, ↓gR0_12, ↓gR0_13, ↓gR0_14, ↓aI1, ↓ln1, ↓aI14, ↓sZ14, ↓ln14, ↓aR13, ↓aR15, ↓rc8, ↓gI8_4, ↓gI8_5, ↓gI8_6, ↓pI8_4, ↓pI8_5, ↓pZ8_6, ↓gR8_0, ↓gR8_1, ↓gR8_2, ↓gR8_3, ↓aI9, ↓sI9, ↓ln9, ↓aI10, ↓sI10, ↓ln10, ↓aI11, ↓sI11, ↓ln11, ↓aI12, ↓sI12, ↓ln12, ↓c_I, ↓c_J, ↓c_Q, ↓c_V, ↓c_It, ↓c_Jt, ↓c_Vt, ↓k_I, ↓k_J, ↓n_I, ↓n_V, li0, li1, li2, li3, li4, li5, li6, li7, li8, li9, li10, li11, li12, li13, li14, li15, li16, li17, li18, li19, li20, li21, li22, li23, li24, li25, li26, li27, li28, li29, li30, li31, li32, li33, li34, li35, li36, li37, li38, li39, li40, li41, li42, li44, li48, li57, li63, li64, li65, li97, li99, li100, li101, li102, li104, li105, li106, li109, li114, li120, li128, li130, li300, li514, li999, li1000, li8192, li9999, li65536, li1000000, li1000001, li1000002, li1000003, li1000004, li1000005, li1000006, li1000007, li1000008, li1000009, li1000010, li1000011, li1000012, li1000013, li1000014, li1000015, li1000016, li1000017, li1000018, li1000019, li2147483647, lj0, lj1, W_add, W_sub, W_mul, W_neg, V_add, V_sub, V_mul, V_neg, W_ite, W_le, W_lt, W_inj, V_le, V_lt, V_inj, W_V, V_W, lgc_ge, lgc_gt, lgc_le, lgc_lt, lgc_eq, ge_iff_le, gt_iff_lt, e8, ← hI1, r7, m1, r8']
      rw [← hb]
      by_cases q0 : p ≤ 0
      · rw [hp', if_pos q0]
        simp (disch := first | assumption | omega) only [f_X7_undo, ↓rc0, ↓gI0_1, ↓gI0_7, ↓gI0_8, ↓gI0_15, ↓pI0_1, ↓pI0_7, ↓pI0_8, ↓pZ0_15, ↓gR0_0, ↓gR0_2, ↓gR0_3, ↓gR0_4, ↓gR0_5, ↓gR0_6, ↓gR0_9, ↓gR0_10, ↓gR0_11, ↓gR0_12, ↓gR0_13, ↓gR0_14, ↓aI1, ↓ln1, ↓aI14, ↓sZ14, ↓ln14, ↓aR13, ↓aR15, ↓c_I, ↓c_J, ↓c_Q, ↓c_V, ↓c_It, ↓c_Jt, ↓c_Vt, ↓k_I, ↓k_J, ↓n_I, ↓n_V, li0, li1, li2, li3, li4, li5, li6, li7, li8, li9, li10, li11, li12, li13, li14, li15, li16, li17, li18, li19, li20, li21, li22, li23, li24, li25, li26, li27, li28, li29, li30, li31, li32, li33, li34, li35, li36, li37, li38, li39, li40, li41, li42, li44, li48, li57, li63, li64, li65, li97, li99, li100, li101, li102, li104, li105, li106, li109, li114, li120, li128, li130, li300, li514, li999, li1000, li8192, li9999, li65536, li1000000, li1000001, li1000002, li1000003, li1000004, li1000005, li1000006, li1000007, li1000008, li1000009, li1000010, li1000011, li1000012, li1000013, li1000014, li1000015, li1000016, li1000017, li1000018, li1000019, li2147483647, lj0, lj1, W_add, W_sub, W_mul, W_neg, V_add, V_sub, V_mul, V_neg, W_ite, W_le, W_lt, W_inj, V_le, V_lt, V_inj, W_V, V_W, lgc_ge, lgc_gt, lgc_le, lgc_lt, lgc_eq, ge_iff_le, gt_iff_lt, a1, a2, q, q0, ↓reduceIte]
      · rw [hp', if_neg q0]
        simp (disch := first | assumption | omega) only [f_X7_undo, ↓rc0, ↓gI0_1, ↓gI0_7, ↓gI0_8, ↓gI0_15, ↓pI0_1, ↓pI0_7, ↓pI0_8, ↓pZ0_15, ↓gR0_0, ↓gR0_2, ↓gR0_3, ↓gR0_4, ↓gR0_5, ↓gR0_6, ↓gR0_9, ↓gR0_10, ↓gR0_11, ↓gR0_12, ↓gR0_13, ↓gR0_14, ↓aI1, ↓ln1, ↓aI14, ↓sZ14, ↓ln14, ↓aR13, ↓aR15, ↓c_I, ↓c_J, ↓c_Q, ↓c_V, ↓c_It, ↓c_Jt, ↓c_Vt, ↓k_I, ↓k_J, ↓n_I, ↓n_V, li0, li1, li2, li3, li4, li5, li6, li7, li8, li9, li10, li11, li12, li13, li14, li15, li16, li17, li18, li19, li20, li21, li22, li23, li24, li25, li26, li27, li28, li29, li30, li31, li32, li33, li34, li35, li36, li37, li38, li39, li40, li41, li42, li44, li48, li57, li63, li64, li65, li97, li99, li100, li101, li102, li104, li105, li106, li109, li114, li120, li128, li130, li300, li514, li999, li1000, li8192, li9999, li65536, li1000000, li1000001, li1000002, li1000003, li1000004, li1000005, li1000006, li1000007, li1000008, li1000009, li1000010, li1000011, li1000012, li1000013, li1000014, li1000015, li1000016, li1000017, li1000018, li1000019, li2147483647, lj0, lj1, W_add, W_sub, W_mul, W_neg, V_add, V_sub, V_mul, V_neg, W_ite, W_le, W_lt, W_inj, V_le, V_lt, V_inj, W_V, V_W, lgc_ge, lgc_gt, lgc_le, lgc_lt, lgc_eq, ge_iff_le, gt_iff_lt, a1, a2, q, q0, ↓reduceIte]
    · have j1 : j < S.2.1 - 1 := j1
      have e : rgp p' j = rgp p (j + 1) := by rw [hp']; unfold rgp; split <;> omega
      rw [e]
      exact (a7 (j + 1) (by omega) (by omega)).fr (fun a c0 c1 => by
        have : 0 ≤ rgp p (j + 1) := by unfold rgp; omega
        rw [u_obj (by omega), m3' _ (by omega), f1 _ (by omega)])
    · exact ⟨by rw [u_obj (by omega), m3' _ (by omega), f1 _ (by omega)]; exact (a8 s s0 s1).1, fun z => ((a8 s s0 s1).2 z).fr (fun a c0 c1 => by rw [u_obj (by omega), m3' _ (by omega), f1 _ (by omega)])⟩
    · rw [u_ne (by omega), m3' _ (by omega), hI1, u_ne (by omega), u_ne (by omega)]
      exact a9
    · rw [u_obj (by omega), m3' _ (by omega), f1 _ (by omega)]
      exact a10 k k0 k1
  · rw [if_neg q, if_neg q, if_neg q]
    have hgo : f_X7_undo (Sx I J b c) 0 = some (Sx I J b false, xt "java/lang/IllegalStateException") := by
      simp (disch := first | assumption | omega) only [f_X7_undo, S_dirty, ↓rc0, ↓gI0_1, ↓gI0_7, ↓gI0_8, ↓gI0_15, ↓pI0_1, ↓pI0_7, ↓pI0_8, ↓pZ0_15, ↓gR0_0, ↓gR0_2, ↓gR0_3, ↓gR0_4, ↓gR0_5, ↓gR0_6, ↓gR0_9, ↓gR0_10, ↓gR0_11, ↓gR0_12, ↓gR0_13, ↓gR0_14, ↓aI1, ↓ln1, ↓aI14, ↓sZ14, ↓ln14, ↓aR13, ↓aR15, ↓c_I, ↓c_J, ↓c_Q, ↓c_V, ↓c_It, ↓c_Jt, ↓c_Vt, ↓k_I, ↓k_J, ↓n_I, ↓n_V, li0, li1, li2, li3, li4, li5, li6, li7, li8, li9, li10, li11, li12, li13, li14, li15, li16, li17, li18, li19, li20, li21, li22, li23, li24, li25, li26, li27, li28, li29, li30, li31, li32, li33, li34, li35, li36, li37, li38, li39, li40, li41, li42, li44, li48, li57, li63, li64, li65, li97, li99, li100, li101, li102, li104, li105, li106, li109, li114, li120, li128, li130, li300, li514, li999, li1000, li8192, li9999, li65536, li1000000, li1000001, li1000002, li1000003, li1000004, li1000005, li1000006, li1000007, li1000008, li1000009, li1000010, li1000011, li1000012, li1000013, li1000014, li1000015, li1000016, li1000017, li1000018, li1000019, li2147483647, lj0, lj1, W_add, W_sub, W_mul, W_neg, V_add, V_sub, V_mul, V_neg, W_ite, W_le, W_lt, W_inj, V_le, V_lt, V_inj, W_V, V_W, lgc_ge, lgc_gt, lgc_le, lgc_lt, lgc_eq, ge_iff_le, gt_iff_lt, a1, q, ↓reduceIte]
    rw [hgo]
    exact h.t (t := 1) (Or.inl rfl)
theorem q_undo (hA : okA S.1) (h : RWd I S) : RStp (f_X8_undo (Sx I J b c) 102) I J b c (if 0 < S.2.1 then S.2.1 - 1 else 0) (if 0 < S.2.1 then 0 else 1) (if 0 < S.2.1 then unS S else S) := by
  obtain ⟨⟨a1, a2, a3⟩, a7, a8, a9, a10⟩ := h.2
  by_cases q : 0 < S.2.1
  · rw [if_pos q, if_pos q, if_pos q]
    have q0 : ¬ (S.2.1 = 0) := by omega
    obtain ⟨I1, hI1⟩ : ∃ X, X = uI (uI I 102 0 0) 102 13 (S.2.1 - 1) := ⟨_, rfl⟩
    have e13 : uI I 102 0 0 102 13 = S.2.1 := by rw [u_ne (by omega)]; exact a1
    have r13 : I1 102 13 = S.2.1 - 1 := by rw [hI1, u_eq]
    have f1 : ∀ a : Int, a ≠ 102 → I1 a = I a := fun a ha => by rw [hI1, u_obj ha, u_obj ha]
    have hv : VR (I1 ((180 + (S.2.1 - 1).toNat : Nat) : Int)) (S.2.2.1 0) := by
      rw [show ((180 + (S.2.1 - 1).toNat : Nat) : Int) = 180 + (S.2.1 - 1 - 0) by omega, f1 _ (by omega)]
      exact a7 0 (by omega) q
    obtain ⟨I2, m1, m2, m3, m4⟩ := r_read (J := J) (b := b) (c := c) (R := 180 + (S.2.1 - 1).toNat) (by omega) (sh_I180 _ (by omega)) hv
    have s13 : I2 102 13 = S.2.1 - 1 := by rw [m3 13 (by omega) (by omega) (by omega), r13]
    refine ⟨I2, J, ?_, by rw [m3 0 (by omega) (by omega) (by omega), hI1, u_ne (by omega), u_eq], ⟨m2, ⟨s13, show 0 ≤ S.2.1 - 1 by omega, show S.2.1 - 1 ≤ 8 by omega⟩, fun j j0 j1 => ?_, fun s s0 s1 => ⟨by rw [m4 _ (by omega), f1 _ (by omega)]; exact (a8 s s0 s1).1, fun z => by rw [m4 _ (by omega), f1 _ (by omega)]; exact (a8 s s0 s1).2 z⟩, by rw [m3 15 (by omega) (by omega) (by omega), hI1, u_ne (by omega), u_ne (by omega)]; exact a9, fun k k0 k1 => by rw [m4 _ (by omega), f1 _ (by omega)]; exact a10 k k0 k1⟩, fun a ha => by rw [m4 _ (by omega), f1 _ (by omega)], fun _ _ => rfl⟩
    · simp (disch := first | assumption | omega) only [f_X8_undo, f_X8_undo_b14, ↓rc102, ↓gI102_0, ↓gI102_6, ↓gI102_8, ↓gI102_9, ↓gI102_13, ↓gI102_15, ↓gI102_16, ↓gI102_17, ↓gI102_18, ↓gI102_19, ↓gI102_27, ↓gI102_28, ↓gI102_29, ↓gJ102_39, ↓gJ102_40, ↓gJ102_41, ↓gJ102_42, ↓pI102_0, ↓pI102_6, ↓pI102_9, ↓pI102_13, ↓pI102_15, ↓pI102_16, ↓pI102_17, ↓pI102_27, ↓pI102_28, ↓pI102_29, ↓pZ102_8, ↓pZ102_18, ↓pZ102_19, ↓pJ102_39, ↓pJ102_40, ↓pJ102_41, ↓pJ102_42, ↓gR102_1, ↓gR102_2, ↓gR102_3, ↓gR102_4, ↓gR102_5, ↓gR102_7, ↓gR102_10, ↓gR102_11, ↓gR102_12, ↓gR102_14, ↓gR102_20, ↓gR102_21, ↓gR102_22, ↓gR102_23, ↓gR102_24, ↓gR102_25, ↓gR102_26, ↓gR102_30, ↓gR102_31, ↓gR102_32, ↓gR102_33, ↓gR102_34, ↓gR102_35, ↓gR102_36, ↓gR102_37, ↓gR102_38, ↓aI103, ↓sI103, ↓ln103, ↓aI137, ↓sI137, ↓ln137, ↓aI188, ↓sZ188, ↓ln188, ↓aI189, ↓ln189, ↓aI203, ↓sI203, ↓ln203, ↓aI217, ↓sZ217, ↓ln217, ↓aI218, ↓sI218, ↓ln218, ↓aI219, ↓sI219, ↓ln219, ↓aI220, ↓sZ220, ↓ln220, ↓aI221, ↓sZ221, ↓ln221, ↓aI229, ↓sI229, ↓ln229, ↓aI230, ↓sI230, ↓ln230, ↓aI231, ↓sI231, ↓ln231, ↓aI232, ↓sI232, ↓ln232, ↓aI233, ↓sI233, ↓ln233, ↓aI234, ↓sZ234, ↓ln234, ↓aI235, ↓sZ235, ↓ln235, ↓aR104, ↓aR131, ↓aR134, ↓aR138, ↓aR175, ↓aR179, ↓aR190, ↓aR204, ↓aR222, ↓aR105, ↓aR139, ↓aI106, ↓sI106, ↓lI106, ↓aI132, ↓sI132, ↓lI132, ↓aI135, ↓sI135, ↓lI135, ↓aI140, ↓sI140, ↓lI140, ↓aI176, ↓sI176, ↓lI176, ↓aI180, ↓sI180, ↓lI180, ↓aI191, ↓sI191, ↓lI191, ↓aI205, ↓sI205, ↓lI205, ↓aI223, ↓sI223, ↓lI223, ↓c_I, ↓c_J, ↓c_Q, ↓c_V, ↓c_It, ↓c_Jt, ↓c_Vt, ↓k_I, ↓k_J, ↓n_I, ↓n_V, li0, li1, li2, li3, li4, li5, li6, li7, li8, li9, li10, li11, li12, li13, li14, li15, li16, li17, li18, li19, li20, li21, li22, li23, li24, li25, li26, li27, li28, li29, li30, li31, li32, li33, li34, li35, li36, li37, li38, li39, li40, li41, li42, li44, li48, li57, li63, li64, li65, li97, li99, li100, li101, li102, li104, li105, li106, li109, li114, li120, li128, li130, li300, li514, li999, li1000, li8192, li9999, li65536, li1000000, li1000001, li1000002, li1000003, li1000004, li1000005, li1000006, li1000007, li1000008, li1000009, li1000010, li1000011, li1000012, li1000013, li1000014, li1000015, li1000016, li1000017, li1000018, li1000019, li2147483647, lj0, lj1, W_add, W_sub, W_mul, W_neg, V_add, V_sub, V_mul, V_neg, W_ite, W_le, W_lt, W_inj, V_le, V_lt, V_inj, W_V, V_W, lgc_ge, lgc_gt, lgc_le, lgc_lt, lgc_eq, ge_iff_le, gt_iff_lt, a1, q0, r_fails0, r_fails1, e13, ← hI1, r13, m1, s13, Int.reduceEq, ↓reduceIte]
    · have j1 : j < S.2.1 - 1 := j1
      show VR (I2 (180 + (S.2.1 - 1 - 1 - j))) (S.2.2.1 (j + 1))
      rw [m4 _ (by omega), f1 _ (by omega), show S.2.1 - 1 - 1 - j = S.2.1 - 1 - (j + 1) by omega]
      exact a7 (j + 1) (by omega) (by omega)
  · rw [if_neg q, if_neg q, if_neg q]
    have q0 : S.2.1 = 0 := by omega
    have hgo : f_X8_undo (Sx I J b c) 102 = some (Sx (uI I 102 0 1) J b c, xi (iW 0)) := by
      simp (disch := first | assumption | omega) only [f_X8_undo, f_X8_undo_b14, ↓rc102, ↓gI102_0, ↓gI102_6, ↓gI102_8, ↓gI102_9, ↓gI102_13, ↓gI102_15, ↓gI102_16, ↓gI102_17, ↓gI102_18, ↓gI102_19, ↓gI102_27, ↓gI102_28, ↓gI102_29, ↓gJ102_39, ↓gJ102_40, ↓gJ102_41, ↓gJ102_42, ↓pI102_0, ↓pI102_6, ↓pI102_9, ↓pI102_13, ↓pI102_15, ↓pI102_16, ↓pI102_17, ↓pI102_27, ↓pI102_28, ↓pI102_29, ↓pZ102_8, ↓pZ102_18, ↓pZ102_19, ↓pJ102_39, ↓pJ102_40, ↓pJ102_41, ↓pJ102_42, ↓gR102_1, ↓gR102_2, ↓gR102_3, ↓gR102_4, ↓gR102_5, ↓gR102_7, ↓gR102_10, ↓gR102_11, ↓gR102_12, ↓gR102_14, ↓gR102_20, ↓gR102_21, ↓gR102_22, ↓gR102_23, ↓gR102_24, ↓gR102_25, ↓gR102_26, ↓gR102_30, ↓gR102_31, ↓gR102_32, ↓gR102_33, ↓gR102_34, ↓gR102_35, ↓gR102_36, ↓gR102_37, ↓gR102_38, ↓aI103, ↓sI103, ↓ln103, ↓aI137, ↓sI137, ↓ln137, ↓aI188, ↓sZ188, ↓ln188, ↓aI189, ↓ln189, ↓aI203, ↓sI203, ↓ln203, ↓aI217, ↓sZ217, ↓ln217, ↓aI218, ↓sI218, ↓ln218, ↓aI219, ↓sI219, ↓ln219, ↓aI220, ↓sZ220, ↓ln220, ↓aI221, ↓sZ221, ↓ln221, ↓aI229, ↓sI229, ↓ln229, ↓aI230, ↓sI230, ↓ln230, ↓aI231, ↓sI231, ↓ln231, ↓aI232, ↓sI232, ↓ln232, ↓aI233, ↓sI233, ↓ln233, ↓aI234, ↓sZ234, ↓ln234, ↓aI235, ↓sZ235, ↓ln235, ↓aR104, ↓aR131, ↓aR134, ↓aR138, ↓aR175, ↓aR179, ↓aR190, ↓aR204, ↓aR222, ↓aR105, ↓aR139, ↓aI106, ↓sI106, ↓lI106, ↓aI132, ↓sI132, ↓lI132, ↓aI135, ↓sI135, ↓lI135, ↓aI140, ↓sI140, ↓lI140, ↓aI176, ↓sI176, ↓lI176, ↓aI180, ↓sI180, ↓lI180, ↓aI191, ↓sI191, ↓lI191, ↓aI205, ↓sI205, ↓lI205, ↓aI223, ↓sI223, ↓lI223, ↓c_I, ↓c_J, ↓c_Q, ↓c_V, ↓c_It, ↓c_Jt, ↓c_Vt, ↓k_I, ↓k_J, ↓n_I, ↓n_V, li0, li1, li2, li3, li4, li5, li6, li7, li8, li9, li10, li11, li12, li13, li14, li15, li16, li17, li18, li19, li20, li21, li22, li23, li24, li25, li26, li27, li28, li29, li30, li31, li32, li33, li34, li35, li36, li37, li38, li39, li40, li41, li42, li44, li48, li57, li63, li64, li65, li97, li99, li100, li101, li102, li104, li105, li106, li109, li114, li120, li128, li130, li300, li514, li999, li1000, li8192, li9999, li65536, li1000000, li1000001, li1000002, li1000003, li1000004, li1000005, li1000006, li1000007, li1000008, li1000009, li1000010, li1000011, li1000012, li1000013, li1000014, li1000015, li1000016, li1000017, li1000018, li1000019, li2147483647, lj0, lj1, W_add, W_sub, W_mul, W_neg, V_add, V_sub, V_mul, V_neg, W_ite, W_le, W_lt, W_inj, V_le, V_lt, V_inj, W_V, V_W, lgc_ge, lgc_gt, lgc_le, lgc_lt, lgc_eq, ge_iff_le, gt_iff_lt, a1, q0, r_fails0, r_fails1, Int.reduceEq, ↓reduceIte]
    rw [hgo]
    exact RStp.bad h
theorem s_C {a n : Nat} {z v : Int} {f : HP → Option XR} (h : SHL[a]? = some (101, n)) (hn : n ≤ 1000) (h0 : 0 ≤ z) (h1 : z < n) (v0 : 0 ≤ v) (v1 : v < 65536) : x_sC (Sx I J b c) a (iW z) (iW v) f = f (Sx (uI I a z v) J b c) := by
  unfold x_sC
  rw [if_pos ⟨i_x h h0 h1 hn, fits_C v0 v1⟩, W_clamp h0 (by omega), S_wI, Int.toNat_of_nonneg h0]
theorem sC1 {z v : Int} {f : HP → Option XR} (h0 : 0 ≤ z) (h1 : z < 120) (v0 : 0 ≤ v) (v1 : v < 65536) : x_sC (Sx I J b c) 1 (iW z) (iW v) f = f (Sx (uI I 1 z v) J b c) := s_C sh1 (by decide) h0 h1 v0 v1
theorem sC189 {z v : Int} {f : HP → Option XR} (h0 : 0 ≤ z) (h1 : z < 120) (v0 : 0 ≤ v) (v1 : v < 65536) : x_sC (Sx I J b c) 189 (iW z) (iW v) f = f (Sx (uI I 189 z v) J b c) := s_C sh189 (by decide) h0 h1 v0 v1
theorem x_feed (hS : okS S) (h : EW I S) {v : Int} (v0 : 0 ≤ v) (v1 : v < 65536) (E2 : String) :
    EStp (f_X7_feed (Sx I J b c) 0 (iW v)) I J c "java/lang/IllegalStateException" E2 (if S.2.2.2.2.2.1 < 120 then S.2.2.2.2.2.1 + 1 else 0) (if S.2.2.2.2.2.1 < 120 then 0 else 1) (if S.2.2.2.2.2.1 < 120 then fdS S v else S) := by
  have h' := h
  obtain ⟨g1, p, g2⟩ := h'
  obtain ⟨⟨a1, a2, a3, a4, a5, a6⟩, a7, a8, a9, a10⟩ := g2
  have hL := hS.2.2.2.2.1
  have n0 : ¬ (S.2.2.2.2.2.1 < 0) := by omega
  by_cases q : S.2.2.2.2.2.1 < 120
  · rw [if_pos q, if_pos q, if_pos q]
    have e1 : uI I 1 S.2.2.2.2.2.1 v 0 1 = S.2.2.2.2.2.1 := by rw [u_obj (by omega)]; exact a9
    refine ⟨uI (uI I 1 S.2.2.2.2.2.1 v) 0 1 (S.2.2.2.2.2.1 + 1), J, b, ?_, ⟨g1.fr (by rw [u_ne (by omega), u_obj (by omega)]) (fun a c0 c1 c2 => by rw [u_obj (by omega), u_obj (by omega)]), p, ⟨by rw [u_ne (by omega), u_obj (by omega)]; exact a1, by rw [u_ne (by omega), u_obj (by omega)]; exact a2, a3, a4, a5, a6⟩, fun j j0 j1 => (a7 j j0 j1).fr (fun a c0 c1 => by
      have : 0 ≤ rgp p j := by unfold rgp; omega
      rw [u_obj (by omega), u_obj (by omega)]), fun s s0 s1 => ⟨by rw [u_obj (by omega), u_obj (by omega)]; exact (a8 s s0 s1).1, fun z => ((a8 s s0 s1).2 z).fr (fun a c0 c1 => by rw [u_obj (by omega), u_obj (by omega)])⟩, u_eq, fun k k0 k1 => ?_⟩, fun a ha => by rw [u_obj (by omega), u_obj (by omega)], fun _ _ => rfl⟩
    · rw [if_pos rfl]
      simp (disch := first | assumption | omega) only [f_X7_feed, ↓rc0, ↓gI0_1, ↓gI0_7, ↓gI0_8, ↓gI0_15, ↓pI0_1, ↓pI0_7, ↓pI0_8, ↓pZ0_15, ↓gR0_0, ↓gR0_2, ↓gR0_3, ↓gR0_4, ↓gR0_5, ↓gR0_6, ↓gR0_9, ↓gR0_10, ↓gR0_11, ↓gR0_12, ↓gR0_13, ↓gR0_14, ↓aI1, ↓ln1, ↓aI14, ↓sZ14, ↓ln14, ↓aR13, ↓aR15, ↓c_I, ↓c_J, ↓c_Q, ↓c_V, ↓c_It, ↓c_Jt, ↓c_Vt, ↓k_I, ↓k_J, ↓n_I, ↓n_V, li0, li1, li2, li3, li4, li5, li6, li7, li8, li9, li10, li11, li12, li13, li14, li15, li16, li17, li18, li19, li20, li21, li22, li23, li24, li25, li26, li27, li28, li29, li30, li31, li32, li33, li34, li35, li36, li37, li38, li39, li40, li41, li42, li44, li48, li57, li63, li64, li65, li97, li99, li100, li101, li102, li104, li105, li106, li109, li114, li120, li128, li130, li300, li514, li999, li1000, li8192, li9999, li65536, li1000000, li1000001, li1000002, li1000003, li1000004, li1000005, li1000006, li1000007, li1000008, li1000009, li1000010, li1000011, li1000012, li1000013, li1000014, li1000015, li1000016, li1000017, li1000018, li1000019, li2147483647, lj0, lj1, W_add, W_sub, W_mul, W_neg, V_add, V_sub, V_mul, V_neg, W_ite, W_le, W_lt, W_inj, V_le, V_lt, V_inj, W_V, V_W, lgc_ge, lgc_gt, lgc_le, lgc_lt, lgc_eq, ge_iff_le, gt_iff_lt, a9, n0, q, sC1, e1, u_eq, ↓reduceIte]
    · have k1 : k < S.2.2.2.2.2.1 + 1 := k1
      rw [u_obj (by omega), u_at]
      show _ = if k = S.2.2.2.2.2.1 then v else S.2.2.2.2.2.2 k
      by_cases e : k = S.2.2.2.2.2.1
      · rw [if_pos e, if_pos e]
      · rw [if_neg e, if_neg e]
        exact a10 k k0 (by omega)
  · rw [if_neg q, if_neg q, if_neg q]
    have hgo : f_X7_feed (Sx I J b c) 0 (iW v) = some (Sx I J b false, xt "java/lang/IllegalStateException") := by
      simp (disch := first | assumption | omega) only [f_X7_feed, f_X7_feed_b19, S_dirty, ↓rc0, ↓gI0_1, ↓gI0_7, ↓gI0_8, ↓gI0_15, ↓pI0_1, ↓pI0_7, ↓pI0_8, ↓pZ0_15, ↓gR0_0, ↓gR0_2, ↓gR0_3, ↓gR0_4, ↓gR0_5, ↓gR0_6, ↓gR0_9, ↓gR0_10, ↓gR0_11, ↓gR0_12, ↓gR0_13, ↓gR0_14, ↓aI1, ↓ln1, ↓aI14, ↓sZ14, ↓ln14, ↓aR13, ↓aR15, ↓c_I, ↓c_J, ↓c_Q, ↓c_V, ↓c_It, ↓c_Jt, ↓c_Vt, ↓k_I, ↓k_J, ↓n_I, ↓n_V, li0, li1, li2, li3, li4, li5, li6, li7, li8, li9, li10, li11, li12, li13, li14, li15, li16, li17, li18, li19, li20, li21, li22, li23, li24, li25, li26, li27, li28, li29, li30, li31, li32, li33, li34, li35, li36, li37, li38, li39, li40, li41, li42, li44, li48, li57, li63, li64, li65, li97, li99, li100, li101, li102, li104, li105, li106, li109, li114, li120, li128, li130, li300, li514, li999, li1000, li8192, li9999, li65536, li1000000, li1000001, li1000002, li1000003, li1000004, li1000005, li1000006, li1000007, li1000008, li1000009, li1000010, li1000011, li1000012, li1000013, li1000014, li1000015, li1000016, li1000017, li1000018, li1000019, li2147483647, lj0, lj1, W_add, W_sub, W_mul, W_neg, V_add, V_sub, V_mul, V_neg, W_ite, W_le, W_lt, W_inj, V_le, V_lt, V_inj, W_V, V_W, lgc_ge, lgc_gt, lgc_le, lgc_lt, lgc_eq, ge_iff_le, gt_iff_lt, a9, n0, q, ↓reduceIte]
    rw [hgo]
    exact h.t (t := 1) (Or.inl rfl)
theorem q_feed (hS : okS S) (h : RWd I S) {v : Int} (v0 : 0 ≤ v) (v1 : v < 65536) :
    RStp (f_X8_feed (Sx I J b c) 102 (iW v)) I J b c (if S.2.2.2.2.2.1 < 120 then S.2.2.2.2.2.1 + 1 else 0) (if S.2.2.2.2.2.1 < 120 then 0 else 1) (if S.2.2.2.2.2.1 < 120 then fdS S v else S) := by
  obtain ⟨⟨a1, a2, a3⟩, a7, a8, a9, a10⟩ := h.2
  have hL := hS.2.2.2.2.1
  by_cases q : S.2.2.2.2.2.1 < 120
  · rw [if_pos q, if_pos q, if_pos q]
    have q0 : ¬ (S.2.2.2.2.2.1 = 120) := by omega
    have e0 : uI I 102 0 0 102 15 = S.2.2.2.2.2.1 := by rw [u_ne (by omega)]; exact a9
    have e1 : uI (uI I 102 0 0) 189 S.2.2.2.2.2.1 v 102 15 = S.2.2.2.2.2.1 := by rw [u_obj (by omega)]; exact e0
    refine ⟨uI (uI (uI I 102 0 0) 189 S.2.2.2.2.2.1 v) 102 15 (S.2.2.2.2.2.1 + 1), J, ?_, by rw [u_ne (by omega), u_obj (by omega), u_eq], ⟨h.1.fr (by rw [u_ne (by omega), u_obj (by omega), u_ne (by omega)]) (fun a c0 c1 => by rw [u_obj (by omega), u_obj (by omega), u_obj (by omega)]), ⟨by rw [u_ne (by omega), u_obj (by omega), u_ne (by omega)]; exact a1, a2, a3⟩, fun j j0 j1 => by have j1 : j < S.2.1 := j1; (show VR (uI (uI (uI I 102 0 0) 189 S.2.2.2.2.2.1 v) 102 15 (S.2.2.2.2.2.1 + 1) (180 + (S.2.1 - 1 - j))) (S.2.2.1 j)); rw [u_obj (by omega), u_obj (by omega), u_obj (by omega)]; exact a7 j j0 j1, fun s s0 s1 => ⟨by rw [u_obj (by omega), u_obj (by omega), u_obj (by omega)]; exact (a8 s s0 s1).1, fun z => by rw [u_obj (by omega), u_obj (by omega), u_obj (by omega)]; exact (a8 s s0 s1).2 z⟩, u_eq, fun k k0 k1 => ?_⟩, fun a ha => by rw [u_obj (by omega), u_obj (by omega), u_obj (by omega)], fun _ _ => rfl⟩
    · simp (disch := first | assumption | omega) only [f_X8_feed, f_X8_feed_b16, ↓rc102, ↓gI102_0, ↓gI102_6, ↓gI102_8, ↓gI102_9, ↓gI102_13, ↓gI102_15, ↓gI102_16, ↓gI102_17, ↓gI102_18, ↓gI102_19, ↓gI102_27, ↓gI102_28, ↓gI102_29, ↓gJ102_39, ↓gJ102_40, ↓gJ102_41, ↓gJ102_42, ↓pI102_0, ↓pI102_6, ↓pI102_9, ↓pI102_13, ↓pI102_15, ↓pI102_16, ↓pI102_17, ↓pI102_27, ↓pI102_28, ↓pI102_29, ↓pZ102_8, ↓pZ102_18, ↓pZ102_19, ↓pJ102_39, ↓pJ102_40, ↓pJ102_41, ↓pJ102_42, ↓gR102_1, ↓gR102_2, ↓gR102_3, ↓gR102_4, ↓gR102_5, ↓gR102_7, ↓gR102_10, ↓gR102_11, ↓gR102_12, ↓gR102_14, ↓gR102_20, ↓gR102_21, ↓gR102_22, ↓gR102_23, ↓gR102_24, ↓gR102_25, ↓gR102_26, ↓gR102_30, ↓gR102_31, ↓gR102_32, ↓gR102_33, ↓gR102_34, ↓gR102_35, ↓gR102_36, ↓gR102_37, ↓gR102_38, ↓aI103, ↓sI103, ↓ln103, ↓aI137, ↓sI137, ↓ln137, ↓aI188, ↓sZ188, ↓ln188, ↓aI189, ↓ln189, ↓aI203, ↓sI203, ↓ln203, ↓aI217, ↓sZ217, ↓ln217, ↓aI218, ↓sI218, ↓ln218, ↓aI219, ↓sI219, ↓ln219, ↓aI220, ↓sZ220, ↓ln220, ↓aI221, ↓sZ221, ↓ln221, ↓aI229, ↓sI229, ↓ln229, ↓aI230, ↓sI230, ↓ln230, ↓aI231, ↓sI231, ↓ln231, ↓aI232, ↓sI232, ↓ln232, ↓aI233, ↓sI233, ↓ln233, ↓aI234, ↓sZ234, ↓ln234, ↓aI235, ↓sZ235, ↓ln235, ↓aR104, ↓aR131, ↓aR134, ↓aR138, ↓aR175, ↓aR179, ↓aR190, ↓aR204, ↓aR222, ↓aR105, ↓aR139, ↓aI106, ↓sI106, ↓lI106, ↓aI132, ↓sI132, ↓lI132, ↓aI135, ↓sI135, ↓lI135, ↓aI140, ↓sI140, ↓lI140, ↓aI176, ↓sI176, ↓lI176, ↓aI180, ↓sI180, ↓lI180, ↓aI191, ↓sI191, ↓lI191, ↓aI205, ↓sI205, ↓lI205, ↓aI223, ↓sI223, ↓lI223, ↓c_I, ↓c_J, ↓c_Q, ↓c_V, ↓c_It, ↓c_Jt, ↓c_Vt, ↓k_I, ↓k_J, ↓n_I, ↓n_V, li0, li1, li2, li3, li4, li5, li6, li7, li8, li9, li10, li11, li12, li13, li14, li15, li16, li17, li18, li19, li20, li21, li22, li23, li24, li25, li26, li27, li28, li29, li30, li31, li32, li33, li34, li35, li36, li37, li38, li39, li40, li41, li42, li44, li48, li57, li63, li64, li65, li97, li99, li100, li101, li102, li104, li105, li106, li109, li114, li120, li128, li130, li300, li514, li999, li1000, li8192, li9999, li65536, li1000000, li1000001, li1000002, li1000003, li1000004, li1000005, li1000006, li1000007, li1000008, li1000009, li1000010, li1000011, li1000012, li1000013, li1000014, li1000015, li1000016, li1000017, li1000018, li1000019, li2147483647, lj0, lj1, W_add, W_sub, W_mul, W_neg, V_add, V_sub, V_mul, V_neg, W_ite, W_le, W_lt, W_inj, V_le, V_lt, V_inj, W_V, V_W, lgc_ge, lgc_gt, lgc_le, lgc_lt, lgc_eq, ge_iff_le, gt_iff_lt, a9, q0, r_fails0, r_fails1, e0, sC189, e1, u_eq, Int.reduceEq, ↓reduceIte]
    · have k1 : k < S.2.2.2.2.2.1 + 1 := k1
      rw [u_obj (by omega), u_at]
      show _ = if k = S.2.2.2.2.2.1 then v else S.2.2.2.2.2.2 k
      by_cases e : k = S.2.2.2.2.2.1
      · rw [if_pos e, if_pos e]
      · rw [if_neg e, if_neg e, u_obj (by omega)]
        exact a10 k k0 (by omega)
  · rw [if_neg q, if_neg q, if_neg q]
    have q0 : S.2.2.2.2.2.1 = 120 := by omega
    have hgo : f_X8_feed (Sx I J b c) 102 (iW v) = some (Sx (uI I 102 0 1) J b c, xi (iW 0)) := by
      simp (disch := first | assumption | omega) only [f_X8_feed, f_X8_feed_b16, ↓rc102, ↓gI102_0, ↓gI102_6, ↓gI102_8, ↓gI102_9, ↓gI102_13, ↓gI102_15, ↓gI102_16, ↓gI102_17, ↓gI102_18, ↓gI102_19, ↓gI102_27, ↓gI102_28, ↓gI102_29, ↓gJ102_39, ↓gJ102_40, ↓gJ102_41, ↓gJ102_42, ↓pI102_0, ↓pI102_6, ↓pI102_9, ↓pI102_13, ↓pI102_15, ↓pI102_16, ↓pI102_17, ↓pI102_27, ↓pI102_28, ↓pI102_29, ↓pZ102_8, ↓pZ102_18, ↓pZ102_19, ↓pJ102_39, ↓pJ102_40, ↓pJ102_41, ↓pJ102_42, ↓gR102_1, ↓gR102_2, ↓gR102_3, ↓gR102_4, ↓gR102_5, ↓gR102_7, ↓gR102_10, ↓gR102_11, ↓gR102_12, ↓gR102_14, ↓gR102_20, ↓gR102_21, ↓gR102_22, ↓gR102_23, ↓gR102_24, ↓gR102_25, ↓gR102_26, ↓gR102_30, ↓gR102_31, ↓gR102_32, ↓gR102_33, ↓gR102_34, ↓gR102_35, ↓gR102_36, ↓gR102_37, ↓gR102_38, ↓aI103, ↓sI103, ↓ln103, ↓aI137, ↓sI137, ↓ln137, ↓aI188, ↓sZ188, ↓ln188, ↓aI189, ↓ln189, ↓aI203, ↓sI203, ↓ln203, ↓aI217, ↓sZ217, ↓ln217, ↓aI218, ↓sI218, ↓ln218, ↓aI219, ↓sI219, ↓ln219, ↓aI220, ↓sZ220, ↓ln220, ↓aI221, ↓sZ221, ↓ln221, ↓aI229, ↓sI229, ↓ln229, ↓aI230, ↓sI230, ↓ln230, ↓aI231, ↓sI231, ↓ln231, ↓aI232, ↓sI232, ↓ln232, ↓aI233, ↓sI233, ↓ln233, ↓aI234, ↓sZ234, ↓ln234, ↓aI235, ↓sZ235, ↓ln235, ↓aR104, ↓aR131, ↓aR134, ↓aR138, ↓aR175, ↓aR179, ↓aR190, ↓aR204, ↓aR222, ↓aR105, ↓aR139, ↓aI106, ↓sI106, ↓lI106, ↓aI132, ↓sI132, ↓lI132, ↓aI135, ↓sI135, ↓lI135, ↓aI140, ↓sI140, ↓lI140, ↓aI176, ↓sI176, ↓lI176, ↓aI180, ↓sI180, ↓lI180, ↓aI191, ↓sI191, ↓lI191, ↓aI205, ↓sI205, ↓lI205, ↓aI223, ↓sI223, ↓lI223, ↓c_I, ↓c_J, ↓c_Q, ↓c_V, ↓c_It, ↓c_Jt, ↓c_Vt, ↓k_I, ↓k_J, ↓n_I, ↓n_V, li0, li1, li2, li3, li4, li5, li6, li7, li8, li9, li10, li11, li12, li13, li14, li15, li16, li17, li18, li19, li20, li21, li22, li23, li24, li25, li26, li27, li28, li29, li30, li31, li32, li33, li34, li35, li36, li37, li38, li39, li40, li41, li42, li44, li48, li57, li63, li64, li65, li97, li99, li100, li101, li102, li104, li105, li106, li109, li114, li120, li128, li130, li300, li514, li999, li1000, li8192, li9999, li65536, li1000000, li1000001, li1000002, li1000003, li1000004, li1000005, li1000006, li1000007, li1000008, li1000009, li1000010, li1000011, li1000012, li1000013, li1000014, li1000015, li1000016, li1000017, li1000018, li1000019, li2147483647, lj0, lj1, W_add, W_sub, W_mul, W_neg, V_add, V_sub, V_mul, V_neg, W_ite, W_le, W_lt, W_inj, V_le, V_lt, V_inj, W_V, V_W, lgc_ge, lgc_gt, lgc_le, lgc_lt, lgc_eq, ge_iff_le, gt_iff_lt, a9, q0, r_fails0, r_fails1, Int.reduceEq, ↓reduceIte]
    rw [hgo]
    exact RStp.bad h
end UndoW

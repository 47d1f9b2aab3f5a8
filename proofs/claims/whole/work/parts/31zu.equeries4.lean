/-! ===== the engine: definition, masks of unmet items, under a point ===== -/
section EQu4
variable {J : CF} {b : Nat} {c : Bool} {A I : CF}
theorem x_definition (h : ES I A) {x k s : Int} (x0 : -2147483648 ≤ x) (x1 : x ≤ 2147483647) (k0 : -2147483648 ≤ k) (k1 : k ≤ 2147483647) (s0 : -2147483648 ≤ s) (s1 : s ≤ 2147483647) :
    EAns (f_X7_definition (Sx I J b c) 0 (iW x) (iW k) (iW s)) I J b c A "java/lang/IllegalArgumentException" "java/lang/IndexOutOfBoundsException" (if (0 ≤ x ∧ x ≤ 1) ∧ (0 ≤ s ∧ s ≤ 4) then (if 1 ≤ k ∧ k ≤ nt A x then tpt A x k s else 0) else 0) (if (0 ≤ x ∧ x ≤ 1) ∧ (0 ≤ s ∧ s ≤ 4) then (if 1 ≤ k ∧ k ≤ nt A x then 0 else 2) else 1) := by
  have ea := e_chkAxis (I := I) (J := J) (b := b) (c := c) x0 x1
  have es := e_chkRange (I := I) (J := J) (b := b) (c := c) (v := s) (lo := 0) (hi := 4) s0 s1 (by omega) (by omega) (by omega) (by omega)
  by_cases qa : 0 ≤ x ∧ x ≤ 1
  · rw [if_pos qa] at ea
    by_cases qs : 0 ≤ s ∧ s ≤ 4
    · rw [if_pos qs] at es
      have qq : (0 ≤ x ∧ x ≤ 1) ∧ (0 ≤ s ∧ s ≤ 4) := ⟨qa, qs⟩
      rw [if_pos qq, if_pos qq]
      obtain ⟨I1, J1, m1, m2, m3, m4, m5, m6⟩ := e_laid (J := J) (b := b) (c := c) h qa
      have hnt := (plB_of h.1).2 x (by omega) (by omega)
      have et := e_chkTrack (J := J1) (b := b) (c := c) m5 qa (by omega) k0 k1
      by_cases qk : 1 ≤ k ∧ k ≤ nt A x
      · rw [if_pos qk] at et
        rw [if_pos qk, if_pos qk]
        have ez := e_trackPart (J := J1) (b := b) (c := c) h.1 m3.2.1 (ax := x) (k := k) (p := s) (by omega) (by omega) (by omega) (by omega) (by omega) (by omega)
        refine ⟨I1, J1, ?_, m3, m4, m6⟩
        rw [if_pos rfl]
        simp (disch := first | assumption | omega) only [f_X7_definition, ↓rc0, ↓gI0_1, ↓gI0_7, ↓gI0_8, ↓gI0_15, ↓pI0_1, ↓pI0_7, ↓pI0_8, ↓pZ0_15, ↓gR0_0, ↓gR0_2, ↓gR0_3, ↓gR0_4, ↓gR0_5, ↓gR0_6, ↓gR0_9, ↓gR0_10, ↓gR0_11, ↓gR0_12, ↓gR0_13, ↓gR0_14, ↓aI1, ↓ln1, ↓aI14, ↓sZ14, ↓ln14, ↓aR13, ↓aR15, ↓rc8, ↓gI8_4, ↓gI8_5, ↓gI8_6, ↓pI8_4, ↓pI8_5, ↓pZ8_6, ↓gR8_0, ↓gR8_1, ↓gR8_2, ↓gR8_3, ↓aI9, ↓sI9, ↓ln9, ↓aI10, ↓sI10, ↓ln10, ↓aI11, ↓sI11, ↓ln11, ↓aI12, ↓sI12, ↓ln12, ↓c_I, ↓c_J, ↓c_Q, ↓c_V, ↓c_It, ↓c_Jt, ↓c_Vt, ↓k_I, ↓k_J, ↓n_I, ↓n_V, li0, li1, li2, li3, li4, li5, li6, li7, li8, li9, li10, li11, li12, li13, li14, li15, li16, li17, li18, li19, li20, li21, li22, li23, li24, li25, li26, li27, li28, li29, li30, li31, li32, li33, li34, li35, li36, li37, li38, li39, li40, li41, li42, li44, li48, li57, li63, li64, li65, li97, li99, li100, li101, li102, li104, li105, li106, li109, li114, li120, li128, li130, li300, li514, li999, li1000, li8192, li9999, li65536, li1000000, li1000001, li1000002, li1000003, li1000004, li1000005, li1000006, li1000007, li1000008, li1000009, li1000010, li1000011, li1000012, li1000013, li1000014, li1000015, li1000016, li1000017, li1000018, li1000019, li2147483647, lj0, lj1, W_add, W_sub, W_mul, W_neg, V_add, V_sub, V_mul, V_neg, W_ite, ea, es, m1, et, ez]
      · rw [if_neg qk] at et
        rw [if_neg qk, if_neg qk]
        refine ⟨I1, J1, ?_, m3, m4, m6⟩
        rw [if_neg (by decide), if_neg (by decide)]
        simp (disch := first | assumption | omega) only [f_X7_definition, ↓rc0, ↓gI0_1, ↓gI0_7, ↓gI0_8, ↓gI0_15, ↓pI0_1, ↓pI0_7, ↓pI0_8, ↓pZ0_15, ↓gR0_0, ↓gR0_2, ↓gR0_3, ↓gR0_4, ↓gR0_5, ↓gR0_6, ↓gR0_9, ↓gR0_10, ↓gR0_11, ↓gR0_12, ↓gR0_13, ↓gR0_14, ↓aI1, ↓ln1, ↓aI14, ↓sZ14, ↓ln14, ↓aR13, ↓aR15, ↓c_I, ↓c_J, ↓c_Q, ↓c_V, ↓c_It, ↓c_Jt, ↓c_Vt, ↓k_I, ↓k_J, ↓n_I, ↓n_V, li0, li1, li2, li3, li4, li5, li6, li7, li8, li9, li10, li11, li12, li13, li14, li15, li16, li17, li18, li19, li20, li21, li22, li23, li24, li25, li26, li27, li28, li29, li30, li31, li32, li33, li34, li35, li36, li37, li38, li39, li40, li41, li42, li44, li48, li57, li63, li64, li65, li97, li99, li100, li101, li102, li104, li105, li106, li109, li114, li120, li128, li130, li300, li514, li999, li1000, li8192, li9999, li65536, li1000000, li1000001, li1000002, li1000003, li1000004, li1000005, li1000006, li1000007, li1000008, li1000009, li1000010, li1000011, li1000012, li1000013, li1000014, li1000015, li1000016, li1000017, li1000018, li1000019, li2147483647, lj0, lj1, W_add, W_sub, W_mul, W_neg, V_add, V_sub, V_mul, V_neg, W_ite, ea, es, m1, et]
    · rw [if_neg qs] at es
      rw [if_neg (fun z => qs z.2), if_neg (fun z => qs z.2)]
      refine ⟨I, J, ?_, h, EQ.rf, fun _ _ _ => rfl⟩
      rw [if_neg (by decide), if_pos rfl]
      simp (disch := first | assumption | omega) only [f_X7_definition, ↓rc0, ↓gI0_1, ↓gI0_7, ↓gI0_8, ↓gI0_15, ↓pI0_1, ↓pI0_7, ↓pI0_8, ↓pZ0_15, ↓gR0_0, ↓gR0_2, ↓gR0_3, ↓gR0_4, ↓gR0_5, ↓gR0_6, ↓gR0_9, ↓gR0_10, ↓gR0_11, ↓gR0_12, ↓gR0_13, ↓gR0_14, ↓aI1, ↓ln1, ↓aI14, ↓sZ14, ↓ln14, ↓aR13, ↓aR15, ↓c_I, ↓c_J, ↓c_Q, ↓c_V, ↓c_It, ↓c_Jt, ↓c_Vt, ↓k_I, ↓k_J, ↓n_I, ↓n_V, li0, li1, li2, li3, li4, li5, li6, li7, li8, li9, li10, li11, li12, li13, li14, li15, li16, li17, li18, li19, li20, li21, li22, li23, li24, li25, li26, li27, li28, li29, li30, li31, li32, li33, li34, li35, li36, li37, li38, li39, li40, li41, li42, li44, li48, li57, li63, li64, li65, li97, li99, li100, li101, li102, li104, li105, li106, li109, li114, li120, li128, li130, li300, li514, li999, li1000, li8192, li9999, li65536, li1000000, li1000001, li1000002, li1000003, li1000004, li1000005, li1000006, li1000007, li1000008, li1000009, li1000010, li1000011, li1000012, li1000013, li1000014, li1000015, li1000016, li1000017, li1000018, li1000019, li2147483647, lj0, lj1, W_add, W_sub, W_mul, W_neg, V_add, V_sub, V_mul, V_neg, W_ite, ea, es]
  · rw [if_neg qa] at ea
    rw [if_neg (fun z => qa z.1), if_neg (fun z => qa z.1)]
    refine ⟨I, J, ?_, h, EQ.rf, fun _ _ _ => rfl⟩
    rw [if_neg (by decide), if_pos rfl]
    simp (disch := first | assumption | omega) only [f_X7_definition, ↓rc0, ↓gI0_1, ↓gI0_7, ↓gI0_8, ↓gI0_15, ↓pI0_1, ↓pI0_7, ↓pI0_8, ↓pZ0_15, ↓gR0_0, ↓gR0_2, ↓gR0_3, ↓gR0_4, ↓gR0_5, ↓gR0_6, ↓gR0_9, ↓gR0_10, ↓gR0_11, ↓gR0_12, ↓gR0_13, ↓gR0_14, ↓aI1, ↓ln1, ↓aI14, ↓sZ14, ↓ln14, ↓aR13, ↓aR15, ↓c_I, ↓c_J, ↓c_Q, ↓c_V, ↓c_It, ↓c_Jt, ↓c_Vt, ↓k_I, ↓k_J, ↓n_I, ↓n_V, li0, li1, li2, li3, li4, li5, li6, li7, li8, li9, li10, li11, li12, li13, li14, li15, li16, li17, li18, li19, li20, li21, li22, li23, li24, li25, li26, li27, li28, li29, li30, li31, li32, li33, li34, li35, li36, li37, li38, li39, li40, li41, li42, li44, li48, li57, li63, li64, li65, li97, li99, li100, li101, li102, li104, li105, li106, li109, li114, li120, li128, li130, li300, li514, li999, li1000, li8192, li9999, li65536, li1000000, li1000001, li1000002, li1000003, li1000004, li1000005, li1000006, li1000007, li1000008, li1000009, li1000010, li1000011, li1000012, li1000013, li1000014, li1000015, li1000016, li1000017, li1000018, li1000019, li2147483647, lj0, lj1, W_add, W_sub, W_mul, W_neg, V_add, V_sub, V_mul, V_neg, W_ite, ea]
end EQu4

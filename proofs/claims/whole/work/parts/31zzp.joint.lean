/-! ===== both parsers, step by step together ===== -/
/-- K: the steps that the engine has left; tl: what is known where a list or a track ends well -/
def JC (Ie Ir J J' : CF) (b : Nat) (c c' : Bool) (L : Int) (K x2 p n : Int) (OS OC : Int → Int) (eng rf : Option XR) (tl : Int → Prop) : Prop :=
  ∃ (p' f' z' : Int) (g' : Int → Int) (R' : CF) (n' : Int), rf = some (Sx (RPS Ir p' f' z' g' R') J' b c', xi (iW n')) ∧ okP L (p', f') ∧ p ≤ p' ∧ (z' = 0 ∨ z' = 1) ∧ n ≤ n' ∧ n' ≤ 1000 ∧
    (f' = 1 → ∃ (nm kd zz cn oc : Int) (gg PT OS' OC' : Int → Int), eng = some (Sx (EPS Ie p' nm kd zz cn oc gg PT OS' OC') J 1 c, xi (iW 0))) ∧
    (f' = 0 → tl p' ∧ ∃ (F' : Nat) (x3' : Int) (f0' : Nat) (nm kd cn : Int) (gg PT OS' OC' : Int → Int), eng = aftR (f_X6_parse_L50 F') (iW x3') (f_X6_closeRepeats_L0 f0' (Sx (EPS Ie p' nm kd z' cn x2 gg PT OS' OC') J 1 c) 2) ∧ CR z' cn n' PT R' ∧ (∀ k, 0 ≤ k → k < x2 → OS' k = OS k ∧ OC' k = OC k) ∧ (F' : Int) + x3' + 1 = K ∧ 0 ≤ x3' ∧ x3' ≤ p' ∧ (FU : Int) + x2 ≤ (f0' : Int) + 4)
section Joint
variable {J J' : CF} {b : Nat} {c c' : Bool} {Ie Ir : CF} {L : Int} {T : Int → Int}
theorem CR.bd {z cn n : Int} {PT : Int → Int} {R : CF} (h : CR z cn n PT R) : (0 ≤ cn ∧ cn ≤ 13) ∧ 0 ≤ n ∧ n ≤ 1000 := by
  obtain ⟨h1, h2, h3, h4, h5⟩ := h
  omega
theorem j_trk (hTe : TXe Ie L T) (hTr : TXr Ir L T) {rl0 : HP → Nat → Int32 → Int32 → Option XR} {x2 : Int} (x0 : 0 ≤ x2) (x1 : x2 ≤ 4)
    (ih : x2 < 4 → ∀ (p z n cn nm kd : Int) (g : Int → Int) (R : CF) (ge PT OS OC : Int → Int) (F : Nat) (x3 : Int), 0 ≤ p → p ≤ L → (z = 0 ∨ z = 1) → CR z cn n PT R → 0 ≤ x3 → x3 ≤ p → 1000 ≤ (F : Int) + x3 → JC Ie Ir J J' b c c' L (F + x3) (x2 + 1) p n OS OC (f_X6_parse_L50 F (Sx (EPS Ie p nm kd z cn (x2 + 1) ge PT OS OC) J 1 c) 2 (iW x3)) (f_X8_readList (f_X8_readTrack rl0) (Sx (RPS Ir p 0 z g R) J' b c') 102 (iW n) (iW (x2 + 1))) (fun p' => ¬ sn T L (p', 0) 32))
    (p z n cn nm kd : Int) (g : Int → Int) (R : CF) (ge PT OS OC : Int → Int) (F : Nat) (x3 : Int) (p0 : 0 ≤ p) (p1 : p ≤ L) (hz : z = 0 ∨ z = 1) (hC : CR z cn n PT R) (t0 : 0 ≤ x3) (t1 : x3 ≤ p) (hF : 1000 ≤ (F : Int) + x3) :
    JC Ie Ir J J' b c c' L (F + x3) x2 p n OS OC (f_X6_parse_L50 F (Sx (EPS Ie p nm kd z cn x2 ge PT OS OC) J 1 c) 2 (iW x3)) (f_X8_readTrack (f_X8_readList (f_X8_readTrack rl0)) (Sx (RPS Ir p 0 z g R) J' b c') 102 (iW n) (iW x2)) (fun _ => True) := by
  have hs : okP L (p, 0) := ⟨p0, p1, Or.inl rfl⟩
  have hL := hTe.2.1
  have hcb := hC.bd
  obtain ⟨F1, rfl⟩ : ∃ F1, F = F1 + 1 := ⟨F - 1, by omega⟩
  have heng : f_X6_parse_L50 (F1 + 1) (Sx (EPS Ie p nm kd z cn x2 ge PT OS OC) J 1 c) 2 (iW x3) = f_X6_parse_b50 (f_X6_parse_L50 F1) (Sx (EPS Ie p nm kd z cn x2 ge PT OS OC) J 1 c) 2 (iW x3) := rfl
  have e1 := e_next (J := J) (c := c) (nm := nm) (kd := kd) (z := z) (cn := cn) (oc := x2) (g := ge) (PT := PT) (OS := OS) (OC := OC) hTe p0 p1 (ch := 114) (by omega) (by omega)
  have n3 : ¬ (L < x3) := by omega
  have tt1 := hTe.1
  by_cases q : sn T L (p, 0) 114
  · rw [bb_pos q] at e1
    have hk := hd_ok (T := T) (d := x2) hs
    obtain ⟨nm', eo⟩ := e_open (J := J) (c := c) (I := Ie) (nm := nm) (kd := kd) (z := z) (cn := cn) (oc := x2) (g := ge) (PT := PT) (OS := OS) (OC := OC) hTe p0 p1 x0 x1
    have hpl : p + 1 ≤ (hdS T L x2 (p, 0)).1 := by
      have h1 : wS T L [114, 101, 112, 101, 97, 116] (p, 0) = wS T L [101, 112, 101, 97, 116] (p + 1, 0) := by
        show wS T L [101, 112, 101, 97, 116] (mS T L 114 (p, 0)) = _
        unfold mS
        rw [cif_pos q]
      have hq1 : p < L := q.2.1
      have h2 := wS_ok (T := T) [101, 112, 101, 97, 116] (show okP L (p + 1, 0) from ⟨show 0 ≤ p + 1 by omega, show p + 1 ≤ L by omega, Or.inl rfl⟩)
      rw [← h1] at h2
      have h3 : p + 1 ≤ (hd0 T L x2 (p, 0)).1 := by
        unfold hd0
        split
        · exact h2.2.1
        · exact h2.2.1
      have h4 := mS_ok (T := T) (ch := 40) hk.1
      have h5 := nS_ok (T := T) hk.2.1
      have h6 := mS_ok (T := T) (ch := 44) hk.2.2.1
      exact Int.le_trans h3 (Int.le_trans h4.2.1 (Int.le_trans h5.2.1 h6.2.1))
    by_cases qs : (hdS T L x2 (p, 0)).2 = 0
    · rw [if_pos qs] at eo
      have x24 : x2 < 4 := by
        apply Classical.byContradiction
        intro hn
        have h4 : x2 = 4 := by omega
        have h0 : hd0 T L x2 (p, 0) = ((wS T L [114, 101, 112, 101, 97, 116] (p, 0)).1, 1) := if_pos h4
        have : (hdS T L x2 (p, 0)).2 = 1 := by
          unfold hdS hdN
          rw [h0, mS_1, nS_f rfl, mS_1]
        omega
      have hgo : f_X6_parse_L50 (F1 + 1) (Sx (EPS Ie p nm kd z cn x2 ge PT OS OC) J 1 c) 2 (iW x3) = f_X6_parse_L50 F1 (Sx (EPS Ie (hdS T L x2 (p, 0)).1 nm' kd z cn (x2 + 1) ge PT (ug OS x2 cn) (ug OC x2 (hdN T L x2 (p, 0)).2)) J 1 c) 2 (iW (x3 + 1)) := by
        rw [heng]
        simp (disch := first | assumption | omega) only [f_X6_parse_b50, f_X6_parse_b128, ↓rc2, ↓gI2_1, ↓gI2_2, ↓gI2_3, ↓gI2_4, ↓gI2_5, ↓gI2_6, ↓gI2_9, ↓pI2_1, ↓pI2_2, ↓pI2_3, ↓pI2_4, ↓pI2_6, ↓pI2_9, ↓pZ2_5, ↓gR2_0, ↓gR2_7, ↓gR2_8, ↓gR2_10, ↓gR2_11, ↓aI3, ↓ln3, ↓aI4, ↓sI4, ↓ln4, ↓aI5, ↓sI5, ↓ln5, ↓aI6, ↓sI6, ↓ln6, ↓aI7, ↓sI7, ↓ln7, ↓c_I, ↓c_J, ↓c_Q, ↓c_V, ↓c_It, ↓c_Jt, ↓c_Vt, ↓k_I, ↓k_J, ↓n_I, ↓n_V, li0, li1, li2, li3, li4, li5, li6, li7, li8, li9, li10, li11, li12, li13, li14, li15, li16, li17, li18, li19, li20, li21, li22, li23, li24, li25, li26, li27, li28, li29, li30, li31, li32, li33, li34, li35, li36, li37, li38, li39, li40, li41, li42, li44, li48, li57, li63, li64, li65, li97, li99, li100, li101, li102, li104, li105, li106, li109, li114, li120, li128, li130, li300, li514, li999, li1000, li8192, li9999, li65536, li1000000, li1000001, li1000002, li1000003, li1000004, li1000005, li1000006, li1000007, li1000008, li1000009, li1000010, li1000011, li1000012, li1000013, li1000014, li1000015, li1000016, li1000017, li1000018, li1000019, li2147483647, lj0, lj1, W_add, W_sub, W_mul, W_neg, V_add, V_sub, V_mul, V_neg, W_ite, W_le, W_lt, W_inj, V_le, V_lt, V_inj, W_V, V_W, lgc_ge, lgc_gt, lgc_le, lgc_lt, lgc_eq, ge_iff_le, gt_iff_lt, ep1, tt1, n3, e1, eo, Int.reduceEq, ↓reduceIte]
      rw [hgo]
      have hj := ih x24 (hdS T L x2 (p, 0)).1 z n cn nm' kd g R ge PT (ug OS x2 cn) (ug OC x2 (hdN T L x2 (p, 0)).2) F1 (x3 + 1) hk.2.2.2.1.1 hk.2.2.2.1.2.1 hz hC (by omega) (by omega) (by omega)
      obtain ⟨p6, f6, z6, g6, R6, n6, a1, a2, a3, a4, a5, a6, a7, a8⟩ := hj
      have a1' : f_X8_readList (f_X8_readTrack rl0) (Sx (RPS Ir (hdS T L x2 (p, 0)).1 (hdS T L x2 (p, 0)).2 z g R) J' b c') 102 (iW n) (iW (x2 + 1)) = some (Sx (RPS Ir (p6, f6).1 (p6, f6).2 z6 g6 R6) J' b c', xi (iW n6)) := by
        rw [qs]
        exact a1
      obtain ⟨R', w1, w2⟩ := r_trkR (J := J') (b := b) (c := c') (rl := f_X8_readList (f_X8_readTrack rl0)) hTr hs hz hcb.2.1 x0 x1 q a2 a5 a6 a1'
      have w1 : f_X8_readTrack (f_X8_readList (f_X8_readTrack rl0)) (Sx (RPS Ir p 0 z g R) J' b c') 102 (iW n) (iW x2) = some (Sx (RPS Ir (mS T L 41 (p6, f6)).1 (mS T L 41 (p6, f6)).2 z6 g6 R') J' b c', xi (iW (min 1000 (n + (hdN T L x2 (p, 0)).2 * (n6 - n))))) := w1
      have hm0 : 0 ≤ (hdN T L x2 (p, 0)).2 * (n6 - n) := Int.mul_nonneg hk.2.2.2.2.2.1 (by omega)
      have hm41 := mS_ok (T := T) (ch := 41) a2
      rcases a2.2.2 with hf | hf
      · have hf : f6 = 0 := hf
        subst hf
        obtain ⟨b0, F', x3', f0', nm2, kd2, cn2, gg2, PT2, OS2, OC2, b1, b2, b3, b4, b5, b6, b7⟩ := a8 rfl
        have a2' : 0 ≤ p6 ∧ p6 ≤ L ∧ _ := a2
        by_cases q41 : sn T L (p6, 0) 41
        · have hm : mS T L 41 (p6, 0) = (p6 + 1, 0) := by
            unfold mS
            rw [cif_pos q41]
          rw [hm] at w1 hm41
          have hO := b3 x2 x0 (by omega)
          have hse : OS2 x2 = cn := hO.1.trans (by unfold ug; rw [if_pos rfl])
          have hcc : OC2 x2 = (hdN T L x2 (p, 0)).2 := hO.2.trans (by unfold ug; rw [if_pos rfl])
          obtain ⟨cn3, PT3, c1, c2⟩ := e_copyTracks (J := J) (c := c) (I := Ie) (p := p6 + 1) (nm := nm2) (kd := kd2) (z := z6) (oc := x2) (g := gg2) (OS := OS2) (OC := OC2) b2 hcb.2.1 a5 (show (cn = n ∧ n ≤ 12) ∨ (cn = 13 ∧ 13 ≤ n) from hC.1) hk.2.2.2.2.2.1 hk.2.2.2.2.2.2 w2
          obtain ⟨f1, hf1⟩ : ∃ f1, f0' = f1 + 1 := ⟨f0' - 1, by unfold FU at b7; omega⟩
          have hcl := e_closeY (J := J) (c := c) (nm := nm2) (kd := kd2) (z := z6) (cn := cn2) (oc := x2 + 1) (g := gg2) (PT := PT2) (OS := OS2) (OC := OC2) (cn' := cn3) (PT' := PT3) hTe a2'.1 a2'.2.1 (by omega) (by omega) q41 (by rw [show x2 + 1 - 1 = x2 by omega, hse, hcc]; exact c1) f1
          rw [show x2 + 1 - 1 = x2 by omega] at hcl
          refine ⟨p6 + 1, 0, z6, g6, R', min 1000 (n + (hdN T L x2 (p, 0)).2 * (n6 - n)), w1, hm41.1, by omega, a4, by omega, by omega, fun h => absurd h (by decide), fun _ => ⟨trivial, F', x3', f1, nm2, kd2, cn3, gg2, PT3, OS2, OC2, ?_, c2, fun k k0 k1 => ?_, by omega, b5, by omega, by omega⟩⟩
          · rw [b1, hf1, hcl]
          · have := b3 k k0 (by omega)
            unfold ug at this
            rw [if_neg (by omega), if_neg (by omega)] at this
            exact this
        · have hm : mS T L 41 (p6, 0) = (p6, 1) := by
            unfold mS
            rw [cif_neg q41]
          rw [hm] at w1
          have hbad := aft_bad (J := J) (c := c) (nm := nm2) (kd := kd2) (z := z6) (cn := cn2) (oc := x2 + 1) (g := gg2) (PT := PT2) (OS := OS2) (OC := OC2) hTe a2'.1 a2'.2.1 (by omega) (by omega) (Or.inr q41) b0 (Or.inr (by omega)) (k50 := f_X6_parse_L50 F') (x3 := iW x3') (f0 := f0') (by unfold FU at b7; omega)
          exact ⟨p6, 1, z6, g6, R', min 1000 (n + (hdN T L x2 (p, 0)).2 * (n6 - n)), w1, ⟨a2'.1, a2'.2.1, Or.inr rfl⟩, by omega, a4, by omega, by omega, fun _ => ⟨nm2, kd2, z6, cn2, x2 + 1, gg2, PT2, OS2, OC2, by rw [b1]; exact hbad⟩, fun h => absurd h (by decide)⟩
      · have hf : f6 = 1 := hf
        subst hf
        have a2' : 0 ≤ p6 ∧ p6 ≤ L ∧ _ := a2
        rw [mS_1] at w1
        exact ⟨p6, 1, z6, g6, R', min 1000 (n + (hdN T L x2 (p, 0)).2 * (n6 - n)), w1, a2, by omega, a4, by omega, by omega, fun _ => a7 rfl, fun h => absurd h (by decide)⟩
    · rw [if_neg qs] at eo
      have hf1 : (hdS T L x2 (p, 0)).2 = 1 := by
        have := hk.2.2.2.1.2.2
        omega
      obtain ⟨g6, R6, a1⟩ := r_listF (J := J') (b := b) (c := c') (g := g) (R := R) (rl := rl0) (x2 := x2 + 1) hTr hk.2.2.2.1 hf1 hz hcb.2.1 hcb.2.2
      obtain ⟨R', w1, w2⟩ := r_trkR (J := J') (b := b) (c := c') (rl := f_X8_readList (f_X8_readTrack rl0)) hTr hs hz hcb.2.1 x0 x1 q hk.2.2.2.1 (show n ≤ min 1000 (n + 1) by omega) (by omega) a1
      rw [mS_f hf1] at w1
      have hm0 : 0 ≤ (hdN T L x2 (p, 0)).2 * (min 1000 (n + 1) - n) := Int.mul_nonneg hk.2.2.2.2.2.1 (by omega)
      refine ⟨(hdS T L x2 (p, 0)).1, (hdS T L x2 (p, 0)).2, z, g6, R', _, w1, hk.2.2.2.1, by omega, hz, by omega, by omega, fun _ => ⟨nm', kd, z, cn, x2, ge, PT, OS, OC, ?_⟩, fun h => absurd h qs⟩
      rw [heng]
      simp (disch := first | assumption | omega) only [f_X6_parse_b50, ↓rc2, ↓gI2_1, ↓gI2_2, ↓gI2_3, ↓gI2_4, ↓gI2_5, ↓gI2_6, ↓gI2_9, ↓pI2_1, ↓pI2_2, ↓pI2_3, ↓pI2_4, ↓pI2_6, ↓pI2_9, ↓pZ2_5, ↓gR2_0, ↓gR2_7, ↓gR2_8, ↓gR2_10, ↓gR2_11, ↓aI3, ↓ln3, ↓aI4, ↓sI4, ↓ln4, ↓aI5, ↓sI5, ↓ln5, ↓aI6, ↓sI6, ↓ln6, ↓aI7, ↓sI7, ↓ln7, ↓c_I, ↓c_J, ↓c_Q, ↓c_V, ↓c_It, ↓c_Jt, ↓c_Vt, ↓k_I, ↓k_J, ↓n_I, ↓n_V, li0, li1, li2, li3, li4, li5, li6, li7, li8, li9, li10, li11, li12, li13, li14, li15, li16, li17, li18, li19, li20, li21, li22, li23, li24, li25, li26, li27, li28, li29, li30, li31, li32, li33, li34, li35, li36, li37, li38, li39, li40, li41, li42, li44, li48, li57, li63, li64, li65, li97, li99, li100, li101, li102, li104, li105, li106, li109, li114, li120, li128, li130, li300, li514, li999, li1000, li8192, li9999, li65536, li1000000, li1000001, li1000002, li1000003, li1000004, li1000005, li1000006, li1000007, li1000008, li1000009, li1000010, li1000011, li1000012, li1000013, li1000014, li1000015, li1000016, li1000017, li1000018, li1000019, li2147483647, lj0, lj1, W_add, W_sub, W_mul, W_neg, V_add, V_sub, V_mul, V_neg, W_ite, W_le, W_lt, W_inj, V_le, V_lt, V_inj, W_V, V_W, lgc_ge, lgc_gt, lgc_le, lgc_lt, lgc_eq, ge_iff_le, gt_iff_lt, ep1, tt1, n3, e1, eo, Int.reduceEq, ↓reduceIte, r_Z]
  · rw [bb_neg q] at e1
    obtain ⟨R', w1, w2⟩ := r_trkS (J := J') (b := b) (c := c') (g := g) (R := R) (rl := f_X8_readList (f_X8_readTrack rl0)) (x2 := x2) hTr hs hz hcb.2.1 hcb.2.2 q
    obtain ⟨nm', kd', z', g', a1, a2, a3⟩ := e_simple (J := J) (c := c) (I := Ie) (nm := nm) (kd := kd) (z := z) (cn := cn) (oc := x2) (g := ge) (PT := PT) (OS := OS) (OC := OC) (gr := g) hTe p0 p1 hz
    have hK := rTrk_K (T := T) (g := g) hs hz
    have hV := rTrk_v (T := T) (g := g) hs hz
    generalize rTrk T L (p, 0) z g = r at w1 w2 a1 a3 hK hV
    obtain ⟨⟨p2, f2⟩, zr, gq⟩ := r
    have hp2 : 0 ≤ p2 ∧ p2 ≤ L ∧ (f2 = 0 ∨ f2 = 1) := hK.1
    have hpp : p ≤ p2 := hK.2.1
    have w1 : f_X8_readTrack (f_X8_readList (f_X8_readTrack rl0)) (Sx (RPS Ir p 0 z g R) J' b c') 102 (iW n) (iW x2) = some (Sx (RPS Ir p2 f2 zr gq R') J' b c', xi (iW (min 1000 (n + 1)))) := w1
    rcases hp2.2.2 with rfl | rfl
    · obtain ⟨b1, b2⟩ := a3 rfl
      have b1 : z' = zr := b1
      subst b1
      have a1 : f_X6_parseSimple (Sx (EPS Ie p nm kd z cn x2 ge PT OS OC) J 1 c) 2 = some (Sx (EPS Ie p2 nm' kd' z' cn x2 g' PT OS OC) J 1 c, xi (iW (bb ((0 : Int) = 0)))) := a1
      rw [bb_pos rfl] at a1
      have ea := e_addTrack (J := J) (c := c) (I := Ie) (p := p2) (nm := nm') (kd := kd') (z := z') (cn := cn) (oc := x2) (g := g') (PT := PT) (OS := OS) (OC := OC) hcb.1.1 hcb.1.2
      have hcr := hC.add (hV.1 rfl) hV.2 b2 w2
      refine ⟨p2, 0, z', gq, R', min 1000 (n + 1), w1, hK.1, hpp, a2, by omega, by omega, fun h => absurd h (by decide), fun _ => ⟨trivial, F1, x3, FU, nm', kd', _, g', _, OS, OC, ?_, hcr, fun k _ _ => ⟨rfl, rfl⟩, by omega, t0, by omega, by omega⟩⟩
      rw [heng]
      generalize (fun j => if cn < 13 ∧ cn * 5 ≤ j ∧ j < cn * 5 + 5 then g' (j - cn * 5) else PT j) = PT1 at ea ⊢
      generalize (if cn < 13 then cn + 1 else cn) = cn1 at ea ⊢
      simp (disch := first | assumption | omega) only [f_X6_parse_b50, f_X6_closeRepeats, aftR, ↓rc2, ↓gI2_1, ↓gI2_2, ↓gI2_3, ↓gI2_4, ↓gI2_5, ↓gI2_6, ↓gI2_9, ↓pI2_1, ↓pI2_2, ↓pI2_3, ↓pI2_4, ↓pI2_6, ↓pI2_9, ↓pZ2_5, ↓gR2_0, ↓gR2_7, ↓gR2_8, ↓gR2_10, ↓gR2_11, ↓aI3, ↓ln3, ↓aI4, ↓sI4, ↓ln4, ↓aI5, ↓sI5, ↓ln5, ↓aI6, ↓sI6, ↓ln6, ↓aI7, ↓sI7, ↓ln7, ↓c_I, ↓c_J, ↓c_Q, ↓c_V, ↓c_It, ↓c_Jt, ↓c_Vt, ↓k_I, ↓k_J, ↓n_I, ↓n_V, li0, li1, li2, li3, li4, li5, li6, li7, li8, li9, li10, li11, li12, li13, li14, li15, li16, li17, li18, li19, li20, li21, li22, li23, li24, li25, li26, li27, li28, li29, li30, li31, li32, li33, li34, li35, li36, li37, li38, li39, li40, li41, li42, li44, li48, li57, li63, li64, li65, li97, li99, li100, li101, li102, li104, li105, li106, li109, li114, li120, li128, li130, li300, li514, li999, li1000, li8192, li9999, li65536, li1000000, li1000001, li1000002, li1000003, li1000004, li1000005, li1000006, li1000007, li1000008, li1000009, li1000010, li1000011, li1000012, li1000013, li1000014, li1000015, li1000016, li1000017, li1000018, li1000019, li2147483647, lj0, lj1, W_add, W_sub, W_mul, W_neg, V_add, V_sub, V_mul, V_neg, W_ite, W_le, W_lt, W_inj, V_le, V_lt, V_inj, W_V, V_W, lgc_ge, lgc_gt, lgc_le, lgc_lt, lgc_eq, ge_iff_le, gt_iff_lt, ep1, tt1, n3, e1, a1, ea, Int.reduceEq, ↓reduceIte]
    · have a1 : f_X6_parseSimple (Sx (EPS Ie p nm kd z cn x2 ge PT OS OC) J 1 c) 2 = some (Sx (EPS Ie p2 nm' kd' z' cn x2 g' PT OS OC) J 1 c, xi (iW (bb ((1 : Int) = 0)))) := a1
      rw [bb_neg (by decide)] at a1
      refine ⟨p2, 1, zr, gq, R', min 1000 (n + 1), w1, hK.1, hpp, hK.2.2.2, by omega, by omega, fun _ => ⟨nm', kd', z', cn, x2, g', PT, OS, OC, ?_⟩, fun h => absurd h (by decide)⟩
      rw [heng]
      simp (disch := first | assumption | omega) only [f_X6_parse_b50, ↓rc2, ↓gI2_1, ↓gI2_2, ↓gI2_3, ↓gI2_4, ↓gI2_5, ↓gI2_6, ↓gI2_9, ↓pI2_1, ↓pI2_2, ↓pI2_3, ↓pI2_4, ↓pI2_6, ↓pI2_9, ↓pZ2_5, ↓gR2_0, ↓gR2_7, ↓gR2_8, ↓gR2_10, ↓gR2_11, ↓aI3, ↓ln3, ↓aI4, ↓sI4, ↓ln4, ↓aI5, ↓sI5, ↓ln5, ↓aI6, ↓sI6, ↓ln6, ↓aI7, ↓sI7, ↓ln7, ↓c_I, ↓c_J, ↓c_Q, ↓c_V, ↓c_It, ↓c_Jt, ↓c_Vt, ↓k_I, ↓k_J, ↓n_I, ↓n_V, li0, li1, li2, li3, li4, li5, li6, li7, li8, li9, li10, li11, li12, li13, li14, li15, li16, li17, li18, li19, li20, li21, li22, li23, li24, li25, li26, li27, li28, li29, li30, li31, li32, li33, li34, li35, li36, li37, li38, li39, li40, li41, li42, li44, li48, li57, li63, li64, li65, li97, li99, li100, li101, li102, li104, li105, li106, li109, li114, li120, li128, li130, li300, li514, li999, li1000, li8192, li9999, li65536, li1000000, li1000001, li1000002, li1000003, li1000004, li1000005, li1000006, li1000007, li1000008, li1000009, li1000010, li1000011, li1000012, li1000013, li1000014, li1000015, li1000016, li1000017, li1000018, li1000019, li2147483647, lj0, lj1, W_add, W_sub, W_mul, W_neg, V_add, V_sub, V_mul, V_neg, W_ite, W_le, W_lt, W_inj, V_le, V_lt, V_inj, W_V, V_W, lgc_ge, lgc_gt, lgc_le, lgc_lt, lgc_eq, ge_iff_le, gt_iff_lt, ep1, tt1, n3, e1, a1, ↓reduceIte, r_Z]
/-- the rest of a list, behind a track -/
theorem j_loop (hTe : TXe Ie L T) (hTr : TXr Ir L T) {rt : HP → Nat → Int32 → Int32 → Option XR} {x2 : Int} (x0 : 0 ≤ x2) (x1 : x2 ≤ 4)
    (ht : ∀ (p z n cn nm kd : Int) (g : Int → Int) (R : CF) (ge PT OS OC : Int → Int) (F : Nat) (x3 : Int), 0 ≤ p → p ≤ L → (z = 0 ∨ z = 1) → CR z cn n PT R → 0 ≤ x3 → x3 ≤ p → 1000 ≤ (F : Int) + x3 → JC Ie Ir J J' b c c' L (F + x3) x2 p n OS OC (f_X6_parse_L50 F (Sx (EPS Ie p nm kd z cn x2 ge PT OS OC) J 1 c) 2 (iW x3)) (rt (Sx (RPS Ir p 0 z g R) J' b c') 102 (iW n) (iW x2)) (fun _ => True)) :
    ∀ (fuel : Nat) (p z n cn nm kd : Int) (g : Int → Int) (R : CF) (ge PT OS OC : Int → Int) (F : Nat) (x3 : Int) (f0 : Nat), L - p < fuel → 0 ≤ p → p ≤ L → (z = 0 ∨ z = 1) → CR z cn n PT R → 0 ≤ x3 → x3 ≤ p → 1000 ≤ (F : Int) + x3 + 1 → (FU : Int) + x2 ≤ (f0 : Int) + 4 → JC Ie Ir J J' b c c' L (F + x3 + 1) x2 p n OS OC (aftR (f_X6_parse_L50 F) (iW x3) (f_X6_closeRepeats_L0 f0 (Sx (EPS Ie p nm kd z cn x2 ge PT OS OC) J 1 c) 2)) (f_X8_readList_L7 rt fuel (Sx (RPS Ir p 0 z g R) J' b c') 102 (iW x2) (iW n)) (fun p' => ¬ sn T L (p', 0) 32) := by
  intro fuel
  induction fuel with
  | zero => intro p z n cn nm kd g R ge PT OS OC F x3 f0 a1; omega
  | succ fuel ih =>
    intro p z n cn nm kd g R ge PT OS OC F x3 f0 a1 p0 p1 hz hC t0 t1 hF hf0
    have hs : okP L (p, 0) := ⟨p0, p1, Or.inl rfl⟩
    have hcb := hC.bd
    have e1 := r_sees (J := J') (b := b) (c := c') (z := z) (g := g) (R := R) hTr hs (ch := 32) (by omega) (by omega)
    have e1 : f_X8_sees (Sx (RPS Ir p 0 z g R) J' b c') 102 (iW 32) = some (Sx (RPS Ir p 0 z g R) J' b c', xi (iW (bb (sn T L (p, 0) 32)))) := e1
    have hrf : f_X8_readList_L7 rt (fuel + 1) (Sx (RPS Ir p 0 z g R) J' b c') 102 (iW x2) (iW n) = f_X8_readList_b7 rt (f_X8_readList_L7 rt fuel) (Sx (RPS Ir p 0 z g R) J' b c') 102 (iW x2) (iW n) := rfl
    rw [hrf]
    by_cases q : sn T L (p, 0) 32
    · rw [bb_pos q] at e1
      have hq1 : p < L := q.2.1
      rw [aft_sp (J := J) (c := c) (nm := nm) (kd := kd) (z := z) (cn := cn) (oc := x2) (g := ge) (PT := PT) (OS := OS) (OC := OC) hTe p0 p1 x0 x1 q (by unfold FU at hf0; omega)]
      have hj := ht (p + 1) z n cn nm kd g R ge PT OS OC F (x3 + 1) (by omega) (by omega) hz hC (by omega) (by omega) (by omega)
      obtain ⟨p6, f6, z6, g6, R6, n6, b1, b2, b3, b4, b5, b6, b7, b8⟩ := hj
      have hgo : f_X8_readList_b7 rt (f_X8_readList_L7 rt fuel) (Sx (RPS Ir p 0 z g R) J' b c') 102 (iW x2) (iW n) = f_X8_readList_L7 rt fuel (Sx (RPS Ir p6 f6 z6 g6 R6) J' b c') 102 (iW x2) (iW n6) := by
        simp (disch := first | assumption | omega) only [f_X8_readList_b7, ↓rc102, ↓gI102_0, ↓gI102_6, ↓gI102_8, ↓gI102_9, ↓gI102_13, ↓gI102_15, ↓gI102_16, ↓gI102_17, ↓gI102_18, ↓gI102_19, ↓gI102_27, ↓gI102_28, ↓gI102_29, ↓gJ102_39, ↓gJ102_40, ↓gJ102_41, ↓gJ102_42, ↓pI102_0, ↓pI102_6, ↓pI102_9, ↓pI102_13, ↓pI102_15, ↓pI102_16, ↓pI102_17, ↓pI102_27, ↓pI102_28, ↓pI102_29, ↓pZ102_8, ↓pZ102_18, ↓pZ102_19, ↓pJ102_39, ↓pJ102_40, ↓pJ102_41, ↓pJ102_42, ↓gR102_1, ↓gR102_2, ↓gR102_3, ↓gR102_4, ↓gR102_5, ↓gR102_7, ↓gR102_10, ↓gR102_11, ↓gR102_12, ↓gR102_14, ↓gR102_20, ↓gR102_21, ↓gR102_22, ↓gR102_23, ↓gR102_24, ↓gR102_25, ↓gR102_26, ↓gR102_30, ↓gR102_31, ↓gR102_32, ↓gR102_33, ↓gR102_34, ↓gR102_35, ↓gR102_36, ↓gR102_37, ↓gR102_38, ↓aI103, ↓sI103, ↓ln103, ↓aI137, ↓sI137, ↓ln137, ↓aI188, ↓sZ188, ↓ln188, ↓aI189, ↓ln189, ↓aI203, ↓sI203, ↓ln203, ↓aI217, ↓sZ217, ↓ln217, ↓aI218, ↓sI218, ↓ln218, ↓aI219, ↓sI219, ↓ln219, ↓aI220, ↓sZ220, ↓ln220, ↓aI221, ↓sZ221, ↓ln221, ↓aI229, ↓sI229, ↓ln229, ↓aI230, ↓sI230, ↓ln230, ↓aI231, ↓sI231, ↓ln231, ↓aI232, ↓sI232, ↓ln232, ↓aI233, ↓sI233, ↓ln233, ↓aI234, ↓sZ234, ↓ln234, ↓aI235, ↓sZ235, ↓ln235, ↓aR104, ↓aR131, ↓aR134, ↓aR138, ↓aR175, ↓aR179, ↓aR190, ↓aR204, ↓aR222, ↓aR105, ↓aR139, ↓aI106, ↓sI106, ↓lI106, ↓aI132, ↓sI132, ↓lI132, ↓aI135, ↓sI135, ↓lI135, ↓aI140, ↓sI140, ↓lI140, ↓aI176, ↓sI176, ↓lI176, ↓aI180, ↓sI180, ↓lI180, ↓aI191, ↓sI191, ↓lI191, ↓aI205, ↓sI205, ↓lI205, ↓aI223, ↓sI223, ↓lI223, ↓c_I, ↓c_J, ↓c_Q, ↓c_V, ↓c_It, ↓c_Jt, ↓c_Vt, ↓k_I, ↓k_J, ↓n_I, ↓n_V, li0, li1, li2, li3, li4, li5, li6, li7, li8, li9, li10, li11, li12, li13, li14, li15, li16, li17, li18, li19, li20, li21, li22, li23, li24, li25, li26, li27, li28, li29, li30, li31, li32, li33, li34, li35, li36, li37, li38, li39, li40, li41, li42, li44, li48, li57, li63, li64, li65, li97, li99, li100, li101, li102, li104, li105, li106, li109, li114, li120, li128, li130, li300, li514, li999, li1000, li8192, li9999, li65536, li1000000, li1000001, li1000002, li1000003, li1000004, li1000005, li1000006, li1000007, li1000008, li1000009, li1000010, li1000011, li1000012, li1000013, li1000014, li1000015, li1000016, li1000017, li1000018, li1000019, li2147483647, lj0, lj1, W_add, W_sub, W_mul, W_neg, V_add, V_sub, V_mul, V_neg, W_ite, W_le, W_lt, W_inj, V_le, V_lt, V_inj, W_V, V_W, lgc_ge, lgc_gt, lgc_le, lgc_lt, lgc_eq, ge_iff_le, gt_iff_lt, e1, rp16, wr16, b1, Int.reduceEq, ↓reduceIte]
      rw [hgo]
      have b2' : 0 ≤ p6 ∧ p6 ≤ L ∧ (f6 = 0 ∨ f6 = 1) := b2
      rcases b2'.2.2 with hf | hf
      · subst hf
        obtain ⟨-, F', x3', f0', nm2, kd2, cn2, gg2, PT2, OS2, OC2, d1, d2, d3, d4, d5, d6, d7⟩ := b8 rfl
        have hi := ih p6 z6 n6 cn2 nm2 kd2 g6 R6 gg2 PT2 OS2 OC2 F' x3' f0' (by omega) b2'.1 b2'.2.1 b4 d2 d5 d6 (by omega) d7
        obtain ⟨p7, f7, z7, g7, R7, n7, c1, c2, c3, c4, c5, c6, c7, c8⟩ := hi
        refine ⟨p7, f7, z7, g7, R7, n7, c1, c2, by omega, c4, by omega, c6, fun hh => ?_, fun hh => ?_⟩
        · rw [d1]
          exact c7 hh
        · obtain ⟨h0, F3, x33, f03, nm3, kd3, cn3, gg3, PT3, OS3, OC3, i1, i2, i3, i4, i5, i6, i7⟩ := c8 hh
          exact ⟨h0, F3, x33, f03, nm3, kd3, cn3, gg3, PT3, OS3, OC3, by rw [d1]; exact i1, i2, fun k k0 k1 => ⟨(i3 k k0 k1).1.trans (d3 k k0 k1).1, (i3 k k0 k1).2.trans (d3 k k0 k1).2⟩, by omega, i5, i6, i7⟩
      · subst hf
        obtain ⟨fu, hfu⟩ : ∃ fu, fuel = fu + 1 := ⟨fuel - 1, by omega⟩
        have e2 := r_sees (J := J') (b := b) (c := c') (z := z6) (g := g6) (R := R6) hTr b2 (ch := 32) (by omega) (by omega)
        rw [bb_neg (sn_f rfl)] at e2
        have e2 : f_X8_sees (Sx (RPS Ir p6 1 z6 g6 R6) J' b c') 102 (iW 32) = some (Sx (RPS Ir p6 1 z6 g6 R6) J' b c', xi (iW 0)) := e2
        have hgo2 : f_X8_readList_L7 rt fuel (Sx (RPS Ir p6 1 z6 g6 R6) J' b c') 102 (iW x2) (iW n6) = some (Sx (RPS Ir p6 1 z6 g6 R6) J' b c', xi (iW n6)) := by
          rw [hfu]
          show f_X8_readList_b7 rt (f_X8_readList_L7 rt fu) (Sx (RPS Ir p6 1 z6 g6 R6) J' b c') 102 (iW x2) (iW n6) = _
          simp (disch := first | assumption | omega) only [f_X8_readList_b7, ↓rc102, ↓gI102_0, ↓gI102_6, ↓gI102_8, ↓gI102_9, ↓gI102_13, ↓gI102_15, ↓gI102_16, ↓gI102_17, ↓gI102_18, ↓gI102_19, ↓gI102_27, ↓gI102_28, ↓gI102_29, ↓gJ102_39, ↓gJ102_40, ↓gJ102_41, ↓gJ102_42, ↓pI102_0, ↓pI102_6, ↓pI102_9, ↓pI102_13, ↓pI102_15, ↓pI102_16, ↓pI102_17, ↓pI102_27, ↓pI102_28, ↓pI102_29, ↓pZ102_8, ↓pZ102_18, ↓pZ102_19, ↓pJ102_39, ↓pJ102_40, ↓pJ102_41, ↓pJ102_42, ↓gR102_1, ↓gR102_2, ↓gR102_3, ↓gR102_4, ↓gR102_5, ↓gR102_7, ↓gR102_10, ↓gR102_11, ↓gR102_12, ↓gR102_14, ↓gR102_20, ↓gR102_21, ↓gR102_22, ↓gR102_23, ↓gR102_24, ↓gR102_25, ↓gR102_26, ↓gR102_30, ↓gR102_31, ↓gR102_32, ↓gR102_33, ↓gR102_34, ↓gR102_35, ↓gR102_36, ↓gR102_37, ↓gR102_38, ↓aI103, ↓sI103, ↓ln103, ↓aI137, ↓sI137, ↓ln137, ↓aI188, ↓sZ188, ↓ln188, ↓aI189, ↓ln189, ↓aI203, ↓sI203, ↓ln203, ↓aI217, ↓sZ217, ↓ln217, ↓aI218, ↓sI218, ↓ln218, ↓aI219, ↓sI219, ↓ln219, ↓aI220, ↓sZ220, ↓ln220, ↓aI221, ↓sZ221, ↓ln221, ↓aI229, ↓sI229, ↓ln229, ↓aI230, ↓sI230, ↓ln230, ↓aI231, ↓sI231, ↓ln231, ↓aI232, ↓sI232, ↓ln232, ↓aI233, ↓sI233, ↓ln233, ↓aI234, ↓sZ234, ↓ln234, ↓aI235, ↓sZ235, ↓ln235, ↓aR104, ↓aR131, ↓aR134, ↓aR138, ↓aR175, ↓aR179, ↓aR190, ↓aR204, ↓aR222, ↓aR105, ↓aR139, ↓aI106, ↓sI106, ↓lI106, ↓aI132, ↓sI132, ↓lI132, ↓aI135, ↓sI135, ↓lI135, ↓aI140, ↓sI140, ↓lI140, ↓aI176, ↓sI176, ↓lI176, ↓aI180, ↓sI180, ↓lI180, ↓aI191, ↓sI191, ↓lI191, ↓aI205, ↓sI205, ↓lI205, ↓aI223, ↓sI223, ↓lI223, ↓c_I, ↓c_J, ↓c_Q, ↓c_V, ↓c_It, ↓c_Jt, ↓c_Vt, ↓k_I, ↓k_J, ↓n_I, ↓n_V, li0, li1, li2, li3, li4, li5, li6, li7, li8, li9, li10, li11, li12, li13, li14, li15, li16, li17, li18, li19, li20, li21, li22, li23, li24, li25, li26, li27, li28, li29, li30, li31, li32, li33, li34, li35, li36, li37, li38, li39, li40, li41, li42, li44, li48, li57, li63, li64, li65, li97, li99, li100, li101, li102, li104, li105, li106, li109, li114, li120, li128, li130, li300, li514, li999, li1000, li8192, li9999, li65536, li1000000, li1000001, li1000002, li1000003, li1000004, li1000005, li1000006, li1000007, li1000008, li1000009, li1000010, li1000011, li1000012, li1000013, li1000014, li1000015, li1000016, li1000017, li1000018, li1000019, li2147483647, lj0, lj1, W_add, W_sub, W_mul, W_neg, V_add, V_sub, V_mul, V_neg, W_ite, W_le, W_lt, W_inj, V_le, V_lt, V_inj, W_V, V_W, lgc_ge, lgc_gt, lgc_le, lgc_lt, lgc_eq, ge_iff_le, gt_iff_lt, e2, ↓reduceIte]
        exact ⟨p6, 1, z6, g6, R6, n6, hgo2, b2, by omega, b4, b5, b6, fun _ => b7 rfl, fun hh => absurd hh (by decide)⟩
    · rw [bb_neg q] at e1
      have hgo : f_X8_readList_b7 rt (f_X8_readList_L7 rt fuel) (Sx (RPS Ir p 0 z g R) J' b c') 102 (iW x2) (iW n) = some (Sx (RPS Ir p 0 z g R) J' b c', xi (iW n)) := by
        simp (disch := first | assumption | omega) only [f_X8_readList_b7, ↓rc102, ↓gI102_0, ↓gI102_6, ↓gI102_8, ↓gI102_9, ↓gI102_13, ↓gI102_15, ↓gI102_16, ↓gI102_17, ↓gI102_18, ↓gI102_19, ↓gI102_27, ↓gI102_28, ↓gI102_29, ↓gJ102_39, ↓gJ102_40, ↓gJ102_41, ↓gJ102_42, ↓pI102_0, ↓pI102_6, ↓pI102_9, ↓pI102_13, ↓pI102_15, ↓pI102_16, ↓pI102_17, ↓pI102_27, ↓pI102_28, ↓pI102_29, ↓pZ102_8, ↓pZ102_18, ↓pZ102_19, ↓pJ102_39, ↓pJ102_40, ↓pJ102_41, ↓pJ102_42, ↓gR102_1, ↓gR102_2, ↓gR102_3, ↓gR102_4, ↓gR102_5, ↓gR102_7, ↓gR102_10, ↓gR102_11, ↓gR102_12, ↓gR102_14, ↓gR102_20, ↓gR102_21, ↓gR102_22, ↓gR102_23, ↓gR102_24, ↓gR102_25, ↓gR102_26, ↓gR102_30, ↓gR102_31, ↓gR102_32, ↓gR102_33, ↓gR102_34, ↓gR102_35, ↓gR102_36, ↓gR102_37, ↓gR102_38, ↓aI103, ↓sI103, ↓ln103, ↓aI137, ↓sI137, ↓ln137, ↓aI188, ↓sZ188, ↓ln188, ↓aI189, ↓ln189, ↓aI203, ↓sI203, ↓ln203, ↓aI217, ↓sZ217, ↓ln217, ↓aI218, ↓sI218, ↓ln218, ↓aI219, ↓sI219, ↓ln219, ↓aI220, ↓sZ220, ↓ln220, ↓aI221, ↓sZ221, ↓ln221, ↓aI229, ↓sI229, ↓ln229, ↓aI230, ↓sI230, ↓ln230, ↓aI231, ↓sI231, ↓ln231, ↓aI232, ↓sI232, ↓ln232, ↓aI233, ↓sI233, ↓ln233, ↓aI234, ↓sZ234, ↓ln234, ↓aI235, ↓sZ235, ↓ln235, ↓aR104, ↓aR131, ↓aR134, ↓aR138, ↓aR175, ↓aR179, ↓aR190, ↓aR204, ↓aR222, ↓aR105, ↓aR139, ↓aI106, ↓sI106, ↓lI106, ↓aI132, ↓sI132, ↓lI132, ↓aI135, ↓sI135, ↓lI135, ↓aI140, ↓sI140, ↓lI140, ↓aI176, ↓sI176, ↓lI176, ↓aI180, ↓sI180, ↓lI180, ↓aI191, ↓sI191, ↓lI191, ↓aI205, ↓sI205, ↓lI205, ↓aI223, ↓sI223, ↓lI223, ↓c_I, ↓c_J, ↓c_Q, ↓c_V, ↓c_It, ↓c_Jt, ↓c_Vt, ↓k_I, ↓k_J, ↓n_I, ↓n_V, li0, li1, li2, li3, li4, li5, li6, li7, li8, li9, li10, li11, li12, li13, li14, li15, li16, li17, li18, li19, li20, li21, li22, li23, li24, li25, li26, li27, li28, li29, li30, li31, li32, li33, li34, li35, li36, li37, li38, li39, li40, li41, li42, li44, li48, li57, li63, li64, li65, li97, li99, li100, li101, li102, li104, li105, li106, li109, li114, li120, li128, li130, li300, li514, li999, li1000, li8192, li9999, li65536, li1000000, li1000001, li1000002, li1000003, li1000004, li1000005, li1000006, li1000007, li1000008, li1000009, li1000010, li1000011, li1000012, li1000013, li1000014, li1000015, li1000016, li1000017, li1000018, li1000019, li2147483647, lj0, lj1, W_add, W_sub, W_mul, W_neg, V_add, V_sub, V_mul, V_neg, W_ite, W_le, W_lt, W_inj, V_le, V_lt, V_inj, W_V, V_W, lgc_ge, lgc_gt, lgc_le, lgc_lt, lgc_eq, ge_iff_le, gt_iff_lt, e1, ↓reduceIte]
      exact ⟨p, 0, z, g, R, n, hgo, hs, Int.le_refl _, hz, Int.le_refl _, hcb.2.2, fun hh => absurd hh (by decide), fun _ => ⟨q, F, x3, f0, nm, kd, cn, ge, PT, OS, OC, rfl, hC, fun _ _ _ => ⟨rfl, rfl⟩, rfl, t0, t1, hf0⟩⟩
theorem j_list1 (hTe : TXe Ie L T) (hTr : TXr Ir L T) {rt : HP → Nat → Int32 → Int32 → Option XR} {x2 : Int} (x0 : 0 ≤ x2) (x1 : x2 ≤ 4)
    (ht : ∀ (p z n cn nm kd : Int) (g : Int → Int) (R : CF) (ge PT OS OC : Int → Int) (F : Nat) (x3 : Int), 0 ≤ p → p ≤ L → (z = 0 ∨ z = 1) → CR z cn n PT R → 0 ≤ x3 → x3 ≤ p → 1000 ≤ (F : Int) + x3 → JC Ie Ir J J' b c c' L (F + x3) x2 p n OS OC (f_X6_parse_L50 F (Sx (EPS Ie p nm kd z cn x2 ge PT OS OC) J 1 c) 2 (iW x3)) (rt (Sx (RPS Ir p 0 z g R) J' b c') 102 (iW n) (iW x2)) (fun _ => True))
    (p z n cn nm kd : Int) (g : Int → Int) (R : CF) (ge PT OS OC : Int → Int) (F : Nat) (x3 : Int) (p0 : 0 ≤ p) (p1 : p ≤ L) (hz : z = 0 ∨ z = 1) (hC : CR z cn n PT R) (t0 : 0 ≤ x3) (t1 : x3 ≤ p) (hF : 1000 ≤ (F : Int) + x3) :
    JC Ie Ir J J' b c c' L (F + x3) x2 p n OS OC (f_X6_parse_L50 F (Sx (EPS Ie p nm kd z cn x2 ge PT OS OC) J 1 c) 2 (iW x3)) (f_X8_readList rt (Sx (RPS Ir p 0 z g R) J' b c') 102 (iW n) (iW x2)) (fun p' => ¬ sn T L (p', 0) 32) := by
  have hL := hTe.2.1
  obtain ⟨p6, f6, z6, g6, R6, n6, b1, b2, b3, b4, b5, b6, b7, b8⟩ := ht p z n cn nm kd g R ge PT OS OC F x3 p0 p1 hz hC t0 t1 hF
  have hgo : f_X8_readList rt (Sx (RPS Ir p 0 z g R) J' b c') 102 (iW n) (iW x2) = f_X8_readList_L7 rt FU (Sx (RPS Ir p6 f6 z6 g6 R6) J' b c') 102 (iW x2) (iW n6) := by
    simp (disch := first | assumption | omega) only [f_X8_readList, ↓rc102, ↓gI102_0, ↓gI102_6, ↓gI102_8, ↓gI102_9, ↓gI102_13, ↓gI102_15, ↓gI102_16, ↓gI102_17, ↓gI102_18, ↓gI102_19, ↓gI102_27, ↓gI102_28, ↓gI102_29, ↓gJ102_39, ↓gJ102_40, ↓gJ102_41, ↓gJ102_42, ↓pI102_0, ↓pI102_6, ↓pI102_9, ↓pI102_13, ↓pI102_15, ↓pI102_16, ↓pI102_17, ↓pI102_27, ↓pI102_28, ↓pI102_29, ↓pZ102_8, ↓pZ102_18, ↓pZ102_19, ↓pJ102_39, ↓pJ102_40, ↓pJ102_41, ↓pJ102_42, ↓gR102_1, ↓gR102_2, ↓gR102_3, ↓gR102_4, ↓gR102_5, ↓gR102_7, ↓gR102_10, ↓gR102_11, ↓gR102_12, ↓gR102_14, ↓gR102_20, ↓gR102_21, ↓gR102_22, ↓gR102_23, ↓gR102_24, ↓gR102_25, ↓gR102_26, ↓gR102_30, ↓gR102_31, ↓gR102_32, ↓gR102_33, ↓gR102_34, ↓gR102_35, ↓gR102_36, ↓gR102_37, ↓gR102_38, ↓aI103, ↓sI103, ↓ln103, ↓aI137, ↓sI137, ↓ln137, ↓aI188, ↓sZ188, ↓ln188, ↓aI189, ↓ln189, ↓aI203, ↓sI203, ↓ln203, ↓aI217, ↓sZ217, ↓ln217, ↓aI218, ↓sI218, ↓ln218, ↓aI219, ↓sI219, ↓ln219, ↓aI220, ↓sZ220, ↓ln220, ↓aI221, ↓sZ221, ↓ln221, ↓aI229, ↓sI229, ↓ln229, ↓aI230, ↓sI230, ↓ln230, ↓aI231, ↓sI231, ↓ln231, ↓aI232, ↓sI232, ↓ln232, ↓aI233, ↓sI233, ↓ln233, ↓aI234, ↓sZ234, ↓ln234, ↓aI235, ↓sZ235, ↓ln235, ↓aR104, ↓aR131, ↓aR134, ↓aR138, ↓aR175, ↓aR179, ↓aR190, ↓aR204, ↓aR222, ↓aR105, ↓aR139, ↓aI106, ↓sI106, ↓lI106, ↓aI132, ↓sI132, ↓lI132, ↓aI135, ↓sI135, ↓lI135, ↓aI140, ↓sI140, ↓lI140, ↓aI176, ↓sI176, ↓lI176, ↓aI180, ↓sI180, ↓lI180, ↓aI191, ↓sI191, ↓lI191, ↓aI205, ↓sI205, ↓lI205, ↓aI223, ↓sI223, ↓lI223, ↓c_I, ↓c_J, ↓c_Q, ↓c_V, ↓c_It, ↓c_Jt, ↓c_Vt, ↓k_I, ↓k_J, ↓n_I, ↓n_V, li0, li1, li2, li3, li4, li5, li6, li7, li8, li9, li10, li11, li12, li13, li14, li15, li16, li17, li18, li19, li20, li21, li22, li23, li24, li25, li26, li27, li28, li29, li30, li31, li32, li33, li34, li35, li36, li37, li38, li39, li40, li41, li42, li44, li48, li57, li63, li64, li65, li97, li99, li100, li101, li102, li104, li105, li106, li109, li114, li120, li128, li130, li300, li514, li999, li1000, li8192, li9999, li65536, li1000000, li1000001, li1000002, li1000003, li1000004, li1000005, li1000006, li1000007, li1000008, li1000009, li1000010, li1000011, li1000012, li1000013, li1000014, li1000015, li1000016, li1000017, li1000018, li1000019, li2147483647, lj0, lj1, W_add, W_sub, W_mul, W_neg, V_add, V_sub, V_mul, V_neg, W_ite, W_le, W_lt, W_inj, V_le, V_lt, V_inj, W_V, V_W, lgc_ge, lgc_gt, lgc_le, lgc_lt, lgc_eq, ge_iff_le, gt_iff_lt, b1]
  rw [hgo]
  have b2' : 0 ≤ p6 ∧ p6 ≤ L ∧ (f6 = 0 ∨ f6 = 1) := b2
  rcases b2'.2.2 with hf | hf
  · subst hf
    obtain ⟨-, F', x3', f0', nm2, kd2, cn2, gg2, PT2, OS2, OC2, d1, d2, d3, d4, d5, d6, d7⟩ := b8 rfl
    have hi := j_loop hTe hTr x0 x1 ht FU p6 z6 n6 cn2 nm2 kd2 g6 R6 gg2 PT2 OS2 OC2 F' x3' f0' (by unfold FU; omega) b2'.1 b2'.2.1 b4 d2 d5 d6 (by omega) d7
    obtain ⟨p7, f7, z7, g7, R7, n7, c1, c2, c3, c4, c5, c6, c7, c8⟩ := hi
    refine ⟨p7, f7, z7, g7, R7, n7, c1, c2, by omega, c4, by omega, c6, fun hh => ?_, fun hh => ?_⟩
    · rw [d1]
      exact c7 hh
    · obtain ⟨h0, F3, x33, f03, nm3, kd3, cn3, gg3, PT3, OS3, OC3, i1, i2, i3, i4, i5, i6, i7⟩ := c8 hh
      exact ⟨h0, F3, x33, f03, nm3, kd3, cn3, gg3, PT3, OS3, OC3, by rw [d1]; exact i1, i2, fun k k0 k1 => ⟨(i3 k k0 k1).1.trans (d3 k k0 k1).1, (i3 k k0 k1).2.trans (d3 k k0 k1).2⟩, by omega, i5, i6, i7⟩
  · subst hf
    have e2 := r_sees (J := J') (b := b) (c := c') (z := z6) (g := g6) (R := R6) hTr b2 (ch := 32) (by omega) (by omega)
    rw [bb_neg (sn_f rfl)] at e2
    have e2 : f_X8_sees (Sx (RPS Ir p6 1 z6 g6 R6) J' b c') 102 (iW 32) = some (Sx (RPS Ir p6 1 z6 g6 R6) J' b c', xi (iW 0)) := e2
    have hgo2 : f_X8_readList_L7 rt FU (Sx (RPS Ir p6 1 z6 g6 R6) J' b c') 102 (iW x2) (iW n6) = some (Sx (RPS Ir p6 1 z6 g6 R6) J' b c', xi (iW n6)) := by
      show f_X8_readList_b7 rt (f_X8_readList_L7 rt 99999) (Sx (RPS Ir p6 1 z6 g6 R6) J' b c') 102 (iW x2) (iW n6) = _
      simp (disch := first | assumption | omega) only [f_X8_readList_b7, ↓rc102, ↓gI102_0, ↓gI102_6, ↓gI102_8, ↓gI102_9, ↓gI102_13, ↓gI102_15, ↓gI102_16, ↓gI102_17, ↓gI102_18, ↓gI102_19, ↓gI102_27, ↓gI102_28, ↓gI102_29, ↓gJ102_39, ↓gJ102_40, ↓gJ102_41, ↓gJ102_42, ↓pI102_0, ↓pI102_6, ↓pI102_9, ↓pI102_13, ↓pI102_15, ↓pI102_16, ↓pI102_17, ↓pI102_27, ↓pI102_28, ↓pI102_29, ↓pZ102_8, ↓pZ102_18, ↓pZ102_19, ↓pJ102_39, ↓pJ102_40, ↓pJ102_41, ↓pJ102_42, ↓gR102_1, ↓gR102_2, ↓gR102_3, ↓gR102_4, ↓gR102_5, ↓gR102_7, ↓gR102_10, ↓gR102_11, ↓gR102_12, ↓gR102_14, ↓gR102_20, ↓gR102_21, ↓gR102_22, ↓gR102_23, ↓gR102_24, ↓gR102_25, ↓gR102_26, ↓gR102_30, ↓gR102_31, ↓gR102_32, ↓gR102_33, ↓gR102_34, ↓gR102_35, ↓gR102_36, ↓gR102_37, ↓gR102_38, ↓aI103, ↓sI103, ↓ln103, ↓aI137, ↓sI137, ↓ln137, ↓aI188, ↓sZ188, ↓ln188, ↓aI189, ↓ln189, ↓aI203, ↓sI203, ↓ln203, ↓aI217, ↓sZ217, ↓ln217, ↓aI218, ↓sI218, ↓ln218, ↓aI219, ↓sI219, ↓ln219, ↓aI220, ↓sZ220, ↓ln220, ↓aI221, ↓sZ221, ↓ln221, ↓aI229, ↓sI229, ↓ln229, ↓aI230, ↓sI230, ↓ln230, ↓aI231, ↓sI231, ↓ln231, ↓aI232, ↓sI232, ↓ln232, ↓aI233, ↓sI233, ↓ln233, ↓aI234, ↓sZ234, ↓ln234, ↓aI235, ↓sZ235, ↓ln235, ↓aR104, ↓aR131, ↓aR134, ↓aR138, ↓aR175, ↓aR179, ↓aR190, ↓aR204, ↓aR222, ↓aR105, ↓aR139, ↓aI106, ↓sI106, ↓lI106, ↓aI132, ↓sI132, ↓lI132, ↓aI135, ↓sI135, ↓lI135, ↓aI140, ↓sI140, ↓lI140, ↓aI176, ↓sI176, ↓lI176, ↓aI180, ↓sI180, ↓lI180, ↓aI191, ↓sI191, ↓lI191, ↓aI205, ↓sI205, ↓lI205, ↓aI223, ↓sI223, ↓lI223, ↓c_I, ↓c_J, ↓c_Q, ↓c_V, ↓c_It, ↓c_Jt, ↓c_Vt, ↓k_I, ↓k_J, ↓n_I, ↓n_V, li0, li1, li2, li3, li4, li5, li6, li7, li8, li9, li10, li11, li12, li13, li14, li15, li16, li17, li18, li19, li20, li21, li22, li23, li24, li25, li26, li27, li28, li29, li30, li31, li32, li33, li34, li35, li36, li37, li38, li39, li40, li41, li42, li44, li48, li57, li63, li64, li65, li97, li99, li100, li101, li102, li104, li105, li106, li109, li114, li120, li128, li130, li300, li514, li999, li1000, li8192, li9999, li65536, li1000000, li1000001, li1000002, li1000003, li1000004, li1000005, li1000006, li1000007, li1000008, li1000009, li1000010, li1000011, li1000012, li1000013, li1000014, li1000015, li1000016, li1000017, li1000018, li1000019, li2147483647, lj0, lj1, W_add, W_sub, W_mul, W_neg, V_add, V_sub, V_mul, V_neg, W_ite, W_le, W_lt, W_inj, V_le, V_lt, V_inj, W_V, V_W, lgc_ge, lgc_gt, lgc_le, lgc_lt, lgc_eq, ge_iff_le, gt_iff_lt, e2, ↓reduceIte]
    exact ⟨p6, 1, z6, g6, R6, n6, hgo2, b2, b3, b4, b5, b6, fun _ => b7 rfl, fun hh => absurd hh (by decide)⟩
theorem j_list (hTe : TXe Ie L T) (hTr : TXr Ir L T) : ∀ (d : Nat) (x2 : Int), 0 ≤ x2 → x2 ≤ 4 → 5 - x2 ≤ d → ∀ (p z n cn nm kd : Int) (g : Int → Int) (R : CF) (ge PT OS OC : Int → Int) (F : Nat) (x3 : Int), 0 ≤ p → p ≤ L → (z = 0 ∨ z = 1) → CR z cn n PT R → 0 ≤ x3 → x3 ≤ p → 1000 ≤ (F : Int) + x3 →
    JC Ie Ir J J' b c c' L (F + x3) x2 p n OS OC (f_X6_parse_L50 F (Sx (EPS Ie p nm kd z cn x2 ge PT OS OC) J 1 c) 2 (iW x3)) (f_X8_rl (d + 1) (Sx (RPS Ir p 0 z g R) J' b c') 102 (iW n) (iW x2)) (fun p' => ¬ sn T L (p', 0) 32) := by
  intro d
  induction d with
  | zero => intro x2 x0 x1 h; omega
  | succ d ih =>
    intro x2 x0 x1 h p z n cn nm kd g R ge PT OS OC F x3 p0 p1 hz hC t0 t1 hF
    show JC Ie Ir J J' b c c' L (F + x3) x2 p n OS OC (f_X6_parse_L50 F (Sx (EPS Ie p nm kd z cn x2 ge PT OS OC) J 1 c) 2 (iW x3)) (f_X8_readList (f_X8_readTrack (f_X8_readList (f_X8_readTrack (f_X8_rl d)))) (Sx (RPS Ir p 0 z g R) J' b c') 102 (iW n) (iW x2)) (fun p' => ¬ sn T L (p', 0) 32)
    exact j_list1 hTe hTr x0 x1 (j_trk hTe hTr x0 x1 (fun x24 => ih (x2 + 1) (by omega) (by omega) (by omega))) p z n cn nm kd g R ge PT OS OC F x3 p0 p1 hz hC t0 t1 hF
end Joint

/-! ===== one call of the law ===== -/
theorem EW.fr {I I' : CF} {S : ST} (h : EW I S) (hf : ∀ a : Int, a < 102 → I' a = I a) : EW I' S := by
  obtain ⟨g1, p, g2⟩ := h
  exact ⟨g1.fr (by rw [hf 0 (by omega)]) (fun a a0 a1 _ => hf a (by omega)), p, g2.fr (fun k _ => by rw [hf 0 (by omega)]) (fun a ha => hf a (by omega))⟩
theorem RWd.fr {I I' : CF} {S : ST} (h : RWd I S) (hf : ∀ a : Int, 102 ≤ a → I' a = I a) : RWd I' S := by
  obtain ⟨g1, g2⟩ := h
  exact ⟨g1.fr (by rw [hf 102 (by omega)]) (fun a a0 a1 => hf a (by omega)), g2.fr (by rw [hf 102 (by omega)]) (by rw [hf 102 (by omega)]) (fun a a0 a1 => hf a (by omega))⟩
def Good (h : HP) : Prop := ∃ (I J : CF) (b : Nat) (c : Bool) (S : ST), h = Sx I J b c ∧ okS S ∧ EW I S ∧ RWd I S
def GS (fl : Option XR) (fq : HP → Option XR) : Prop := ∃ (h1 h2 : HP) (t v : Int32), fl = some (h1, xi t) ∧ fq h1 = some (h2, xi v) ∧ Good h2 ∧ f_X8_thrown h2 102 = some (h2, xi t) ∧ (∀ k, x_rc h1 102 8 k = k) ∧ (∀ k, x_rc h2 102 8 k = k) ∧ (t = 0 → ∀ f, x_aJ h2 236 0 f = f v.toInt64)
def GSP (P : Int → Prop) (fl : Option XR) (fq : HP → Option XR) : Prop := ∃ (h1 h2 : HP) (t : Int32) (v : Int), P v ∧ fl = some (h1, xi t) ∧ fq h1 = some (h2, xi (iW v)) ∧ Good h2 ∧ f_X8_thrown h2 102 = some (h2, xi t) ∧ (∀ k, x_rc h1 102 8 k = k) ∧ (∀ k, x_rc h2 102 8 k = k) ∧ (t = 0 → ∀ f, x_aJ h2 236 0 f = f (iW v : Int32).toInt64)
def JBm (m : Int) (fe fr : Option XR) (I Ir J J' : CF) (b' : Nat) (c c' : Bool) (E1 E2 : String) : Prop := ∃ v t S', okS S' ∧ (t = 0 ∨ t = 1 ∨ (m = 2 ∧ t = 2)) ∧ EStp fe I J c E1 E2 v t S' ∧ RStp fr Ir J' b' c' v t S'
theorem g_use {fl : Option XR} {fq K : HP → Option XR} (h : GS fl fq) (hK : ∀ h2, Good h2 → ∃ z, K h2 = some z) : ∃ z, (x_nI fl fun h2 i1 => x_rc h2 102 8 <| x_nI (fq h2) fun h4 i3 => x_rc h4 102 8 <| x_nI (f_X8_thrown h4 102) fun h6 i5 => if i5 = i1 then (if i1 = 0 then (x_aJ h6 236 0 fun j7 => if (lg_cmp j7 ((i3 : Int32).toInt64)) = 0 then K h6 else none) else K h6) else none) = some z := by
  obtain ⟨h1, h2, t, v, e1, e2, g, e3, e4, e5, e6⟩ := h
  obtain ⟨z, hz⟩ := hK h2 g
  refine ⟨z, ?_⟩
  rw [e1, n_I, e4, e2, n_I, e5, e3, n_I, if_pos rfl]
  by_cases q : t = 0
  · rw [if_pos q, e6 q, if_pos ((lg_cmp_eq _ _).2 rfl)]
    exact hz
  · rw [if_neg q]
    exact hz
theorem j64 (x : Int32) : jV x.toInt = x.toInt64 := by
  apply Int64.toInt_inj.mp
  have h1 := Int32.le_toInt x
  have h2 := Int32.toInt_lt x
  rw [V_toInt (by omega) (by omega), Int32.toInt_toInt64]
theorem gs_ofP {P : Int → Prop} {I J : CF} {b : Nat} {c : Bool} {S : ST} {f7 : Option XR} {fq : HP → Option XR} {E1 E2 : String} {l : List (String × Int32)} {m : Int} (hE : EW I S) (hR : RWd I S) (hJ : ∀ Ir J' b' c', RWd Ir S → ∃ v t S', P v ∧ okS S' ∧ (t = 0 ∨ t = 1 ∨ (m = 2 ∧ t = 2)) ∧ EStp f7 I J c E1 E2 v t S' ∧ RStp (fq (Sx Ir J' b' c')) Ir J' b' c' v t S') (hne : E1 ≠ E2) (hl1 : l.lookup E1 = some 1) (hl2 : m = 2 → l.lookup E2 = some 2) : GSP P (x_rc (Sx I J b c) 0 7 <| x_try f7 l fun h2 i1 => x_sJ h2 236 0 ((i1 : Int32).toInt64) fun h3 => some (h3, xi 0)) fq := by
  obtain ⟨v1, t1, S1, -, ok1, tr1, ⟨I1, J1, b1, f1, w1, fr1, fj1⟩, -⟩ := hJ I J b c hR
  obtain ⟨J1', hJ1'⟩ : ∃ X, X = if t1 = 0 then uI J1 236 0 (iW v1).toInt else J1 := ⟨_, rfl⟩
  obtain ⟨c1, hc1⟩ : ∃ X, X = if t1 = 0 then c else false := ⟨_, rfl⟩
  have hRW : RWd I1 S := hR.fr fr1
  obtain ⟨v2, t2, S2, hPv, ok2, tr2, ⟨I2, J2, b2, f2, w2, fr2, fj2⟩, ⟨I3, J3, g1, g2, g3, g4, g5⟩⟩ := hJ I1 J1' b1 c1 hRW
  have hsame : t1 = t2 ∧ (t1 = 0 → iW v1 = iW v2) ∧ ∀ a k : Nat, iW (I1 a k) = iW (I2 a k) := by
    rw [f1] at f2
    by_cases q1 : t1 = 0
    · by_cases q2 : t2 = 0
      · rw [if_pos q1, if_pos q2] at f2
        injection f2 with f2
        have hh := congrArg Prod.fst f2
        have hv := congrArg (fun x : XR => x.2.2) f2
        refine ⟨by omega, fun _ => ?_, fun a k => congrArg (fun h : HP => h.1 a k) hh⟩
        have hv : some (Value.int (iW v1)) = some (Value.int (iW v2)) := hv
        injection hv with hv
        injection hv
      · rw [if_pos q1, if_neg q2] at f2
        injection f2 with f2
        have hv := congrArg (fun x : XR => x.2.1) f2
        have hv : (none : Option String) = some _ := hv
        exact absurd hv (by simp)
    · by_cases q2 : t2 = 0
      · rw [if_neg q1, if_pos q2] at f2
        injection f2 with f2
        have hv := congrArg (fun x : XR => x.2.1) f2
        have hv : some _ = (none : Option String) := hv
        exact absurd hv (by simp)
      · rw [if_neg q1, if_neg q2] at f2
        injection f2 with f2
        have hh := congrArg Prod.fst f2
        have hv := congrArg (fun x : XR => x.2.1) f2
        have hv : some (if t1 = 1 then E1 else E2) = some (if t2 = 1 then E1 else E2) := hv
        injection hv with hv
        refine ⟨?_, fun h => absurd h q1, fun a k => congrArg (fun h : HP => h.1 a k) hh⟩
        by_cases r1 : t1 = 1
        · by_cases r2 : t2 = 1
          · omega
          · rw [if_pos r1, if_neg r2] at hv
            exact absurd hv hne
        · by_cases r2 : t2 = 1
          · rw [if_neg r1, if_pos r2] at hv
            exact absurd hv.symm hne
          · omega
  obtain ⟨ht, hvv, hII⟩ := hsame
  obtain ⟨I4, hI4⟩ : ∃ X : CF, X = fun a => if a < 102 then I2 a else I3 a := ⟨_, rfl⟩
  have hh2 : Sx I3 J3 b1 c1 = Sx I4 J3 b1 c1 := by
    unfold Sx
    refine Prod.ext ?_ rfl
    funext a k
    show iW (I3 a k) = iW (I4 a k)
    rw [hI4]
    show iW (I3 a k) = iW ((if (a : Int) < 102 then I2 a else I3 a) k)
    by_cases q : (a : Int) < 102
    · rw [if_pos q, g4 a q]
      exact hII a k
    · rw [if_neg q]
  have hg : Good (Sx I3 J3 b1 c1) := by
    refine ⟨I4, J3, b1, c1, S2, hh2, ok2, w2.fr (fun a ha => ?_), g3.fr (fun a ha => ?_)⟩
    · rw [hI4]
      show (if a < 102 then I2 a else I3 a) = I2 a
      rw [if_pos ha]
    · rw [hI4]
      show (if a < 102 then I2 a else I3 a) = I3 a
      rw [if_neg (by omega)]
  refine ⟨Sx I1 J1' b1 c1, Sx I3 J3 b1 c1, iW t1, v2, hPv, ?_, g1, hg, ?_, fun k => rc102, fun k => rc102, fun hz f => ?_⟩
  · have h0 : ∀ f, x_rc (Sx I J b c) 0 7 f = f := fun f => rc0
    rw [h0, f1]
    by_cases q1 : t1 = 0
    · rw [if_pos q1, hJ1', hc1, if_pos q1, if_pos q1, q1]
      show (x_sJ (Sx I1 J1 b1 c) 236 0 ((iW v1 : Int32).toInt64) fun h3 => some (h3, xi 0)) = _
      rw [← j64]
      exact sJ236 (z := 0) (by omega) (by omega)
    · rw [if_neg q1, hJ1', hc1, if_neg q1, if_neg q1]
      by_cases q2 : t1 = 1
      · rw [if_pos q2, q2]
        show (match l.lookup E1 with | some k => some (Sx I1 J1 b1 false, xi k) | none => none) = _
        rw [hl1]
        rfl
      · rw [if_neg q2]
        have q3 : m = 2 ∧ t1 = 2 := by omega
        rw [q3.2]
        show (match l.lookup E2 with | some k => some (Sx I1 J1 b1 false, xi k) | none => none) = _
        rw [hl2 q3.1]
        rfl
  · unfold f_X8_thrown
    rw [gI102_0, g2, ht]
  · have hz0 : t1 = 0 := by
      have : iW t1 = iW 0 := hz
      rwa [W_inj (by omega) (by omega) (by omega) (by omega)] at this
    have ha : x_aJ (Sx I3 J3 b1 c1) 236 0 f = f (jV (J3 236 0)) := aJ236 (z := 0) (by omega) (by omega)
    rw [ha, g5 236 (by omega), hJ1', if_pos hz0, u_eq, j64, hvv hz0]
theorem gs_of {I J : CF} {b : Nat} {c : Bool} {S : ST} {f7 : Option XR} {fq : HP → Option XR} {E1 E2 : String} {l : List (String × Int32)} {m : Int} (hE : EW I S) (hR : RWd I S) (hJ : ∀ Ir J' b' c', RWd Ir S → JBm m f7 (fq (Sx Ir J' b' c')) I Ir J J' b' c c' E1 E2) (hne : E1 ≠ E2) (hl1 : l.lookup E1 = some 1) (hl2 : m = 2 → l.lookup E2 = some 2) : GS (x_rc (Sx I J b c) 0 7 <| x_try f7 l fun h2 i1 => x_sJ h2 236 0 ((i1 : Int32).toInt64) fun h3 => some (h3, xi 0)) fq := by
  obtain ⟨h1, h2, t, v, -, e⟩ := gs_ofP (P := fun _ => True) (J := J) (b := b) (c := c) hE hR (fun Ir J' b' c' hr => by
    obtain ⟨v, t, S', h⟩ := hJ Ir J' b' c' hr
    exact ⟨v, t, S', trivial, h⟩) hne hl1 hl2
  exact ⟨h1, h2, t, iW v, e⟩

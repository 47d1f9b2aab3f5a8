/-! ===== what changes: a state's numbers written anew ===== -/
theorem W_div5 {a : Int} (a0 : 0 ≤ a) (a1 : a ≤ 1000) : iW a / iW 5 = iW (a / 5) := by
  rw [W_div (by omega) (by omega) (by omega) (by omega), Int.tdiv_eq_ediv_of_nonneg a0]
theorem itf_u {A : CF} {i x f v j y g : Int} (x0 : 0 ≤ x) (x1 : x < 2) (f0 : 0 ≤ f) (f1 : f < 5) (y0 : 0 ≤ y) (y1 : y < 2) (g0 : 0 ≤ g) (g1 : g < 5) : itf (uI A 3 ((i * 2 + x) * 5 + f) v) j y g = if j = i ∧ y = x ∧ g = f then v else itf A j y g := by
  unfold itf
  rw [u_at]
  by_cases q : j = i ∧ y = x ∧ g = f
  · obtain ⟨rfl, rfl, rfl⟩ := q
    rw [if_pos rfl, if_pos ⟨rfl, rfl, rfl⟩]
  · rw [if_neg q, if_neg (fun z => q (by omega))]
theorem okA.i {A : CF} (hA : okA A) {i x f v : Int} (x0 : 0 ≤ x) (x1 : x < 2) (f0 : 0 ≤ f) (f1 : f < 5) (h : 0 ≤ i → i < nit A → okI (uI A 3 ((i * 2 + x) * 5 + f) v) i x) : okA (uI A 3 ((i * 2 + x) * 5 + f) v) := by
  obtain ⟨h1, h2, h3, h4, h5, h6⟩ := hA
  refine ⟨h1, h2, h3, h4, h5, fun j y j0 j1 y0 y1 => ?_⟩
  have j1 : j < nit A := j1
  by_cases q : j = i ∧ y = x
  · obtain ⟨rfl, rfl⟩ := q
    exact h j0 j1
  · have hj := h6 j y j0 j1 y0 y1
    unfold okI at hj ⊢
    rw [itf_u x0 x1 f0 f1 y0 y1 (by omega) (by omega), itf_u x0 x1 f0 f1 y0 y1 (by omega) (by omega), itf_u x0 x1 f0 f1 y0 y1 (by omega) (by omega), itf_u x0 x1 f0 f1 y0 y1 (by omega) (by omega), itf_u x0 x1 f0 f1 y0 y1 (by omega) (by omega), if_neg (fun z => q ⟨z.1, z.2.1⟩), if_neg (fun z => q ⟨z.1, z.2.1⟩), if_neg (fun z => q ⟨z.1, z.2.1⟩), if_neg (fun z => q ⟨z.1, z.2.1⟩), if_neg (fun z => q ⟨z.1, z.2.1⟩)]
    exact hj
theorem EM.u {I A : CF} (h : EM I A) {a o q v : Int} (ho : (a = 9 ∧ o = 0) ∨ (a = 10 ∧ o = 1) ∨ (a = 11 ∧ o = 2) ∨ (a = 12 ∧ o = 3)) : EM (uI I a q v) (uI A o q v) := by
  obtain ⟨h1, h2, h3, h4, h5, h6, h7⟩ := h
  rcases ho with ⟨rfl, rfl⟩ | ⟨rfl, rfl⟩ | ⟨rfl, rfl⟩ | ⟨rfl, rfl⟩
  · refine ⟨fun k k0 k1 => ?_, h2, h3, h4, h5, h6, h7⟩
    rw [u_at, u_at]
    by_cases e : k = q
    · rw [if_pos e, if_pos e]
    · rw [if_neg e, if_neg e]; exact h1 k k0 k1
  · refine ⟨h1, fun k k0 k1 => ?_, h3, h4, h5, h6, h7⟩
    rw [u_at, u_at]
    by_cases e : k = q
    · rw [if_pos e, if_pos e]
    · rw [if_neg e, if_neg e]; exact h2 k k0 k1
  · refine ⟨h1, h2, fun k k0 k1 => ?_, h4, h5, h6, h7⟩
    rw [u_at, u_at]
    by_cases e : k = q
    · rw [if_pos e, if_pos e]
    · rw [if_neg e, if_neg e]; exact h3 k k0 k1
  · refine ⟨h1, h2, h3, fun k k0 k1 => ?_, h5, h6, h7⟩
    rw [u_at, u_at]
    by_cases e : k = q
    · rw [if_pos e, if_pos e]
    · rw [if_neg e, if_neg e]; exact h4 k k0 k1
theorem EM.f {I A : CF} (h : EM I A) {q o v : Int} (ho : (q = 4 ∧ o = 0) ∨ (q = 5 ∧ o = 1) ∨ (q = 6 ∧ o = 2)) : EM (uI I 8 q v) (uI A 4 o v) := by
  obtain ⟨h1, h2, h3, h4, h5, h6, h7⟩ := h
  rcases ho with ⟨rfl, rfl⟩ | ⟨rfl, rfl⟩ | ⟨rfl, rfl⟩
  · exact ⟨h1, h2, h3, h4, by rw [u_eq, u_eq], h6, h7⟩
  · exact ⟨h1, h2, h3, h4, h5, by rw [u_eq, u_eq], h7⟩
  · exact ⟨h1, h2, h3, h4, h5, h6, by rw [u_eq, u_eq]⟩
theorem RM.i {I A : CF} (h : RM I A) {i x f v : Int} (i0 : 0 ≤ i) (i1 : i < 12) (x0 : 0 ≤ x) (x1 : x < 2) (f0 : 0 ≤ f) (f1 : f < 5) : RM (uI I (140 + 3 * i + x) f v) (uI A 3 ((i * 2 + x) * 5 + f) v) := by
  obtain ⟨h1, h2, h3, h4, h5, h6, h7, h8⟩ := h
  refine ⟨fun ax a b => by rw [u_obj (by omega)]; exact h1 ax a b, fun ax row p a b c d e g => by rw [u_obj (by omega)]; exact h2 ax row p a b c d e g, fun ax p a b e g => by rw [u_obj (by omega)]; exact h3 ax p a b e g, fun ax s a b e g => by rw [u_obj (by omega)]; exact h4 ax s a b e g, by rw [u_obj (by omega)]; exact h5, by rw [u_obj (by omega)]; exact h6, by rw [u_obj (by omega)]; exact h7, fun j y g a b d e k m => ?_⟩
  unfold uI
  by_cases q : j = i ∧ y = x ∧ g = f
  · obtain ⟨rfl, rfl, rfl⟩ := q
    rw [if_pos ⟨rfl, rfl⟩, if_pos ⟨rfl, rfl⟩]
  · rw [if_neg (fun z => q (by omega)), if_neg (fun z => q (by omega))]
    exact h8 j y g a b d e k m
theorem RM.s {I A : CF} (h : RM I A) {x s v : Int} (x0 : 0 ≤ x) (x1 : x < 2) (s0 : 0 ≤ s) (s1 : s < 3) : RM (uI I (135 + x) s v) (uI A 2 (x * 3 + s) v) := by
  obtain ⟨h1, h2, h3, h4, h5, h6, h7, h8⟩ := h
  refine ⟨fun ax a b => by rw [u_obj (by omega)]; exact h1 ax a b, fun ax row p a b c d e g => by rw [u_obj (by omega)]; exact h2 ax row p a b c d e g, fun ax p a b e g => by rw [u_obj (by omega)]; exact h3 ax p a b e g, fun y g a b e k => ?_, by rw [u_obj (by omega)]; exact h5, by rw [u_obj (by omega)]; exact h6, by rw [u_obj (by omega)]; exact h7, fun j y g a b d e k m => by rw [u_obj (by omega)]; exact h8 j y g a b d e k m⟩
  unfold uI
  by_cases q : y = x ∧ g = s
  · obtain ⟨rfl, rfl⟩ := q
    rw [if_pos ⟨rfl, rfl⟩, if_pos ⟨rfl, rfl⟩]
  · rw [if_neg (fun z => q (by omega)), if_neg (fun z => q (by omega))]
    exact h4 y g a b e k
theorem RM.w {I A : CF} (h : RM I A) {q v : Int} (hq : q = 1 ∨ q = 2) : RM (uI I 137 (q - 1) v) (uI A 4 q v) := by
  obtain ⟨h1, h2, h3, h4, h5, h6, h7, h8⟩ := h
  refine ⟨fun ax a b => by rw [u_obj (by omega)]; exact h1 ax a b, fun ax row p a b c d e g => by rw [u_obj (by omega)]; exact h2 ax row p a b c d e g, fun ax p a b e g => by rw [u_obj (by omega)]; exact h3 ax p a b e g, fun ax s a b e g => by rw [u_obj (by omega)]; exact h4 ax s a b e g, ?_, ?_, ?_, fun j y g a b d e k m => by rw [u_obj (by omega)]; exact h8 j y g a b d e k m⟩
  · rcases hq with rfl | rfl
    · exact (u_eq).trans (u_eq).symm
    · exact (u_ne (by decide)).trans (h5.trans (u_ne (by decide)).symm)
  · rcases hq with rfl | rfl
    · exact (u_ne (by decide)).trans (h6.trans (u_ne (by decide)).symm)
    · exact (u_eq).trans (u_eq).symm
  · rw [u_obj (by omega), u_ne (by omega)]
    exact h7
theorem RM.n {I A : CF} (h : RM I A) {v : Int} : RM (uI I 102 6 v) (uI A 4 0 v) := by
  obtain ⟨h1, h2, h3, h4, h5, h6, h7, h8⟩ := h
  exact ⟨fun ax a b => by rw [u_obj (by omega)]; exact h1 ax a b, fun ax row p a b c d e g => by rw [u_obj (by omega)]; exact h2 ax row p a b c d e g, fun ax p a b e g => by rw [u_obj (by omega)]; exact h3 ax p a b e g, fun ax s a b e g => by rw [u_obj (by omega)]; exact h4 ax s a b e g, by rw [u_obj (by omega)]; exact h5, by rw [u_obj (by omega)]; exact h6, by rw [u_eq, u_eq], fun j y g a b d e k m => by rw [u_obj (by omega)]; exact h8 j y g a b d e k m⟩
abbrev ST : Type := CF × Int × (Int → CF) × (Int → Prop) × (Int → CF) × Int × (Int → Int)
/-- the engine's side, the reference's side, and what holds of the numbers -/
def EW (I : CF) (S : ST) : Prop := ES I S.1 ∧ ∃ p, EH I S.2.1 p S.2.2.1 S.2.2.2.1 S.2.2.2.2.1 S.2.2.2.2.2.1 S.2.2.2.2.2.2
def RWd (I : CF) (S : ST) : Prop := RM I S.1 ∧ RH I S.2.1 S.2.2.1 S.2.2.2.1 S.2.2.2.2.1 S.2.2.2.2.2.1 S.2.2.2.2.2.2
def okS (S : ST) : Prop := okA S.1 ∧ (0 ≤ S.2.1 ∧ S.2.1 ≤ 8) ∧ (∀ j, 0 ≤ j → j < S.2.1 → okA (S.2.2.1 j)) ∧ (∀ s, 0 ≤ s → s < 3 → S.2.2.2.1 s → okA (S.2.2.2.2.1 s)) ∧ (0 ≤ S.2.2.2.2.2.1 ∧ S.2.2.2.2.2.1 ≤ 120) ∧ ∀ k, 0 ≤ k → k < S.2.2.2.2.2.1 → 0 ≤ S.2.2.2.2.2.2 k ∧ S.2.2.2.2.2.2 k < 65536
/-- a change: the numbers as they were are remembered -/
def chg (S : ST) (A' : CF) : ST := (A', min 8 (S.2.1 + 1), psh S.1 S.2.2.1, S.2.2.2)
theorem okS.chg {S : ST} (h : okS S) {A' : CF} (hA : okA A') : okS (chg S A') := by
  obtain ⟨h1, h2, h3, h4⟩ := h
  refine ⟨hA, ?_, fun j j0 j1 => ?_, h4⟩
  · show 0 ≤ min 8 (S.2.1 + 1) ∧ min 8 (S.2.1 + 1) ≤ 8
    omega
  · have j1 : j < min 8 (S.2.1 + 1) := j1
    show okA (psh S.1 S.2.2.1 j)
    unfold psh
    by_cases e : j = 0
    · rw [if_pos e]; exact h1
    · rw [if_neg e]; exact h3 _ (by omega) (by omega)
/-- the engine's answer, with the state after it -/
def EStp (f : Option XR) (I J : CF) (c : Bool) (E1 E2 : String) (v t : Int) (S : ST) : Prop := ∃ I' J' b', f = (if t = 0 then some (Sx I' J' b' c, xi (iW v)) else some (Sx I' J' b' false, xt (if t = 1 then E1 else E2))) ∧ EW I' S ∧ (∀ a : Int, 102 ≤ a → I' a = I a) ∧ ∀ a : Int, 102 ≤ a → J' a = J a
def RStp (f : Option XR) (I J : CF) (b : Nat) (c : Bool) (v t : Int) (S : ST) : Prop := ∃ I' J', f = some (Sx I' J' b c, xi (iW v)) ∧ I' 102 0 = t ∧ RWd I' S ∧ (∀ a : Int, a < 102 → I' a = I a) ∧ ∀ a : Int, a ≠ 102 → J' a = J a
theorem EAns.stp {f : Option XR} {I J : CF} {b : Nat} {c : Bool} {E1 E2 : String} {v t : Int} {S : ST} (h : EAns f I J b c S.1 E1 E2 v t) (hW : EW I S) : EStp f I J c E1 E2 v t S := by
  obtain ⟨I', J', h1, h2, h3, h4⟩ := h
  obtain ⟨g1, p, g2⟩ := hW
  exact ⟨I', J', b, h1, ⟨h2, p, g2.fr (fun k hk => h3.2 k (by omega)) (fun a ha => h3.1 a (by omega) (by omega))⟩, fun a ha => h3.1 a (by omega) (by omega), fun a ha => h4 a (by omega) (by omega)⟩
theorem RAns.stp {f : Option XR} {I J : CF} {b : Nat} {c : Bool} {v t : Int} {S : ST} (h : RAns f I J b c v t) (hW : RWd I S) : RStp f I J b c v t S := by
  obtain ⟨I', J', h1, h2, h3, h4⟩ := h
  obtain ⟨g1, g2⟩ := hW
  exact ⟨I', J', h1, h2, ⟨g1.fr (h3 102 6 (by omega) (by omega)) (fun a a0 a1 => funext fun j => h3 a j (by omega) (by omega)), g2.fr (h3 102 13 (by omega) (by omega)) (h3 102 15 (by omega) (by omega)) (fun a a0 a1 => funext fun j => h3 a j (by omega) (by omega))⟩, fun a ha => funext fun j => h3 a j (by omega) (by omega), h4⟩
section ChangeW
variable {J : CF} {b : Nat} {c : Bool} {I : CF} {S : ST}
theorem e_chg (h : EW I S) : ∃ I', f_X7_rememberChange (Sx I J b c) 0 = some (Sx I' J b c, xv) ∧ EM I' S.1 ∧ (∃ p, EH I' (min 8 (S.2.1 + 1)) p (psh S.1 S.2.2.1) S.2.2.2.1 S.2.2.2.2.1 S.2.2.2.2.2.1 S.2.2.2.2.2.2) ∧ (I' 0 15 = 0 ∧ I' 20 0 = 0 ∧ I' 28 0 = 1) ∧ (∀ a : Int, a ≠ 0 → (a < 62 ∨ 101 < a) → I' a = I a) := by
  obtain ⟨⟨hA, hM, h20, h28, h01, hz⟩, p, hE⟩ := h
  obtain ⟨I', k1, k2, k3, k4⟩ := e_remember (J := J) (b := b) (c := c) hE hM hA
  exact ⟨I', k1, hM.fr (fun a a0 a1 => k4 a (by omega) (by omega)), ⟨_, k2⟩, ⟨k3, by rw [k4 20 (by omega) (by omega)]; exact h20, by rw [k4 28 (by omega) (by omega)]; exact h28⟩, k4⟩
/-- the engine's side after a change -/
theorem EW.mk {I1 I2 A' : CF} (hE : ∃ p, EH I1 (min 8 (S.2.1 + 1)) p (psh S.1 S.2.2.1) S.2.2.2.1 S.2.2.2.2.1 S.2.2.2.2.2.1 S.2.2.2.2.2.2) (h3 : I1 0 15 = 0 ∧ I1 20 0 = 0 ∧ I1 28 0 = 1) (hA : okA A') (hM : EM I2 A') (hf : ∀ a : Int, (a < 8 ∨ 12 < a) → I2 a = I1 a) : EW I2 (chg S A') := by
  obtain ⟨p, hE⟩ := hE
  obtain ⟨a1, a2, a3⟩ := h3
  have h15 : I2 0 15 = 0 := by rw [hf 0 (by omega)]; exact a1
  exact ⟨⟨hA, hM, by rw [hf 20 (by omega)]; exact a2, by rw [hf 28 (by omega)]; exact a3, Or.inl h15, fun z => by rw [h15] at z; exact absurd z (by decide)⟩, p, hE.fr (fun k hk => by rw [hf 0 (by omega)]) (fun a ha => hf a (by omega))⟩
theorem RWd.mk {I1 I2 A' : CF} (hH : RH I1 (min 8 (S.2.1 + 1)) (psh S.1 S.2.2.1) S.2.2.2.1 S.2.2.2.2.1 S.2.2.2.2.2.1 S.2.2.2.2.2.2) (hM : RM I2 A') (h0 : ∀ k, k ≠ 6 → I2 102 k = I1 102 k) (hf : ∀ a : Int, 175 ≤ a → I2 a = I1 a) : RWd I2 (chg S A') := ⟨hM, hH.fr (h0 13 (by omega)) (h0 15 (by omega)) (fun a a0 a1 => hf a (by omega))⟩
theorem EW.t (hW : EW I S) {E1 E2 : String} {t v : Int} (ht : t = 1 ∨ t = 2) : EStp (some (Sx I J b false, xt (if t = 1 then E1 else E2))) I J c E1 E2 v t S := ⟨I, J, b, by rw [if_neg (show ¬ (t = 0) by omega)], hW, fun _ _ => rfl, fun _ _ => rfl⟩
theorem RWd.t {v : Int} (h : RWd I S) : RWd (uI I 102 0 v) S := ⟨h.1.t, h.2.fr (u_ne (by omega)) (u_ne (by omega)) (fun a a0 a1 => u_obj (by omega))⟩
theorem e_changeItem {i x f v : Int} (i0 : 0 ≤ i) (i1 : i < 12) (x0 : 0 ≤ x) (x1 : x < 2) (f0 : 0 ≤ f) (f1 : f < 5) : f_X4_changeItem (Sx I J b c) 8 (iW i) (iW x) (iW f) (iW v) = some (Sx (uI I 12 ((i * 2 + x) * 5 + f) v) J b c, xv) := by
  have n3 : ¬ ((i * 2 + x) * 5 + f < 0) := by omega
  have n4 : ¬ (120 ≤ (i * 2 + x) * 5 + f) := by omega
  simp (disch := first | assumption | omega) only [f_X4_changeItem, f_X4_changeItem_b35, ↓rc8, ↓gI8_4, ↓gI8_5, ↓gI8_6, ↓pI8_4, ↓pI8_5, ↓pZ8_6, ↓gR8_0, ↓gR8_1, ↓gR8_2, ↓gR8_3, ↓aI9, ↓sI9, ↓ln9, ↓aI10, ↓sI10, ↓ln10, ↓aI11, ↓sI11, ↓ln11, ↓aI12, ↓sI12, ↓ln12, ↓c_I, ↓c_J, ↓c_Q, ↓c_V, ↓c_It, ↓c_Jt, ↓c_Vt, ↓k_I, ↓k_J, ↓n_I, ↓n_V, li0, li1, li2, li3, li4, li5, li6, li7, li8, li9, li10, li11, li12, li13, li14, li15, li16, li17, li18, li19, li20, li21, li22, li23, li24, li25, li26, li27, li28, li29, li30, li31, li32, li33, li34, li35, li36, li37, li38, li39, li40, li41, li42, li44, li48, li57, li63, li64, li65, li97, li99, li100, li101, li102, li104, li105, li106, li109, li114, li120, li128, li130, li300, li514, li999, li1000, li8192, li9999, li65536, li1000000, li1000001, li1000002, li1000003, li1000004, li1000005, li1000006, li1000007, li1000008, li1000009, li1000010, li1000011, li1000012, li1000013, li1000014, li1000015, li1000016, li1000017, li1000018, li1000019, li2147483647, lj0, lj1, W_add, W_sub, W_mul, W_neg, V_add, V_sub, V_mul, V_neg, W_ite, W_le, W_lt, W_inj, V_le, V_lt, V_inj, W_V, V_W, lgc_ge, lgc_gt, lgc_le, lgc_lt, lgc_eq, ge_iff_le, gt_iff_lt, n3, n4, ↓reduceIte]
theorem e_changeSetting {x s v : Int} (x0 : 0 ≤ x) (x1 : x < 2) (s0 : 0 ≤ s) (s1 : s < 3) : f_X4_changeSetting (Sx I J b c) 8 (iW x) (iW s) (iW v) = some (Sx (uI I 11 (x * 3 + s) v) J b c, xv) := by
  have n3 : ¬ (x * 3 + s < 0) := by omega
  have n4 : ¬ (6 ≤ x * 3 + s) := by omega
  simp (disch := first | assumption | omega) only [f_X4_changeSetting, f_X4_changeSetting_b30, ↓rc8, ↓gI8_4, ↓gI8_5, ↓gI8_6, ↓pI8_4, ↓pI8_5, ↓pZ8_6, ↓gR8_0, ↓gR8_1, ↓gR8_2, ↓gR8_3, ↓aI9, ↓sI9, ↓ln9, ↓aI10, ↓sI10, ↓ln10, ↓aI11, ↓sI11, ↓ln11, ↓aI12, ↓sI12, ↓ln12, ↓c_I, ↓c_J, ↓c_Q, ↓c_V, ↓c_It, ↓c_Jt, ↓c_Vt, ↓k_I, ↓k_J, ↓n_I, ↓n_V, li0, li1, li2, li3, li4, li5, li6, li7, li8, li9, li10, li11, li12, li13, li14, li15, li16, li17, li18, li19, li20, li21, li22, li23, li24, li25, li26, li27, li28, li29, li30, li31, li32, li33, li34, li35, li36, li37, li38, li39, li40, li41, li42, li44, li48, li57, li63, li64, li65, li97, li99, li100, li101, li102, li104, li105, li106, li109, li114, li120, li128, li130, li300, li514, li999, li1000, li8192, li9999, li65536, li1000000, li1000001, li1000002, li1000003, li1000004, li1000005, li1000006, li1000007, li1000008, li1000009, li1000010, li1000011, li1000012, li1000013, li1000014, li1000015, li1000016, li1000017, li1000018, li1000019, li2147483647, lj0, lj1, W_add, W_sub, W_mul, W_neg, V_add, V_sub, V_mul, V_neg, W_ite, W_le, W_lt, W_inj, V_le, V_lt, V_inj, W_V, V_W, lgc_ge, lgc_gt, lgc_le, lgc_lt, lgc_eq, ge_iff_le, gt_iff_lt, n3, n4, ↓reduceIte]
end ChangeW

/-! ===== THE PURE LEVEL: after the constructors. Shapes and references stay as they are from here on (but the text's letters) ===== -/
/-- nothing made yet -/
def hp0 : HP := (fun _ _ => 0, fun _ _ => 0, fun _ _ => none, [], true)
def hw1 : HP := match f_X7_init (h_new hp0 7 0) 0 with
  | some z => z.1
  | none => hp0
def hw2 : HP := match f_X8_init (h_new hw1 8 0) 102 with
  | some z => z.1
  | none => hp0
def hW : HP := h_new hw2 103 1
def w_fin (r : Option XR) : Bool := match r with
  | some (_, (none, none)) => true
  | _ => false
theorem w_fin_el {r : Option XR} (h : w_fin r = true) : ∃ h', r = some (h', xv) := by
  unfold w_fin at h
  split at h
  · next h' => exact ⟨h', rfl⟩
  · cases h
set_option maxRecDepth 100000 in
theorem w_ok1 : w_fin (f_X7_init (h_new hp0 7 0) 0) = true := by decide +kernel
theorem w_e1 : f_X7_init (h_new hp0 7 0) 0 = some (hw1, xv) := by
  obtain ⟨h', e⟩ := w_fin_el w_ok1
  unfold hw1
  rw [e]
def SHL : List (Nat × Nat) := [(7, 0), (101, 120), (6, 0), (101, 0), (100, 65), (100, 5), (100, 4), (100, 4), (4, 0), (100, 130), (100, 2), (100, 6), (100, 120), (104, 3), (102, 3), (104, 8), (5, 0), (100, 24), (102, 12), (100, 2), (0, 0), (102, 65), (100, 65), (100, 65), (100, 65), (100, 65), (100, 65), (100, 65), (0, 0), (102, 65), (100, 65), (100, 65), (100, 65), (100, 65), (100, 65), (100, 65), (2, 0), (100, 64), (100, 64), (100, 64), (100, 64), (1, 0), (100, 65), (100, 12), (3, 0), (102, 65), (103, 65), (4, 0), (100, 130), (100, 2), (100, 6), (100, 120), (4, 0), (100, 130), (100, 2), (100, 6), (100, 120), (4, 0), (100, 130), (100, 2), (100, 6), (100, 120), (4, 0), (100, 130), (100, 2), (100, 6), (100, 120), (4, 0), (100, 130), (100, 2), (100, 6), (100, 120), (4, 0), (100, 130), (100, 2), (100, 6), (100, 120), (4, 0), (100, 130), (100, 2), (100, 6), (100, 120), (4, 0), (100, 130), (100, 2), (100, 6), (100, 120), (4, 0), (100, 130), (100, 2), (100, 6), (100, 120), (4, 0), (100, 130), (100, 2), (100, 6), (100, 120), (4, 0), (100, 130), (100, 2), (100, 6), (100, 120), (8, 0), (100, 2), (106, 2), (105, 12), (100, 5), (100, 5), (100, 5), (100, 5), (100, 5), (100, 5), (100, 5), (100, 5), (100, 5), (100, 5), (100, 5), (100, 5), (105, 12), (100, 5), (100, 5), (100, 5), (100, 5), (100, 5), (100, 5), (100, 5), (100, 5), (100, 5), (100, 5), (100, 5), (100, 5), (105, 2), (100, 5), (100, 5), (105, 2), (100, 3), (100, 3), (100, 2), (106, 12), (105, 2), (100, 5), (100, 5), (105, 2), (100, 5), (100, 5), (105, 2), (100, 5), (100, 5), (105, 2), (100, 5), (100, 5), (105, 2), (100, 5), (100, 5), (105, 2), (100, 5), (100, 5), (105, 2), (100, 5), (100, 5), (105, 2), (100, 5), (100, 5), (105, 2), (100, 5), (100, 5), (105, 2), (100, 5), (100, 5), (105, 2), (100, 5), (100, 5), (105, 2), (100, 5), (100, 5), (105, 3), (100, 300), (100, 300), (100, 300), (105, 8), (100, 300), (100, 300), (100, 300), (100, 300), (100, 300), (100, 300), (100, 300), (100, 300), (102, 3), (101, 120), (105, 12), (100, 5), (100, 5), (100, 5), (100, 5), (100, 5), (100, 5), (100, 5), (100, 5), (100, 5), (100, 5), (100, 5), (100, 5), (100, 5), (105, 12), (100, 2), (100, 2), (100, 2), (100, 2), (100, 2), (100, 2), (100, 2), (100, 2), (100, 2), (100, 2), (100, 2), (100, 2), (102, 12), (100, 2), (100, 2), (102, 12), (102, 128), (105, 6), (100, 128), (100, 128), (100, 128), (100, 128), (100, 128), (100, 128), (100, 128), (100, 128), (100, 128), (100, 128), (100, 128), (102, 128), (102, 128), (103, 1)]
set_option maxRecDepth 100000 in
theorem w_sh1 : ((h_sh hw1 == SHL.take 102) && hw1.2.2.2.2) = true := by decide +kernel
set_option maxRecDepth 100000 in
theorem w_ok2 : w_fin (f_X8_init (h_new hw1 8 0) 102) = true := by decide +kernel
theorem w_e2 : f_X8_init (h_new hw1 8 0) 102 = some (hw2, xv) := by
  obtain ⟨h', e⟩ := w_fin_el w_ok2
  unfold hw2
  rw [e]
set_option maxRecDepth 100000 in
theorem w_sh2 : ((h_sh hw2 == SHL.take 236) && hw2.2.2.2.2) = true := by decide +kernel
theorem w_len1 : (h_sh hw1).length = 102 := by
  have h := w_sh1
  rw [Bool.and_eq_true, beq_iff_eq] at h
  rw [h.1]
  rfl
theorem w_len2 : (h_sh hw2).length = 236 := by
  have h := w_sh2
  rw [Bool.and_eq_true, beq_iff_eq] at h
  rw [h.1]
  rfl
theorem w_cl1 : hw1.2.2.2.2 = true := (Bool.and_eq_true_iff.mp w_sh1).2
theorem w_cl2 : hw2.2.2.2.2 = true := (Bool.and_eq_true_iff.mp w_sh2).2
theorem w_law (L : Nat) (xs : Nat → Int32) : f_L_law L xs hp0 = f_L_law_L23 L xs 514 hW 0 102 236 0 := by
  unfold f_L_law
  have k1 : ∀ {ci : Nat} {f : HP → Nat → Option XR} {h : HP}, h.2.2.2.2 = true → (h_sh h).length < 1000 → x_no h ci f = f (h_new h ci 0) (h_sh h).length := fun a b => if_pos ⟨a, b⟩
  rw [k1 rfl (by decide)]
  show x_nV (f_X7_init (h_new hp0 7 0) 0) _ = _
  rw [w_e1]
  show x_no hw1 8 _ = _
  rw [k1 w_cl1 (by rw [w_len1]; decide), w_len1]
  show x_nV (f_X8_init (h_new hw1 8 0) 102) _ = _
  rw [w_e2]
  show x_na hw2 3 1 _ = _
  unfold x_na
  rw [if_pos ⟨w_cl2, by rw [w_len2]; decide, by decide, by decide⟩, w_len2]
  rfl
def RCL : List (Nat × Nat × Nat) := [(0, 0, 1), (0, 2, 2), (0, 3, 8), (0, 4, 13), (0, 5, 14), (0, 6, 15), (0, 9, 16), (0, 10, 20), (0, 11, 28), (0, 12, 36), (0, 13, 41), (0, 14, 44), (2, 0, 3), (2, 7, 4), (2, 8, 5), (2, 10, 6), (2, 11, 7), (8, 0, 9), (8, 1, 10), (8, 2, 11), (8, 3, 12), (13, 0, 47), (13, 1, 52), (13, 2, 57), (15, 0, 62), (15, 1, 67), (15, 2, 72), (15, 3, 77), (15, 4, 82), (15, 5, 87), (15, 6, 92), (15, 7, 97), (16, 0, 8), (16, 1, 17), (16, 2, 18), (16, 3, 19), (20, 1, 8), (20, 2, 16), (20, 3, 21), (20, 4, 22), (20, 5, 23), (20, 6, 24), (20, 7, 25), (20, 8, 26), (20, 9, 27), (28, 1, 8), (28, 2, 16), (28, 3, 29), (28, 4, 30), (28, 5, 31), (28, 6, 32), (28, 7, 33), (28, 8, 34), (28, 9, 35), (36, 0, 37), (36, 1, 38), (36, 2, 39), (36, 3, 40), (41, 0, 36), (41, 1, 42), (41, 2, 43), (44, 0, 45), (44, 1, 46), (47, 0, 48), (47, 1, 49), (47, 2, 50), (47, 3, 51), (52, 0, 53), (52, 1, 54), (52, 2, 55), (52, 3, 56), (57, 0, 58), (57, 1, 59), (57, 2, 60), (57, 3, 61), (62, 0, 63), (62, 1, 64), (62, 2, 65), (62, 3, 66), (67, 0, 68), (67, 1, 69), (67, 2, 70), (67, 3, 71), (72, 0, 73), (72, 1, 74), (72, 2, 75), (72, 3, 76), (77, 0, 78), (77, 1, 79), (77, 2, 80), (77, 3, 81), (82, 0, 83), (82, 1, 84), (82, 2, 85), (82, 3, 86), (87, 0, 88), (87, 1, 89), (87, 2, 90), (87, 3, 91), (92, 0, 93), (92, 1, 94), (92, 2, 95), (92, 3, 96), (97, 0, 98), (97, 1, 99), (97, 2, 100), (97, 3, 101), (102, 1, 103), (102, 2, 104), (102, 3, 131), (102, 4, 134), (102, 5, 137), (102, 7, 138), (102, 10, 175), (102, 11, 179), (102, 12, 188), (102, 14, 189), (102, 20, 190), (102, 21, 203), (102, 22, 204), (102, 23, 217), (102, 24, 218), (102, 25, 219), (102, 26, 220), (102, 30, 221), (102, 31, 222), (102, 32, 229), (102, 33, 230), (102, 34, 231), (102, 35, 232), (102, 36, 233), (102, 37, 234), (102, 38, 235), (104, 0, 105), (104, 1, 118), (105, 0, 106), (105, 1, 107), (105, 2, 108), (105, 3, 109), (105, 4, 110), (105, 5, 111), (105, 6, 112), (105, 7, 113), (105, 8, 114), (105, 9, 115), (105, 10, 116), (105, 11, 117), (118, 0, 119), (118, 1, 120), (118, 2, 121), (118, 3, 122), (118, 4, 123), (118, 5, 124), (118, 6, 125), (118, 7, 126), (118, 8, 127), (118, 9, 128), (118, 10, 129), (118, 11, 130), (131, 0, 132), (131, 1, 133), (134, 0, 135), (134, 1, 136), (138, 0, 139), (138, 1, 142), (138, 2, 145), (138, 3, 148), (138, 4, 151), (138, 5, 154), (138, 6, 157), (138, 7, 160), (138, 8, 163), (138, 9, 166), (138, 10, 169), (138, 11, 172), (139, 0, 140), (139, 1, 141), (142, 0, 143), (142, 1, 144), (145, 0, 146), (145, 1, 147), (148, 0, 149), (148, 1, 150), (151, 0, 152), (151, 1, 153), (154, 0, 155), (154, 1, 156), (157, 0, 158), (157, 1, 159), (160, 0, 161), (160, 1, 162), (163, 0, 164), (163, 1, 165), (166, 0, 167), (166, 1, 168), (169, 0, 170), (169, 1, 171), (172, 0, 173), (172, 1, 174), (175, 0, 176), (175, 1, 177), (175, 2, 178), (179, 0, 180), (179, 1, 181), (179, 2, 182), (179, 3, 183), (179, 4, 184), (179, 5, 185), (179, 6, 186), (179, 7, 187), (190, 0, 191), (190, 1, 192), (190, 2, 193), (190, 3, 194), (190, 4, 195), (190, 5, 196), (190, 6, 197), (190, 7, 198), (190, 8, 199), (190, 9, 200), (190, 10, 201), (190, 11, 202), (204, 0, 205), (204, 1, 206), (204, 2, 207), (204, 3, 208), (204, 4, 209), (204, 5, 210), (204, 6, 211), (204, 7, 212), (204, 8, 213), (204, 9, 214), (204, 10, 215), (204, 11, 216), (222, 0, 223), (222, 1, 224), (222, 2, 225), (222, 3, 226), (222, 4, 227), (222, 5, 228)]
set_option maxRecDepth 100000 in
theorem w_refs : (RCL.all fun t => hW.2.2.1 t.1 t.2.1 == some t.2.2) = true := by decide +kernel
def RW (b a k : Nat) : Option Nat := if a = 2 ∧ k = 0 then some b else hW.2.2.1 a k
def S (I : Nat → Nat → Int32) (J : Nat → Nat → Int64) (b : Nat) (c : Bool) : HP := (I, J, RW b, SHL, c)
theorem w_ref {a k b : Nat} (h : (a, k, b) ∈ RCL) : hW.2.2.1 a k = some b := by
  have h1 := List.all_eq_true.mp w_refs _ h
  exact beq_iff_eq.mp h1
theorem w_S : hW = S hW.1 hW.2.1 3 true := by
  have hs : h_sh hW = SHL := by
    have h := w_sh2
    rw [Bool.and_eq_true, beq_iff_eq] at h
    show h_sh hw2 ++ [(103, 1)] = _
    rw [h.1]
    rfl
  have hr : hW.2.2.1 = RW 3 := by
    funext a k
    unfold RW
    split
    · next q => rw [q.1, q.2]; exact w_ref (by decide +kernel)
    · rfl
  show (hW.1, hW.2.1, hW.2.2.1, h_sh hW, hW.2.2.2.2) = _
  rw [hs, hr]
  show (_, _, _, _, hw2.2.2.2.2) = _
  rw [w_cl2]
  rfl
theorem RW_0_0 (b : Nat) : RW b 0 0 = some 1 := (if_neg (by decide)).trans (w_ref (by decide +kernel))
theorem RW_0_2 (b : Nat) : RW b 0 2 = some 2 := (if_neg (by decide)).trans (w_ref (by decide +kernel))
theorem RW_0_3 (b : Nat) : RW b 0 3 = some 8 := (if_neg (by decide)).trans (w_ref (by decide +kernel))
theorem RW_0_4 (b : Nat) : RW b 0 4 = some 13 := (if_neg (by decide)).trans (w_ref (by decide +kernel))
theorem RW_0_5 (b : Nat) : RW b 0 5 = some 14 := (if_neg (by decide)).trans (w_ref (by decide +kernel))
theorem RW_0_6 (b : Nat) : RW b 0 6 = some 15 := (if_neg (by decide)).trans (w_ref (by decide +kernel))
theorem RW_0_9 (b : Nat) : RW b 0 9 = some 16 := (if_neg (by decide)).trans (w_ref (by decide +kernel))
theorem RW_0_10 (b : Nat) : RW b 0 10 = some 20 := (if_neg (by decide)).trans (w_ref (by decide +kernel))
theorem RW_0_11 (b : Nat) : RW b 0 11 = some 28 := (if_neg (by decide)).trans (w_ref (by decide +kernel))
theorem RW_0_12 (b : Nat) : RW b 0 12 = some 36 := (if_neg (by decide)).trans (w_ref (by decide +kernel))
theorem RW_0_13 (b : Nat) : RW b 0 13 = some 41 := (if_neg (by decide)).trans (w_ref (by decide +kernel))
theorem RW_0_14 (b : Nat) : RW b 0 14 = some 44 := (if_neg (by decide)).trans (w_ref (by decide +kernel))
theorem RW_2_7 (b : Nat) : RW b 2 7 = some 4 := (if_neg (by decide)).trans (w_ref (by decide +kernel))
theorem RW_2_8 (b : Nat) : RW b 2 8 = some 5 := (if_neg (by decide)).trans (w_ref (by decide +kernel))
theorem RW_2_10 (b : Nat) : RW b 2 10 = some 6 := (if_neg (by decide)).trans (w_ref (by decide +kernel))
theorem RW_2_11 (b : Nat) : RW b 2 11 = some 7 := (if_neg (by decide)).trans (w_ref (by decide +kernel))
theorem RW_8_0 (b : Nat) : RW b 8 0 = some 9 := (if_neg (by decide)).trans (w_ref (by decide +kernel))
theorem RW_8_1 (b : Nat) : RW b 8 1 = some 10 := (if_neg (by decide)).trans (w_ref (by decide +kernel))
theorem RW_8_2 (b : Nat) : RW b 8 2 = some 11 := (if_neg (by decide)).trans (w_ref (by decide +kernel))
theorem RW_8_3 (b : Nat) : RW b 8 3 = some 12 := (if_neg (by decide)).trans (w_ref (by decide +kernel))
theorem RW_13_0 (b : Nat) : RW b 13 0 = some 47 := (if_neg (by decide)).trans (w_ref (by decide +kernel))
theorem RW_13_1 (b : Nat) : RW b 13 1 = some 52 := (if_neg (by decide)).trans (w_ref (by decide +kernel))
theorem RW_13_2 (b : Nat) : RW b 13 2 = some 57 := (if_neg (by decide)).trans (w_ref (by decide +kernel))
theorem RW_15_0 (b : Nat) : RW b 15 0 = some 62 := (if_neg (by decide)).trans (w_ref (by decide +kernel))
theorem RW_15_1 (b : Nat) : RW b 15 1 = some 67 := (if_neg (by decide)).trans (w_ref (by decide +kernel))
theorem RW_15_2 (b : Nat) : RW b 15 2 = some 72 := (if_neg (by decide)).trans (w_ref (by decide +kernel))
theorem RW_15_3 (b : Nat) : RW b 15 3 = some 77 := (if_neg (by decide)).trans (w_ref (by decide +kernel))
theorem RW_15_4 (b : Nat) : RW b 15 4 = some 82 := (if_neg (by decide)).trans (w_ref (by decide +kernel))
theorem RW_15_5 (b : Nat) : RW b 15 5 = some 87 := (if_neg (by decide)).trans (w_ref (by decide +kernel))
theorem RW_15_6 (b : Nat) : RW b 15 6 = some 92 := (if_neg (by decide)).trans (w_ref (by decide +kernel))
theorem RW_15_7 (b : Nat) : RW b 15 7 = some 97 := (if_neg (by decide)).trans (w_ref (by decide +kernel))
theorem RW_16_0 (b : Nat) : RW b 16 0 = some 8 := (if_neg (by decide)).trans (w_ref (by decide +kernel))
theorem RW_16_1 (b : Nat) : RW b 16 1 = some 17 := (if_neg (by decide)).trans (w_ref (by decide +kernel))
theorem RW_16_2 (b : Nat) : RW b 16 2 = some 18 := (if_neg (by decide)).trans (w_ref (by decide +kernel))
theorem RW_16_3 (b : Nat) : RW b 16 3 = some 19 := (if_neg (by decide)).trans (w_ref (by decide +kernel))
theorem RW_20_1 (b : Nat) : RW b 20 1 = some 8 := (if_neg (by decide)).trans (w_ref (by decide +kernel))
theorem RW_20_2 (b : Nat) : RW b 20 2 = some 16 := (if_neg (by decide)).trans (w_ref (by decide +kernel))
theorem RW_20_3 (b : Nat) : RW b 20 3 = some 21 := (if_neg (by decide)).trans (w_ref (by decide +kernel))
theorem RW_20_4 (b : Nat) : RW b 20 4 = some 22 := (if_neg (by decide)).trans (w_ref (by decide +kernel))
theorem RW_20_5 (b : Nat) : RW b 20 5 = some 23 := (if_neg (by decide)).trans (w_ref (by decide +kernel))
theorem RW_20_6 (b : Nat) : RW b 20 6 = some 24 := (if_neg (by decide)).trans (w_ref (by decide +kernel))
theorem RW_20_7 (b : Nat) : RW b 20 7 = some 25 := (if_neg (by decide)).trans (w_ref (by decide +kernel))
theorem RW_20_8 (b : Nat) : RW b 20 8 = some 26 := (if_neg (by decide)).trans (w_ref (by decide +kernel))
theorem RW_20_9 (b : Nat) : RW b 20 9 = some 27 := (if_neg (by decide)).trans (w_ref (by decide +kernel))
theorem RW_28_1 (b : Nat) : RW b 28 1 = some 8 := (if_neg (by decide)).trans (w_ref (by decide +kernel))
theorem RW_28_2 (b : Nat) : RW b 28 2 = some 16 := (if_neg (by decide)).trans (w_ref (by decide +kernel))
theorem RW_28_3 (b : Nat) : RW b 28 3 = some 29 := (if_neg (by decide)).trans (w_ref (by decide +kernel))
theorem RW_28_4 (b : Nat) : RW b 28 4 = some 30 := (if_neg (by decide)).trans (w_ref (by decide +kernel))
theorem RW_28_5 (b : Nat) : RW b 28 5 = some 31 := (if_neg (by decide)).trans (w_ref (by decide +kernel))
theorem RW_28_6 (b : Nat) : RW b 28 6 = some 32 := (if_neg (by decide)).trans (w_ref (by decide +kernel))
theorem RW_28_7 (b : Nat) : RW b 28 7 = some 33 := (if_neg (by decide)).trans (w_ref (by decide +kernel))
theorem RW_28_8 (b : Nat) : RW b 28 8 = some 34 := (if_neg (by decide)).trans (w_ref (by decide +kernel))
theorem RW_28_9 (b : Nat) : RW b 28 9 = some 35 := (if_neg (by decide)).trans (w_ref (by decide +kernel))
theorem RW_36_0 (b : Nat) : RW b 36 0 = some 37 := (if_neg (by decide)).trans (w_ref (by decide +kernel))
theorem RW_36_1 (b : Nat) : RW b 36 1 = some 38 := (if_neg (by decide)).trans (w_ref (by decide +kernel))
theorem RW_36_2 (b : Nat) : RW b 36 2 = some 39 := (if_neg (by decide)).trans (w_ref (by decide +kernel))
theorem RW_36_3 (b : Nat) : RW b 36 3 = some 40 := (if_neg (by decide)).trans (w_ref (by decide +kernel))
theorem RW_41_0 (b : Nat) : RW b 41 0 = some 36 := (if_neg (by decide)).trans (w_ref (by decide +kernel))
theorem RW_41_1 (b : Nat) : RW b 41 1 = some 42 := (if_neg (by decide)).trans (w_ref (by decide +kernel))
theorem RW_41_2 (b : Nat) : RW b 41 2 = some 43 := (if_neg (by decide)).trans (w_ref (by decide +kernel))
theorem RW_44_0 (b : Nat) : RW b 44 0 = some 45 := (if_neg (by decide)).trans (w_ref (by decide +kernel))
theorem RW_44_1 (b : Nat) : RW b 44 1 = some 46 := (if_neg (by decide)).trans (w_ref (by decide +kernel))
theorem RW_47_0 (b : Nat) : RW b 47 0 = some 48 := (if_neg (by decide)).trans (w_ref (by decide +kernel))
theorem RW_47_1 (b : Nat) : RW b 47 1 = some 49 := (if_neg (by decide)).trans (w_ref (by decide +kernel))
theorem RW_47_2 (b : Nat) : RW b 47 2 = some 50 := (if_neg (by decide)).trans (w_ref (by decide +kernel))
theorem RW_47_3 (b : Nat) : RW b 47 3 = some 51 := (if_neg (by decide)).trans (w_ref (by decide +kernel))
theorem RW_52_0 (b : Nat) : RW b 52 0 = some 53 := (if_neg (by decide)).trans (w_ref (by decide +kernel))
theorem RW_52_1 (b : Nat) : RW b 52 1 = some 54 := (if_neg (by decide)).trans (w_ref (by decide +kernel))
theorem RW_52_2 (b : Nat) : RW b 52 2 = some 55 := (if_neg (by decide)).trans (w_ref (by decide +kernel))
theorem RW_52_3 (b : Nat) : RW b 52 3 = some 56 := (if_neg (by decide)).trans (w_ref (by decide +kernel))
theorem RW_57_0 (b : Nat) : RW b 57 0 = some 58 := (if_neg (by decide)).trans (w_ref (by decide +kernel))
theorem RW_57_1 (b : Nat) : RW b 57 1 = some 59 := (if_neg (by decide)).trans (w_ref (by decide +kernel))
theorem RW_57_2 (b : Nat) : RW b 57 2 = some 60 := (if_neg (by decide)).trans (w_ref (by decide +kernel))
theorem RW_57_3 (b : Nat) : RW b 57 3 = some 61 := (if_neg (by decide)).trans (w_ref (by decide +kernel))
theorem RW_62_0 (b : Nat) : RW b 62 0 = some 63 := (if_neg (by decide)).trans (w_ref (by decide +kernel))
theorem RW_62_1 (b : Nat) : RW b 62 1 = some 64 := (if_neg (by decide)).trans (w_ref (by decide +kernel))
theorem RW_62_2 (b : Nat) : RW b 62 2 = some 65 := (if_neg (by decide)).trans (w_ref (by decide +kernel))
theorem RW_62_3 (b : Nat) : RW b 62 3 = some 66 := (if_neg (by decide)).trans (w_ref (by decide +kernel))
theorem RW_67_0 (b : Nat) : RW b 67 0 = some 68 := (if_neg (by decide)).trans (w_ref (by decide +kernel))
theorem RW_67_1 (b : Nat) : RW b 67 1 = some 69 := (if_neg (by decide)).trans (w_ref (by decide +kernel))
theorem RW_67_2 (b : Nat) : RW b 67 2 = some 70 := (if_neg (by decide)).trans (w_ref (by decide +kernel))
theorem RW_67_3 (b : Nat) : RW b 67 3 = some 71 := (if_neg (by decide)).trans (w_ref (by decide +kernel))
theorem RW_72_0 (b : Nat) : RW b 72 0 = some 73 := (if_neg (by decide)).trans (w_ref (by decide +kernel))
theorem RW_72_1 (b : Nat) : RW b 72 1 = some 74 := (if_neg (by decide)).trans (w_ref (by decide +kernel))
theorem RW_72_2 (b : Nat) : RW b 72 2 = some 75 := (if_neg (by decide)).trans (w_ref (by decide +kernel))
theorem RW_72_3 (b : Nat) : RW b 72 3 = some 76 := (if_neg (by decide)).trans (w_ref (by decide +kernel))
theorem RW_77_0 (b : Nat) : RW b 77 0 = some 78 := (if_neg (by decide)).trans (w_ref (by decide +kernel))
theorem RW_77_1 (b : Nat) : RW b 77 1 = some 79 := (if_neg (by decide)).trans (w_ref (by decide +kernel))
theorem RW_77_2 (b : Nat) : RW b 77 2 = some 80 := (if_neg (by decide)).trans (w_ref (by decide +kernel))
theorem RW_77_3 (b : Nat) : RW b 77 3 = some 81 := (if_neg (by decide)).trans (w_ref (by decide +kernel))
theorem RW_82_0 (b : Nat) : RW b 82 0 = some 83 := (if_neg (by decide)).trans (w_ref (by decide +kernel))
theorem RW_82_1 (b : Nat) : RW b 82 1 = some 84 := (if_neg (by decide)).trans (w_ref (by decide +kernel))
theorem RW_82_2 (b : Nat) : RW b 82 2 = some 85 := (if_neg (by decide)).trans (w_ref (by decide +kernel))
theorem RW_82_3 (b : Nat) : RW b 82 3 = some 86 := (if_neg (by decide)).trans (w_ref (by decide +kernel))
theorem RW_87_0 (b : Nat) : RW b 87 0 = some 88 := (if_neg (by decide)).trans (w_ref (by decide +kernel))
theorem RW_87_1 (b : Nat) : RW b 87 1 = some 89 := (if_neg (by decide)).trans (w_ref (by decide +kernel))
theorem RW_87_2 (b : Nat) : RW b 87 2 = some 90 := (if_neg (by decide)).trans (w_ref (by decide +kernel))
theorem RW_87_3 (b : Nat) : RW b 87 3 = some 91 := (if_neg (by decide)).trans (w_ref (by decide +kernel))
theorem RW_92_0 (b : Nat) : RW b 92 0 = some 93 := (if_neg (by decide)).trans (w_ref (by decide +kernel))
theorem RW_92_1 (b : Nat) : RW b 92 1 = some 94 := (if_neg (by decide)).trans (w_ref (by decide +kernel))
theorem RW_92_2 (b : Nat) : RW b 92 2 = some 95 := (if_neg (by decide)).trans (w_ref (by decide +kernel))
theorem RW_92_3 (b : Nat) : RW b 92 3 = some 96 := (if_neg (by decide)).trans (w_ref (by decide +kernel))
theorem RW_97_0 (b : Nat) : RW b 97 0 = some 98 := (if_neg (by decide)).trans (w_ref (by decide +kernel))
theorem RW_97_1 (b : Nat) : RW b 97 1 = some 99 := (if_neg (by decide)).trans (w_ref (by decide +kernel))
theorem RW_97_2 (b : Nat) : RW b 97 2 = some 100 := (if_neg (by decide)).trans (w_ref (by decide +kernel))
theorem RW_97_3 (b : Nat) : RW b 97 3 = some 101 := (if_neg (by decide)).trans (w_ref (by decide +kernel))
theorem RW_102_1 (b : Nat) : RW b 102 1 = some 103 := (if_neg (by decide)).trans (w_ref (by decide +kernel))
theorem RW_102_2 (b : Nat) : RW b 102 2 = some 104 := (if_neg (by decide)).trans (w_ref (by decide +kernel))
theorem RW_102_3 (b : Nat) : RW b 102 3 = some 131 := (if_neg (by decide)).trans (w_ref (by decide +kernel))
theorem RW_102_4 (b : Nat) : RW b 102 4 = some 134 := (if_neg (by decide)).trans (w_ref (by decide +kernel))
theorem RW_102_5 (b : Nat) : RW b 102 5 = some 137 := (if_neg (by decide)).trans (w_ref (by decide +kernel))
theorem RW_102_7 (b : Nat) : RW b 102 7 = some 138 := (if_neg (by decide)).trans (w_ref (by decide +kernel))
theorem RW_102_10 (b : Nat) : RW b 102 10 = some 175 := (if_neg (by decide)).trans (w_ref (by decide +kernel))
theorem RW_102_11 (b : Nat) : RW b 102 11 = some 179 := (if_neg (by decide)).trans (w_ref (by decide +kernel))
theorem RW_102_12 (b : Nat) : RW b 102 12 = some 188 := (if_neg (by decide)).trans (w_ref (by decide +kernel))
theorem RW_102_14 (b : Nat) : RW b 102 14 = some 189 := (if_neg (by decide)).trans (w_ref (by decide +kernel))
theorem RW_102_20 (b : Nat) : RW b 102 20 = some 190 := (if_neg (by decide)).trans (w_ref (by decide +kernel))
theorem RW_102_21 (b : Nat) : RW b 102 21 = some 203 := (if_neg (by decide)).trans (w_ref (by decide +kernel))
theorem RW_102_22 (b : Nat) : RW b 102 22 = some 204 := (if_neg (by decide)).trans (w_ref (by decide +kernel))
theorem RW_102_23 (b : Nat) : RW b 102 23 = some 217 := (if_neg (by decide)).trans (w_ref (by decide +kernel))
theorem RW_102_24 (b : Nat) : RW b 102 24 = some 218 := (if_neg (by decide)).trans (w_ref (by decide +kernel))
theorem RW_102_25 (b : Nat) : RW b 102 25 = some 219 := (if_neg (by decide)).trans (w_ref (by decide +kernel))
theorem RW_102_26 (b : Nat) : RW b 102 26 = some 220 := (if_neg (by decide)).trans (w_ref (by decide +kernel))
theorem RW_102_30 (b : Nat) : RW b 102 30 = some 221 := (if_neg (by decide)).trans (w_ref (by decide +kernel))
theorem RW_102_31 (b : Nat) : RW b 102 31 = some 222 := (if_neg (by decide)).trans (w_ref (by decide +kernel))
theorem RW_102_32 (b : Nat) : RW b 102 32 = some 229 := (if_neg (by decide)).trans (w_ref (by decide +kernel))
theorem RW_102_33 (b : Nat) : RW b 102 33 = some 230 := (if_neg (by decide)).trans (w_ref (by decide +kernel))
theorem RW_102_34 (b : Nat) : RW b 102 34 = some 231 := (if_neg (by decide)).trans (w_ref (by decide +kernel))
theorem RW_102_35 (b : Nat) : RW b 102 35 = some 232 := (if_neg (by decide)).trans (w_ref (by decide +kernel))
theorem RW_102_36 (b : Nat) : RW b 102 36 = some 233 := (if_neg (by decide)).trans (w_ref (by decide +kernel))
theorem RW_102_37 (b : Nat) : RW b 102 37 = some 234 := (if_neg (by decide)).trans (w_ref (by decide +kernel))
theorem RW_102_38 (b : Nat) : RW b 102 38 = some 235 := (if_neg (by decide)).trans (w_ref (by decide +kernel))
theorem RW_104_0 (b : Nat) : RW b 104 0 = some 105 := (if_neg (by decide)).trans (w_ref (by decide +kernel))
theorem RW_104_1 (b : Nat) : RW b 104 1 = some 118 := (if_neg (by decide)).trans (w_ref (by decide +kernel))
theorem RW_105_0 (b : Nat) : RW b 105 0 = some 106 := (if_neg (by decide)).trans (w_ref (by decide +kernel))
theorem RW_105_1 (b : Nat) : RW b 105 1 = some 107 := (if_neg (by decide)).trans (w_ref (by decide +kernel))
theorem RW_105_2 (b : Nat) : RW b 105 2 = some 108 := (if_neg (by decide)).trans (w_ref (by decide +kernel))
theorem RW_105_3 (b : Nat) : RW b 105 3 = some 109 := (if_neg (by decide)).trans (w_ref (by decide +kernel))
theorem RW_105_4 (b : Nat) : RW b 105 4 = some 110 := (if_neg (by decide)).trans (w_ref (by decide +kernel))
theorem RW_105_5 (b : Nat) : RW b 105 5 = some 111 := (if_neg (by decide)).trans (w_ref (by decide +kernel))
theorem RW_105_6 (b : Nat) : RW b 105 6 = some 112 := (if_neg (by decide)).trans (w_ref (by decide +kernel))
theorem RW_105_7 (b : Nat) : RW b 105 7 = some 113 := (if_neg (by decide)).trans (w_ref (by decide +kernel))
theorem RW_105_8 (b : Nat) : RW b 105 8 = some 114 := (if_neg (by decide)).trans (w_ref (by decide +kernel))
theorem RW_105_9 (b : Nat) : RW b 105 9 = some 115 := (if_neg (by decide)).trans (w_ref (by decide +kernel))
theorem RW_105_10 (b : Nat) : RW b 105 10 = some 116 := (if_neg (by decide)).trans (w_ref (by decide +kernel))
theorem RW_105_11 (b : Nat) : RW b 105 11 = some 117 := (if_neg (by decide)).trans (w_ref (by decide +kernel))
theorem RW_118_0 (b : Nat) : RW b 118 0 = some 119 := (if_neg (by decide)).trans (w_ref (by decide +kernel))
theorem RW_118_1 (b : Nat) : RW b 118 1 = some 120 := (if_neg (by decide)).trans (w_ref (by decide +kernel))
theorem RW_118_2 (b : Nat) : RW b 118 2 = some 121 := (if_neg (by decide)).trans (w_ref (by decide +kernel))
theorem RW_118_3 (b : Nat) : RW b 118 3 = some 122 := (if_neg (by decide)).trans (w_ref (by decide +kernel))
theorem RW_118_4 (b : Nat) : RW b 118 4 = some 123 := (if_neg (by decide)).trans (w_ref (by decide +kernel))
theorem RW_118_5 (b : Nat) : RW b 118 5 = some 124 := (if_neg (by decide)).trans (w_ref (by decide +kernel))
theorem RW_118_6 (b : Nat) : RW b 118 6 = some 125 := (if_neg (by decide)).trans (w_ref (by decide +kernel))
theorem RW_118_7 (b : Nat) : RW b 118 7 = some 126 := (if_neg (by decide)).trans (w_ref (by decide +kernel))
theorem RW_118_8 (b : Nat) : RW b 118 8 = some 127 := (if_neg (by decide)).trans (w_ref (by decide +kernel))
theorem RW_118_9 (b : Nat) : RW b 118 9 = some 128 := (if_neg (by decide)).trans (w_ref (by decide +kernel))
theorem RW_118_10 (b : Nat) : RW b 118 10 = some 129 := (if_neg (by decide)).trans (w_ref (by decide +kernel))
theorem RW_118_11 (b : Nat) : RW b 118 11 = some 130 := (if_neg (by decide)).trans (w_ref (by decide +kernel))
theorem RW_131_0 (b : Nat) : RW b 131 0 = some 132 := (if_neg (by decide)).trans (w_ref (by decide +kernel))
theorem RW_131_1 (b : Nat) : RW b 131 1 = some 133 := (if_neg (by decide)).trans (w_ref (by decide +kernel))
theorem RW_134_0 (b : Nat) : RW b 134 0 = some 135 := (if_neg (by decide)).trans (w_ref (by decide +kernel))
theorem RW_134_1 (b : Nat) : RW b 134 1 = some 136 := (if_neg (by decide)).trans (w_ref (by decide +kernel))
theorem RW_138_0 (b : Nat) : RW b 138 0 = some 139 := (if_neg (by decide)).trans (w_ref (by decide +kernel))
theorem RW_138_1 (b : Nat) : RW b 138 1 = some 142 := (if_neg (by decide)).trans (w_ref (by decide +kernel))
theorem RW_138_2 (b : Nat) : RW b 138 2 = some 145 := (if_neg (by decide)).trans (w_ref (by decide +kernel))
theorem RW_138_3 (b : Nat) : RW b 138 3 = some 148 := (if_neg (by decide)).trans (w_ref (by decide +kernel))
theorem RW_138_4 (b : Nat) : RW b 138 4 = some 151 := (if_neg (by decide)).trans (w_ref (by decide +kernel))
theorem RW_138_5 (b : Nat) : RW b 138 5 = some 154 := (if_neg (by decide)).trans (w_ref (by decide +kernel))
theorem RW_138_6 (b : Nat) : RW b 138 6 = some 157 := (if_neg (by decide)).trans (w_ref (by decide +kernel))
theorem RW_138_7 (b : Nat) : RW b 138 7 = some 160 := (if_neg (by decide)).trans (w_ref (by decide +kernel))
theorem RW_138_8 (b : Nat) : RW b 138 8 = some 163 := (if_neg (by decide)).trans (w_ref (by decide +kernel))
theorem RW_138_9 (b : Nat) : RW b 138 9 = some 166 := (if_neg (by decide)).trans (w_ref (by decide +kernel))
theorem RW_138_10 (b : Nat) : RW b 138 10 = some 169 := (if_neg (by decide)).trans (w_ref (by decide +kernel))
theorem RW_138_11 (b : Nat) : RW b 138 11 = some 172 := (if_neg (by decide)).trans (w_ref (by decide +kernel))
theorem RW_139_0 (b : Nat) : RW b 139 0 = some 140 := (if_neg (by decide)).trans (w_ref (by decide +kernel))
theorem RW_139_1 (b : Nat) : RW b 139 1 = some 141 := (if_neg (by decide)).trans (w_ref (by decide +kernel))
theorem RW_142_0 (b : Nat) : RW b 142 0 = some 143 := (if_neg (by decide)).trans (w_ref (by decide +kernel))
theorem RW_142_1 (b : Nat) : RW b 142 1 = some 144 := (if_neg (by decide)).trans (w_ref (by decide +kernel))
theorem RW_145_0 (b : Nat) : RW b 145 0 = some 146 := (if_neg (by decide)).trans (w_ref (by decide +kernel))
theorem RW_145_1 (b : Nat) : RW b 145 1 = some 147 := (if_neg (by decide)).trans (w_ref (by decide +kernel))
theorem RW_148_0 (b : Nat) : RW b 148 0 = some 149 := (if_neg (by decide)).trans (w_ref (by decide +kernel))
theorem RW_148_1 (b : Nat) : RW b 148 1 = some 150 := (if_neg (by decide)).trans (w_ref (by decide +kernel))
theorem RW_151_0 (b : Nat) : RW b 151 0 = some 152 := (if_neg (by decide)).trans (w_ref (by decide +kernel))
theorem RW_151_1 (b : Nat) : RW b 151 1 = some 153 := (if_neg (by decide)).trans (w_ref (by decide +kernel))
theorem RW_154_0 (b : Nat) : RW b 154 0 = some 155 := (if_neg (by decide)).trans (w_ref (by decide +kernel))
theorem RW_154_1 (b : Nat) : RW b 154 1 = some 156 := (if_neg (by decide)).trans (w_ref (by decide +kernel))
theorem RW_157_0 (b : Nat) : RW b 157 0 = some 158 := (if_neg (by decide)).trans (w_ref (by decide +kernel))
theorem RW_157_1 (b : Nat) : RW b 157 1 = some 159 := (if_neg (by decide)).trans (w_ref (by decide +kernel))
theorem RW_160_0 (b : Nat) : RW b 160 0 = some 161 := (if_neg (by decide)).trans (w_ref (by decide +kernel))
theorem RW_160_1 (b : Nat) : RW b 160 1 = some 162 := (if_neg (by decide)).trans (w_ref (by decide +kernel))
theorem RW_163_0 (b : Nat) : RW b 163 0 = some 164 := (if_neg (by decide)).trans (w_ref (by decide +kernel))
theorem RW_163_1 (b : Nat) : RW b 163 1 = some 165 := (if_neg (by decide)).trans (w_ref (by decide +kernel))
theorem RW_166_0 (b : Nat) : RW b 166 0 = some 167 := (if_neg (by decide)).trans (w_ref (by decide +kernel))
theorem RW_166_1 (b : Nat) : RW b 166 1 = some 168 := (if_neg (by decide)).trans (w_ref (by decide +kernel))
theorem RW_169_0 (b : Nat) : RW b 169 0 = some 170 := (if_neg (by decide)).trans (w_ref (by decide +kernel))
theorem RW_169_1 (b : Nat) : RW b 169 1 = some 171 := (if_neg (by decide)).trans (w_ref (by decide +kernel))
theorem RW_172_0 (b : Nat) : RW b 172 0 = some 173 := (if_neg (by decide)).trans (w_ref (by decide +kernel))
theorem RW_172_1 (b : Nat) : RW b 172 1 = some 174 := (if_neg (by decide)).trans (w_ref (by decide +kernel))
theorem RW_175_0 (b : Nat) : RW b 175 0 = some 176 := (if_neg (by decide)).trans (w_ref (by decide +kernel))
theorem RW_175_1 (b : Nat) : RW b 175 1 = some 177 := (if_neg (by decide)).trans (w_ref (by decide +kernel))
theorem RW_175_2 (b : Nat) : RW b 175 2 = some 178 := (if_neg (by decide)).trans (w_ref (by decide +kernel))
theorem RW_179_0 (b : Nat) : RW b 179 0 = some 180 := (if_neg (by decide)).trans (w_ref (by decide +kernel))
theorem RW_179_1 (b : Nat) : RW b 179 1 = some 181 := (if_neg (by decide)).trans (w_ref (by decide +kernel))
theorem RW_179_2 (b : Nat) : RW b 179 2 = some 182 := (if_neg (by decide)).trans (w_ref (by decide +kernel))
theorem RW_179_3 (b : Nat) : RW b 179 3 = some 183 := (if_neg (by decide)).trans (w_ref (by decide +kernel))
theorem RW_179_4 (b : Nat) : RW b 179 4 = some 184 := (if_neg (by decide)).trans (w_ref (by decide +kernel))
theorem RW_179_5 (b : Nat) : RW b 179 5 = some 185 := (if_neg (by decide)).trans (w_ref (by decide +kernel))
theorem RW_179_6 (b : Nat) : RW b 179 6 = some 186 := (if_neg (by decide)).trans (w_ref (by decide +kernel))
theorem RW_179_7 (b : Nat) : RW b 179 7 = some 187 := (if_neg (by decide)).trans (w_ref (by decide +kernel))
theorem RW_190_0 (b : Nat) : RW b 190 0 = some 191 := (if_neg (by decide)).trans (w_ref (by decide +kernel))
theorem RW_190_1 (b : Nat) : RW b 190 1 = some 192 := (if_neg (by decide)).trans (w_ref (by decide +kernel))
theorem RW_190_2 (b : Nat) : RW b 190 2 = some 193 := (if_neg (by decide)).trans (w_ref (by decide +kernel))
theorem RW_190_3 (b : Nat) : RW b 190 3 = some 194 := (if_neg (by decide)).trans (w_ref (by decide +kernel))
theorem RW_190_4 (b : Nat) : RW b 190 4 = some 195 := (if_neg (by decide)).trans (w_ref (by decide +kernel))
theorem RW_190_5 (b : Nat) : RW b 190 5 = some 196 := (if_neg (by decide)).trans (w_ref (by decide +kernel))
theorem RW_190_6 (b : Nat) : RW b 190 6 = some 197 := (if_neg (by decide)).trans (w_ref (by decide +kernel))
theorem RW_190_7 (b : Nat) : RW b 190 7 = some 198 := (if_neg (by decide)).trans (w_ref (by decide +kernel))
theorem RW_190_8 (b : Nat) : RW b 190 8 = some 199 := (if_neg (by decide)).trans (w_ref (by decide +kernel))
theorem RW_190_9 (b : Nat) : RW b 190 9 = some 200 := (if_neg (by decide)).trans (w_ref (by decide +kernel))
theorem RW_190_10 (b : Nat) : RW b 190 10 = some 201 := (if_neg (by decide)).trans (w_ref (by decide +kernel))
theorem RW_190_11 (b : Nat) : RW b 190 11 = some 202 := (if_neg (by decide)).trans (w_ref (by decide +kernel))
theorem RW_204_0 (b : Nat) : RW b 204 0 = some 205 := (if_neg (by decide)).trans (w_ref (by decide +kernel))
theorem RW_204_1 (b : Nat) : RW b 204 1 = some 206 := (if_neg (by decide)).trans (w_ref (by decide +kernel))
theorem RW_204_2 (b : Nat) : RW b 204 2 = some 207 := (if_neg (by decide)).trans (w_ref (by decide +kernel))
theorem RW_204_3 (b : Nat) : RW b 204 3 = some 208 := (if_neg (by decide)).trans (w_ref (by decide +kernel))
theorem RW_204_4 (b : Nat) : RW b 204 4 = some 209 := (if_neg (by decide)).trans (w_ref (by decide +kernel))
theorem RW_204_5 (b : Nat) : RW b 204 5 = some 210 := (if_neg (by decide)).trans (w_ref (by decide +kernel))
theorem RW_204_6 (b : Nat) : RW b 204 6 = some 211 := (if_neg (by decide)).trans (w_ref (by decide +kernel))
theorem RW_204_7 (b : Nat) : RW b 204 7 = some 212 := (if_neg (by decide)).trans (w_ref (by decide +kernel))
theorem RW_204_8 (b : Nat) : RW b 204 8 = some 213 := (if_neg (by decide)).trans (w_ref (by decide +kernel))
theorem RW_204_9 (b : Nat) : RW b 204 9 = some 214 := (if_neg (by decide)).trans (w_ref (by decide +kernel))
theorem RW_204_10 (b : Nat) : RW b 204 10 = some 215 := (if_neg (by decide)).trans (w_ref (by decide +kernel))
theorem RW_204_11 (b : Nat) : RW b 204 11 = some 216 := (if_neg (by decide)).trans (w_ref (by decide +kernel))
theorem RW_222_0 (b : Nat) : RW b 222 0 = some 223 := (if_neg (by decide)).trans (w_ref (by decide +kernel))
theorem RW_222_1 (b : Nat) : RW b 222 1 = some 224 := (if_neg (by decide)).trans (w_ref (by decide +kernel))
theorem RW_222_2 (b : Nat) : RW b 222 2 = some 225 := (if_neg (by decide)).trans (w_ref (by decide +kernel))
theorem RW_222_3 (b : Nat) : RW b 222 3 = some 226 := (if_neg (by decide)).trans (w_ref (by decide +kernel))
theorem RW_222_4 (b : Nat) : RW b 222 4 = some 227 := (if_neg (by decide)).trans (w_ref (by decide +kernel))
theorem RW_222_5 (b : Nat) : RW b 222 5 = some 228 := (if_neg (by decide)).trans (w_ref (by decide +kernel))
theorem RW_2_0 (b : Nat) : RW b 2 0 = some b := rfl

/-! ===== each call of the law ===== -/
theorem i32r (y : Int32) : -2147483648 ≤ y.toInt ∧ y.toInt ≤ 2147483647 := by
  have h1 := Int32.le_toInt y
  have h2 := Int32.toInt_lt y
  omega
theorem cif_r {P : Prop} {m : Int} {u v : Int} (hu : u = 0 ∨ u = 1 ∨ (m = 2 ∧ u = 2)) (hv : v = 0 ∨ v = 1 ∨ (m = 2 ∧ v = 2)) : cif P u v = 0 ∨ cif P u v = 1 ∨ (m = 2 ∧ cif P u v = 2) := by
  by_cases q : P
  · rw [cif_pos q]; exact hu
  · rw [cif_neg q]; exact hv
theorem ite_r {P : Prop} [Decidable P] {m : Int} {u v : Int} (hu : u = 0 ∨ u = 1 ∨ (m = 2 ∧ u = 2)) (hv : v = 0 ∨ v = 1 ∨ (m = 2 ∧ v = 2)) : (if P then u else v) = 0 ∨ (if P then u else v) = 1 ∨ (m = 2 ∧ (if P then u else v) = 2) := by
  by_cases q : P
  · rw [if_pos q]; exact hu
  · rw [if_neg q]; exact hv
theorem ok_ite {P : Prop} [Decidable P] {u v : ST} (hu : P → okS u) (hv : okS v) : okS (if P then u else v) := by
  by_cases q : P
  · rw [if_pos q]; exact hu q
  · rw [if_neg q]; exact hv
theorem ok_cif {P : Prop} {u v : ST} (hu : P → okS u) (hv : okS v) : okS (cif P u v) := by
  by_cases q : P
  · rw [cif_pos q]; exact hu q
  · rw [cif_neg q]; exact hv
theorem t_0 {m : Int} : (0 : Int) = 0 ∨ (0 : Int) = 1 ∨ (m = 2 ∧ (0 : Int) = 2) := Or.inl rfl
theorem t_1 {m : Int} : (1 : Int) = 0 ∨ (1 : Int) = 1 ∨ (m = 2 ∧ (1 : Int) = 2) := Or.inr (Or.inl rfl)
theorem t_2 : (2 : Int) = 0 ∨ (2 : Int) = 1 ∨ ((2 : Int) = 2 ∧ (2 : Int) = 2) := Or.inr (Or.inr ⟨rfl, rfl⟩)
section Cases
variable {I J : CF} {b : Nat} {c : Bool} {S : ST}
theorem gs_definition (hS : okS S) (hE : EW I S) (hR : RWd I S) (y1 : Int32) (y2 : Int32) (y3 : Int32) : GS (f_L_definition (Sx I J b c) 0 y1 y2 y3 236) (fun h => f_X8_definition h 102 y1 y2 y3) := by
  have ry1 := i32r y1
  have ry2 := i32r y2
  have ry3 := i32r y3
  rw [W_of y1]
  rw [W_of y2]
  rw [W_of y3]
  unfold f_L_definition
  exact gs_of (m := 2) (E1 := "java/lang/IllegalArgumentException") (E2 := "java/lang/IndexOutOfBoundsException") hE hR (fun Ir J' b' c' hr => ⟨_, _, S, hS, ite_r (ite_r t_0 t_2) t_1, EAns.stp (x_definition hE.1 ry1.1 ry1.2 ry2.1 ry2.2 ry3.1 ry3.2) hE, RAns.stp (q_definition hS.1 hr.1 ry1.1 ry1.2 ry2.1 ry2.2 ry3.1 ry3.2) hr⟩) (by decide) (by rfl) (fun _ => by rfl)
theorem gs_tracks (hS : okS S) (hE : EW I S) (hR : RWd I S) (y1 : Int32) : GS (f_L_tracks (Sx I J b c) 0 y1 236) (fun h => f_X8_tracks h 102 y1) := by
  have ry1 := i32r y1
  rw [W_of y1]
  unfold f_L_tracks
  exact gs_of (m := 1) (E1 := "java/lang/IllegalArgumentException") (E2 := "") hE hR (fun Ir J' b' c' hr => ⟨_, _, S, hS, ite_r t_0 t_1, EAns.stp (x_tracks hE.1 ry1.1 ry1.2 "") hE, RAns.stp (q_tracks hS.1 hr.1 ry1.1 ry1.2) hr⟩) (by decide) (by rfl) (fun h => absurd h (by decide))
theorem gs_startOf (hS : okS S) (hE : EW I S) (hR : RWd I S) (y1 : Int32) (y2 : Int32) : GS (f_L_startOf (Sx I J b c) 0 y1 y2 236) (fun h => f_X8_startOf h 102 y1 y2) := by
  have ry1 := i32r y1
  have ry2 := i32r y2
  rw [W_of y1]
  rw [W_of y2]
  unfold f_L_startOf
  exact gs_of (m := 2) (E1 := "java/lang/IndexOutOfBoundsException") (E2 := "java/lang/IllegalArgumentException") hE hR (fun Ir J' b' c' hr => ⟨_, _, S, hS, ite_r (ite_r t_0 t_2) t_1, EAns.stp (x_startOf hE.1 ry1.1 ry1.2 ry2.1 ry2.2) hE, RAns.stp (q_startOf hS.1 hr.1 ry1.1 ry1.2 ry2.1 ry2.2) hr⟩) (by decide) (by rfl) (fun _ => by rfl)
theorem gs_itemIn (hS : okS S) (hE : EW I S) (hR : RWd I S) (y1 : Int32) (y2 : Int32) : GS (f_L_itemIn (Sx I J b c) 0 y1 y2 236) (fun h => f_X8_itemIn h 102 y1 y2) := by
  have ry1 := i32r y1
  have ry2 := i32r y2
  rw [W_of y1]
  rw [W_of y2]
  unfold f_L_itemIn
  exact gs_of (m := 2) (E1 := "java/lang/IndexOutOfBoundsException") (E2 := "java/util/NoSuchElementException") hE hR (fun Ir J' b' c' hr => ⟨_, _, S, hS, ite_r (ite_r t_0 t_2) t_1, EAns.stp (x_itemIn hE.1 ry1.1 ry1.2 ry2.1 ry2.2) hE, RAns.stp (q_itemIn hS.1 hr.1 ry1.1 ry1.2 ry2.1 ry2.2) hr⟩) (by decide) (by rfl) (fun _ => by rfl)
theorem gs_cells (hS : okS S) (hE : EW I S) (hR : RWd I S) (y1 : Int32) : GS (f_L_cells (Sx I J b c) 0 y1 236) (fun h => f_X8_cells h 102 y1) := by
  have ry1 := i32r y1
  rw [W_of y1]
  unfold f_L_cells
  exact gs_of (m := 1) (E1 := "java/lang/IllegalArgumentException") (E2 := "") hE hR (fun Ir J' b' c' hr => ⟨_, _, S, hS, ite_r t_0 t_1, EAns.stp (x_cells hE.1 ry1.1 ry1.2 "") hE, RAns.stp (q_cells hS.1 hr.1 ry1.1 ry1.2) hr⟩) (by decide) (by rfl) (fun h => absurd h (by decide))
theorem gs_size (hS : okS S) (hE : EW I S) (hR : RWd I S) (y1 : Int32) (y2 : Int32) (y3 : Int32) : GS (f_L_size (Sx I J b c) 0 y1 y2 y3 236) (fun h => f_X8_size h 102 y1 y2 y3) := by
  have ry1 := i32r y1
  have ry2 := i32r y2
  have ry3 := i32r y3
  rw [W_of y1]
  rw [W_of y2]
  rw [W_of y3]
  unfold f_L_size
  exact gs_of (m := 2) (E1 := "java/lang/IllegalArgumentException") (E2 := "java/lang/IndexOutOfBoundsException") hE hR (fun Ir J' b' c' hr => ⟨_, _, S, hS, ite_r (ite_r t_0 t_2) t_1, EAns.stp (x_size hE.1 ry1.1 ry1.2 ry2.1 ry2.2 ry3.1 ry3.2) hE, RAns.stp (q_size hS.1 hr.1 ry1.1 ry1.2 ry2.1 ry2.2 ry3.1 ry3.2) hr⟩) (by decide) (by rfl) (fun _ => by rfl)
theorem gs_position (hS : okS S) (hE : EW I S) (hR : RWd I S) (y1 : Int32) (y2 : Int32) : GS (f_L_position (Sx I J b c) 0 y1 y2 236) (fun h => f_X8_position h 102 y1 y2) := by
  have ry1 := i32r y1
  have ry2 := i32r y2
  rw [W_of y1]
  rw [W_of y2]
  unfold f_L_position
  exact gs_of (m := 2) (E1 := "java/lang/IllegalArgumentException") (E2 := "java/lang/IndexOutOfBoundsException") hE hR (fun Ir J' b' c' hr => ⟨_, _, S, hS, ite_r (ite_r t_0 t_2) t_1, EAns.stp (x_position hE.1 ry1.1 ry1.2 ry2.1 ry2.2) hE, RAns.stp (q_position hS.1 hr.1 ry1.1 ry1.2 ry2.1 ry2.2) hr⟩) (by decide) (by rfl) (fun _ => by rfl)
theorem gs_total (hS : okS S) (hE : EW I S) (hR : RWd I S) (y1 : Int32) (y2 : Int32) : GS (f_L_total (Sx I J b c) 0 y1 y2 236) (fun h => f_X8_total h 102 y1 y2) := by
  have ry1 := i32r y1
  have ry2 := i32r y2
  rw [W_of y1]
  rw [W_of y2]
  unfold f_L_total
  exact gs_of (m := 1) (E1 := "java/lang/IllegalArgumentException") (E2 := "") hE hR (fun Ir J' b' c' hr => ⟨_, _, S, hS, ite_r t_0 t_1, EAns.stp (x_total hE.1 ry1.1 ry1.2 ry2.1 ry2.2 "") hE, RAns.stp (q_total hS.1 hr.1 ry1.1 ry1.2 ry2.1 ry2.2) hr⟩) (by decide) (by rfl) (fun h => absurd h (by decide))
theorem gs_free (hS : okS S) (hE : EW I S) (hR : RWd I S) (y1 : Int32) : GS (f_L_free (Sx I J b c) 0 y1 236) (fun h => f_X8_free h 102 y1) := by
  have ry1 := i32r y1
  rw [W_of y1]
  unfold f_L_free
  exact gs_of (m := 1) (E1 := "java/lang/IllegalArgumentException") (E2 := "") hE hR (fun Ir J' b' c' hr => ⟨_, _, S, hS, ite_r t_0 t_1, EAns.stp (x_free hE.1 ry1.1 ry1.2 "") hE, RAns.stp (q_free hS.1 hr.1 ry1.1 ry1.2) hr⟩) (by decide) (by rfl) (fun h => absurd h (by decide))
theorem gs_box (hS : okS S) (hE : EW I S) (hR : RWd I S) (y1 : Int32) (y2 : Int32) (y3 : Int32) : GS (f_L_box (Sx I J b c) 0 y1 y2 y3 236) (fun h => f_X8_box h 102 y1 y2 y3) := by
  have ry1 := i32r y1
  have ry2 := i32r y2
  have ry3 := i32r y3
  rw [W_of y1]
  rw [W_of y2]
  rw [W_of y3]
  unfold f_L_box
  exact gs_of (m := 2) (E1 := "java/lang/IndexOutOfBoundsException") (E2 := "java/lang/IllegalArgumentException") hE hR (fun Ir J' b' c' hr => ⟨_, _, S, hS, ite_r (ite_r t_0 t_2) t_1, EAns.stp (x_box hE.1 ry1.1 ry1.2 ry2.1 ry2.2 ry3.1 ry3.2) hE, RAns.stp (q_box hS.1 hr.1 ry1.1 ry1.2 ry2.1 ry2.2 ry3.1 ry3.2) hr⟩) (by decide) (by rfl) (fun _ => by rfl)
theorem gs_unmet (hS : okS S) (hE : EW I S) (hR : RWd I S) (y1 : Int32) (y2 : Int32) : GS (f_L_unmet (Sx I J b c) 0 y1 y2 236) (fun h => f_X8_unmet h 102 y1 y2) := by
  have ry1 := i32r y1
  have ry2 := i32r y2
  rw [W_of y1]
  rw [W_of y2]
  unfold f_L_unmet
  exact gs_of (m := 1) (E1 := "java/lang/IllegalArgumentException") (E2 := "") hE hR (fun Ir J' b' c' hr => ⟨_, _, S, hS, ite_r t_0 t_1, EAns.stp (x_unmet hE.1 ry1.1 ry1.2 ry2.1 ry2.2 "") hE, RAns.stp (q_unmet hS.1 hr.1 ry1.1 ry1.2 ry2.1 ry2.2) hr⟩) (by decide) (by rfl) (fun h => absurd h (by decide))
theorem gs_itemUnder (hS : okS S) (hE : EW I S) (hR : RWd I S) (y1 : Int32) (y2 : Int32) : GS (f_L_itemUnder (Sx I J b c) 0 y1 y2 236) (fun h => f_X8_itemUnder h 102 y1 y2) := by
  have ry1 := i32r y1
  have ry2 := i32r y2
  rw [W_of y1]
  rw [W_of y2]
  unfold f_L_itemUnder
  exact gs_of (m := 1) (E1 := "java/util/NoSuchElementException") (E2 := "") hE hR (fun Ir J' b' c' hr => ⟨_, _, S, hS, cif_r t_0 t_1, EAns.stp (x_itemUnder hE.1 ry1.1 ry1.2 ry2.1 ry2.2 "") hE, RAns.stp (q_itemUnder hS.1 hr.1 ry1.1 ry1.2 ry2.1 ry2.2) hr⟩) (by decide) (by rfl) (fun h => absurd h (by decide))
theorem gs_set (hS : okS S) (hE : EW I S) (hR : RWd I S) (y1 : Int32) (y2 : Int32) (y3 : Int32) : GS (f_L_set (Sx I J b c) 0 y1 y2 y3 236) (fun h => f_X8_set h 102 y1 y2 y3) := by
  have ry1 := i32r y1
  have ry2 := i32r y2
  have ry3 := i32r y3
  rw [W_of y1]
  rw [W_of y2]
  rw [W_of y3]
  unfold f_L_set
  exact gs_of (m := 1) (E1 := "java/lang/IllegalArgumentException") (E2 := "") hE hR (fun Ir J' b' c' hr => ⟨_, _, _, ok_cif (fun q => hS.chg (hS.1.s q)) hS, cif_r t_0 t_1, x_set hE ry1.1 ry1.2 ry2.1 ry2.2 ry3.1 ry3.2 "", q_set hS.1 hr ry1.1 ry1.2 ry2.1 ry2.2 ry3.1 ry3.2⟩) (by decide) (by rfl) (fun h => absurd h (by decide))
theorem gs_addItem (hS : okS S) (hE : EW I S) (hR : RWd I S) (y1 : Int32) (y2 : Int32) (y3 : Int32) (y4 : Int32) : GS (f_L_addItem (Sx I J b c) 0 y1 y2 y3 y4 236) (fun h => f_X8_addItem h 102 y1 y2 y3 y4) := by
  have ry1 := i32r y1
  have ry2 := i32r y2
  have ry3 := i32r y3
  have ry4 := i32r y4
  rw [W_of y1]
  rw [W_of y2]
  rw [W_of y3]
  rw [W_of y4]
  unfold f_L_addItem
  exact gs_of (m := 2) (E1 := "java/lang/IllegalArgumentException") (E2 := "java/lang/IllegalStateException") hE hR (fun Ir J' b' c' hr => ⟨_, _, _, ok_cif (fun q => ok_ite (fun q2 => hS.chg (hS.1.add q2 q.1 q.2)) hS) hS, cif_r (ite_r t_0 t_2) t_1, x_addItem hE ry1.1 ry1.2 ry2.1 ry2.2 ry3.1 ry3.2 ry4.1 ry4.2, q_addItem hS.1 hr ry1.1 ry1.2 ry2.1 ry2.2 ry3.1 ry3.2 ry4.1 ry4.2⟩) (by decide) (by rfl) (fun _ => by rfl)
theorem gs_place (hS : okS S) (hE : EW I S) (hR : RWd I S) (y1 : Int32) (y2 : Int32) (y3 : Int32) (y4 : Int32) : GS (f_L_place (Sx I J b c) 0 y1 y2 y3 y4 236) (fun h => f_X8_place h 102 y1 y2 y3 y4) := by
  have ry1 := i32r y1
  have ry2 := i32r y2
  have ry3 := i32r y3
  have ry4 := i32r y4
  rw [W_of y1]
  rw [W_of y2]
  rw [W_of y3]
  rw [W_of y4]
  unfold f_L_place
  exact gs_of (m := 2) (E1 := "java/lang/IndexOutOfBoundsException") (E2 := "java/lang/IllegalArgumentException") hE hR (fun Ir J' b' c' hr => ⟨_, _, _, ok_ite (fun q => ok_cif (fun q2 => hS.chg (hS.1.p (by have := q2.1; omega) (by have := q2.1; omega) q2.2.1 q2.2.2)) hS) hS, ite_r (cif_r t_0 t_2) t_1, x_place hE ry1.1 ry1.2 ry2.1 ry2.2 ry3.1 ry3.2 ry4.1 ry4.2, q_place hS.1 hr ry1.1 ry1.2 ry2.1 ry2.2 ry3.1 ry3.2 ry4.1 ry4.2⟩) (by decide) (by rfl) (fun _ => by rfl)
theorem gs_align (hS : okS S) (hE : EW I S) (hR : RWd I S) (y1 : Int32) (y2 : Int32) (y3 : Int32) : GS (f_L_align (Sx I J b c) 0 y1 y2 y3 236) (fun h => f_X8_align h 102 y1 y2 y3) := by
  have ry1 := i32r y1
  have ry2 := i32r y2
  have ry3 := i32r y3
  rw [W_of y1]
  rw [W_of y2]
  rw [W_of y3]
  unfold f_L_align
  exact gs_of (m := 2) (E1 := "java/lang/IndexOutOfBoundsException") (E2 := "java/lang/IllegalArgumentException") hE hR (fun Ir J' b' c' hr => ⟨_, _, _, ok_ite (fun q => ok_ite (fun q2 => hS.chg (hS.1.a (by omega) (by omega) q2.2)) hS) hS, ite_r (ite_r t_0 t_2) t_1, x_align hE ry1.1 ry1.2 ry2.1 ry2.2 ry3.1 ry3.2, q_align hS.1 hr ry1.1 ry1.2 ry2.1 ry2.2 ry3.1 ry3.2⟩) (by decide) (by rfl) (fun _ => by rfl)
theorem gs_removeItem (hS : okS S) (hE : EW I S) (hR : RWd I S) (y1 : Int32) : GS (f_L_removeItem (Sx I J b c) 0 y1 236) (fun h => f_X8_removeItem h 102 y1) := by
  have ry1 := i32r y1
  rw [W_of y1]
  unfold f_L_removeItem
  exact gs_of (m := 1) (E1 := "java/lang/IndexOutOfBoundsException") (E2 := "") hE hR (fun Ir J' b' c' hr => ⟨_, _, _, ok_ite (fun q => hS.chg (hS.1.rem q.1 (by omega))) hS, ite_r t_0 t_1, x_removeItem hE ry1.1 ry1.2 "", q_removeItem hS.1 hr ry1.1 ry1.2⟩) (by decide) (by rfl) (fun h => absurd h (by decide))
theorem gs_exchange (hS : okS S) (hE : EW I S) (hR : RWd I S) (y1 : Int32) (y2 : Int32) : GS (f_L_exchange (Sx I J b c) 0 y1 y2 236) (fun h => f_X8_exchange h 102 y1 y2) := by
  have ry1 := i32r y1
  have ry2 := i32r y2
  rw [W_of y1]
  rw [W_of y2]
  unfold f_L_exchange
  exact gs_of (m := 1) (E1 := "java/lang/IndexOutOfBoundsException") (E2 := "") hE hR (fun Ir J' b' c' hr => ⟨_, _, _, ok_ite (fun q => hS.chg (hS.1.sw q.1.1 (by omega) q.2.1 (by omega))) hS, ite_r t_0 t_1, x_exchange hE ry1.1 ry1.2 ry2.1 ry2.2 "", q_exchange hS.1 hr ry1.1 ry1.2 ry2.1 ry2.2⟩) (by decide) (by rfl) (fun h => absurd h (by decide))
theorem gs_save (hS : okS S) (hE : EW I S) (hR : RWd I S) (y1 : Int32) : GS (f_L_save (Sx I J b c) 0 y1 236) (fun h => f_X8_save h 102 y1) := by
  have ry1 := i32r y1
  rw [W_of y1]
  unfold f_L_save
  exact gs_of (m := 1) (E1 := "java/lang/IndexOutOfBoundsException") (E2 := "") hE hR (fun Ir J' b' c' hr => ⟨_, _, _, ok_ite (fun _ => hS.sv) hS, ite_r t_0 t_1, x_save hE ry1.1 ry1.2 "", q_save hS.1 hr ry1.1 ry1.2⟩) (by decide) (by rfl) (fun h => absurd h (by decide))
theorem gs_restore (hS : okS S) (hE : EW I S) (hR : RWd I S) (y1 : Int32) : GS (f_L_restore (Sx I J b c) 0 y1 236) (fun h => f_X8_restore h 102 y1) := by
  have ry1 := i32r y1
  rw [W_of y1]
  unfold f_L_restore
  exact gs_of (m := 2) (E1 := "java/lang/IndexOutOfBoundsException") (E2 := "java/lang/IllegalStateException") hE hR (fun Ir J' b' c' hr => ⟨_, _, _, ok_ite (fun q => ok_cif (fun q2 => hS.chg (hS.2.2.2.1 _ q.1 (by omega) q2)) hS) hS, ite_r (cif_r t_0 t_2) t_1, x_restore hS hE ry1.1 ry1.2, q_restore hS.1 hr ry1.1 ry1.2⟩) (by decide) (by rfl) (fun _ => by rfl)
theorem gs_undo (hS : okS S) (hE : EW I S) (hR : RWd I S) : GS (f_L_undo (Sx I J b c) 0  236) (fun h => f_X8_undo h 102 ) := by
  unfold f_L_undo
  exact gs_of (m := 1) (E1 := "java/lang/IllegalStateException") (E2 := "") hE hR (fun Ir J' b' c' hr => ⟨_, _, _, ok_ite (fun q => hS.un q) hS, ite_r t_0 t_1, x_undo hS hE "", q_undo hS.1 hr⟩) (by decide) (by rfl) (fun h => absurd h (by decide))
theorem gs_setFlow (hS : okS S) (hE : EW I S) (hR : RWd I S) (y1 : Int32) {w : Int} (hw : w = 0 ∨ w = 1) : GS (f_L_setFlow (Sx I J b c) 0 y1 (iW w) 236) (fun h => f_X8_setFlow h 102 y1 (iW w)) := by
  have ry1 := i32r y1
  rw [W_of y1]
  unfold f_L_setFlow
  exact gs_of (m := 1) (E1 := "java/lang/IllegalArgumentException") (E2 := "") hE hR (fun Ir J' b' c' hr => ⟨_, _, _, ok_ite (fun q => hS.chg (hS.1.w (by omega) hw)) hS, ite_r t_0 t_1, x_setFlow hE ry1.1 ry1.2 hw "", q_setFlow hS.1 hr ry1.1 ry1.2 hw⟩) (by decide) (by rfl) (fun h => absurd h (by decide))
theorem gs_contribute (hS : okS S) (hE : EW I S) (hR : RWd I S) (y1 : Int32) (y2 : Int32) (y4 : Int32) {w : Int} (hw : w = 0 ∨ w = 1) : GS (f_L_contribute (Sx I J b c) 0 y1 y2 (iW w) y4 236) (fun h => f_X8_contribute h 102 y1 y2 (iW w) y4) := by
  have ry1 := i32r y1
  have ry2 := i32r y2
  have ry4 := i32r y4
  rw [W_of y1]
  rw [W_of y2]
  rw [W_of y4]
  unfold f_L_contribute
  exact gs_of (m := 2) (E1 := "java/lang/IndexOutOfBoundsException") (E2 := "java/lang/IllegalArgumentException") hE hR (fun Ir J' b' c' hr => ⟨_, _, _, ok_ite (fun q => ok_cif (fun q2 => hS.chg (hS.1.c (by have := q2.1; omega) (by have := q2.1; omega) hw q2.2)) hS) hS, ite_r (cif_r t_0 t_2) t_1, x_contribute hE ry1.1 ry1.2 ry2.1 ry2.2 hw ry4.1 ry4.2, q_contribute hS.1 hr ry1.1 ry1.2 ry2.1 ry2.2 hw ry4.1 ry4.2⟩) (by decide) (by rfl) (fun _ => by rfl)
theorem gs_feed (hS : okS S) (hE : EW I S) (hR : RWd I S) {w : Int} (w0 : 0 ≤ w) (w1 : w < 65536) : GS (f_L_feed (Sx I J b c) 0 (iW w) 236) (fun h => f_X8_feed h 102 (iW w)) := by
  unfold f_L_feed
  exact gs_of (m := 1) (E1 := "java/lang/IllegalStateException") (E2 := "") hE hR (fun Ir J' b' c' hr => ⟨_, _, _, ok_ite (fun q => hS.fd q w0 w1) hS, ite_r t_0 t_1, x_feed hS hE w0 w1 "", q_feed hS hr w0 w1⟩) (by decide) (by rfl) (fun h => absurd h (by decide))
theorem gs_readTracks (hS : okS S) (hE : EW I S) (hR : RWd I S) (y1 : Int32) : GS (f_L_readTracks (Sx I J b c) 0 y1 236) (fun h => f_X8_readTracks h 102 y1) := by
  have ry1 := i32r y1
  rw [W_of y1]
  unfold f_L_readTracks
  exact gs_of (m := 2) (E1 := "java/lang/IllegalArgumentException") (E2 := "java/lang/IllegalStateException") hE hR (fun Ir J' b' c' hr => by obtain ⟨v, t, S2, h1, h2, h3, h4⟩ := j_readTracks (J := J) (J' := J') (b := b) (b' := b') (c := c) (c' := c') hS hE hr ry1.1 ry1.2; exact ⟨v, t, S2, h1, by omega, h3, h4⟩) (by decide) (by rfl) (fun _ => by rfl)
theorem gs_readImplicit (hS : okS S) (hE : EW I S) (hR : RWd I S) (y1 : Int32) : GS (f_L_readImplicit (Sx I J b c) 0 y1 236) (fun h => f_X8_readImplicit h 102 y1) := by
  have ry1 := i32r y1
  rw [W_of y1]
  unfold f_L_readImplicit
  exact gs_of (m := 2) (E1 := "java/lang/IllegalArgumentException") (E2 := "java/lang/IllegalStateException") hE hR (fun Ir J' b' c' hr => by obtain ⟨v, t, S2, h1, h2, h3, h4⟩ := j_readImplicit (J := J) (J' := J') (b := b) (b' := b') (c := c) (c' := c') hS hE hr ry1.1 ry1.2; exact ⟨v, t, S2, h1, by omega, h3, h4⟩) (by decide) (by rfl) (fun _ => by rfl)
theorem x_sJf {h : HP} {v : Int} (hv : v = 0 ∨ v = 1) : (if iW v = 0 then f_L_isCollapsed_b16 h 0 0 236 else f_L_isCollapsed_b16 h 1 0 236) = (x_sJ h 236 0 ((iW v : Int32).toInt64) fun h3 => some (h3, xi 0)) := by
  rcases hv with rfl | rfl
  · rw [if_pos (show iW 0 = 0 from rfl)]
    rfl
  · rw [if_neg (by decide)]
    rfl
theorem gs_isCollapsed (hS : okS S) (hE : EW I S) (hR : RWd I S) (y1 y2 : Int32) : GSP (fun v => v = 0 ∨ v = 1) (f_L_isCollapsed (Sx I J b c) 0 y1 y2 236) (fun h => f_X8_isCollapsed h 102 y1 y2) := by
  have ry1 := i32r y1
  have ry2 := i32r y2
  rw [W_of y1, W_of y2]
  have hx := x_collapsed (J := J) (b := b) (c := c) hE.1 ry1.1 ry1.2 ry2.1 ry2.2
  have h01 : (if 0 ≤ y1.toInt ∧ y1.toInt ≤ 1 then (if 1 ≤ y2.toInt ∧ y2.toInt ≤ nt S.1 y1.toInt then bb (col S.1 y1.toInt y2.toInt) else 0) else 0) = 0 ∨ (if 0 ≤ y1.toInt ∧ y1.toInt ≤ 1 then (if 1 ≤ y2.toInt ∧ y2.toInt ≤ nt S.1 y1.toInt then bb (col S.1 y1.toInt y2.toInt) else 0) else 0) = 1 := by
    split
    · split
      · exact bb_01 _
      · exact Or.inl rfl
    · exact Or.inl rfl
  have hgs := gs_ofP (P := fun v => v = 0 ∨ v = 1) (J := J) (b := b) (c := c) (l := [("java/lang/IllegalArgumentException", 1), ("java/lang/IndexOutOfBoundsException", 2)]) (fq := fun h => f_X8_isCollapsed h 102 (iW y1.toInt) (iW y2.toInt)) (m := 2) (E1 := "java/lang/IllegalArgumentException") (E2 := "java/lang/IndexOutOfBoundsException") hE hR (fun Ir J' b' c' hr => ⟨_, _, S, h01, hS, ite_r (ite_r t_0 t_2) t_1, EAns.stp hx hE, RAns.stp (q_collapsed hS.1 hr.1 ry1.1 ry1.2 ry2.1 ry2.2) hr⟩) (by decide) (by rfl) (fun _ => by rfl)
  have hfl : f_L_isCollapsed (Sx I J b c) 0 (iW y1.toInt) (iW y2.toInt) 236 = (x_rc (Sx I J b c) 0 7 <| x_try (f_X7_isCollapsed (Sx I J b c) 0 (iW y1.toInt) (iW y2.toInt)) [("java/lang/IllegalArgumentException", 1), ("java/lang/IndexOutOfBoundsException", 2)] fun h2 i1 => x_sJ h2 236 0 ((i1 : Int32).toInt64) fun h3 => some (h3, xi 0)) := by
    unfold f_L_isCollapsed
    obtain ⟨I', J', f1, f2, f3, f4⟩ := hx
    have hr : ∀ f, x_rc (Sx I J b c) 0 7 f = f := fun f => rc0
    rw [hr, hr, f1]
    by_cases q : (if 0 ≤ y1.toInt ∧ y1.toInt ≤ 1 then (if 1 ≤ y2.toInt ∧ y2.toInt ≤ nt S.1 y1.toInt then (0 : Int) else 2) else 1) = 0
    · rw [if_pos q]
      exact x_sJf h01
    · rw [if_neg q]
      rfl
  rw [hfl]
  exact hgs
theorem gs_items (hS : okS S) (hE : EW I S) (hR : RWd I S) : ∃ (h1 h2 : HP) (v : Int32), f_X7_items (Sx I J b c) 0 = some (h1, xi v) ∧ f_X8_items h1 102 = some (h2, xi v) ∧ Good h2 ∧ (∀ k, x_rc (Sx I J b c) 0 7 k = k) ∧ ∀ k, x_rc h1 102 8 k = k := by
  have h4 : I 8 4 = nit S.1 := hE.1.2.1.2.2.2.2.1
  have e1 : f_X7_items (Sx I J b c) 0 = some (Sx I J b c, xi (iW (nit S.1))) := by
    simp (disch := first | assumption | omega) only [f_X7_items, ↓rc0, ↓gI0_1, ↓gI0_7, ↓gI0_8, ↓gI0_15, ↓pI0_1, ↓pI0_7, ↓pI0_8, ↓pZ0_15, ↓gR0_0, ↓gR0_2, ↓gR0_3, ↓gR0_4, ↓gR0_5, ↓gR0_6, ↓gR0_9, ↓gR0_10, ↓gR0_11, ↓gR0_12, ↓gR0_13, ↓gR0_14, ↓aI1, ↓ln1, ↓aI14, ↓sZ14, ↓ln14, ↓aR13, ↓aR15, ↓rc8, ↓gI8_4, ↓gI8_5, ↓gI8_6, ↓pI8_4, ↓pI8_5, ↓pZ8_6, ↓gR8_0, ↓gR8_1, ↓gR8_2, ↓gR8_3, ↓aI9, ↓sI9, ↓ln9, ↓aI10, ↓sI10, ↓ln10, ↓aI11, ↓sI11, ↓ln11, ↓aI12, ↓sI12, ↓ln12, ↓c_I, ↓c_J, ↓c_Q, ↓c_V, ↓c_It, ↓c_Jt, ↓c_Vt, ↓k_I, ↓k_J, ↓n_I, ↓n_V, li0, li1, li2, li3, li4, li5, li6, li7, li8, li9, li10, li11, li12, li13, li14, li15, li16, li17, li18, li19, li20, li21, li22, li23, li24, li25, li26, li27, li28, li29, li30, li31, li32, li33, li34, li35, li36, li37, li38, li39, li40, li41, li42, li44, li48, li57, li63, li64, li65, li97, li99, li100, li101, li102, li104, li105, li106, li109, li114, li120, li128, li130, li300, li514, li999, li1000, li8192, li9999, li65536, li1000000, li1000001, li1000002, li1000003, li1000004, li1000005, li1000006, li1000007, li1000008, li1000009, li1000010, li1000011, li1000012, li1000013, li1000014, li1000015, li1000016, li1000017, li1000018, li1000019, li2147483647, lj0, lj1, W_add, W_sub, W_mul, W_neg, V_add, V_sub, V_mul, V_neg, W_ite, h4]
  obtain ⟨I', J', g1, g2, g3, g4⟩ := q_items (J := J) (b := b) (c := c) hR.1
  have hst : RStp (f_X8_items (Sx I J b c) 102) I J b c (nit S.1) 0 S := RAns.stp ⟨I', J', g1, g2, g3, g4⟩ hR
  obtain ⟨I2, J2, k1, k2, k3, k4, k5⟩ := hst
  exact ⟨Sx I J b c, Sx I2 J2 b c, iW (nit S.1), e1, k1, ⟨I2, J2, b, c, S, rfl, hS, hE.fr (fun a ha => k4 a ha), k3⟩, fun k => rc0, fun k => rc102⟩
end Cases

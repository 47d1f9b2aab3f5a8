theorem TG_all {ws : List Cond} (ps : List Nat) (hp : ws = ps.filterMap (fun i => lw_tbl[i]?)) (h : ws.all goodWord = true) : ∀ w ∈ ws, w ∈ TG := by
  intro w hw
  have h1 := List.all_eq_true.mp h w hw
  rw [hp] at hw
  obtain ⟨i, -, hi⟩ := List.mem_filterMap.mp hw
  exact TG_in i hi h1
def FU : Nat := 100000
def x_lI (v : Int32) (f : Int32 → Option XR) : Option XR := f v
def x_lJ (v : Int64) (f : Int64 → Option XR) : Option XR := f v
theorem x_lI_el {y v : Int32} {f : Int32 → Option XR} {z : XR} (e : y = v) (h : x_lI v f = some z) : f y = some z := by subst e; exact h
theorem x_lJ_el {y v : Int64} {f : Int64 → Option XR} {z : XR} (e : y = v) (h : x_lJ v f = some z) : f y = some z := by subst e; exact h

def x_pick : List Cond → List Nat → List Cond
  | _, [] => []
  | l, g :: gs => match l.drop g with
    | [] => []
    | w :: r => w :: x_pick r gs
theorem x_pick_in : ∀ (gs : List Nat) (l : List Cond), ∀ w ∈ x_pick l gs, w ∈ l := by
  intro gs
  induction gs with
  | nil => intro l w hw; simp [x_pick] at hw
  | cons g gs ih =>
    intro l w hw
    unfold x_pick at hw
    split at hw
    · cases hw
    · next w0 r e =>
      have hm : ∀ v ∈ w0 :: r, v ∈ l := fun v hv => List.mem_of_mem_drop (i := g) (by rw [e]; exact hv)
      rcases List.mem_cons.mp hw with rfl | hw
      · exact hm _ List.mem_cons_self
      · exact hm _ (List.mem_cons_of_mem _ (ih r w hw))
theorem TG_pick {ws : List Cond} (gs : List Nat) (hp : ws = x_pick lw_tbl gs) (h : ws.all goodWord = true) : ∀ w ∈ ws, w ∈ TG := fun w hw => List.mem_filter.mpr ⟨x_pick_in gs _ w (hp ▸ hw), List.all_eq_true.mp h w hw⟩
theorem NW_pick {ws : List Cond} (gs : List Nat) (hp : ws = x_pick lw_tbl gs) (h : ws.all x_isN = true) : ∀ w ∈ ws, w ∈ x_nw := fun w hw => List.mem_filter.mpr ⟨x_pick_in gs _ w (hp ▸ hw), List.all_eq_true.mp h w hw⟩

theorem lib_max : Cond.static Lib.Math.max.name ∈ TG ∧ Cond.initialized "java/lang/Math" ∈ TG ∧ Cond.code Lib.Math.max.name Lib.Math.max.code 2 (some .int) ∈ TG := ⟨TG_in 569 (by decide +kernel) (by decide +kernel), TG_in 138 (by decide +kernel) (by decide +kernel), TG_in 570 (by decide +kernel) (by decide +kernel)⟩
theorem lib_min : Cond.static Lib.Math.min.name ∈ TG ∧ Cond.initialized "java/lang/Math" ∈ TG ∧ Cond.code Lib.Math.min.name Lib.Math.min.code 2 (some .int) ∈ TG := ⟨TG_in 566 (by decide +kernel) (by decide +kernel), TG_in 138 (by decide +kernel) (by decide +kernel), TG_in 567 (by decide +kernel) (by decide +kernel)⟩
theorem lib_oinit : Cond.instanceMethod Lib.objectInit ∈ TG ∧ Cond.code Lib.objectInit ⟨#[0xb1]⟩ 1 none ∈ TG := ⟨TG_in 153 (by decide +kernel) (by decide +kernel), TG_in 154 (by decide +kernel) (by decide +kernel)⟩
theorem lib_acopy : Cond.native arraycopyName ∈ TG ∧ Cond.static arraycopyName ∈ TG ∧ Cond.initialized "java/lang/System" ∈ TG := ⟨TG_in 699 (by decide +kernel) (by decide +kernel), TG_in 698 (by decide +kernel) (by decide +kernel), TG_in 144 (by decide +kernel) (by decide +kernel)⟩
theorem xcl_0 : x_cl 0 "GridEngine$AxisLayout" TX0 16 := ⟨rfl, TG_all [307, 309, 311, 313, 315, 317, 319, 321, 323, 325, 327, 329, 331, 333, 335, 337] (by decide +kernel) (by decide +kernel), tyX0_ok, nmX0⟩
theorem xok_0 : ∀ k, k < 16 → x_okT (x_ty 0 k) = true := by decide +kernel
theorem xcl_1 : x_cl 1 "GridEngine$Contributions" TX1 3 := ⟨rfl, TG_all [371, 373, 375] (by decide +kernel) (by decide +kernel), tyX1_ok, nmX1⟩
theorem xok_1 : ∀ k, k < 3 → x_okT (x_ty 1 k) = true := by decide +kernel
theorem xcl_2 : x_cl 2 "GridEngine$Filling" TX2 5 := ⟨rfl, TG_all [351, 353, 355, 357, 359] (by decide +kernel) (by decide +kernel), tyX2_ok, nmX2⟩
theorem xok_2 : ∀ k, k < 5 → x_okT (x_ty 2 k) = true := by decide +kernel
theorem xcl_3 : x_cl 3 "GridEngine$Fractions" TX3 6 := ⟨rfl, TG_all [390, 392, 394, 396, 398, 400] (by decide +kernel) (by decide +kernel), tyX3_ok, nmX3⟩
theorem xok_3 : ∀ k, k < 6 → x_okT (x_ty 3 k) = true := by decide +kernel
theorem xcl_4 : x_cl 4 "GridEngine$Model" TX4 7 := ⟨rfl, TG_all [225, 227, 229, 231, 233, 235, 237] (by decide +kernel) (by decide +kernel), tyX4_ok, nmX4⟩
theorem xok_4 : ∀ k, k < 7 → x_okT (x_ty 4 k) = true := by decide +kernel
theorem xcl_5 : x_cl 5 "GridEngine$Placement" TX5 9 := ⟨rfl, TG_all [256, 258, 260, 262, 264, 266, 268, 270, 272] (by decide +kernel) (by decide +kernel), tyX5_ok, nmX5⟩
theorem xok_5 : ∀ k, k < 9 → x_okT (x_ty 5 k) = true := by decide +kernel
theorem xcl_6 : x_cl 6 "GridEngine$TrackText" TX6 12 := ⟨rfl, TG_all [178, 180, 182, 184, 186, 188, 190, 192, 194, 196, 198, 200] (by decide +kernel) (by decide +kernel), tyX6_ok, nmX6⟩
theorem xok_6 : ∀ k, k < 12 → x_okT (x_ty 6 k) = true := by decide +kernel
theorem xcl_7 : x_cl 7 "GridEngine" TX7 16 := ⟨rfl, TG_all [420, 422, 424, 426, 428, 430, 432, 434, 436, 438, 440, 442, 444, 446, 448, 450] (by decide +kernel) (by decide +kernel), tyX7_ok, nmX7⟩
theorem xok_7 : ∀ k, k < 16 → x_okT (x_ty 7 k) = true := by decide +kernel
theorem xcl_8 : x_cl 8 "GridEngineModel" TX8 43 := ⟨rfl, TG_all [1420, 1422, 1424, 1426, 1428, 1430, 1432, 1434, 1436, 1438, 1440, 1442, 1444, 1446, 1448, 1450, 1452, 1454, 1456, 1458, 1460, 1462, 1464, 1466, 1468, 1470, 1472, 1474, 1476, 1478, 1480, 1482, 1484, 1486, 1488, 1490, 1492, 1494, 1496, 1498, 1500, 1502, 1504] (by decide +kernel) (by decide +kernel), tyX8_ok, nmX8⟩
theorem xok_8 : ∀ k, k < 43 → x_okT (x_ty 8 k) = true := by decide +kernel

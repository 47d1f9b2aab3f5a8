def FU : Nat := 100000
def x_lI (v : Int32) (f : Int32 → Option XR) : Option XR := f v
def x_lJ (v : Int64) (f : Int64 → Option XR) : Option XR := f v
theorem x_lI_el {y v : Int32} {f : Int32 → Option XR} {z : XR} (e : y = v) (h : x_lI v f = some z) : f y = some z := by subst e; exact h
theorem x_lJ_el {y v : Int64} {f : Int64 → Option XR} {z : XR} (e : y = v) (h : x_lJ v f = some z) : f y = some z := by subst e; exact h

theorem lib_max : Cond.static Lib.Math.max.name ∈ TG ∧ Cond.initialized "java/lang/Math" ∈ TG ∧ Cond.code Lib.Math.max.name Lib.Math.max.code 2 (some .int) ∈ TG := ⟨TG_in 569 (by decide +kernel) (by decide +kernel), TG_in 138 (by decide +kernel) (by decide +kernel), TG_in 570 (by decide +kernel) (by decide +kernel)⟩
theorem lib_min : Cond.static Lib.Math.min.name ∈ TG ∧ Cond.initialized "java/lang/Math" ∈ TG ∧ Cond.code Lib.Math.min.name Lib.Math.min.code 2 (some .int) ∈ TG := ⟨TG_in 566 (by decide +kernel) (by decide +kernel), TG_in 138 (by decide +kernel) (by decide +kernel), TG_in 567 (by decide +kernel) (by decide +kernel)⟩
theorem lib_oinit : Cond.instanceMethod Lib.objectInit ∈ TG ∧ Cond.code Lib.objectInit ⟨#[0xb1]⟩ 1 none ∈ TG := ⟨TG_in 153 (by decide +kernel) (by decide +kernel), TG_in 154 (by decide +kernel) (by decide +kernel)⟩
theorem lib_acopy : Cond.native arraycopyName ∈ TG ∧ Cond.static arraycopyName ∈ TG ∧ Cond.initialized "java/lang/System" ∈ TG := ⟨TG_in 699 (by decide +kernel) (by decide +kernel), TG_in 698 (by decide +kernel) (by decide +kernel), TG_in 144 (by decide +kernel) (by decide +kernel)⟩
theorem xcl_0 : x_cl 0 "GridEngine$AxisLayout" TX0 16 := ⟨rfl, by decide +kernel, tyX0_ok, nmX0⟩
theorem xok_0 : ∀ k, k < 16 → x_okT (x_ty 0 k) = true := by decide +kernel
theorem xcl_1 : x_cl 1 "GridEngine$Contributions" TX1 3 := ⟨rfl, by decide +kernel, tyX1_ok, nmX1⟩
theorem xok_1 : ∀ k, k < 3 → x_okT (x_ty 1 k) = true := by decide +kernel
theorem xcl_2 : x_cl 2 "GridEngine$Filling" TX2 5 := ⟨rfl, by decide +kernel, tyX2_ok, nmX2⟩
theorem xok_2 : ∀ k, k < 5 → x_okT (x_ty 2 k) = true := by decide +kernel
theorem xcl_3 : x_cl 3 "GridEngine$Fractions" TX3 6 := ⟨rfl, by decide +kernel, tyX3_ok, nmX3⟩
theorem xok_3 : ∀ k, k < 6 → x_okT (x_ty 3 k) = true := by decide +kernel
theorem xcl_4 : x_cl 4 "GridEngine$Model" TX4 7 := ⟨rfl, by decide +kernel, tyX4_ok, nmX4⟩
theorem xok_4 : ∀ k, k < 7 → x_okT (x_ty 4 k) = true := by decide +kernel
theorem xcl_5 : x_cl 5 "GridEngine$Placement" TX5 9 := ⟨rfl, by decide +kernel, tyX5_ok, nmX5⟩
theorem xok_5 : ∀ k, k < 9 → x_okT (x_ty 5 k) = true := by decide +kernel
theorem xcl_6 : x_cl 6 "GridEngine$TrackText" TX6 12 := ⟨rfl, by decide +kernel, tyX6_ok, nmX6⟩
theorem xok_6 : ∀ k, k < 12 → x_okT (x_ty 6 k) = true := by decide +kernel
theorem xcl_7 : x_cl 7 "GridEngine" TX7 16 := ⟨rfl, by decide +kernel, tyX7_ok, nmX7⟩
theorem xok_7 : ∀ k, k < 16 → x_okT (x_ty 7 k) = true := by decide +kernel
theorem xcl_8 : x_cl 8 "GridEngineModel" TX8 43 := ⟨rfl, by decide +kernel, tyX8_ok, nmX8⟩
theorem xok_8 : ∀ k, k < 43 → x_okT (x_ty 8 k) = true := by decide +kernel
theorem fm_X2_24 : Cond.fieldLink "GridEngine$Filling" 24 (TX2 4).1 (TX2 4).2.1 (TX2 4).2.2.1 ∈ TG := TG_in 350 (by decide +kernel) (by decide +kernel)
theorem fl_X2_24 : x_fl "GridEngine$Filling" 24 (TX2 4) := Or.inl fm_X2_24
theorem fm_X2_9 : Cond.fieldLink "GridEngine$Filling" 9 (TX2 0).1 (TX2 0).2.1 (TX2 0).2.2.1 ∈ TG := TG_in 346 (by decide +kernel) (by decide +kernel)
theorem fl_X2_9 : x_fl "GridEngine$Filling" 9 (TX2 0) := Or.inl fm_X2_9
theorem fm_X2_15 : Cond.fieldLink "GridEngine$Filling" 15 (TX2 1).1 (TX2 1).2.1 (TX2 1).2.2.1 ∈ TG := TG_in 347 (by decide +kernel) (by decide +kernel)
theorem fl_X2_15 : x_fl "GridEngine$Filling" 15 (TX2 1) := Or.inl fm_X2_15
theorem fm_X2_18 : Cond.fieldLink "GridEngine$Filling" 18 (TX2 2).1 (TX2 2).2.1 (TX2 2).2.2.1 ∈ TG := TG_in 348 (by decide +kernel) (by decide +kernel)
theorem fl_X2_18 : x_fl "GridEngine$Filling" 18 (TX2 2) := Or.inl fm_X2_18
theorem ml_X2_28 : Cond.methodLink "GridEngine$Filling" 28 Lib.Math.max.name ∈ TG := TG_in 950 (by decide +kernel) (by decide +kernel)
theorem fm_X2_21 : Cond.fieldLink "GridEngine$Filling" 21 (TX2 3).1 (TX2 3).2.1 (TX2 3).2.2.1 ∈ TG := TG_in 349 (by decide +kernel) (by decide +kernel)
theorem fl_X2_21 : x_fl "GridEngine$Filling" 21 (TX2 3) := Or.inl fm_X2_21
theorem ki_X2_34 : Cond.constant "GridEngine$Filling" 34 (1000000) ∈ TG := TG_in 980 (by decide +kernel) (by decide +kernel)
theorem me_X2_isAhead : x_me yX2_isAhead cX2_isAhead 3 (some .boolean) 2 := ⟨TG_in 975 (by decide +kernel) (by decide +kernel), TG_in 129 (by decide +kernel) (by decide +kernel), by decide, by decide, by decide +kernel⟩
theorem ml_X2_53 : Cond.methodLink "GridEngine$Filling" 53 yX2_isAhead ∈ TG := TG_in 972 (by decide +kernel) (by decide +kernel)
theorem wi_X2_isAhead : Cond.instanceMethod yX2_isAhead ∈ TG := TG_in 974 (by decide +kernel) (by decide +kernel)
theorem wl_X2_isAhead : Cond.selects yX2_isAhead.cls yX2_isAhead yX2_isAhead ∈ TG := TG_in 48 (by decide +kernel) (by decide +kernel)
theorem ml_X2_50 : Cond.methodLink "GridEngine$Filling" 50 Lib.Math.min.name ∈ TG := TG_in 967 (by decide +kernel) (by decide +kernel)
theorem me_X2_missingPixels : x_me yX2_missingPixels cX2_missingPixels 3 (some .int) 2 := ⟨TG_in 966 (by decide +kernel) (by decide +kernel), TG_in 129 (by decide +kernel) (by decide +kernel), by decide, by decide, by decide +kernel⟩
theorem ml_X2_47 : Cond.methodLink "GridEngine$Filling" 47 yX2_missingPixels ∈ TG := TG_in 963 (by decide +kernel) (by decide +kernel)
theorem wi_X2_missingPixels : Cond.instanceMethod yX2_missingPixels ∈ TG := TG_in 965 (by decide +kernel) (by decide +kernel)
theorem wl_X2_missingPixels : Cond.selects yX2_missingPixels.cls yX2_missingPixels yX2_missingPixels ∈ TG := TG_in 46 (by decide +kernel) (by decide +kernel)
theorem me_X2_costOfLevel : x_me yX2_costOfLevel cX2_costOfLevel 5 (some .long) 1 := ⟨TG_in 962 (by decide +kernel) (by decide +kernel), TG_in 129 (by decide +kernel) (by decide +kernel), by decide, by decide, by decide +kernel⟩
theorem ml_X2_43 : Cond.methodLink "GridEngine$Filling" 43 yX2_costOfLevel ∈ TG := TG_in 959 (by decide +kernel) (by decide +kernel)
theorem wi_X2_costOfLevel : Cond.instanceMethod yX2_costOfLevel ∈ TG := TG_in 961 (by decide +kernel) (by decide +kernel)
theorem wl_X2_costOfLevel : Cond.selects yX2_costOfLevel.cls yX2_costOfLevel yX2_costOfLevel ∈ TG := TG_in 45 (by decide +kernel) (by decide +kernel)
theorem me_X2_nextPlace : x_me yX2_nextPlace cX2_nextPlace 3 (some .int) 0 := ⟨TG_in 971 (by decide +kernel) (by decide +kernel), TG_in 129 (by decide +kernel) (by decide +kernel), by decide, by decide, by decide +kernel⟩
theorem ml_X2_39 : Cond.methodLink "GridEngine$Filling" 39 yX2_nextPlace ∈ TG := TG_in 968 (by decide +kernel) (by decide +kernel)
theorem wi_X2_nextPlace : Cond.instanceMethod yX2_nextPlace ∈ TG := TG_in 970 (by decide +kernel) (by decide +kernel)
theorem wl_X2_nextPlace : Cond.selects yX2_nextPlace.cls yX2_nextPlace yX2_nextPlace ∈ TG := TG_in 47 (by decide +kernel) (by decide +kernel)
theorem me_X2_pourLevels : x_me yX2_pourLevels cX2_pourLevels 6 (some .int) 1 := ⟨TG_in 958 (by decide +kernel) (by decide +kernel), TG_in 129 (by decide +kernel) (by decide +kernel), by decide, by decide, by decide +kernel⟩
theorem ml_X2_35 : Cond.methodLink "GridEngine$Filling" 35 yX2_pourLevels ∈ TG := TG_in 955 (by decide +kernel) (by decide +kernel)
theorem wi_X2_pourLevels : Cond.instanceMethod yX2_pourLevels ∈ TG := TG_in 957 (by decide +kernel) (by decide +kernel)
theorem wl_X2_pourLevels : Cond.selects yX2_pourLevels.cls yX2_pourLevels yX2_pourLevels ∈ TG := TG_in 44 (by decide +kernel) (by decide +kernel)

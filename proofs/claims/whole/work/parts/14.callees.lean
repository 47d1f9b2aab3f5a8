theorem nh_PreconditionsJ3 : "jdk/internal/util/Preconditions" ≠ "java/lang/invoke/MethodHandle" ∧ "jdk/internal/util/Preconditions" ≠ "java/lang/invoke/VarHandle" := by decide +kernel
theorem pd__IILjava_util_function_BiFunction__I : (parseMethodDescriptor "(IILjava/util/function/BiFunction;)I").map (fun d => d.parameters.length) = some 3 := by decide +kernel
theorem me_J3_checkIndex_8e157 : x_me yJ3_checkIndex_8e157 cJ3_checkIndex_8e157 3 (some .int) 3 := ⟨cw_J3_checkIndex_8e157, iz_PreconditionsJ3, nh_PreconditionsJ3.1, nh_PreconditionsJ3.2, pd__IILjava_util_function_BiFunction__I⟩
theorem nh_StringJ0 : "java/lang/String" ≠ "java/lang/invoke/MethodHandle" ∧ "java/lang/String" ≠ "java/lang/invoke/VarHandle" := by decide +kernel
theorem pd__II_V : (parseMethodDescriptor "(II)V").map (fun d => d.parameters.length) = some 2 := by decide +kernel
theorem me_J0_checkIndex_df160 : x_me yJ0_checkIndex_df160 cJ0_checkIndex_df160 2 none 2 := ⟨cw_J0_checkIndex_df160, iz_StringJ0, nh_StringJ0.1, nh_StringJ0.2, pd__II_V⟩
theorem pd___B : (parseMethodDescriptor "()B").map (fun d => d.parameters.length) = some 0 := by decide +kernel
theorem me_J0_coder_7d493 : x_me yJ0_coder_7d493 cJ0_coder_7d493 1 (some .byte) 0 := ⟨cw_J0_coder_7d493, iz_StringJ0, nh_StringJ0.1, nh_StringJ0.2, pd___B⟩
theorem pd___Z : (parseMethodDescriptor "()Z").map (fun d => d.parameters.length) = some 0 := by decide +kernel
theorem me_J0_isLatin1_aae02 : x_me yJ0_isLatin1_aae02 cJ0_isLatin1_aae02 1 (some .boolean) 0 := ⟨cw_J0_isLatin1_aae02, iz_StringJ0, nh_StringJ0.1, nh_StringJ0.2, pd___Z⟩
theorem nh_StringLatinJ1 : "java/lang/StringLatin1" ≠ "java/lang/invoke/MethodHandle" ∧ "java/lang/StringLatin1" ≠ "java/lang/invoke/VarHandle" := by decide +kernel
theorem pd__qBI_C : (parseMethodDescriptor "([BI)C").map (fun d => d.parameters.length) = some 2 := by decide +kernel
theorem me_J1_charAt_3b067 : x_me yJ1_charAt_3b067 cJ1_charAt_3b067 2 (some .char) 2 := ⟨cw_J1_charAt_3b067, iz_StringLatinJ1, nh_StringLatinJ1.1, nh_StringLatinJ1.2, pd__qBI_C⟩
theorem pd___I : (parseMethodDescriptor "()I").map (fun d => d.parameters.length) = some 0 := by decide +kernel
theorem me_J0_length_8abf5 : x_me yJ0_length_8abf5 cJ0_length_8abf5 1 (some .int) 0 := ⟨cw_J0_length_8abf5, iz_StringJ0, nh_StringJ0.1, nh_StringJ0.2, pd___I⟩
theorem pd__I_C : (parseMethodDescriptor "(I)C").map (fun d => d.parameters.length) = some 1 := by decide +kernel
theorem me_J0_charAt_5068e : x_me yJ0_charAt_5068e cJ0_charAt_5068e 2 (some .char) 1 := ⟨cw_J0_charAt_5068e, iz_StringJ0, nh_StringJ0.1, nh_StringJ0.2, pd__I_C⟩
theorem fl_X2_9 : x_fl "GridEngine$Filling" 9 (TX2 0) := Or.inl fm_X2_9
theorem fl_X2_15 : x_fl "GridEngine$Filling" 15 (TX2 1) := Or.inl fm_X2_15
theorem fl_X2_18 : x_fl "GridEngine$Filling" 18 (TX2 2) := Or.inl fm_X2_18
theorem fl_X2_21 : x_fl "GridEngine$Filling" 21 (TX2 3) := Or.inl fm_X2_21
theorem fl_X2_24 : x_fl "GridEngine$Filling" 24 (TX2 4) := Or.inl fm_X2_24
theorem nh_FillingX2 : "GridEngine$Filling" ≠ "java/lang/invoke/MethodHandle" ∧ "GridEngine$Filling" ≠ "java/lang/invoke/VarHandle" := by decide +kernel
theorem pd__II_Z : (parseMethodDescriptor "(II)Z").map (fun d => d.parameters.length) = some 2 := by decide +kernel
theorem me_X2_isAhead : x_me yX2_isAhead cX2_isAhead 3 (some .boolean) 2 := ⟨cw_X2_isAhead, iz_FillingX2, nh_FillingX2.1, nh_FillingX2.2, pd__II_Z⟩
theorem pd__II_I : (parseMethodDescriptor "(II)I").map (fun d => d.parameters.length) = some 2 := by decide +kernel
theorem me_X2_missingPixels : x_me yX2_missingPixels cX2_missingPixels 3 (some .int) 2 := ⟨cw_X2_missingPixels, iz_FillingX2, nh_FillingX2.1, nh_FillingX2.2, pd__II_I⟩
theorem pd__I_J : (parseMethodDescriptor "(I)J").map (fun d => d.parameters.length) = some 1 := by decide +kernel
theorem me_X2_costOfLevel : x_me yX2_costOfLevel cX2_costOfLevel 5 (some .long) 1 := ⟨cw_X2_costOfLevel, iz_FillingX2, nh_FillingX2.1, nh_FillingX2.2, pd__I_J⟩
theorem me_X2_nextPlace : x_me yX2_nextPlace cX2_nextPlace 3 (some .int) 0 := ⟨cw_X2_nextPlace, iz_FillingX2, nh_FillingX2.1, nh_FillingX2.2, pd___I⟩
theorem pd__I_I : (parseMethodDescriptor "(I)I").map (fun d => d.parameters.length) = some 1 := by decide +kernel
theorem me_X2_pourLevels : x_me yX2_pourLevels cX2_pourLevels 6 (some .int) 1 := ⟨cw_X2_pourLevels, iz_FillingX2, nh_FillingX2.1, nh_FillingX2.2, pd__I_I⟩
theorem fl_X4_11 : x_fl "GridEngine$Model" 11 (TX4 0) := Or.inl fm_X4_11
theorem fl_X4_18 : x_fl "GridEngine$Model" 18 (TX4 2) := Or.inl fm_X4_18
theorem fl_X4_15 : x_fl "GridEngine$Model" 15 (TX4 1) := Or.inl fm_X4_15
theorem fl_X4_21 : x_fl "GridEngine$Model" 21 (TX4 3) := Or.inl fm_X4_21
theorem fl_X4_24 : x_fl "GridEngine$Model" 24 (TX4 4) := Or.inl fm_X4_24
theorem fl_X4_28 : x_fl "GridEngine$Model" 28 (TX4 5) := Or.inl fm_X4_28
theorem fl_X4_31 : x_fl "GridEngine$Model" 31 (TX4 6) := Or.inl fm_X4_31
theorem fl_X4_41 : x_fl "GridEngine$Model" 41 (TX6 6) := Or.inr ⟨"GridEngine", fn_X4_41⟩
theorem fl_X4_55 : x_fl "GridEngine$Model" 55 (TX6 7) := Or.inr ⟨"GridEngine", fn_X4_55⟩
theorem nh_ModelX4 : "GridEngine$Model" ≠ "java/lang/invoke/MethodHandle" ∧ "GridEngine$Model" ≠ "java/lang/invoke/VarHandle" := by decide +kernel
theorem pd__IIII_V : (parseMethodDescriptor "(IIII)V").map (fun d => d.parameters.length) = some 4 := by decide +kernel
theorem me_X4_changeItem : x_me yX4_changeItem cX4_changeItem 6 none 4 := ⟨cw_X4_changeItem, iz_ModelX4, nh_ModelX4.1, nh_ModelX4.2, pd__IIII_V⟩
theorem pd__III_I : (parseMethodDescriptor "(III)I").map (fun d => d.parameters.length) = some 3 := by decide +kernel
theorem me_X4_itemField : x_me yX4_itemField cX4_itemField 5 (some .int) 3 := ⟨cw_X4_itemField, iz_ModelX4, nh_ModelX4.1, nh_ModelX4.2, pd__III_I⟩
theorem fl_X5_9 : x_fl "GridEngine$Placement" 9 (TX5 1) := Or.inl fm_X5_9
theorem fl_X5_15 : x_fl "GridEngine$Placement" 15 (TX5 2) := Or.inl fm_X5_15
theorem fl_X5_19 : x_fl "GridEngine$Placement" 19 (TX5 3) := Or.inl fm_X5_19
theorem fl_X5_22 : x_fl "GridEngine$Placement" 22 (TX5 4) := Or.inl fm_X5_22
theorem fl_X5_26 : x_fl "GridEngine$Placement" 26 (TX5 5) := Or.inl fm_X5_26
theorem fl_X5_29 : x_fl "GridEngine$Placement" 29 (TX5 6) := Or.inl fm_X5_29
theorem fl_X5_32 : x_fl "GridEngine$Placement" 32 (TX5 7) := Or.inl fm_X5_32
theorem fl_X5_35 : x_fl "GridEngine$Placement" 35 (TX5 8) := Or.inl fm_X5_35
theorem fl_X5_38 : x_fl "GridEngine$Placement" 38 (TX5 0) := Or.inl fm_X5_38
theorem fl_X5_86 : x_fl "GridEngine$Placement" 86 (TX4 4) := Or.inr ⟨"GridEngine", fn_X5_86⟩
theorem nh_PlacementX5 : "GridEngine$Placement" ≠ "java/lang/invoke/MethodHandle" ∧ "GridEngine$Placement" ≠ "java/lang/invoke/VarHandle" := by decide +kernel
theorem pd__I_Z : (parseMethodDescriptor "(I)Z").map (fun d => d.parameters.length) = some 1 := by decide +kernel
theorem me_X5_isPlacedBefore : x_me yX5_isPlacedBefore cX5_isPlacedBefore 2 (some .boolean) 1 := ⟨cw_X5_isPlacedBefore, iz_PlacementX5, nh_PlacementX5.1, nh_PlacementX5.2, pd__I_Z⟩
theorem me_X5_hasStart : x_me yX5_hasStart cX5_hasStart 3 (some .boolean) 2 := ⟨cw_X5_hasStart, iz_PlacementX5, nh_PlacementX5.1, nh_PlacementX5.2, pd__II_Z⟩
theorem me_X5_firstTrack : x_me yX5_firstTrack cX5_firstTrack 4 (some .int) 2 := ⟨cw_X5_firstTrack, iz_PlacementX5, nh_PlacementX5.1, nh_PlacementX5.2, pd__II_I⟩
theorem me_X4_explicitCount : x_me yX4_explicitCount cX4_explicitCount 2 (some .int) 1 := ⟨cw_X4_explicitCount, iz_ModelX4, nh_ModelX4.1, nh_ModelX4.2, pd__I_I⟩
theorem me_X5_lastTrack : x_me yX5_lastTrack cX5_lastTrack 3 (some .int) 2 := ⟨cw_X5_lastTrack, iz_PlacementX5, nh_PlacementX5.1, nh_PlacementX5.2, pd__II_I⟩
theorem pd__III_V : (parseMethodDescriptor "(III)V").map (fun d => d.parameters.length) = some 3 := by decide +kernel
theorem me_X5_putAt : x_me yX5_putAt cX5_putAt 4 none 3 := ⟨cw_X5_putAt, iz_PlacementX5, nh_PlacementX5.1, nh_PlacementX5.2, pd__III_V⟩
theorem pd__III_Z : (parseMethodDescriptor "(III)Z").map (fun d => d.parameters.length) = some 3 := by decide +kernel
theorem me_X5_isFreeAt : x_me yX5_isFreeAt cX5_isFreeAt 7 (some .boolean) 3 := ⟨cw_X5_isFreeAt, iz_PlacementX5, nh_PlacementX5.1, nh_PlacementX5.2, pd__III_Z⟩
theorem fl_X5_100 : x_fl "GridEngine$Placement" 100 (TX4 6) := Or.inr ⟨"GridEngine", fn_X5_100⟩
theorem pd__I_V : (parseMethodDescriptor "(I)V").map (fun d => d.parameters.length) = some 1 := by decide +kernel
theorem me_X5_moveToFreePlace : x_me yX5_moveToFreePlace cX5_moveToFreePlace 3 none 1 := ⟨cw_X5_moveToFreePlace, iz_PlacementX5, nh_PlacementX5.1, nh_PlacementX5.2, pd__I_V⟩
theorem me_X5_moveAlongMain : x_me yX5_moveAlongMain cX5_moveAlongMain 3 none 1 := ⟨cw_X5_moveAlongMain, iz_PlacementX5, nh_PlacementX5.1, nh_PlacementX5.2, pd__I_V⟩
theorem me_X5_firstSparseSide : x_me yX5_firstSparseSide cX5_firstSparseSide 6 (some .int) 2 := ⟨cw_X5_firstSparseSide, iz_PlacementX5, nh_PlacementX5.1, nh_PlacementX5.2, pd__II_I⟩
theorem pd___V : (parseMethodDescriptor "()V").map (fun d => d.parameters.length) = some 0 := by decide +kernel
theorem me_X5_placeFixed : x_me yX5_placeFixed cX5_placeFixed 2 none 0 := ⟨cw_X5_placeFixed, iz_PlacementX5, nh_PlacementX5.1, nh_PlacementX5.2, pd___V⟩
theorem me_X5_placeWithMainStart : x_me yX5_placeWithMainStart cX5_placeWithMainStart 4 none 0 := ⟨cw_X5_placeWithMainStart, iz_PlacementX5, nh_PlacementX5.1, nh_PlacementX5.2, pd___V⟩
theorem me_X5_findSideCount : x_me yX5_findSideCount cX5_findSideCount 5 none 0 := ⟨cw_X5_findSideCount, iz_PlacementX5, nh_PlacementX5.1, nh_PlacementX5.2, pd___V⟩
theorem me_X5_placeWithCursor : x_me yX5_placeWithCursor cX5_placeWithCursor 2 none 0 := ⟨cw_X5_placeWithCursor, iz_PlacementX5, nh_PlacementX5.1, nh_PlacementX5.2, pd___V⟩
theorem me_X5_neededTracks : x_me yX5_neededTracks cX5_neededTracks 4 (some .int) 1 := ⟨cw_X5_neededTracks, iz_PlacementX5, nh_PlacementX5.1, nh_PlacementX5.2, pd__I_I⟩
theorem fl_X5_42 : x_fl "GridEngine$Placement" 42 (TX4 5) := Or.inr ⟨"GridEngine", fn_X5_42⟩
theorem me_X5_isAcross : x_me yX5_isAcross cX5_isAcross 4 (some .boolean) 3 := ⟨cw_X5_isAcross, iz_PlacementX5, nh_PlacementX5.1, nh_PlacementX5.2, pd__III_Z⟩
theorem me_X5_isCovering : x_me yX5_isCovering cX5_isCovering 4 (some .boolean) 3 := ⟨cw_X5_isCovering, iz_PlacementX5, nh_PlacementX5.1, nh_PlacementX5.2, pd__III_Z⟩
theorem me_X5_countCovers : x_me yX5_countCovers cX5_countCovers 5 (some .int) 2 := ⟨cw_X5_countCovers, iz_PlacementX5, nh_PlacementX5.1, nh_PlacementX5.2, pd__II_I⟩
theorem fl_X0_9 : x_fl "GridEngine$AxisLayout" 9 (TX0 3) := Or.inl fm_X0_9
theorem fl_X0_15 : x_fl "GridEngine$AxisLayout" 15 (TX0 4) := Or.inl fm_X0_15
theorem fl_X0_19 : x_fl "GridEngine$AxisLayout" 19 (TX0 5) := Or.inl fm_X0_19
theorem fl_X0_22 : x_fl "GridEngine$AxisLayout" 22 (TX0 6) := Or.inl fm_X0_22
theorem fl_X0_25 : x_fl "GridEngine$AxisLayout" 25 (TX0 7) := Or.inl fm_X0_25
theorem fl_X0_28 : x_fl "GridEngine$AxisLayout" 28 (TX0 8) := Or.inl fm_X0_28
theorem fl_X0_31 : x_fl "GridEngine$AxisLayout" 31 (TX0 9) := Or.inl fm_X0_31
theorem fl_X0_34 : x_fl "GridEngine$AxisLayout" 34 (TX0 10) := Or.inl fm_X0_34
theorem fl_X0_38 : x_fl "GridEngine$AxisLayout" 38 (TX0 11) := Or.inl fm_X0_38
theorem fl_X0_41 : x_fl "GridEngine$AxisLayout" 41 (TX0 12) := Or.inl fm_X0_41
theorem fl_X0_44 : x_fl "GridEngine$AxisLayout" 44 (TX0 13) := Or.inl fm_X0_44
theorem fl_X0_47 : x_fl "GridEngine$AxisLayout" 47 (TX0 14) := Or.inl fm_X0_47
theorem fl_X0_50 : x_fl "GridEngine$AxisLayout" 50 (TX0 15) := Or.inl fm_X0_50
theorem fl_X0_53 : x_fl "GridEngine$AxisLayout" 53 (TX0 0) := Or.inl fm_X0_53
theorem fl_X0_56 : x_fl "GridEngine$AxisLayout" 56 (TX0 1) := Or.inl fm_X0_56
theorem fl_X0_60 : x_fl "GridEngine$AxisLayout" 60 (TX0 2) := Or.inl fm_X0_60
theorem me_X4_trackPart : x_me yX4_trackPart cX4_trackPart 6 (some .int) 3 := ⟨cw_X4_trackPart, iz_ModelX4, nh_ModelX4.1, nh_ModelX4.2, pd__III_I⟩
theorem fl_X0_70 : x_fl "GridEngine$AxisLayout" 70 (TX4 4) := Or.inr ⟨"GridEngine", fn_X0_70⟩
theorem nh_AxisLayoutX0 : "GridEngine$AxisLayout" ≠ "java/lang/invoke/MethodHandle" ∧ "GridEngine$AxisLayout" ≠ "java/lang/invoke/VarHandle" := by decide +kernel
theorem me_X0_itemField : x_me yX0_itemField cX0_itemField 3 (some .int) 2 := ⟨cw_X0_itemField, iz_AxisLayoutX0, nh_AxisLayoutX0.1, nh_AxisLayoutX0.2, pd__II_I⟩
theorem me_X0_part : x_me yX0_part cX0_part 3 (some .int) 2 := ⟨cw_X0_part, iz_AxisLayoutX0, nh_AxisLayoutX0.1, nh_AxisLayoutX0.2, pd__II_I⟩
theorem me_X0_lastTrack : x_me yX0_lastTrack cX0_lastTrack 2 (some .int) 1 := ⟨cw_X0_lastTrack, iz_AxisLayoutX0, nh_AxisLayoutX0.1, nh_AxisLayoutX0.2, pd__I_I⟩
theorem me_X0_isFlexible : x_me yX0_isFlexible cX0_isFlexible 2 (some .boolean) 1 := ⟨cw_X0_isFlexible, iz_AxisLayoutX0, nh_AxisLayoutX0.1, nh_AxisLayoutX0.2, pd__I_Z⟩
theorem me_X0_firstTrack : x_me yX0_firstTrack cX0_firstTrack 2 (some .int) 1 := ⟨cw_X0_firstTrack, iz_AxisLayoutX0, nh_AxisLayoutX0.1, nh_AxisLayoutX0.2, pd__I_I⟩
theorem me_X0_isCovered : x_me yX0_isCovered cX0_isCovered 3 (some .boolean) 1 := ⟨cw_X0_isCovered, iz_AxisLayoutX0, nh_AxisLayoutX0.1, nh_AxisLayoutX0.2, pd__I_Z⟩
theorem me_X5_trackCount : x_me yX5_trackCount cX5_trackCount 2 (some .int) 1 := ⟨cw_X5_trackCount, iz_PlacementX5, nh_PlacementX5.1, nh_PlacementX5.2, pd__I_I⟩
theorem me_X4_setting : x_me yX4_setting cX4_setting 4 (some .int) 2 := ⟨cw_X4_setting, iz_ModelX4, nh_ModelX4.1, nh_ModelX4.2, pd__II_I⟩
theorem pd__I_qI : (parseMethodDescriptor "(I)[I").map (fun d => d.parameters.length) = some 1 := by decide +kernel
theorem me_X0_sizesOf : x_me yX0_sizesOf cX0_sizesOf 2 (some (.array .int)) 1 := ⟨cw_X0_sizesOf, iz_AxisLayoutX0, nh_AxisLayoutX0.1, nh_AxisLayoutX0.2, pd__I_qI⟩
theorem me_X0_isOpen : x_me yX0_isOpen cX0_isOpen 2 (some .boolean) 1 := ⟨cw_X0_isOpen, iz_AxisLayoutX0, nh_AxisLayoutX0.1, nh_AxisLayoutX0.2, pd__I_Z⟩
theorem me_X0_trackSize : x_me yX0_trackSize cX0_trackSize 4 (some .int) 2 := ⟨cw_X0_trackSize, iz_AxisLayoutX0, nh_AxisLayoutX0.1, nh_AxisLayoutX0.2, pd__II_I⟩
theorem me_X0_sumWithGutters : x_me yX0_sumWithGutters cX0_sumWithGutters 4 (some .int) 1 := ⟨cw_X0_sumWithGutters, iz_AxisLayoutX0, nh_AxisLayoutX0.1, nh_AxisLayoutX0.2, pd__I_I⟩
theorem me_X2_pour : x_me yX2_pour cX2_pour 4 (some .int) 1 := ⟨cw_X2_pour, iz_FillingX2, nh_FillingX2.1, nh_FillingX2.2, pd__I_I⟩
theorem pd__qIqI_V : (parseMethodDescriptor "([I[I)V").map (fun d => d.parameters.length) = some 2 := by decide +kernel
theorem me_X2_raise : x_me yX2_raise cX2_raise 5 none 2 := ⟨cw_X2_raise, iz_FillingX2, nh_FillingX2.1, nh_FillingX2.2, pd__qIqI_V⟩
theorem me_X2_admit : x_me yX2_admit cX2_admit 4 none 3 := ⟨cw_X2_admit, iz_FillingX2, nh_FillingX2.1, nh_FillingX2.2, pd__III_V⟩
theorem me_X2_startAnew : x_me yX2_startAnew cX2_startAnew 1 none 0 := ⟨cw_X2_startAnew, iz_FillingX2, nh_FillingX2.1, nh_FillingX2.2, pd___V⟩
theorem nh_MathJ9 : "java/lang/Math" ≠ "java/lang/invoke/MethodHandle" ∧ "java/lang/Math" ≠ "java/lang/invoke/VarHandle" := by decide +kernel
theorem me_J9_floorDiv_7cf53 : x_me yJ9_floorDiv_7cf53 cJ9_floorDiv_7cf53 3 (some .int) 2 := ⟨cw_J9_floorDiv_7cf53, iz_MathJ9, nh_MathJ9.1, nh_MathJ9.2, pd__II_I⟩
theorem me_X0_offset : x_me yX0_offset cX0_offset 3 (some .int) 1 := ⟨cw_X0_offset, iz_AxisLayoutX0, nh_AxisLayoutX0.1, nh_AxisLayoutX0.2, pd__I_I⟩
theorem me_X0_trackBegin : x_me yX0_trackBegin cX0_trackBegin 2 (some .int) 1 := ⟨cw_X0_trackBegin, iz_AxisLayoutX0, nh_AxisLayoutX0.1, nh_AxisLayoutX0.2, pd__I_I⟩
theorem me_X0_areaBegin : x_me yX0_areaBegin cX0_areaBegin 2 (some .int) 1 := ⟨cw_X0_areaBegin, iz_AxisLayoutX0, nh_AxisLayoutX0.1, nh_AxisLayoutX0.2, pd__I_I⟩
theorem me_X0_areaSize : x_me yX0_areaSize cX0_areaSize 3 (some .int) 1 := ⟨cw_X0_areaSize, iz_AxisLayoutX0, nh_AxisLayoutX0.1, nh_AxisLayoutX0.2, pd__I_I⟩
theorem me_X0_boxSize : x_me yX0_boxSize cX0_boxSize 4 (some .int) 1 := ⟨cw_X0_boxSize, iz_AxisLayoutX0, nh_AxisLayoutX0.1, nh_AxisLayoutX0.2, pd__I_I⟩
theorem me_X0_boxBegin : x_me yX0_boxBegin cX0_boxBegin 3 (some .int) 1 := ⟨cw_X0_boxBegin, iz_AxisLayoutX0, nh_AxisLayoutX0.1, nh_AxisLayoutX0.2, pd__I_I⟩
theorem fl_X1_9 : x_fl "GridEngine$Contributions" 9 (TX1 1) := Or.inl fm_X1_9
theorem fl_X1_15 : x_fl "GridEngine$Contributions" 15 (TX1 2) := Or.inl fm_X1_15
theorem fl_X1_18 : x_fl "GridEngine$Contributions" 18 (TX1 0) := Or.inl fm_X1_18
theorem me_X0_itemCount : x_me yX0_itemCount cX0_itemCount 1 (some .int) 0 := ⟨cw_X0_itemCount, iz_AxisLayoutX0, nh_AxisLayoutX0.1, nh_AxisLayoutX0.2, pd___I⟩
theorem me_X0_isOnFlexible : x_me yX0_isOnFlexible cX0_isOnFlexible 3 (some .boolean) 1 := ⟨cw_X0_isOnFlexible, iz_AxisLayoutX0, nh_AxisLayoutX0.1, nh_AxisLayoutX0.2, pd__I_Z⟩
theorem fl_X1_22 : x_fl "GridEngine$Contributions" 22 (TX0 4) := Or.inr ⟨"GridEngine", fn_X1_22⟩
theorem nh_ContributionsX1 : "GridEngine$Contributions" ≠ "java/lang/invoke/MethodHandle" ∧ "GridEngine$Contributions" ≠ "java/lang/invoke/VarHandle" := by decide +kernel
theorem pd__LGridEngine_AxisLayout_IZ_Z : (parseMethodDescriptor "(LGridEngine$AxisLayout;IZ)Z").map (fun d => d.parameters.length) = some 3 := by decide +kernel
theorem me_X1_isLimitAsked : x_me yX1_isLimitAsked cX1_isLimitAsked 5 (some .boolean) 3 := ⟨cw_X1_isLimitAsked, iz_ContributionsX1, nh_ContributionsX1.1, nh_ContributionsX1.2, pd__LGridEngine_AxisLayout_IZ_Z⟩
theorem me_X1_isBaseAsked : x_me yX1_isBaseAsked cX1_isBaseAsked 5 (some .boolean) 3 := ⟨cw_X1_isBaseAsked, iz_ContributionsX1, nh_ContributionsX1.1, nh_ContributionsX1.2, pd__LGridEngine_AxisLayout_IZ_Z⟩
theorem pd__LGridEngine_AxisLayout_II_I : (parseMethodDescriptor "(LGridEngine$AxisLayout;II)I").map (fun d => d.parameters.length) = some 3 := by decide +kernel
theorem me_X1_roomOf : x_me yX1_roomOf cX1_roomOf 6 (some .int) 3 := ⟨cw_X1_roomOf, iz_ContributionsX1, nh_ContributionsX1.1, nh_ContributionsX1.2, pd__LGridEngine_AxisLayout_II_I⟩
theorem me_X0_guttersWithin : x_me yX0_guttersWithin cX0_guttersWithin 2 (some .int) 1 := ⟨cw_X0_guttersWithin, iz_AxisLayoutX0, nh_AxisLayoutX0.1, nh_AxisLayoutX0.2, pd__I_I⟩
theorem pd__LGridEngine_AxisLayout_I_I : (parseMethodDescriptor "(LGridEngine$AxisLayout;I)I").map (fun d => d.parameters.length) = some 2 := by decide +kernel
theorem me_X1_spaceOf : x_me yX1_spaceOf cX1_spaceOf 5 (some .int) 2 := ⟨cw_X1_spaceOf, iz_ContributionsX1, nh_ContributionsX1.1, nh_ContributionsX1.2, pd__LGridEngine_AxisLayout_I_I⟩
theorem pd__LGridEngine_AxisLayout_IIZ_V : (parseMethodDescriptor "(LGridEngine$AxisLayout;IIZ)V").map (fun d => d.parameters.length) = some 4 := by decide +kernel
theorem me_X1_admitTracks : x_me yX1_admitTracks cX1_admitTracks 9 none 4 := ⟨cw_X1_admitTracks, iz_ContributionsX1, nh_ContributionsX1.1, nh_ContributionsX1.2, pd__LGridEngine_AxisLayout_IIZ_V⟩
theorem me_X2_dropBounds : x_me yX2_dropBounds cX2_dropBounds 2 none 0 := ⟨cw_X2_dropBounds, iz_FillingX2, nh_FillingX2.1, nh_FillingX2.2, pd___V⟩
theorem fl_X1_53 : x_fl "GridEngine$Contributions" 53 (TX0 5) := Or.inr ⟨"GridEngine", fn_X1_53⟩
theorem fl_X1_33 : x_fl "GridEngine$Contributions" 33 (TX0 10) := Or.inr ⟨"GridEngine", fn_X1_33⟩
theorem pd__LGridEngine_AxisLayout__V : (parseMethodDescriptor "(LGridEngine$AxisLayout;)V").map (fun d => d.parameters.length) = some 1 := by decide +kernel
theorem me_X1_findGroups : x_me yX1_findGroups cX1_findGroups 4 none 1 := ⟨cw_X1_findGroups, iz_ContributionsX1, nh_ContributionsX1.1, nh_ContributionsX1.2, pd__LGridEngine_AxisLayout__V⟩
theorem me_X1_processGroup : x_me yX1_processGroup cX1_processGroup 9 none 4 := ⟨cw_X1_processGroup, iz_ContributionsX1, nh_ContributionsX1.1, nh_ContributionsX1.2, pd__LGridEngine_AxisLayout_IIZ_V⟩
theorem nh_ArraysJ7 : "java/util/Arrays" ≠ "java/lang/invoke/MethodHandle" ∧ "java/util/Arrays" ≠ "java/lang/invoke/VarHandle" := by decide +kernel
theorem pd__qII_V : (parseMethodDescriptor "([II)V").map (fun d => d.parameters.length) = some 2 := by decide +kernel
theorem me_J7_fill_53178 : x_me yJ7_fill_53178 cJ7_fill_53178 4 none 2 := ⟨cw_J7_fill_53178, iz_ArraysJ7, nh_ArraysJ7.1, nh_ArraysJ7.2, pd__qII_V⟩
theorem fl_X3_9 : x_fl "GridEngine$Fractions" 9 (TX3 0) := Or.inl fm_X3_9
theorem fl_X3_15 : x_fl "GridEngine$Fractions" 15 (TX3 1) := Or.inl fm_X3_15
theorem fl_X3_19 : x_fl "GridEngine$Fractions" 19 (TX3 2) := Or.inl fm_X3_19
theorem fl_X3_23 : x_fl "GridEngine$Fractions" 23 (TX3 3) := Or.inl fm_X3_23
theorem fl_X3_26 : x_fl "GridEngine$Fractions" 26 (TX3 4) := Or.inl fm_X3_26
theorem fl_X3_29 : x_fl "GridEngine$Fractions" 29 (TX3 5) := Or.inl fm_X3_29
theorem fl_X3_47 : x_fl "GridEngine$Fractions" 47 (TX0 10) := Or.inr ⟨"GridEngine", fn_X3_47⟩
theorem fl_X3_58 : x_fl "GridEngine$Fractions" 58 (TX0 14) := Or.inr ⟨"GridEngine", fn_X3_58⟩
theorem fl_X3_81 : x_fl "GridEngine$Fractions" 81 (TX0 13) := Or.inr ⟨"GridEngine", fn_X3_81⟩
theorem fl_X3_32 : x_fl "GridEngine$Fractions" 32 (TX0 6) := Or.inr ⟨"GridEngine", fn_X3_32⟩
theorem nh_FractionsX3 : "GridEngine$Fractions" ≠ "java/lang/invoke/MethodHandle" ∧ "GridEngine$Fractions" ≠ "java/lang/invoke/VarHandle" := by decide +kernel
theorem me_X3_findLeftover : x_me yX3_findLeftover cX3_findLeftover 3 none 1 := ⟨cw_X3_findLeftover, iz_FractionsX3, nh_FractionsX3.1, nh_FractionsX3.2, pd__LGridEngine_AxisLayout__V⟩
theorem pd__LGridEngine_AxisLayout__Z : (parseMethodDescriptor "(LGridEngine$AxisLayout;)Z").map (fun d => d.parameters.length) = some 1 := by decide +kernel
theorem me_X3_stopLargeTracks : x_me yX3_stopLargeTracks cX3_stopLargeTracks 6 (some .boolean) 1 := ⟨cw_X3_stopLargeTracks, iz_FractionsX3, nh_FractionsX3.1, nh_FractionsX3.2, pd__LGridEngine_AxisLayout__Z⟩
theorem pd__JJ_V : (parseMethodDescriptor "(JJ)V").map (fun d => d.parameters.length) = some 2 := by decide +kernel
theorem me_X3_raiseUnit : x_me yX3_raiseUnit cX3_raiseUnit 5 none 2 := ⟨cw_X3_raiseUnit, iz_FractionsX3, nh_FractionsX3.1, nh_FractionsX3.2, pd__JJ_V⟩
theorem fl_X3_38 : x_fl "GridEngine$Fractions" 38 (TX0 7) := Or.inr ⟨"GridEngine", fn_X3_38⟩
theorem me_X3_takeGreatestRemainder : x_me yX3_takeGreatestRemainder cX3_takeGreatestRemainder 4 (some .int) 1 := ⟨cw_X3_takeGreatestRemainder, iz_FractionsX3, nh_FractionsX3.1, nh_FractionsX3.2, pd__I_I⟩
theorem me_X3_findActiveTracks : x_me yX3_findActiveTracks cX3_findActiveTracks 4 none 1 := ⟨cw_X3_findActiveTracks, iz_FractionsX3, nh_FractionsX3.1, nh_FractionsX3.2, pd__LGridEngine_AxisLayout__V⟩
theorem me_X3_shareLeftover : x_me yX3_shareLeftover cX3_shareLeftover 7 none 1 := ⟨cw_X3_shareLeftover, iz_FractionsX3, nh_FractionsX3.1, nh_FractionsX3.2, pd__LGridEngine_AxisLayout__V⟩
theorem me_X3_findUnit : x_me yX3_findUnit cX3_findUnit 7 none 1 := ⟨cw_X3_findUnit, iz_FractionsX3, nh_FractionsX3.1, nh_FractionsX3.2, pd__LGridEngine_AxisLayout__V⟩
theorem me_X3_shareByUnit : x_me yX3_shareByUnit cX3_shareByUnit 6 none 1 := ⟨cw_X3_shareByUnit, iz_FractionsX3, nh_FractionsX3.1, nh_FractionsX3.2, pd__LGridEngine_AxisLayout__V⟩
theorem fl_X8_20 : x_fl "GridEngineModel" 20 (TX8 3) := Or.inl fm_X8_20
theorem fl_X8_23 : x_fl "GridEngineModel" 23 (TX8 4) := Or.inl fm_X8_23
theorem fl_X8_7 : x_fl "GridEngineModel" 7 (TX8 1) := Or.inl fm_X8_7
theorem fl_X8_15 : x_fl "GridEngineModel" 15 (TX8 2) := Or.inl fm_X8_15
theorem fl_X8_26 : x_fl "GridEngineModel" 26 (TX8 5) := Or.inl fm_X8_26
theorem fl_X8_29 : x_fl "GridEngineModel" 29 (TX8 7) := Or.inl fm_X8_29
theorem fl_X8_32 : x_fl "GridEngineModel" 32 (TX8 10) := Or.inl fm_X8_32
theorem fl_X8_35 : x_fl "GridEngineModel" 35 (TX8 11) := Or.inl fm_X8_35
theorem fl_X8_38 : x_fl "GridEngineModel" 38 (TX8 12) := Or.inl fm_X8_38
theorem fl_X8_42 : x_fl "GridEngineModel" 42 (TX8 14) := Or.inl fm_X8_42
theorem fl_X8_46 : x_fl "GridEngineModel" 46 (TX8 20) := Or.inl fm_X8_46
theorem fl_X8_49 : x_fl "GridEngineModel" 49 (TX8 21) := Or.inl fm_X8_49
theorem fl_X8_52 : x_fl "GridEngineModel" 52 (TX8 22) := Or.inl fm_X8_52
theorem fl_X8_55 : x_fl "GridEngineModel" 55 (TX8 23) := Or.inl fm_X8_55
theorem fl_X8_58 : x_fl "GridEngineModel" 58 (TX8 24) := Or.inl fm_X8_58
theorem fl_X8_61 : x_fl "GridEngineModel" 61 (TX8 25) := Or.inl fm_X8_61
theorem fl_X8_64 : x_fl "GridEngineModel" 64 (TX8 26) := Or.inl fm_X8_64
theorem fl_X8_67 : x_fl "GridEngineModel" 67 (TX8 30) := Or.inl fm_X8_67
theorem fl_X8_70 : x_fl "GridEngineModel" 70 (TX8 31) := Or.inl fm_X8_70
theorem fl_X8_73 : x_fl "GridEngineModel" 73 (TX8 32) := Or.inl fm_X8_73
theorem fl_X8_76 : x_fl "GridEngineModel" 76 (TX8 33) := Or.inl fm_X8_76
theorem fl_X8_79 : x_fl "GridEngineModel" 79 (TX8 34) := Or.inl fm_X8_79
theorem fl_X8_82 : x_fl "GridEngineModel" 82 (TX8 35) := Or.inl fm_X8_82
theorem fl_X8_85 : x_fl "GridEngineModel" 85 (TX8 36) := Or.inl fm_X8_85
theorem fl_X8_88 : x_fl "GridEngineModel" 88 (TX8 37) := Or.inl fm_X8_88
theorem fl_X8_91 : x_fl "GridEngineModel" 91 (TX8 38) := Or.inl fm_X8_91
theorem fl_X8_94 : x_fl "GridEngineModel" 94 (TX8 0) := Or.inl fm_X8_94
theorem nh_GridEngineModelX8 : "GridEngineModel" ≠ "java/lang/invoke/MethodHandle" ∧ "GridEngineModel" ≠ "java/lang/invoke/VarHandle" := by decide +kernel
theorem me_X8_isBetween : x_me yX8_isBetween cX8_isBetween 3 (some .boolean) 3 := ⟨cw_X8_isBetween, iz_GridEngineModelX8, nh_GridEngineModelX8.1, nh_GridEngineModelX8.2, pd__III_Z⟩
theorem fl_X8_102 : x_fl "GridEngineModel" 102 (TX8 9) := Or.inl fm_X8_102
theorem fl_X8_105 : x_fl "GridEngineModel" 105 (TX8 8) := Or.inl fm_X8_105
theorem pd__qII_I : (parseMethodDescriptor "([II)I").map (fun d => d.parameters.length) = some 2 := by decide +kernel
theorem me_X8_pass : x_me yX8_pass cX8_pass 4 (some .int) 2 := ⟨cw_X8_pass, iz_GridEngineModelX8, nh_GridEngineModelX8.1, nh_GridEngineModelX8.2, pd__qII_I⟩
theorem me_X8_passRow : x_me yX8_passRow cX8_passRow 4 none 2 := ⟨cw_X8_passRow, iz_GridEngineModelX8, nh_GridEngineModelX8.1, nh_GridEngineModelX8.2, pd__qIqI_V⟩
theorem fl_X8_113 : x_fl "GridEngineModel" 113 (TX8 6) := Or.inl fm_X8_113
theorem fl_X8_120 : x_fl "GridEngineModel" 120 (TX8 13) := Or.inl fm_X8_120
theorem pd__qIZ_V : (parseMethodDescriptor "([IZ)V").map (fun d => d.parameters.length) = some 2 := by decide +kernel
theorem me_X8_passAll : x_me yX8_passAll cX8_passAll 5 none 2 := ⟨cw_X8_passAll, iz_GridEngineModelX8, nh_GridEngineModelX8.1, nh_GridEngineModelX8.2, pd__qIZ_V⟩
theorem pd__IZ_Z : (parseMethodDescriptor "(IZ)Z").map (fun d => d.parameters.length) = some 2 := by decide +kernel
theorem me_X8_fails : x_me yX8_fails cX8_fails 3 (some .boolean) 2 := ⟨cw_X8_fails, iz_GridEngineModelX8, nh_GridEngineModelX8.1, nh_GridEngineModelX8.2, pd__IZ_Z⟩
theorem me_X8_note : x_me yX8_note cX8_note 3 none 0 := ⟨cw_X8_note, iz_GridEngineModelX8, nh_GridEngineModelX8.1, nh_GridEngineModelX8.2, pd___V⟩
theorem fl_X8_134 : x_fl "GridEngineModel" 134 (TX8 15) := Or.inl fm_X8_134
theorem fl_X8_137 : x_fl "GridEngineModel" 137 (TX8 16) := Or.inl fm_X8_137
theorem fl_X8_140 : x_fl "GridEngineModel" 140 (TX8 18) := Or.inl fm_X8_140
theorem pd__C_Z : (parseMethodDescriptor "(C)Z").map (fun d => d.parameters.length) = some 1 := by decide +kernel
theorem me_X8_sees : x_me yX8_sees cX8_sees 2 (some .boolean) 1 := ⟨cw_X8_sees, iz_GridEngineModelX8, nh_GridEngineModelX8.1, nh_GridEngineModelX8.2, pd__C_Z⟩
theorem pd___C : (parseMethodDescriptor "()C").map (fun d => d.parameters.length) = some 0 := by decide +kernel
theorem me_X8_here : x_me yX8_here cX8_here 1 (some .char) 0 := ⟨cw_X8_here, iz_GridEngineModelX8, nh_GridEngineModelX8.1, nh_GridEngineModelX8.2, pd___C⟩
theorem me_X8_seesDigit : x_me yX8_seesDigit cX8_seesDigit 1 (some .boolean) 0 := ⟨cw_X8_seesDigit, iz_GridEngineModelX8, nh_GridEngineModelX8.1, nh_GridEngineModelX8.2, pd___Z⟩
theorem pd__C_V : (parseMethodDescriptor "(C)V").map (fun d => d.parameters.length) = some 1 := by decide +kernel
theorem me_X8_must : x_me yX8_must cX8_must 2 none 1 := ⟨cw_X8_must, iz_GridEngineModelX8, nh_GridEngineModelX8.1, nh_GridEngineModelX8.2, pd__C_V⟩
theorem fl_X8_175 : x_fl "GridEngineModel" 175 (TX8 19) := Or.inl fm_X8_175
theorem pd__Ljava_lang_String__V : (parseMethodDescriptor "(Ljava/lang/String;)V").map (fun d => d.parameters.length) = some 1 := by decide +kernel
theorem me_X8_mustWord : x_me yX8_mustWord cX8_mustWord 3 none 1 := ⟨cw_X8_mustWord, iz_GridEngineModelX8, nh_GridEngineModelX8.1, nh_GridEngineModelX8.2, pd__Ljava_lang_String__V⟩
theorem me_X8_readNumber : x_me yX8_readNumber cX8_readNumber 3 (some .int) 0 := ⟨cw_X8_readNumber, iz_GridEngineModelX8, nh_GridEngineModelX8.1, nh_GridEngineModelX8.2, pd___I⟩
theorem me_X8_readFactor : x_me yX8_readFactor cX8_readFactor 2 none 1 := ⟨cw_X8_readFactor, iz_GridEngineModelX8, nh_GridEngineModelX8.1, nh_GridEngineModelX8.2, pd__I_V⟩
theorem me_X8_make : x_me yX8_make cX8_make 5 none 4 := ⟨cw_X8_make, iz_GridEngineModelX8, nh_GridEngineModelX8.1, nh_GridEngineModelX8.2, pd__IIII_V⟩
theorem me_X8_readSide : x_me yX8_readSide cX8_readSide 2 none 1 := ⟨cw_X8_readSide, iz_GridEngineModelX8, nh_GridEngineModelX8.1, nh_GridEngineModelX8.2, pd__I_V⟩
theorem me_X8_readMinMax : x_me yX8_readMinMax cX8_readMinMax 1 none 0 := ⟨cw_X8_readMinMax, iz_GridEngineModelX8, nh_GridEngineModelX8.1, nh_GridEngineModelX8.2, pd___V⟩
theorem me_X8_readList : x_me yX8_readList cX8_readList 4 (some .int) 2 := ⟨cw_X8_readList, iz_GridEngineModelX8, nh_GridEngineModelX8.1, nh_GridEngineModelX8.2, pd__II_I⟩
theorem me_X8_repeat : x_me yX8_repeat cX8_repeat 8 (some .int) 3 := ⟨cw_X8_repeat, iz_GridEngineModelX8, nh_GridEngineModelX8.1, nh_GridEngineModelX8.2, pd__III_I⟩
theorem me_X8_readSimple : x_me yX8_readSimple cX8_readSimple 2 none 0 := ⟨cw_X8_readSimple, iz_GridEngineModelX8, nh_GridEngineModelX8.1, nh_GridEngineModelX8.2, pd___V⟩
theorem me_X8_readTrack : x_me yX8_readTrack cX8_readTrack 5 (some .int) 2 := ⟨cw_X8_readTrack, iz_GridEngineModelX8, nh_GridEngineModelX8.1, nh_GridEngineModelX8.2, pd__II_I⟩
theorem fl_X8_220 : x_fl "GridEngineModel" 220 (TX8 17) := Or.inl fm_X8_220
theorem me_X8_readText : x_me yX8_readText cX8_readText 1 (some .boolean) 0 := ⟨cw_X8_readText, iz_GridEngineModelX8, nh_GridEngineModelX8.1, nh_GridEngineModelX8.2, pd___Z⟩
theorem me_X8_isAxis : x_me yX8_isAxis cX8_isAxis 1 (some .boolean) 1 := ⟨cw_X8_isAxis, iz_GridEngineModelX8, nh_GridEngineModelX8.1, nh_GridEngineModelX8.2, pd__I_Z⟩
theorem me_X8_end : x_me yX8_end cX8_end 3 (some .int) 2 := ⟨cw_X8_end, iz_GridEngineModelX8, nh_GridEngineModelX8.1, nh_GridEngineModelX8.2, pd__II_I⟩
theorem me_X8_hasStart : x_me yX8_hasStart cX8_hasStart 3 (some .boolean) 2 := ⟨cw_X8_hasStart, iz_GridEngineModelX8, nh_GridEngineModelX8.1, nh_GridEngineModelX8.2, pd__II_Z⟩
theorem me_X8_isFree : x_me yX8_isFree cX8_isFree 5 (some .boolean) 1 := ⟨cw_X8_isFree, iz_GridEngineModelX8, nh_GridEngineModelX8.1, nh_GridEngineModelX8.2, pd__I_Z⟩
theorem me_X8_sideCount : x_me yX8_sideCount cX8_sideCount 6 (some .int) 2 := ⟨cw_X8_sideCount, iz_GridEngineModelX8, nh_GridEngineModelX8.1, nh_GridEngineModelX8.2, pd__II_I⟩
theorem pd__IIIqZ_V : (parseMethodDescriptor "(III[Z)V").map (fun d => d.parameters.length) = some 4 := by decide +kernel
theorem me_X8_placeOnMain : x_me yX8_placeOnMain cX8_placeOnMain 8 none 4 := ⟨cw_X8_placeOnMain, iz_GridEngineModelX8, nh_GridEngineModelX8.1, nh_GridEngineModelX8.2, pd__IIIqZ_V⟩
theorem me_X8_placeByCursor : x_me yX8_placeByCursor cX8_placeByCursor 6 none 4 := ⟨cw_X8_placeByCursor, iz_GridEngineModelX8, nh_GridEngineModelX8.1, nh_GridEngineModelX8.2, pd__IIII_V⟩
theorem me_X8_layOut : x_me yX8_layOut cX8_layOut 6 none 0 := ⟨cw_X8_layOut, iz_GridEngineModelX8, nh_GridEngineModelX8.1, nh_GridEngineModelX8.2, pd___V⟩
theorem me_X8_partOf : x_me yX8_partOf cX8_partOf 4 (some .int) 3 := ⟨cw_X8_partOf, iz_GridEngineModelX8, nh_GridEngineModelX8.1, nh_GridEngineModelX8.2, pd__III_I⟩
theorem me_X8_areContributions : x_me yX8_areContributions cX8_areContributions 2 (some .boolean) 2 := ⟨cw_X8_areContributions, iz_GridEngineModelX8, nh_GridEngineModelX8.1, nh_GridEngineModelX8.2, pd__II_Z⟩
theorem me_X8_isItem : x_me yX8_isItem cX8_isItem 2 (some .boolean) 1 := ⟨cw_X8_isItem, iz_GridEngineModelX8, nh_GridEngineModelX8.1, nh_GridEngineModelX8.2, pd__I_Z⟩
theorem me_X8_moveItem : x_me yX8_moveItem cX8_moveItem 4 none 2 := ⟨cw_X8_moveItem, iz_GridEngineModelX8, nh_GridEngineModelX8.1, nh_GridEngineModelX8.2, pd__II_V⟩
theorem me_X8_covers : x_me yX8_covers cX8_covers 4 (some .boolean) 3 := ⟨cw_X8_covers, iz_GridEngineModelX8, nh_GridEngineModelX8.1, nh_GridEngineModelX8.2, pd__III_Z⟩
theorem fl_X8_269 : x_fl "GridEngineModel" 269 (TX8 27) := Or.inl fm_X8_269
theorem me_X8_kind : x_me yX8_kind cX8_kind 2 (some .int) 1 := ⟨cw_X8_kind, iz_GridEngineModelX8, nh_GridEngineModelX8.1, nh_GridEngineModelX8.2, pd__I_I⟩
theorem fl_X8_276 : x_fl "GridEngineModel" 276 (TX8 28) := Or.inl fm_X8_276
theorem me_X8_isFlexible : x_me yX8_isFlexible cX8_isFlexible 2 (some .boolean) 1 := ⟨cw_X8_isFlexible, iz_GridEngineModelX8, nh_GridEngineModelX8.1, nh_GridEngineModelX8.2, pd__I_Z⟩
theorem me_X8_coversFlexible : x_me yX8_coversFlexible cX8_coversFlexible 4 (some .boolean) 1 := ⟨cw_X8_coversFlexible, iz_GridEngineModelX8, nh_GridEngineModelX8.1, nh_GridEngineModelX8.2, pd__I_Z⟩
theorem me_X8_gap : x_me yX8_gap cX8_gap 1 (some .int) 0 := ⟨cw_X8_gap, iz_GridEngineModelX8, nh_GridEngineModelX8.1, nh_GridEngineModelX8.2, pd___I⟩
theorem me_X8_groupOf : x_me yX8_groupOf cX8_groupOf 2 (some .int) 1 := ⟨cw_X8_groupOf, iz_GridEngineModelX8, nh_GridEngineModelX8.1, nh_GridEngineModelX8.2, pd__I_I⟩
theorem pd__qI_V : (parseMethodDescriptor "([I)V").map (fun d => d.parameters.length) = some 1 := by decide +kernel
theorem me_X8_prepareFilling : x_me yX8_prepareFilling cX8_prepareFilling 3 none 1 := ⟨cw_X8_prepareFilling, iz_GridEngineModelX8, nh_GridEngineModelX8.1, nh_GridEngineModelX8.2, pd__qI_V⟩
theorem pd__IIIZ_Z : (parseMethodDescriptor "(IIIZ)Z").map (fun d => d.parameters.length) = some 4 := by decide +kernel
theorem me_X8_mayBeFilled : x_me yX8_mayBeFilled cX8_mayBeFilled 7 (some .boolean) 4 := ⟨cw_X8_mayBeFilled, iz_GridEngineModelX8, nh_GridEngineModelX8.1, nh_GridEngineModelX8.2, pd__IIIZ_Z⟩
theorem pd__IIqI_I : (parseMethodDescriptor "(II[I)I").map (fun d => d.parameters.length) = some 3 := by decide +kernel
theorem me_X8_boundOf : x_me yX8_boundOf cX8_boundOf 7 (some .int) 3 := ⟨cw_X8_boundOf, iz_GridEngineModelX8, nh_GridEngineModelX8.1, nh_GridEngineModelX8.2, pd__IIqI_I⟩
theorem pd__IqI_I : (parseMethodDescriptor "(I[I)I").map (fun d => d.parameters.length) = some 2 := by decide +kernel
theorem me_X8_space : x_me yX8_space cX8_space 5 (some .int) 2 := ⟨cw_X8_space, iz_GridEngineModelX8, nh_GridEngineModelX8.1, nh_GridEngineModelX8.2, pd__IqI_I⟩
theorem pd__IZ_V : (parseMethodDescriptor "(IZ)V").map (fun d => d.parameters.length) = some 2 := by decide +kernel
theorem me_X8_fill : x_me yX8_fill cX8_fill 7 none 2 := ⟨cw_X8_fill, iz_GridEngineModelX8, nh_GridEngineModelX8.1, nh_GridEngineModelX8.2, pd__IZ_V⟩
theorem pd__IIZ_V : (parseMethodDescriptor "(IIZ)V").map (fun d => d.parameters.length) = some 3 := by decide +kernel
theorem me_X8_processGroup : x_me yX8_processGroup cX8_processGroup 7 none 3 := ⟨cw_X8_processGroup, iz_GridEngineModelX8, nh_GridEngineModelX8.1, nh_GridEngineModelX8.2, pd__IIZ_V⟩
theorem fl_X8_318 : x_fl "GridEngineModel" 318 (TX8 29) := Or.inl fm_X8_318
theorem me_X8_sum : x_me yX8_sum cX8_sum 4 (some .int) 1 := ⟨cw_X8_sum, iz_GridEngineModelX8, nh_GridEngineModelX8.1, nh_GridEngineModelX8.2, pd__I_I⟩
theorem fl_X8_356 : x_fl "GridEngineModel" 356 (TX8 41) := Or.inl fm_X8_356
theorem fl_X8_353 : x_fl "GridEngineModel" 353 (TX8 42) := Or.inl fm_X8_353
theorem me_X8_raiseUnit : x_me yX8_raiseUnit cX8_raiseUnit 5 none 2 := ⟨cw_X8_raiseUnit, iz_GridEngineModelX8, nh_GridEngineModelX8.1, nh_GridEngineModelX8.2, pd__JJ_V⟩
theorem fl_X8_339 : x_fl "GridEngineModel" 339 (TX8 39) := Or.inl fm_X8_339
theorem fl_X8_343 : x_fl "GridEngineModel" 343 (TX8 40) := Or.inl fm_X8_343
theorem me_X8_findLeftover : x_me yX8_findLeftover cX8_findLeftover 2 none 0 := ⟨cw_X8_findLeftover, iz_GridEngineModelX8, nh_GridEngineModelX8.1, nh_GridEngineModelX8.2, pd___V⟩
theorem me_X8_remainder : x_me yX8_remainder cX8_remainder 2 (some .long) 1 := ⟨cw_X8_remainder, iz_GridEngineModelX8, nh_GridEngineModelX8.1, nh_GridEngineModelX8.2, pd__I_J⟩
theorem me_X8_processGroups : x_me yX8_processGroups cX8_processGroups 3 none 1 := ⟨cw_X8_processGroups, iz_GridEngineModelX8, nh_GridEngineModelX8.1, nh_GridEngineModelX8.2, pd__I_V⟩
theorem me_X8_grow : x_me yX8_grow cX8_grow 3 none 0 := ⟨cw_X8_grow, iz_GridEngineModelX8, nh_GridEngineModelX8.1, nh_GridEngineModelX8.2, pd___V⟩
theorem me_X8_shareLeftover : x_me yX8_shareLeftover cX8_shareLeftover 6 none 0 := ⟨cw_X8_shareLeftover, iz_GridEngineModelX8, nh_GridEngineModelX8.1, nh_GridEngineModelX8.2, pd___V⟩
theorem me_X8_growByUnit : x_me yX8_growByUnit cX8_growByUnit 7 none 0 := ⟨cw_X8_growByUnit, iz_GridEngineModelX8, nh_GridEngineModelX8.1, nh_GridEngineModelX8.2, pd___V⟩
theorem me_X8_stretch : x_me yX8_stretch cX8_stretch 2 none 0 := ⟨cw_X8_stretch, iz_GridEngineModelX8, nh_GridEngineModelX8.1, nh_GridEngineModelX8.2, pd___V⟩
theorem me_X8_measure : x_me yX8_measure cX8_measure 5 none 1 := ⟨cw_X8_measure, iz_GridEngineModelX8, nh_GridEngineModelX8.1, nh_GridEngineModelX8.2, pd__I_V⟩
theorem me_X8_freeSpace : x_me yX8_freeSpace cX8_freeSpace 1 (some .int) 0 := ⟨cw_X8_freeSpace, iz_GridEngineModelX8, nh_GridEngineModelX8.1, nh_GridEngineModelX8.2, pd___I⟩
theorem pd__JJ_I : (parseMethodDescriptor "(JJ)I").map (fun d => d.parameters.length) = some 2 := by decide +kernel
theorem me_X8_floor : x_me yX8_floor cX8_floor 6 (some .int) 2 := ⟨cw_X8_floor, iz_GridEngineModelX8, nh_GridEngineModelX8.1, nh_GridEngineModelX8.2, pd__JJ_I⟩
theorem me_X8_offset : x_me yX8_offset cX8_offset 4 (some .int) 1 := ⟨cw_X8_offset, iz_GridEngineModelX8, nh_GridEngineModelX8.1, nh_GridEngineModelX8.2, pd__I_I⟩
theorem me_X8_begin : x_me yX8_begin cX8_begin 5 (some .int) 1 := ⟨cw_X8_begin, iz_GridEngineModelX8, nh_GridEngineModelX8.1, nh_GridEngineModelX8.2, pd__I_I⟩
theorem me_X8_positionOf : x_me yX8_positionOf cX8_positionOf 3 (some .int) 1 := ⟨cw_X8_positionOf, iz_GridEngineModelX8, nh_GridEngineModelX8.1, nh_GridEngineModelX8.2, pd__I_I⟩
theorem me_X8_areaSize : x_me yX8_areaSize cX8_areaSize 2 (some .int) 1 := ⟨cw_X8_areaSize, iz_GridEngineModelX8, nh_GridEngineModelX8.1, nh_GridEngineModelX8.2, pd__I_I⟩
theorem me_X8_boxSize : x_me yX8_boxSize cX8_boxSize 6 (some .int) 1 := ⟨cw_X8_boxSize, iz_GridEngineModelX8, nh_GridEngineModelX8.1, nh_GridEngineModelX8.2, pd__I_I⟩
theorem me_X8_boxBegin : x_me yX8_boxBegin cX8_boxBegin 4 (some .int) 1 := ⟨cw_X8_boxBegin, iz_GridEngineModelX8, nh_GridEngineModelX8.1, nh_GridEngineModelX8.2, pd__I_I⟩
theorem me_X8_under : x_me yX8_under cX8_under 7 (some .int) 2 := ⟨cw_X8_under, iz_GridEngineModelX8, nh_GridEngineModelX8.1, nh_GridEngineModelX8.2, pd__II_I⟩
theorem fl_X6_9 : x_fl "GridEngine$TrackText" 9 (TX6 0) := Or.inl fm_X6_9
theorem fl_X6_15 : x_fl "GridEngine$TrackText" 15 (TX6 1) := Or.inl fm_X6_15
theorem fl_X6_19 : x_fl "GridEngine$TrackText" 19 (TX6 2) := Or.inl fm_X6_19
theorem fl_X6_22 : x_fl "GridEngine$TrackText" 22 (TX6 3) := Or.inl fm_X6_22
theorem fl_X6_25 : x_fl "GridEngine$TrackText" 25 (TX6 4) := Or.inl fm_X6_25
theorem fl_X6_28 : x_fl "GridEngine$TrackText" 28 (TX6 5) := Or.inl fm_X6_28
theorem fl_X6_32 : x_fl "GridEngine$TrackText" 32 (TX6 6) := Or.inl fm_X6_32
theorem fl_X6_35 : x_fl "GridEngine$TrackText" 35 (TX6 7) := Or.inl fm_X6_35
theorem fl_X6_39 : x_fl "GridEngine$TrackText" 39 (TX6 8) := Or.inl fm_X6_39
theorem fl_X6_42 : x_fl "GridEngine$TrackText" 42 (TX6 9) := Or.inl fm_X6_42
theorem fl_X6_45 : x_fl "GridEngine$TrackText" 45 (TX6 10) := Or.inl fm_X6_45
theorem fl_X6_48 : x_fl "GridEngine$TrackText" 48 (TX6 11) := Or.inl fm_X6_48
theorem nh_TrackTextX6 : "GridEngine$TrackText" ≠ "java/lang/invoke/MethodHandle" ∧ "GridEngine$TrackText" ≠ "java/lang/invoke/VarHandle" := by decide +kernel
theorem me_X6_copyTrack : x_me yX6_copyTrack cX6_copyTrack 3 none 2 := ⟨cw_X6_copyTrack, iz_TrackTextX6, nh_TrackTextX6.1, nh_TrackTextX6.2, pd__II_V⟩
theorem me_X6_isNext : x_me yX6_isNext cX6_isNext 2 (some .boolean) 1 := ⟨cw_X6_isNext, iz_TrackTextX6, nh_TrackTextX6.1, nh_TrackTextX6.2, pd__C_Z⟩
theorem me_X6_copyTracks : x_me yX6_copyTracks cX6_copyTracks 6 none 2 := ⟨cw_X6_copyTracks, iz_TrackTextX6, nh_TrackTextX6.1, nh_TrackTextX6.2, pd__II_V⟩
theorem me_X6_isDigitNext : x_me yX6_isDigitNext cX6_isDigitNext 1 (some .boolean) 0 := ⟨cw_X6_isDigitNext, iz_TrackTextX6, nh_TrackTextX6.1, nh_TrackTextX6.2, pd___Z⟩
theorem pd__Ljava_lang_String__Z : (parseMethodDescriptor "(Ljava/lang/String;)Z").map (fun d => d.parameters.length) = some 1 := by decide +kernel
theorem me_X6_takeWord : x_me yX6_takeWord cX6_takeWord 3 (some .boolean) 1 := ⟨cw_X6_takeWord, iz_TrackTextX6, nh_TrackTextX6.1, nh_TrackTextX6.2, pd__Ljava_lang_String__Z⟩
theorem me_X6_takeNumber : x_me yX6_takeNumber cX6_takeNumber 2 (some .boolean) 0 := ⟨cw_X6_takeNumber, iz_TrackTextX6, nh_TrackTextX6.1, nh_TrackTextX6.2, pd___Z⟩
theorem me_X6_defineMinimum : x_me yX6_defineMinimum cX6_defineMinimum 3 none 2 := ⟨cw_X6_defineMinimum, iz_TrackTextX6, nh_TrackTextX6.1, nh_TrackTextX6.2, pd__II_V⟩
theorem me_X6_defineMaximum : x_me yX6_defineMaximum cX6_defineMaximum 3 none 2 := ⟨cw_X6_defineMaximum, iz_TrackTextX6, nh_TrackTextX6.1, nh_TrackTextX6.2, pd__II_V⟩
theorem me_X6_takeSmallOrLarge : x_me yX6_takeSmallOrLarge cX6_takeSmallOrLarge 2 (some .boolean) 0 := ⟨cw_X6_takeSmallOrLarge, iz_TrackTextX6, nh_TrackTextX6.1, nh_TrackTextX6.2, pd___Z⟩
theorem me_X6_parseFactor : x_me yX6_parseFactor cX6_parseFactor 1 (some .boolean) 0 := ⟨cw_X6_parseFactor, iz_TrackTextX6, nh_TrackTextX6.1, nh_TrackTextX6.2, pd___Z⟩
theorem me_X6_parseMinimum : x_me yX6_parseMinimum cX6_parseMinimum 2 (some .boolean) 0 := ⟨cw_X6_parseMinimum, iz_TrackTextX6, nh_TrackTextX6.1, nh_TrackTextX6.2, pd___Z⟩
theorem me_X6_parseMaximum : x_me yX6_parseMaximum cX6_parseMaximum 2 (some .boolean) 0 := ⟨cw_X6_parseMaximum, iz_TrackTextX6, nh_TrackTextX6.1, nh_TrackTextX6.2, pd___Z⟩
theorem me_X6_parseMinOrMax : x_me yX6_parseMinOrMax cX6_parseMinOrMax 1 (some .boolean) 0 := ⟨cw_X6_parseMinOrMax, iz_TrackTextX6, nh_TrackTextX6.1, nh_TrackTextX6.2, pd___Z⟩
theorem me_X6_parseFitting : x_me yX6_parseFitting cX6_parseFitting 2 (some .boolean) 0 := ⟨cw_X6_parseFitting, iz_TrackTextX6, nh_TrackTextX6.1, nh_TrackTextX6.2, pd___Z⟩
theorem me_X6_parseNumber : x_me yX6_parseNumber cX6_parseNumber 1 (some .boolean) 0 := ⟨cw_X6_parseNumber, iz_TrackTextX6, nh_TrackTextX6.1, nh_TrackTextX6.2, pd___Z⟩
theorem me_X6_parseSimple : x_me yX6_parseSimple cX6_parseSimple 2 (some .boolean) 0 := ⟨cw_X6_parseSimple, iz_TrackTextX6, nh_TrackTextX6.1, nh_TrackTextX6.2, pd___Z⟩
theorem me_X6_addTrack : x_me yX6_addTrack cX6_addTrack 1 none 0 := ⟨cw_X6_addTrack, iz_TrackTextX6, nh_TrackTextX6.1, nh_TrackTextX6.2, pd___V⟩
theorem me_X6_closeRepeats : x_me yX6_closeRepeats cX6_closeRepeats 1 none 0 := ⟨cw_X6_closeRepeats, iz_TrackTextX6, nh_TrackTextX6.1, nh_TrackTextX6.2, pd___V⟩
theorem me_X6_openRepeat : x_me yX6_openRepeat cX6_openRepeat 1 (some .boolean) 0 := ⟨cw_X6_openRepeat, iz_TrackTextX6, nh_TrackTextX6.1, nh_TrackTextX6.2, pd___Z⟩
theorem fl_X7_9 : x_fl "GridEngine" 9 (TX7 0) := Or.inl fm_X7_9
theorem fl_X7_13 : x_fl "GridEngine" 13 (TX7 1) := Or.inl fm_X7_13
theorem me_X6_init : x_me yX6_init cX6_init 1 none 0 := ⟨cw_X6_init, iz_TrackTextX6, nh_TrackTextX6.1, nh_TrackTextX6.2, pd___V⟩
theorem fl_X7_20 : x_fl "GridEngine" 20 (TX7 2) := Or.inl fm_X7_20
theorem me_X4_init : x_me yX4_init cX4_init 3 none 0 := ⟨cw_X4_init, iz_ModelX4, nh_ModelX4.1, nh_ModelX4.2, pd___V⟩
theorem fl_X7_27 : x_fl "GridEngine" 27 (TX7 3) := Or.inl fm_X7_27
theorem fl_X7_31 : x_fl "GridEngine" 31 (TX7 4) := Or.inl fm_X7_31
theorem fl_X7_35 : x_fl "GridEngine" 35 (TX7 5) := Or.inl fm_X7_35
theorem fl_X7_39 : x_fl "GridEngine" 39 (TX7 6) := Or.inl fm_X7_39
theorem fl_X7_42 : x_fl "GridEngine" 42 (TX7 7) := Or.inl fm_X7_42
theorem fl_X7_45 : x_fl "GridEngine" 45 (TX7 8) := Or.inl fm_X7_45
theorem pd__LGridEngine_Model__V : (parseMethodDescriptor "(LGridEngine$Model;)V").map (fun d => d.parameters.length) = some 1 := by decide +kernel
theorem me_X5_init : x_me yX5_init cX5_init 2 none 1 := ⟨cw_X5_init, iz_PlacementX5, nh_PlacementX5.1, nh_PlacementX5.2, pd__LGridEngine_Model__V⟩
theorem fl_X7_53 : x_fl "GridEngine" 53 (TX7 9) := Or.inl fm_X7_53
theorem pd__ILGridEngine_Model_LGridEngine_Placement__V : (parseMethodDescriptor "(ILGridEngine$Model;LGridEngine$Placement;)V").map (fun d => d.parameters.length) = some 3 := by decide +kernel
theorem me_X0_init : x_me yX0_init cX0_init 4 none 3 := ⟨cw_X0_init, iz_AxisLayoutX0, nh_AxisLayoutX0.1, nh_AxisLayoutX0.2, pd__ILGridEngine_Model_LGridEngine_Placement__V⟩
theorem fl_X7_62 : x_fl "GridEngine" 62 (TX7 10) := Or.inl fm_X7_62
theorem fl_X7_66 : x_fl "GridEngine" 66 (TX7 11) := Or.inl fm_X7_66
theorem me_X2_init : x_me yX2_init cX2_init 1 none 0 := ⟨cw_X2_init, iz_FillingX2, nh_FillingX2.1, nh_FillingX2.2, pd___V⟩
theorem fl_X7_72 : x_fl "GridEngine" 72 (TX7 12) := Or.inl fm_X7_72
theorem pd__LGridEngine_Filling__V : (parseMethodDescriptor "(LGridEngine$Filling;)V").map (fun d => d.parameters.length) = some 1 := by decide +kernel
theorem me_X1_init : x_me yX1_init cX1_init 2 none 1 := ⟨cw_X1_init, iz_ContributionsX1, nh_ContributionsX1.1, nh_ContributionsX1.2, pd__LGridEngine_Filling__V⟩
theorem fl_X7_81 : x_fl "GridEngine" 81 (TX7 13) := Or.inl fm_X7_81
theorem me_X3_init : x_me yX3_init cX3_init 1 none 0 := ⟨cw_X3_init, iz_FractionsX3, nh_FractionsX3.1, nh_FractionsX3.2, pd___V⟩
theorem fl_X7_88 : x_fl "GridEngine" 88 (TX7 14) := Or.inl fm_X7_88
theorem fl_X7_92 : x_fl "GridEngine" 92 (TX7 15) := Or.inl fm_X7_92
theorem sr_X7_98 : Cond.stringRef "GridEngine" 98 "the buffer is full" ∈ lw_tbl := List.mem_of_getElem? (i := 507) (by decide +kernel)
theorem th_X7_100 : x_thw "GridEngine" 100 "java/lang/IllegalStateException" := by unfold x_thw; decide +kernel
theorem sr_X7_260 : Cond.stringRef "GridEngine" 260 "no such axis" ∈ lw_tbl := List.mem_of_getElem? (i := 554) (by decide +kernel)
theorem th_X7_153 : x_thw "GridEngine" 153 "java/lang/IllegalArgumentException" := by unfold x_thw; decide +kernel
theorem fl_X7_275 : x_fl "GridEngine" 275 (TX6 5) := Or.inr ⟨"GridEngine", fn_X7_275⟩
theorem fl_X7_124 : x_fl "GridEngine" 124 (TX6 6) := Or.inr ⟨"GridEngine", fn_X7_124⟩
theorem sr_X7_280 : Cond.stringRef "GridEngine" 280 "the text has more than 12 tracks" ∈ lw_tbl := List.mem_of_getElem? (i := 718) (by decide +kernel)
theorem sr_X7_278 : Cond.stringRef "GridEngine" 278 "the text has a factor 0" ∈ lw_tbl := List.mem_of_getElem? (i := 717) (by decide +kernel)
theorem me_X4_copyFrom : x_me yX4_copyFrom cX4_copyFrom 2 none 1 := ⟨cw_X4_copyFrom, iz_ModelX4, nh_ModelX4.1, nh_ModelX4.2, pd__LGridEngine_Model__V⟩
theorem nh_GridEngineX7 : "GridEngine" ≠ "java/lang/invoke/MethodHandle" ∧ "GridEngine" ≠ "java/lang/invoke/VarHandle" := by decide +kernel
theorem me_X7_checkAxis : x_me yX7_checkAxis cX7_checkAxis 1 none 1 := ⟨cw_X7_checkAxis, iz_GridEngineX7, nh_GridEngineX7.1, nh_GridEngineX7.2, pd__I_V⟩
theorem pd__qCI_Z : (parseMethodDescriptor "([CI)Z").map (fun d => d.parameters.length) = some 2 := by decide +kernel
theorem me_X6_parse : x_me yX6_parse cX6_parse 4 (some .boolean) 2 := ⟨cw_X6_parse, iz_TrackTextX6, nh_TrackTextX6.1, nh_TrackTextX6.2, pd__qCI_Z⟩
theorem me_X7_checkText : x_me yX7_checkText cX7_checkText 1 none 0 := ⟨cw_X7_checkText, iz_GridEngineX7, nh_GridEngineX7.1, nh_GridEngineX7.2, pd___V⟩
theorem me_X7_rememberChange : x_me yX7_rememberChange cX7_rememberChange 1 none 0 := ⟨cw_X7_rememberChange, iz_GridEngineX7, nh_GridEngineX7.1, nh_GridEngineX7.2, pd___V⟩
theorem pd__ILGridEngine_TrackText__V : (parseMethodDescriptor "(ILGridEngine$TrackText;)V").map (fun d => d.parameters.length) = some 2 := by decide +kernel
theorem me_X4_takeTracks : x_me yX4_takeTracks cX4_takeTracks 4 none 2 := ⟨cw_X4_takeTracks, iz_ModelX4, nh_ModelX4.1, nh_ModelX4.2, pd__ILGridEngine_TrackText__V⟩
theorem fl_X7_111 : x_fl "GridEngine" 111 (TX6 2) := Or.inr ⟨"GridEngine", fn_X7_111⟩
theorem me_X4_takeImplicit : x_me yX4_takeImplicit cX4_takeImplicit 4 none 2 := ⟨cw_X4_takeImplicit, iz_ModelX4, nh_ModelX4.1, nh_ModelX4.2, pd__ILGridEngine_TrackText__V⟩
theorem pd__I_LGridEngine_AxisLayout_ : (parseMethodDescriptor "(I)LGridEngine$AxisLayout;").map (fun d => d.parameters.length) = some 1 := by decide +kernel
theorem me_X7_layoutOf : x_me yX7_layoutOf cX7_layoutOf 2 (some (.object "GridEngine$AxisLayout")) 1 := ⟨cw_X7_layoutOf, iz_GridEngineX7, nh_GridEngineX7.1, nh_GridEngineX7.2, pd__I_LGridEngine_AxisLayout_⟩
theorem me_X0_collapseTracks : x_me yX0_collapseTracks cX0_collapseTracks 2 none 0 := ⟨cw_X0_collapseTracks, iz_AxisLayoutX0, nh_AxisLayoutX0.1, nh_AxisLayoutX0.2, pd___V⟩
theorem me_X1_findBases : x_me yX1_findBases cX1_findBases 3 none 1 := ⟨cw_X1_findBases, iz_ContributionsX1, nh_ContributionsX1.1, nh_ContributionsX1.2, pd__LGridEngine_AxisLayout__V⟩
theorem me_X1_findLimits : x_me yX1_findLimits cX1_findLimits 4 none 1 := ⟨cw_X1_findLimits, iz_ContributionsX1, nh_ContributionsX1.1, nh_ContributionsX1.2, pd__LGridEngine_AxisLayout__V⟩
theorem me_X0_growTracks : x_me yX0_growTracks cX0_growTracks 3 none 1 := ⟨cw_X0_growTracks, iz_AxisLayoutX0, nh_AxisLayoutX0.1, nh_AxisLayoutX0.2, pd__LGridEngine_Filling__V⟩
theorem me_X3_shareOut : x_me yX3_shareOut cX3_shareOut 3 none 1 := ⟨cw_X3_shareOut, iz_FractionsX3, nh_FractionsX3.1, nh_FractionsX3.2, pd__LGridEngine_AxisLayout__V⟩
theorem me_X0_stretchTracks : x_me yX0_stretchTracks cX0_stretchTracks 3 none 1 := ⟨cw_X0_stretchTracks, iz_AxisLayoutX0, nh_AxisLayoutX0.1, nh_AxisLayoutX0.2, pd__LGridEngine_Filling__V⟩
theorem me_X0_findPositions : x_me yX0_findPositions cX0_findPositions 6 none 0 := ⟨cw_X0_findPositions, iz_AxisLayoutX0, nh_AxisLayoutX0.1, nh_AxisLayoutX0.2, pd___V⟩
theorem me_X5_placeAll : x_me yX5_placeAll cX5_placeAll 2 none 0 := ⟨cw_X5_placeAll, iz_PlacementX5, nh_PlacementX5.1, nh_PlacementX5.2, pd___V⟩
theorem sr_X7_262 : Cond.stringRef "GridEngine" 262 "an argument is out of range" ∈ lw_tbl := List.mem_of_getElem? (i := 757) (by decide +kernel)
theorem sr_X7_271 : Cond.stringRef "GridEngine" 271 "the grid has no such track" ∈ lw_tbl := List.mem_of_getElem? (i := 1088) (by decide +kernel)
theorem th_X7_270 : x_thw "GridEngine" 270 "java/lang/IndexOutOfBoundsException" := by unfold x_thw; decide +kernel
theorem me_X7_checkRange : x_me yX7_checkRange cX7_checkRange 3 none 3 := ⟨cw_X7_checkRange, iz_GridEngineX7, nh_GridEngineX7.1, nh_GridEngineX7.2, pd__III_V⟩
theorem me_X7_arrange : x_me yX7_arrange cX7_arrange 3 none 0 := ⟨cw_X7_arrange, iz_GridEngineX7, nh_GridEngineX7.1, nh_GridEngineX7.2, pd___V⟩
theorem me_X7_checkTrack : x_me yX7_checkTrack cX7_checkTrack 3 none 2 := ⟨cw_X7_checkTrack, iz_GridEngineX7, nh_GridEngineX7.1, nh_GridEngineX7.2, pd__II_V⟩
theorem me_X7_isSettingInRange : x_me yX7_isSettingInRange cX7_isSettingInRange 2 (some .boolean) 2 := ⟨cw_X7_isSettingInRange, iz_GridEngineX7, nh_GridEngineX7.1, nh_GridEngineX7.2, pd__II_Z⟩
theorem me_X4_changeSetting : x_me yX4_changeSetting cX4_changeSetting 5 none 3 := ⟨cw_X4_changeSetting, iz_ModelX4, nh_ModelX4.1, nh_ModelX4.2, pd__III_V⟩
theorem sr_X7_151 : Cond.stringRef "GridEngine" 151 "no such setting, or its value is out of range" ∈ lw_tbl := List.mem_of_getElem? (i := 1106) (by decide +kernel)
theorem fl_X7_161 : x_fl "GridEngine" 161 (TX4 5) := Or.inr ⟨"GridEngine", fn_X7_161⟩
theorem fl_X7_164 : x_fl "GridEngine" 164 (TX4 6) := Or.inr ⟨"GridEngine", fn_X7_164⟩
theorem sr_X7_264 : Cond.stringRef "GridEngine" 264 "a contribution is out of range" ∈ lw_tbl := List.mem_of_getElem? (i := 1129) (by decide +kernel)
theorem me_X7_checkContributions : x_me yX7_checkContributions cX7_checkContributions 2 none 2 := ⟨cw_X7_checkContributions, iz_GridEngineX7, nh_GridEngineX7.1, nh_GridEngineX7.2, pd__II_V⟩
theorem fl_X7_170 : x_fl "GridEngine" 170 (TX4 4) := Or.inr ⟨"GridEngine", fn_X7_170⟩
theorem me_X4_startItem : x_me yX4_startItem cX4_startItem 5 none 4 := ⟨cw_X4_startItem, iz_ModelX4, nh_ModelX4.1, nh_ModelX4.2, pd__IIII_V⟩
theorem sr_X7_173 : Cond.stringRef "GridEngine" 173 "there are 12 items" ∈ lw_tbl := List.mem_of_getElem? (i := 1130) (by decide +kernel)
theorem sr_X7_268 : Cond.stringRef "GridEngine" 268 "no such item" ∈ lw_tbl := List.mem_of_getElem? (i := 1150) (by decide +kernel)
theorem me_X7_checkItem : x_me yX7_checkItem cX7_checkItem 2 none 1 := ⟨cw_X7_checkItem, iz_GridEngineX7, nh_GridEngineX7.1, nh_GridEngineX7.2, pd__I_V⟩
theorem me_X4_dropItem : x_me yX4_dropItem cX4_dropItem 4 none 1 := ⟨cw_X4_dropItem, iz_ModelX4, nh_ModelX4.1, nh_ModelX4.2, pd__I_V⟩
theorem me_X4_swapItems : x_me yX4_swapItems cX4_swapItems 6 none 2 := ⟨cw_X4_swapItems, iz_ModelX4, nh_ModelX4.1, nh_ModelX4.2, pd__II_V⟩
theorem sr_X7_206 : Cond.stringRef "GridEngine" 206 "no item covers the cell" ∈ lw_tbl := List.mem_of_getElem? (i := 1227) (by decide +kernel)
theorem pd__Z_I : (parseMethodDescriptor "(Z)I").map (fun d => d.parameters.length) = some 1 := by decide +kernel
theorem me_X5_countCells : x_me yX5_countCells cX5_countCells 6 (some .int) 1 := ⟨cw_X5_countCells, iz_PlacementX5, nh_PlacementX5.1, nh_PlacementX5.2, pd__Z_I⟩
theorem fl_X7_230 : x_fl "GridEngine" 230 (TX0 15) := Or.inr ⟨"GridEngine", fn_X7_230⟩
theorem sr_X7_248 : Cond.stringRef "GridEngine" 248 "no box contains the point" ∈ lw_tbl := List.mem_of_getElem? (i := 1338) (by decide +kernel)
theorem me_X0_isInBox : x_me yX0_isInBox cX0_isInBox 4 (some .boolean) 2 := ⟨cw_X0_isInBox, iz_AxisLayoutX0, nh_AxisLayoutX0.1, nh_AxisLayoutX0.2, pd__II_Z⟩
theorem sr_X7_273 : Cond.stringRef "GridEngine" 273 "no such slot" ∈ lw_tbl := List.mem_of_getElem? (i := 1350) (by decide +kernel)
theorem me_X7_checkSlot : x_me yX7_checkSlot cX7_checkSlot 2 none 1 := ⟨cw_X7_checkSlot, iz_GridEngineX7, nh_GridEngineX7.1, nh_GridEngineX7.2, pd__I_V⟩
theorem sr_X7_256 : Cond.stringRef "GridEngine" 256 "the slot holds nothing" ∈ lw_tbl := List.mem_of_getElem? (i := 1358) (by decide +kernel)
theorem sr_X7_258 : Cond.stringRef "GridEngine" 258 "there is no change to take back" ∈ lw_tbl := List.mem_of_getElem? (i := 1366) (by decide +kernel)
theorem pd__C_I : (parseMethodDescriptor "(C)I").map (fun d => d.parameters.length) = some 1 := by decide +kernel
theorem me_X7_feed : x_me yX7_feed cX7_feed 2 (some .int) 1 := ⟨cw_X7_feed, iz_GridEngineX7, nh_GridEngineX7.1, nh_GridEngineX7.2, pd__C_I⟩
theorem me_X7_readTracks : x_me yX7_readTracks cX7_readTracks 3 (some .int) 1 := ⟨cw_X7_readTracks, iz_GridEngineX7, nh_GridEngineX7.1, nh_GridEngineX7.2, pd__I_I⟩
theorem me_X7_readImplicit : x_me yX7_readImplicit cX7_readImplicit 3 (some .int) 1 := ⟨cw_X7_readImplicit, iz_GridEngineX7, nh_GridEngineX7.1, nh_GridEngineX7.2, pd__I_I⟩
theorem me_X7_definition : x_me yX7_definition cX7_definition 4 (some .int) 3 := ⟨cw_X7_definition, iz_GridEngineX7, nh_GridEngineX7.1, nh_GridEngineX7.2, pd__III_I⟩
theorem me_X7_set : x_me yX7_set cX7_set 5 (some .int) 3 := ⟨cw_X7_set, iz_GridEngineX7, nh_GridEngineX7.1, nh_GridEngineX7.2, pd__III_I⟩
theorem pd__IZ_I : (parseMethodDescriptor "(IZ)I").map (fun d => d.parameters.length) = some 2 := by decide +kernel
theorem me_X7_setFlow : x_me yX7_setFlow cX7_setFlow 4 (some .int) 2 := ⟨cw_X7_setFlow, iz_GridEngineX7, nh_GridEngineX7.1, nh_GridEngineX7.2, pd__IZ_I⟩
theorem pd__IIII_I : (parseMethodDescriptor "(IIII)I").map (fun d => d.parameters.length) = some 4 := by decide +kernel
theorem me_X7_addItem : x_me yX7_addItem cX7_addItem 6 (some .int) 4 := ⟨cw_X7_addItem, iz_GridEngineX7, nh_GridEngineX7.1, nh_GridEngineX7.2, pd__IIII_I⟩
theorem me_X7_place : x_me yX7_place cX7_place 7 (some .int) 4 := ⟨cw_X7_place, iz_GridEngineX7, nh_GridEngineX7.1, nh_GridEngineX7.2, pd__IIII_I⟩
theorem me_X7_align : x_me yX7_align cX7_align 5 (some .int) 3 := ⟨cw_X7_align, iz_GridEngineX7, nh_GridEngineX7.1, nh_GridEngineX7.2, pd__III_I⟩
theorem pd__IIZI_I : (parseMethodDescriptor "(IIZI)I").map (fun d => d.parameters.length) = some 4 := by decide +kernel
theorem me_X7_contribute : x_me yX7_contribute cX7_contribute 9 (some .int) 4 := ⟨cw_X7_contribute, iz_GridEngineX7, nh_GridEngineX7.1, nh_GridEngineX7.2, pd__IIZI_I⟩
theorem me_X7_removeItem : x_me yX7_removeItem cX7_removeItem 2 (some .int) 1 := ⟨cw_X7_removeItem, iz_GridEngineX7, nh_GridEngineX7.1, nh_GridEngineX7.2, pd__I_I⟩
theorem me_X7_exchange : x_me yX7_exchange cX7_exchange 3 (some .int) 2 := ⟨cw_X7_exchange, iz_GridEngineX7, nh_GridEngineX7.1, nh_GridEngineX7.2, pd__II_I⟩
theorem me_X7_tracks : x_me yX7_tracks cX7_tracks 2 (some .int) 1 := ⟨cw_X7_tracks, iz_GridEngineX7, nh_GridEngineX7.1, nh_GridEngineX7.2, pd__I_I⟩
theorem me_X7_startOf : x_me yX7_startOf cX7_startOf 3 (some .int) 2 := ⟨cw_X7_startOf, iz_GridEngineX7, nh_GridEngineX7.1, nh_GridEngineX7.2, pd__II_I⟩
theorem me_X7_itemIn : x_me yX7_itemIn cX7_itemIn 4 (some .int) 2 := ⟨cw_X7_itemIn, iz_GridEngineX7, nh_GridEngineX7.1, nh_GridEngineX7.2, pd__II_I⟩
theorem me_X7_cells : x_me yX7_cells cX7_cells 2 (some .int) 1 := ⟨cw_X7_cells, iz_GridEngineX7, nh_GridEngineX7.1, nh_GridEngineX7.2, pd__I_I⟩
theorem me_X7_size : x_me yX7_size cX7_size 4 (some .int) 3 := ⟨cw_X7_size, iz_GridEngineX7, nh_GridEngineX7.1, nh_GridEngineX7.2, pd__III_I⟩
theorem me_X7_isCollapsed : x_me yX7_isCollapsed cX7_isCollapsed 3 (some .boolean) 2 := ⟨cw_X7_isCollapsed, iz_GridEngineX7, nh_GridEngineX7.1, nh_GridEngineX7.2, pd__II_Z⟩
theorem me_X7_position : x_me yX7_position cX7_position 3 (some .int) 2 := ⟨cw_X7_position, iz_GridEngineX7, nh_GridEngineX7.1, nh_GridEngineX7.2, pd__II_I⟩
theorem me_X7_total : x_me yX7_total cX7_total 3 (some .int) 2 := ⟨cw_X7_total, iz_GridEngineX7, nh_GridEngineX7.1, nh_GridEngineX7.2, pd__II_I⟩
theorem me_X7_free : x_me yX7_free cX7_free 2 (some .int) 1 := ⟨cw_X7_free, iz_GridEngineX7, nh_GridEngineX7.1, nh_GridEngineX7.2, pd__I_I⟩
theorem me_X7_box : x_me yX7_box cX7_box 5 (some .int) 3 := ⟨cw_X7_box, iz_GridEngineX7, nh_GridEngineX7.1, nh_GridEngineX7.2, pd__III_I⟩
theorem me_X7_unmet : x_me yX7_unmet cX7_unmet 7 (some .int) 2 := ⟨cw_X7_unmet, iz_GridEngineX7, nh_GridEngineX7.1, nh_GridEngineX7.2, pd__IZ_I⟩
theorem me_X7_itemUnder : x_me yX7_itemUnder cX7_itemUnder 4 (some .int) 2 := ⟨cw_X7_itemUnder, iz_GridEngineX7, nh_GridEngineX7.1, nh_GridEngineX7.2, pd__II_I⟩
theorem me_X7_save : x_me yX7_save cX7_save 2 (some .int) 1 := ⟨cw_X7_save, iz_GridEngineX7, nh_GridEngineX7.1, nh_GridEngineX7.2, pd__I_I⟩
theorem me_X7_restore : x_me yX7_restore cX7_restore 2 (some .int) 1 := ⟨cw_X7_restore, iz_GridEngineX7, nh_GridEngineX7.1, nh_GridEngineX7.2, pd__I_I⟩
theorem me_X7_undo : x_me yX7_undo cX7_undo 1 (some .int) 0 := ⟨cw_X7_undo, iz_GridEngineX7, nh_GridEngineX7.1, nh_GridEngineX7.2, pd___I⟩
theorem nh_GridEngineLawL : "GridEngineLaw" ≠ "java/lang/invoke/MethodHandle" ∧ "GridEngineLaw" ≠ "java/lang/invoke/VarHandle" := by decide +kernel
theorem pd__LGridEngine_CqJ_I : (parseMethodDescriptor "(LGridEngine;C[J)I").map (fun d => d.parameters.length) = some 3 := by decide +kernel
theorem me_L_feed : x_meW yL_feed cL_feed 4 (some .int) [(0,9,12,13)] 3 := ⟨cw_L_feed, iz_GridEngineLawL, nh_GridEngineLawL.1, nh_GridEngineLawL.2, pd__LGridEngine_CqJ_I⟩
theorem me_X8_feed : x_me yX8_feed cX8_feed 2 (some .int) 1 := ⟨cw_X8_feed, iz_GridEngineModelX8, nh_GridEngineModelX8.1, nh_GridEngineModelX8.2, pd__C_I⟩
theorem me_X8_thrown : x_me yX8_thrown cX8_thrown 1 (some .int) 0 := ⟨cw_X8_thrown, iz_GridEngineModelX8, nh_GridEngineModelX8.1, nh_GridEngineModelX8.2, pd___I⟩
theorem pd__LGridEngine_IqJ_I : (parseMethodDescriptor "(LGridEngine;I[J)I").map (fun d => d.parameters.length) = some 3 := by decide +kernel
theorem me_L_readTracks : x_meW yL_readTracks cL_readTracks 4 (some .int) [(0,9,12,19),(0,9,15,13)] 3 := ⟨cw_L_readTracks, iz_GridEngineLawL, nh_GridEngineLawL.1, nh_GridEngineLawL.2, pd__LGridEngine_IqJ_I⟩
theorem me_X8_readTracks : x_me yX8_readTracks cX8_readTracks 4 (some .int) 1 := ⟨cw_X8_readTracks, iz_GridEngineModelX8, nh_GridEngineModelX8.1, nh_GridEngineModelX8.2, pd__I_I⟩
theorem me_L_readImplicit : x_meW yL_readImplicit cL_readImplicit 4 (some .int) [(0,9,12,19),(0,9,15,13)] 3 := ⟨cw_L_readImplicit, iz_GridEngineLawL, nh_GridEngineLawL.1, nh_GridEngineLawL.2, pd__LGridEngine_IqJ_I⟩
theorem me_X8_readImplicit : x_me yX8_readImplicit cX8_readImplicit 3 (some .int) 1 := ⟨cw_X8_readImplicit, iz_GridEngineModelX8, nh_GridEngineModelX8.1, nh_GridEngineModelX8.2, pd__I_I⟩
theorem pd__LGridEngine_IIIqJ_I : (parseMethodDescriptor "(LGridEngine;III[J)I").map (fun d => d.parameters.length) = some 5 := by decide +kernel
theorem me_L_definition : x_meW yL_definition cL_definition 6 (some .int) [(0,12,15,19),(0,12,19,28)] 5 := ⟨cw_L_definition, iz_GridEngineLawL, nh_GridEngineLawL.1, nh_GridEngineLawL.2, pd__LGridEngine_IIIqJ_I⟩
theorem me_X8_definition : x_me yX8_definition cX8_definition 4 (some .int) 3 := ⟨cw_X8_definition, iz_GridEngineModelX8, nh_GridEngineModelX8.1, nh_GridEngineModelX8.2, pd__III_I⟩
theorem me_L_set : x_meW yL_set cL_set 6 (some .int) [(0,12,15,19)] 5 := ⟨cw_L_set, iz_GridEngineLawL, nh_GridEngineLawL.1, nh_GridEngineLawL.2, pd__LGridEngine_IIIqJ_I⟩
theorem me_X8_set : x_me yX8_set cX8_set 6 (some .int) 3 := ⟨cw_X8_set, iz_GridEngineModelX8, nh_GridEngineModelX8.1, nh_GridEngineModelX8.2, pd__III_I⟩
theorem pd__LGridEngine_IIIIqJ_I : (parseMethodDescriptor "(LGridEngine;IIII[J)I").map (fun d => d.parameters.length) = some 6 := by decide +kernel
theorem me_L_addItem : x_meW yL_addItem cL_addItem 7 (some .int) [(0,14,17,19),(0,14,21,13)] 6 := ⟨cw_L_addItem, iz_GridEngineLawL, nh_GridEngineLawL.1, nh_GridEngineLawL.2, pd__LGridEngine_IIIIqJ_I⟩
theorem me_X8_addItem : x_me yX8_addItem cX8_addItem 6 (some .int) 4 := ⟨cw_X8_addItem, iz_GridEngineModelX8, nh_GridEngineModelX8.1, nh_GridEngineModelX8.2, pd__IIII_I⟩
theorem me_L_place : x_meW yL_place cL_place 7 (some .int) [(0,14,17,28),(0,14,21,19)] 6 := ⟨cw_L_place, iz_GridEngineLawL, nh_GridEngineLawL.1, nh_GridEngineLawL.2, pd__LGridEngine_IIIIqJ_I⟩
theorem me_X8_place : x_me yX8_place cX8_place 7 (some .int) 4 := ⟨cw_X8_place, iz_GridEngineModelX8, nh_GridEngineModelX8.1, nh_GridEngineModelX8.2, pd__IIII_I⟩
theorem me_L_align : x_meW yL_align cL_align 6 (some .int) [(0,12,15,28),(0,12,19,19)] 5 := ⟨cw_L_align, iz_GridEngineLawL, nh_GridEngineLawL.1, nh_GridEngineLawL.2, pd__LGridEngine_IIIqJ_I⟩
theorem me_X8_align : x_me yX8_align cX8_align 5 (some .int) 3 := ⟨cw_X8_align, iz_GridEngineModelX8, nh_GridEngineModelX8.1, nh_GridEngineModelX8.2, pd__III_I⟩
theorem me_L_removeItem : x_meW yL_removeItem cL_removeItem 4 (some .int) [(0,9,12,28)] 3 := ⟨cw_L_removeItem, iz_GridEngineLawL, nh_GridEngineLawL.1, nh_GridEngineLawL.2, pd__LGridEngine_IqJ_I⟩
theorem me_X8_removeItem : x_me yX8_removeItem cX8_removeItem 3 (some .int) 1 := ⟨cw_X8_removeItem, iz_GridEngineModelX8, nh_GridEngineModelX8.1, nh_GridEngineModelX8.2, pd__I_I⟩
theorem pd__LGridEngine_IIqJ_I : (parseMethodDescriptor "(LGridEngine;II[J)I").map (fun d => d.parameters.length) = some 4 := by decide +kernel
theorem me_L_exchange : x_meW yL_exchange cL_exchange 5 (some .int) [(0,10,13,28)] 4 := ⟨cw_L_exchange, iz_GridEngineLawL, nh_GridEngineLawL.1, nh_GridEngineLawL.2, pd__LGridEngine_IIqJ_I⟩
theorem me_X8_exchange : x_me yX8_exchange cX8_exchange 5 (some .int) 2 := ⟨cw_X8_exchange, iz_GridEngineModelX8, nh_GridEngineModelX8.1, nh_GridEngineModelX8.2, pd__II_I⟩
theorem me_X7_items : x_me yX7_items cX7_items 1 (some .int) 0 := ⟨cw_X7_items, iz_GridEngineX7, nh_GridEngineX7.1, nh_GridEngineX7.2, pd___I⟩
theorem me_X8_items : x_me yX8_items cX8_items 1 (some .int) 0 := ⟨cw_X8_items, iz_GridEngineModelX8, nh_GridEngineModelX8.1, nh_GridEngineModelX8.2, pd___I⟩
theorem me_L_tracks : x_meW yL_tracks cL_tracks 4 (some .int) [(0,9,12,19)] 3 := ⟨cw_L_tracks, iz_GridEngineLawL, nh_GridEngineLawL.1, nh_GridEngineLawL.2, pd__LGridEngine_IqJ_I⟩
theorem me_X8_tracks : x_me yX8_tracks cX8_tracks 2 (some .int) 1 := ⟨cw_X8_tracks, iz_GridEngineModelX8, nh_GridEngineModelX8.1, nh_GridEngineModelX8.2, pd__I_I⟩
theorem me_L_startOf : x_meW yL_startOf cL_startOf 5 (some .int) [(0,10,13,28),(0,10,17,19)] 4 := ⟨cw_L_startOf, iz_GridEngineLawL, nh_GridEngineLawL.1, nh_GridEngineLawL.2, pd__LGridEngine_IIqJ_I⟩
theorem me_X8_startOf : x_me yX8_startOf cX8_startOf 3 (some .int) 2 := ⟨cw_X8_startOf, iz_GridEngineModelX8, nh_GridEngineModelX8.1, nh_GridEngineModelX8.2, pd__II_I⟩
theorem me_L_itemIn : x_meW yL_itemIn cL_itemIn 5 (some .int) [(0,10,13,28),(0,10,17,67)] 4 := ⟨cw_L_itemIn, iz_GridEngineLawL, nh_GridEngineLawL.1, nh_GridEngineLawL.2, pd__LGridEngine_IIqJ_I⟩
theorem me_X8_itemIn : x_me yX8_itemIn cX8_itemIn 5 (some .int) 2 := ⟨cw_X8_itemIn, iz_GridEngineModelX8, nh_GridEngineModelX8.1, nh_GridEngineModelX8.2, pd__II_I⟩
theorem me_L_cells : x_meW yL_cells cL_cells 4 (some .int) [(0,9,12,19)] 3 := ⟨cw_L_cells, iz_GridEngineLawL, nh_GridEngineLawL.1, nh_GridEngineLawL.2, pd__LGridEngine_IqJ_I⟩
theorem me_X8_cells : x_me yX8_cells cX8_cells 7 (some .int) 1 := ⟨cw_X8_cells, iz_GridEngineModelX8, nh_GridEngineModelX8.1, nh_GridEngineModelX8.2, pd__I_I⟩
theorem me_L_size : x_meW yL_size cL_size 6 (some .int) [(0,12,15,19),(0,12,19,28)] 5 := ⟨cw_L_size, iz_GridEngineLawL, nh_GridEngineLawL.1, nh_GridEngineLawL.2, pd__LGridEngine_IIIqJ_I⟩
theorem me_X8_size : x_me yX8_size cX8_size 4 (some .int) 3 := ⟨cw_X8_size, iz_GridEngineModelX8, nh_GridEngineModelX8.1, nh_GridEngineModelX8.2, pd__III_I⟩
theorem me_L_isCollapsed : x_meW yL_isCollapsed cL_isCollapsed 5 (some .int) [(0,17,20,19),(0,17,24,28)] 4 := ⟨cw_L_isCollapsed, iz_GridEngineLawL, nh_GridEngineLawL.1, nh_GridEngineLawL.2, pd__LGridEngine_IIqJ_I⟩
theorem me_X8_isCollapsed : x_me yX8_isCollapsed cX8_isCollapsed 3 (some .boolean) 2 := ⟨cw_X8_isCollapsed, iz_GridEngineModelX8, nh_GridEngineModelX8.1, nh_GridEngineModelX8.2, pd__II_Z⟩
theorem me_L_position : x_meW yL_position cL_position 5 (some .int) [(0,10,13,19),(0,10,17,28)] 4 := ⟨cw_L_position, iz_GridEngineLawL, nh_GridEngineLawL.1, nh_GridEngineLawL.2, pd__LGridEngine_IIqJ_I⟩
theorem me_X8_position : x_me yX8_position cX8_position 3 (some .int) 2 := ⟨cw_X8_position, iz_GridEngineModelX8, nh_GridEngineModelX8.1, nh_GridEngineModelX8.2, pd__II_I⟩
theorem me_L_total : x_meW yL_total cL_total 5 (some .int) [(0,10,13,19)] 4 := ⟨cw_L_total, iz_GridEngineLawL, nh_GridEngineLawL.1, nh_GridEngineLawL.2, pd__LGridEngine_IIqJ_I⟩
theorem me_X8_total : x_me yX8_total cX8_total 3 (some .int) 2 := ⟨cw_X8_total, iz_GridEngineModelX8, nh_GridEngineModelX8.1, nh_GridEngineModelX8.2, pd__II_I⟩
theorem me_L_free : x_meW yL_free cL_free 4 (some .int) [(0,9,12,19)] 3 := ⟨cw_L_free, iz_GridEngineLawL, nh_GridEngineLawL.1, nh_GridEngineLawL.2, pd__LGridEngine_IqJ_I⟩
theorem me_X8_free : x_me yX8_free cX8_free 2 (some .int) 1 := ⟨cw_X8_free, iz_GridEngineModelX8, nh_GridEngineModelX8.1, nh_GridEngineModelX8.2, pd__I_I⟩
theorem me_L_box : x_meW yL_box cL_box 6 (some .int) [(0,12,15,28),(0,12,19,19)] 5 := ⟨cw_L_box, iz_GridEngineLawL, nh_GridEngineLawL.1, nh_GridEngineLawL.2, pd__LGridEngine_IIIqJ_I⟩
theorem me_X8_box : x_me yX8_box cX8_box 4 (some .int) 3 := ⟨cw_X8_box, iz_GridEngineModelX8, nh_GridEngineModelX8.1, nh_GridEngineModelX8.2, pd__III_I⟩
theorem me_L_itemUnder : x_meW yL_itemUnder cL_itemUnder 5 (some .int) [(0,10,13,67)] 4 := ⟨cw_L_itemUnder, iz_GridEngineLawL, nh_GridEngineLawL.1, nh_GridEngineLawL.2, pd__LGridEngine_IIqJ_I⟩
theorem me_X8_itemUnder : x_me yX8_itemUnder cX8_itemUnder 6 (some .int) 2 := ⟨cw_X8_itemUnder, iz_GridEngineModelX8, nh_GridEngineModelX8.1, nh_GridEngineModelX8.2, pd__II_I⟩
theorem me_L_save : x_meW yL_save cL_save 4 (some .int) [(0,9,12,28)] 3 := ⟨cw_L_save, iz_GridEngineLawL, nh_GridEngineLawL.1, nh_GridEngineLawL.2, pd__LGridEngine_IqJ_I⟩
theorem me_X8_save : x_me yX8_save cX8_save 2 (some .int) 1 := ⟨cw_X8_save, iz_GridEngineModelX8, nh_GridEngineModelX8.1, nh_GridEngineModelX8.2, pd__I_I⟩
theorem me_L_restore : x_meW yL_restore cL_restore 4 (some .int) [(0,9,12,28),(0,9,15,13)] 3 := ⟨cw_L_restore, iz_GridEngineLawL, nh_GridEngineLawL.1, nh_GridEngineLawL.2, pd__LGridEngine_IqJ_I⟩
theorem me_X8_restore : x_me yX8_restore cX8_restore 2 (some .int) 1 := ⟨cw_X8_restore, iz_GridEngineModelX8, nh_GridEngineModelX8.1, nh_GridEngineModelX8.2, pd__I_I⟩
theorem pd__LGridEngine_qJ_I : (parseMethodDescriptor "(LGridEngine;[J)I").map (fun d => d.parameters.length) = some 2 := by decide +kernel
theorem me_L_undo : x_meW yL_undo cL_undo 3 (some .int) [(0,8,11,13)] 2 := ⟨cw_L_undo, iz_GridEngineLawL, nh_GridEngineLawL.1, nh_GridEngineLawL.2, pd__LGridEngine_qJ_I⟩
theorem me_X8_undo : x_me yX8_undo cX8_undo 1 (some .int) 0 := ⟨cw_X8_undo, iz_GridEngineModelX8, nh_GridEngineModelX8.1, nh_GridEngineModelX8.2, pd___I⟩
theorem pd__LGridEngine_IZqJ_I : (parseMethodDescriptor "(LGridEngine;IZ[J)I").map (fun d => d.parameters.length) = some 4 := by decide +kernel
theorem me_L_setFlow : x_meW yL_setFlow cL_setFlow 5 (some .int) [(0,10,13,19)] 4 := ⟨cw_L_setFlow, iz_GridEngineLawL, nh_GridEngineLawL.1, nh_GridEngineLawL.2, pd__LGridEngine_IZqJ_I⟩
theorem me_X8_setFlow : x_me yX8_setFlow cX8_setFlow 4 (some .int) 2 := ⟨cw_X8_setFlow, iz_GridEngineModelX8, nh_GridEngineModelX8.1, nh_GridEngineModelX8.2, pd__IZ_I⟩
theorem pd__LGridEngine_IIZIqJ_I : (parseMethodDescriptor "(LGridEngine;IIZI[J)I").map (fun d => d.parameters.length) = some 6 := by decide +kernel
theorem me_L_contribute : x_meW yL_contribute cL_contribute 7 (some .int) [(0,14,17,28),(0,14,21,19)] 6 := ⟨cw_L_contribute, iz_GridEngineLawL, nh_GridEngineLawL.1, nh_GridEngineLawL.2, pd__LGridEngine_IIZIqJ_I⟩
theorem me_X8_contribute : x_me yX8_contribute cX8_contribute 8 (some .int) 4 := ⟨cw_X8_contribute, iz_GridEngineModelX8, nh_GridEngineModelX8.1, nh_GridEngineModelX8.2, pd__IIZI_I⟩
theorem me_L_unmet : x_meW yL_unmet cL_unmet 5 (some .int) [(0,10,13,19)] 4 := ⟨cw_L_unmet, iz_GridEngineLawL, nh_GridEngineLawL.1, nh_GridEngineLawL.2, pd__LGridEngine_IZqJ_I⟩
theorem me_X8_unmet : x_me yX8_unmet cX8_unmet 5 (some .int) 2 := ⟨cw_X8_unmet, iz_GridEngineModelX8, nh_GridEngineModelX8.1, nh_GridEngineModelX8.2, pd__IZ_I⟩
theorem me_X7_init : x_me yX7_init cX7_init 2 none 0 := ⟨cw_X7_init, iz_GridEngineX7, nh_GridEngineX7.1, nh_GridEngineX7.2, pd___V⟩
theorem me_X8_init : x_me yX8_init cX8_init 2 none 0 := ⟨cw_X8_init, iz_GridEngineModelX8, nh_GridEngineModelX8.1, nh_GridEngineModelX8.2, pd___V⟩

abbrev dGt (x y : UInt64) : Prop := FP.dcmp x y = some .gt
abbrev dLt (x y : UInt64) : Prop := FP.dcmp x y = some .lt
abbrev dEq (x y : UInt64) : Prop := FP.dcmp x y = some .eq
abbrev dGe (x y : UInt64) : Prop := FP.dcmp x y = some .gt ∨ FP.dcmp x y = some .eq
abbrev dLe (x y : UInt64) : Prop := FP.dcmp x y = some .lt ∨ FP.dcmp x y = some .eq
abbrev fGt (x y : UInt32) : Prop := FP.fcmp x y = some .gt
abbrev fLt (x y : UInt32) : Prop := FP.fcmp x y = some .lt
abbrev fEq (x y : UInt32) : Prop := FP.fcmp x y = some .eq
theorem cvl_le (o : Option Ordering) : Op.cmpValue o .l ≤ 0 ↔ ¬ o = some .gt := by cases o with | none => decide | some x => cases x <;> decide
theorem cvl_gt (o : Option Ordering) : 0 < Op.cmpValue o .l ↔ o = some .gt := by cases o with | none => decide | some x => cases x <;> decide
theorem cvl_lt (o : Option Ordering) : Op.cmpValue o .l < 0 ↔ ¬ (o = some .gt ∨ o = some .eq) := by cases o with | none => decide | some x => cases x <;> decide
theorem cvl_ge (o : Option Ordering) : 0 ≤ Op.cmpValue o .l ↔ (o = some .gt ∨ o = some .eq) := by cases o with | none => decide | some x => cases x <;> decide
theorem cvl_eq (o : Option Ordering) : Op.cmpValue o .l = 0 ↔ o = some .eq := by cases o with | none => decide | some x => cases x <;> decide
theorem cvg_ge (o : Option Ordering) : 0 ≤ Op.cmpValue o .g ↔ ¬ o = some .lt := by cases o with | none => decide | some x => cases x <;> decide
theorem cvg_lt (o : Option Ordering) : Op.cmpValue o .g < 0 ↔ o = some .lt := by cases o with | none => decide | some x => cases x <;> decide
theorem cvg_gt (o : Option Ordering) : 0 < Op.cmpValue o .g ↔ ¬ (o = some .lt ∨ o = some .eq) := by cases o with | none => decide | some x => cases x <;> decide
theorem cvg_le (o : Option Ordering) : Op.cmpValue o .g ≤ 0 ↔ (o = some .lt ∨ o = some .eq) := by cases o with | none => decide | some x => cases x <;> decide
theorem cvn {a b : Prop} (h : a ↔ ¬ b) : ¬ a ↔ b := ⟨fun x => Classical.byContradiction (fun y => x (h.mpr y)), fun x y => h.mp y x⟩
theorem cvp {a b : Prop} (h : a ↔ b) : ¬ a ↔ ¬ b := not_congr h
theorem lgc_eq (x y : Int64) : lg_cmp x y = 0 ↔ x = y := by
  unfold lg_cmp
  by_cases h1 : x > y
  · have h2 : ¬ x = y := fun h => by subst h; exact absurd h1 (by simp [Int64.lt_irrefl])
    simp [h1, h2]
  · by_cases h2 : x = y <;> simp [h1, h2]
theorem cv_dcmp_g_ge (x y : UInt64) : 0 ≤ Op.cmpValue (FP.dcmp x y) .g ↔ ¬ dLt x y := cvg_ge _
theorem cv_dcmp_g_ge_n (x y : UInt64) : ¬ (0 ≤ Op.cmpValue (FP.dcmp x y) .g) ↔ dLt x y := cvn (cvg_ge _)
theorem cv_dcmp_g_gt (x y : UInt64) : 0 < Op.cmpValue (FP.dcmp x y) .g ↔ ¬ dLe x y := cvg_gt _
theorem cv_dcmp_g_gt_n (x y : UInt64) : ¬ (0 < Op.cmpValue (FP.dcmp x y) .g) ↔ dLe x y := cvn (cvg_gt _)
theorem cv_dcmp_g_lt (x y : UInt64) : Op.cmpValue (FP.dcmp x y) .g < 0 ↔ dLt x y := cvg_lt _
theorem cv_dcmp_g_lt_n (x y : UInt64) : ¬ (Op.cmpValue (FP.dcmp x y) .g < 0) ↔ ¬ dLt x y := not_congr (cvg_lt _)
theorem cv_dcmp_l_eq (x y : UInt64) : Op.cmpValue (FP.dcmp x y) .l = 0 ↔ dEq x y := cvl_eq _
theorem cv_dcmp_l_eq_n (x y : UInt64) : ¬ (Op.cmpValue (FP.dcmp x y) .l = 0) ↔ ¬ dEq x y := not_congr (cvl_eq _)
theorem cv_dcmp_l_le (x y : UInt64) : Op.cmpValue (FP.dcmp x y) .l ≤ 0 ↔ ¬ dGt x y := cvl_le _
theorem cv_dcmp_l_le_n (x y : UInt64) : ¬ (Op.cmpValue (FP.dcmp x y) .l ≤ 0) ↔ dGt x y := cvn (cvl_le _)
theorem cv_dcmp_l_lt (x y : UInt64) : Op.cmpValue (FP.dcmp x y) .l < 0 ↔ ¬ dGe x y := cvl_lt _
theorem cv_dcmp_l_lt_n (x y : UInt64) : ¬ (Op.cmpValue (FP.dcmp x y) .l < 0) ↔ dGe x y := cvn (cvl_lt _)
theorem cv_dcmp_l_ne (x y : UInt64) : ¬ Op.cmpValue (FP.dcmp x y) .l = 0 ↔ ¬ dEq x y := not_congr (cvl_eq _)
theorem cv_dcmp_l_ne_n (x y : UInt64) : Op.cmpValue (FP.dcmp x y) .l = 0 ↔ dEq x y := cvl_eq _
theorem cv_fcmp_g_ge (x y : UInt32) : 0 ≤ Op.cmpValue (FP.fcmp x y) .g ↔ ¬ fLt x y := cvg_ge _
theorem cv_fcmp_g_ge_n (x y : UInt32) : ¬ (0 ≤ Op.cmpValue (FP.fcmp x y) .g) ↔ fLt x y := cvn (cvg_ge _)
theorem cv_fcmp_l_eq (x y : UInt32) : Op.cmpValue (FP.fcmp x y) .l = 0 ↔ fEq x y := cvl_eq _
theorem cv_fcmp_l_eq_n (x y : UInt32) : ¬ (Op.cmpValue (FP.fcmp x y) .l = 0) ↔ ¬ fEq x y := not_congr (cvl_eq _)
theorem cv_fcmp_l_le (x y : UInt32) : Op.cmpValue (FP.fcmp x y) .l ≤ 0 ↔ ¬ fGt x y := cvl_le _
theorem cv_fcmp_l_le_n (x y : UInt32) : ¬ (Op.cmpValue (FP.fcmp x y) .l ≤ 0) ↔ fGt x y := cvn (cvl_le _)
theorem cv_lcmp_eq (x y : Int64) : lg_cmp x y = 0 ↔ x = y := lgc_eq x y
theorem cv_lcmp_eq_n (x y : Int64) : ¬ (lg_cmp x y = 0) ↔ ¬ (x = y) := not_congr (cv_lcmp_eq x y)
theorem cv_lcmp_ge (x y : Int64) : 0 ≤ lg_cmp x y ↔ y ≤ x := lg_cmp_ge x y
theorem cv_lcmp_ge_n (x y : Int64) : ¬ (0 ≤ lg_cmp x y) ↔ ¬ (y ≤ x) := not_congr (cv_lcmp_ge x y)
theorem sm_X0_init : IM yX0_init cX0_init 4 none 2 := ⟨w_1_177, w_1_7, w_1_178, by decide +kernel⟩
theorem sm_X0_isOf : IM yX0_isOf cX0_isOf 2 (some .boolean) 1 := ⟨w_1_234, w_1_7, w_1_236, by decide +kernel⟩
theorem sm_X0_madeOf : IM yX0_madeOf cX0_madeOf 3 (some .float) 1 := ⟨w_1_192, w_1_7, w_1_194, by decide +kernel⟩
theorem sm_X0_folded : SM yX0_folded cX0_folded 2 (some .double) 1 := ⟨w_1_202, w_1_7, w_1_203, by decide +kernel⟩
theorem sm_X0_crushed : IM yX0_crushed cX0_crushed 6 (some .double) 1 := ⟨w_1_208, w_1_7, w_1_209, by decide +kernel⟩
theorem sm_X1_init : IM yX1_init cX1_init 6 none 4 := ⟨w_2_10, w_1_9, w_2_11, by decide +kernel⟩
theorem sm_X1_moveOn : IM yX1_moveOn cX1_moveOn 4 none 1 := ⟨w_2_65, w_1_9, w_2_67, by decide +kernel⟩
theorem sm_X2_init : IM yX2_init cX2_init 4 none 0 := ⟨w_1_21, w_1_2, w_1_22, by decide +kernel⟩
theorem sm_X2_isDouble : SM yX2_isDouble cX2_isDouble 2 (some .boolean) 1 := ⟨w_1_97, w_1_2, w_1_98, by decide +kernel⟩
theorem sm_X2_isFloat : SM yX2_isFloat cX2_isFloat 2 (some .boolean) 1 := ⟨w_1_101, w_1_2, w_1_102, by decide +kernel⟩
theorem sm_X2_held : SM yX2_held cX2_held 4 (some .float) 1 := ⟨w_1_196, w_1_2, w_1_197, by decide +kernel⟩
theorem sm_X2_rest : SM yX2_rest cX2_rest 12 (some .double) 2 := ⟨w_1_165, w_1_2, w_1_166, by decide +kernel⟩
theorem sm_X2_doubleOf : IM yX2_doubleOf cX2_doubleOf 5 (some .double) 1 := ⟨w_1_108, w_1_2, w_1_110, by decide +kernel⟩
theorem sm_X2_floatOf : IM yX2_floatOf cX2_floatOf 5 (some .float) 1 := ⟨w_1_129, w_1_2, w_1_131, by decide +kernel⟩
theorem sm_X2_bitsOfDouble : IM yX2_bitsOfDouble cX2_bitsOfDouble 5 (some .long) 1 := ⟨w_1_139, w_1_2, w_1_141, by decide +kernel⟩
theorem sm_X2_bitsOfFloat : IM yX2_bitsOfFloat cX2_bitsOfFloat 4 (some .int) 1 := ⟨w_1_153, w_1_2, w_1_155, by decide +kernel⟩
theorem sm_X2_sizeOf : SM yX2_sizeOf cX2_sizeOf 2 (some .double) 1 := ⟨w_1_143, w_1_2, w_1_144, by decide +kernel⟩
theorem sm_X2_isSigned : SM yX2_isSigned cX2_isSigned 2 (some .boolean) 1 := ⟨w_1_150, w_1_2, w_1_151, by decide +kernel⟩
theorem sm_X2_sizeToldBy : IM yX2_sizeToldBy cX2_sizeToldBy 10 (some .double) 3 := ⟨w_1_114, w_1_2, w_1_115, by decide +kernel⟩
theorem sm_X2_bitsOfSize : IM yX2_bitsOfSize cX2_bitsOfSize 10 (some .long) 3 := ⟨w_1_147, w_1_2, w_1_148, by decide +kernel⟩
theorem sm_X2_scaled : IM yX2_scaled cX2_scaled 5 (some .double) 2 := ⟨w_1_118, w_1_2, w_1_119, by decide +kernel⟩
theorem sm_X2_powerOfTwo : IM yX2_powerOfTwo cX2_powerOfTwo 7 (some .double) 1 := ⟨w_1_122, w_1_2, w_1_123, by decide +kernel⟩
theorem sm_X3_init : IM yX3_init cX3_init 2 none 1 := ⟨w_1_216, w_1_8, w_1_217, by decide +kernel⟩
theorem sm_X3_hasBarePlace : IM yX3_hasBarePlace cX3_hasBarePlace 2 (some .boolean) 0 := ⟨w_2_51, w_1_8, w_2_53, by decide +kernel⟩
theorem sm_X3_madeOf : IM yX3_madeOf cX3_madeOf 7 (some .double) 1 := ⟨w_2_55, w_1_8, w_2_57, by decide +kernel⟩
theorem sm_X4_init : IM yX4_init cX4_init 1 none 0 := ⟨w_1_13, w_1_1, w_1_14, by decide +kernel⟩
theorem sm_X4_row : IM yX4_row cX4_row 4 (some .int) 3 := ⟨w_1_74, w_1_1, w_1_76, by decide +kernel⟩
theorem sm_X4_share : IM yX4_share cX4_share 5 (some .int) 3 := ⟨w_1_85, w_1_1, w_1_87, by decide +kernel⟩
theorem sm_X4_drop : IM yX4_drop cX4_drop 5 (some .int) 2 := ⟨w_1_89, w_1_1, w_1_91, by decide +kernel⟩
theorem sm_X4_set : IM yX4_set cX4_set 7 (some .int) 4 := ⟨w_1_93, w_1_1, w_1_95, by decide +kernel⟩
theorem sm_X4_get : IM yX4_get cX4_get 5 (some .int) 3 := ⟨w_1_135, w_1_1, w_1_137, by decide +kernel⟩
theorem sm_X4_wrap : IM yX4_wrap cX4_wrap 6 (some .int) 4 := ⟨w_1_161, w_1_1, w_1_163, by decide +kernel⟩
theorem sm_X4_effect : IM yX4_effect cX4_effect 7 (some .int) 3 := ⟨w_1_168, w_1_1, w_1_170, by decide +kernel⟩
theorem sm_X4_make : IM yX4_make cX4_make 6 (some .int) 2 := ⟨w_1_188, w_1_1, w_1_190, by decide +kernel⟩
theorem sm_X4_rack : IM yX4_rack cX4_rack 3 (some .int) 2 := ⟨w_1_211, w_1_1, w_1_213, by decide +kernel⟩
theorem sm_X4_hang : IM yX4_hang cX4_hang 6 (some .int) 3 := ⟨w_1_230, w_1_1, w_1_232, by decide +kernel⟩
theorem sm_X4_take : IM yX4_take cX4_take 7 (some .int) 4 := ⟨w_1_238, w_1_1, w_2_0, by decide +kernel⟩
theorem sm_X4_head : IM yX4_head cX4_head 9 (some .int) 5 := ⟨w_2_2, w_1_1, w_2_4, by decide +kernel⟩
theorem sm_X4_play : IM yX4_play cX4_play 4 (some .int) 2 := ⟨w_2_38, w_1_1, w_2_40, by decide +kernel⟩
theorem sm_X4_failed : IM yX4_failed cX4_failed 1 (some .int) 0 := ⟨w_2_70, w_1_1, w_2_72, by decide +kernel⟩
theorem sm_X4_mix : IM yX4_mix cX4_mix 5 (some .int) 2 := ⟨w_2_74, w_1_1, w_2_76, by decide +kernel⟩
theorem sm_X4_hush : IM yX4_hush cX4_hush 2 (some .int) 0 := ⟨w_2_79, w_1_1, w_2_81, by decide +kernel⟩
theorem sm_X4_at : IM yX4_at cX4_at 3 (some .int) 2 := ⟨w_2_83, w_1_1, w_2_85, by decide +kernel⟩
theorem sm_X4_clock : IM yX4_clock cX4_clock 4 (some .int) 2 := ⟨w_2_87, w_1_1, w_2_89, by decide +kernel⟩
theorem sm_X4_told : IM yX4_told cX4_told 1 (some .long) 0 := ⟨w_2_91, w_1_1, w_2_93, by decide +kernel⟩
theorem sm_X4_isBelow : SM yX4_isBelow cX4_isBelow 2 (some .boolean) 2 := ⟨w_1_78, w_1_1, w_1_79, by decide +kernel⟩
theorem sm_X4_isBelowOrNone : SM yX4_isBelowOrNone cX4_isBelowOrNone 2 (some .boolean) 2 := ⟨w_2_6, w_1_1, w_2_7, by decide +kernel⟩
theorem sm_X4_isWithin : SM yX4_isWithin cX4_isWithin 3 (some .boolean) 2 := ⟨w_1_173, w_1_1, w_1_174, by decide +kernel⟩
theorem sm_X4_answerFor : SM yX4_answerFor cX4_answerFor 1 (some .int) 1 := ⟨w_1_105, w_1_1, w_1_106, by decide +kernel⟩
theorem sm_X4_tell : IM yX4_tell cX4_tell 3 (some .int) 1 := ⟨w_1_158, w_1_1, w_1_159, by decide +kernel⟩
theorem sm_X4_rowsOf : IM yX4_rowsOf cX4_rowsOf 2 (some (.array (.array .double))) 1 := ⟨w_1_82, w_1_1, w_1_83, by decide +kernel⟩
theorem sm_X4_isSetHead : IM yX4_isSetHead cX4_isSetHead 2 (some .boolean) 1 := ⟨w_2_43, w_1_1, w_2_44, by decide +kernel⟩
theorem sm_X4_step : IM yX4_step cX4_step 7 (some .int) 1 := ⟨w_2_47, w_1_1, w_2_48, by decide +kernel⟩
theorem sm_X4_addToMix : IM yX4_addToMix cX4_addToMix 4 none 2 := ⟨w_2_62, w_1_1, w_2_63, by decide +kernel⟩
theorem sm_X5_init : IM yX5_init cX5_init 1 none 0 := ⟨w_2_97, w_1_3, w_2_98, by decide +kernel⟩
theorem sm_X5_in : SM yX5_in cX5_in 3 (some .boolean) 3 := ⟨w_2_172, w_1_3, w_2_173, by decide +kernel⟩
theorem sm_X5_fails : SM yX5_fails cX5_fails 1 (some .int) 1 := ⟨w_2_201, w_1_3, w_2_202, by decide +kernel⟩
theorem sm_X5_isFine : SM yX5_isFine cX5_isFine 3 (some .boolean) 2 := ⟨w_2_190, w_1_3, w_2_191, by decide +kernel⟩
theorem sm_X5_number : SM yX5_number cX5_number 3 (some .double) 2 := ⟨w_2_204, w_1_3, w_2_205, by decide +kernel⟩
theorem sm_X5_bitsOf : SM yX5_bitsOf cX5_bitsOf 3 (some .long) 2 := ⟨w_2_221, w_1_3, w_2_222, by decide +kernel⟩
theorem sm_X5_held : SM yX5_held cX5_held 3 (some .double) 1 := ⟨w_3_22, w_1_3, w_3_23, by decide +kernel⟩
theorem sm_X5_slotOf : SM yX5_slotOf cX5_slotOf 2 (some .int) 2 := ⟨w_2_175, w_1_3, w_2_176, by decide +kernel⟩
theorem sm_X5_row : IM yX5_row cX5_row 5 (some .int) 3 := ⟨w_2_168, w_1_3, w_2_170, by decide +kernel⟩
theorem sm_X5_share : IM yX5_share cX5_share 4 (some .int) 3 := ⟨w_2_178, w_1_3, w_2_180, by decide +kernel⟩
theorem sm_X5_drop : IM yX5_drop cX5_drop 4 (some .int) 2 := ⟨w_2_182, w_1_3, w_2_184, by decide +kernel⟩
theorem sm_X5_asked : IM yX5_asked cX5_asked 5 (some .int) 3 := ⟨w_2_198, w_1_3, w_2_199, by decide +kernel⟩
theorem sm_X5_item : IM yX5_item cX5_item 4 (some .double) 3 := ⟨w_2_218, w_1_3, w_2_219, by decide +kernel⟩
theorem sm_X5_set : IM yX5_set cX5_set 7 (some .int) 4 := ⟨w_2_186, w_1_3, w_2_188, by decide +kernel⟩
theorem sm_X5_get : IM yX5_get cX5_get 5 (some .int) 3 := ⟨w_2_213, w_1_3, w_2_215, by decide +kernel⟩
theorem sm_X5_wrap : IM yX5_wrap cX5_wrap 8 (some .int) 4 := ⟨w_3_4, w_1_3, w_3_6, by decide +kernel⟩
theorem sm_X5_effect : IM yX5_effect cX5_effect 7 (some .int) 3 := ⟨w_3_8, w_1_3, w_3_10, by decide +kernel⟩
theorem sm_X5_made : IM yX5_made cX5_made 8 (some .double) 2 := ⟨w_3_19, w_1_3, w_3_20, by decide +kernel⟩
theorem sm_X5_make : IM yX5_make cX5_make 4 (some .int) 2 := ⟨w_3_14, w_1_3, w_3_16, by decide +kernel⟩
theorem sm_X5_fits : SM yX5_fits cX5_fits 2 (some .boolean) 2 := ⟨w_3_40, w_1_3, w_3_41, by decide +kernel⟩
theorem sm_X5_rack : IM yX5_rack cX5_rack 4 (some .int) 2 := ⟨w_3_32, w_1_3, w_3_34, by decide +kernel⟩
theorem sm_X5_hang : IM yX5_hang cX5_hang 5 (some .int) 3 := ⟨w_3_36, w_1_3, w_3_38, by decide +kernel⟩
theorem sm_X5_take : IM yX5_take cX5_take 6 (some .int) 4 := ⟨w_3_43, w_1_3, w_3_45, by decide +kernel⟩
theorem sm_X5_head : IM yX5_head cX5_head 9 (some .int) 5 := ⟨w_3_47, w_1_3, w_3_49, by decide +kernel⟩
theorem sm_X5_step : IM yX5_step cX5_step 11 (some .int) 1 := ⟨w_3_58, w_1_3, w_3_59, by decide +kernel⟩
theorem sm_X5_play : IM yX5_play cX5_play 4 (some .int) 2 := ⟨w_3_53, w_1_3, w_3_55, by decide +kernel⟩
theorem sm_X5_failed : IM yX5_failed cX5_failed 1 (some .int) 0 := ⟨w_3_62, w_1_3, w_3_64, by decide +kernel⟩
theorem sm_X5_mix : IM yX5_mix cX5_mix 6 (some .int) 2 := ⟨w_3_66, w_1_3, w_3_68, by decide +kernel⟩
theorem sm_X5_hush : IM yX5_hush cX5_hush 2 (some .int) 0 := ⟨w_3_71, w_1_3, w_3_73, by decide +kernel⟩
theorem sm_X5_at : IM yX5_at cX5_at 3 (some .int) 2 := ⟨w_3_75, w_1_3, w_3_77, by decide +kernel⟩
theorem sm_X5_clock : IM yX5_clock cX5_clock 4 (some .int) 2 := ⟨w_3_79, w_1_3, w_3_81, by decide +kernel⟩
theorem sm_X5_told : IM yX5_told cX5_told 1 (some .long) 0 := ⟨w_3_83, w_1_3, w_3_85, by decide +kernel⟩
theorem sm_Jxe99ae_isNaN_b9ae7 : SM yJxe99ae_isNaN_b9ae7 cJxe99ae_isNaN_b9ae7 2 (some .boolean) 1 := ⟨w_2_227, w_1_5, w_2_228, by decide +kernel⟩
theorem sm_Jxe99ae_doubleToLongBits_ccdee : SM yJxe99ae_doubleToLongBits_ccdee cJxe99ae_doubleToLongBits_ccdee 2 (some .long) 1 := ⟨w_2_224, w_1_5, w_2_225, by decide +kernel⟩
theorem sm_Jxf58ca_isNaN_12338 : SM yJxf58ca_isNaN_12338 cJxf58ca_isNaN_12338 1 (some .boolean) 1 := ⟨w_2_237, w_1_6, w_2_238, by decide +kernel⟩
theorem sm_Jxf58ca_floatToIntBits_5c35a : SM yJxf58ca_floatToIntBits_5c35a cJxf58ca_floatToIntBits_5c35a 1 (some .int) 1 := ⟨w_2_234, w_1_6, w_2_235, by decide +kernel⟩
theorem sm_J9_abs_0f7a4 : SM yJ9_abs_0f7a4 cJ9_abs_0f7a4 1 (some .int) 1 := ⟨w_1_125, w_1_4, w_1_126, by decide +kernel⟩
section PCB
variable {p : Program} {l : Launch} {e : Env} {R : Room} {s : State} {m : MethodId} {args : Array Value} {below : List Frame} {meth : Method} {c : Code} {H : Heap} {locs : List Loc} {cells slots : Nat} {Q : State → Prop} {pc : Nat} {ls : Array Slot} {rest st0 : List Value}
variable {cc : ByteArray} {nL : Nat} {D : va_G} {cT : Nat → ClassId} {a : Nat} {M : hmp} {own : String}
/-- behind a method that answers whether P -/
theorem pc_b {P : Prop} [Decidable P] {arr : Array Value} (hr : va_Run p l e R s m args below meth c H locs cells slots 0 0 (F0 m pc ls st0) rest (qi (fun r => r = if P then 1 else 0) H arr) (fun _ => False)) (k1 : P → W p l e R s m args below meth c H locs cells slots Q (F0 m (pc + 3) ls (.int 1 :: rest))) (k0 : ¬ P → W p l e R s m args below meth c H locs cells slots Q (F0 m (pc + 3) ls (.int 0 :: rest))) : W p l e R s m args below meth c H locs cells slots Q (F0 m pc ls st0) := by
  refine pc_i hr (fun r h => ?_)
  by_cases hP : P
  · rw [if_pos hP] at h; subst h; exact k1 hP
  · rw [if_neg hP] at h; subst h; exact k0 hP
theorem hm_aaldC (S : CallFix p m c cc nL s args lw_all own) (hK : KK D cT s) (hP : HPr D M H) (t0 : Nat) {C : String} {n : Nat} {f : Nat → Option Nat} (ha : M a = some (.inl (cT t0, n, .inr (.inr (.inr (.inr f)))))) (ht : (tysL cT)[t0]? = some (cT t0, .object C)) {i : Int32} (hin : vp_in i n) (hdg : decode cc pc = .ok (.aaload, 1))
    (k0 : f i.toNatClampNeg = none → W p l e R s m args below meth c H locs cells slots Q (F0 m (pc + 1) ls (.null :: rest))) (k1 : ∀ z, f i.toNatClampNeg = some z → W p l e R s m args below meth c H locs cells slots Q (F0 m (pc + 1) ls (.ref z :: rest))) : W p l e R s m args below meth c H locs cells slots Q (F0 m pc ls (.int i :: .ref a :: rest)) := by
  refine hm_aald S hK hP t0 ha ht hin hdg ?_
  cases hf : f i.toNatClampNeg with
  | none => exact k0 hf
  | some z => exact k1 z hf
theorem hm_aaldAC (S : CallFix p m c cc nL s args lw_all own) (hK : KK D cT s) (hP : HPr D M H) {n : Nat} {f : Nat → Option Nat} (ha : M a = some (.inl (cT 8, n, .inr (.inr (.inr (.inr f)))))) {i : Int32} (hin : vp_in i n) (hdg : decode cc pc = .ok (.aaload, 1))
    (k0 : f i.toNatClampNeg = none → W p l e R s m args below meth c H locs cells slots Q (F0 m (pc + 1) ls (.null :: rest))) (k1 : ∀ z, f i.toNatClampNeg = some z → W p l e R s m args below meth c H locs cells slots Q (F0 m (pc + 1) ls (.ref z :: rest))) : W p l e R s m args below meth c H locs cells slots Q (F0 m pc ls (.int i :: .ref a :: rest)) := by
  refine hm_aaldA S hK hP ha hin hdg ?_
  cases hf : f i.toNatClampNeg with
  | none => exact k0 hf
  | some z => exact k1 z hf
end PCB

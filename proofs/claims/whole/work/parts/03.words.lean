/-- the words of the tables that stay true over all that a run resolves -/
def lw_all : List Cond := lw_tbl.filter goodWord
theorem lw_i1 {w : Cond} (h : w ∈ tables_1_1) (g : goodWord w = true) : w ∈ lw_all := List.mem_filter.mpr ⟨List.mem_append_right _ (List.mem_append_left _ h), g⟩
theorem lw_i2 {w : Cond} (h : w ∈ tables_1_2) (g : goodWord w = true) : w ∈ lw_all := List.mem_filter.mpr ⟨List.mem_append_right _ (List.mem_append_right _ (List.mem_append_left _ h)), g⟩
theorem lw_i3 {w : Cond} (h : w ∈ tables_1_3) (g : goodWord w = true) : w ∈ lw_all := List.mem_filter.mpr ⟨List.mem_append_right _ (List.mem_append_right _ (List.mem_append_right _ h)), g⟩
theorem lw_iS {w : Cond} (h : w ∈ k2_sels lw_privs) (g : goodWord w = true) : w ∈ lw_all := List.mem_filter.mpr ⟨List.mem_append_left _ h, g⟩
theorem lw_sub {w : Cond} (h : w ∈ lw_all) : w ∈ lw_tbl := (List.mem_filter.mp h).1
theorem lw_good {ws : List Cond} (h : ∀ w ∈ ws, w ∈ lw_all) : GoodIn lw_all ws := fun w hw => ⟨h w hw, good_of_word (List.mem_filter.mp (h w hw)).2⟩
abbrev wz (y : MethodName) (cb : ByteArray) (n : Nat) (r : Option FieldType) : List Cond := Cond.code y cb n r :: lw_all
theorem wz_good {y : MethodName} {cb : ByteArray} {n : Nat} {r : Option FieldType} (h : Cond.code y cb n r ∈ lw_all) : GoodIn lw_all (wz y cb n r) := lw_good (fun w hw => (List.mem_cons.mp hw).elim (fun e => e ▸ h) id)
theorem w_1_0 : (Jvm.Cond.initialized "LoopMixerLaw") ∈ lw_all := lw_i1 (List.mem_of_getElem? (i := 0) rfl) rfl
theorem w_1_1 : (Jvm.Cond.initialized "LoopMixer") ∈ lw_all := lw_i1 (List.mem_of_getElem? (i := 1) rfl) rfl
theorem w_1_2 : (Jvm.Cond.initialized "LoopMixer$Numbers") ∈ lw_all := lw_i1 (List.mem_of_getElem? (i := 2) rfl) rfl
theorem w_1_3 : (Jvm.Cond.initialized "LoopMixerModel") ∈ lw_all := lw_i1 (List.mem_of_getElem? (i := 3) rfl) rfl
theorem w_1_4 : (Jvm.Cond.initialized "java/lang/Math") ∈ lw_all := lw_i1 (List.mem_of_getElem? (i := 4) rfl) rfl
theorem w_1_5 : (Jvm.Cond.initialized "java/lang/Double") ∈ lw_all := lw_i1 (List.mem_of_getElem? (i := 5) rfl) rfl
theorem w_1_6 : (Jvm.Cond.initialized "java/lang/Float") ∈ lw_all := lw_i1 (List.mem_of_getElem? (i := 6) rfl) rfl
theorem w_1_7 : (Jvm.Cond.initialized "LoopMixer$Effect") ∈ lw_all := lw_i1 (List.mem_of_getElem? (i := 7) rfl) rfl
theorem w_1_8 : (Jvm.Cond.initialized "LoopMixer$Rack") ∈ lw_all := lw_i1 (List.mem_of_getElem? (i := 8) rfl) rfl
theorem w_1_9 : (Jvm.Cond.initialized "LoopMixer$Head") ∈ lw_all := lw_i1 (List.mem_of_getElem? (i := 9) rfl) rfl
theorem w_1_10 : (Jvm.Cond.classLink "LoopMixerLaw" (7 : Nat) "LoopMixer") ∈ lw_all := lw_i1 (List.mem_of_getElem? (i := 10) rfl) rfl
theorem w_1_11 : (Jvm.Cond.instantiable "LoopMixer" (10 : Nat)) ∈ lw_all := lw_i1 (List.mem_of_getElem? (i := 11) rfl) rfl
theorem w_1_12 : (Jvm.Cond.methodLink "LoopMixerLaw" (9 : Nat) ({ cls := "LoopMixer", name := "<init>", desc := "()V" } : Jvm.MethodName)) ∈ lw_all := lw_i1 (List.mem_of_getElem? (i := 12) rfl) rfl
theorem w_1_13 : (Jvm.Cond.instanceMethod ({ cls := "LoopMixer", name := "<init>", desc := "()V" } : Jvm.MethodName)) ∈ lw_all := lw_i1 (List.mem_of_getElem? (i := 13) rfl) rfl
theorem w_1_14 : (Jvm.Cond.code ({ cls := "LoopMixer", name := "<init>", desc := "()V" } : Jvm.MethodName) prog_1_method_1_code (1 : Nat) (Option.none : Option Jvm.ClassFile.FieldType)) ∈ lw_all := lw_i1 (List.mem_of_getElem? (i := 14) rfl) rfl
theorem w_1_15 : (Jvm.Cond.methodLink "LoopMixer" (1 : Nat) ({ cls := "java/lang/Object", name := "<init>", desc := "()V" } : Jvm.MethodName)) ∈ lw_all := lw_i1 (List.mem_of_getElem? (i := 15) rfl) rfl
theorem w_1_16 : (Jvm.Cond.instanceMethod ({ cls := "java/lang/Object", name := "<init>", desc := "()V" } : Jvm.MethodName)) ∈ lw_all := lw_i1 (List.mem_of_getElem? (i := 16) rfl) rfl
theorem w_1_17 : (Jvm.Cond.code ({ cls := "java/lang/Object", name := "<init>", desc := "()V" } : Jvm.MethodName) object_method_1_code (1 : Nat) (Option.none : Option Jvm.ClassFile.FieldType)) ∈ lw_all := lw_i1 (List.mem_of_getElem? (i := 17) rfl) rfl
theorem w_1_18 : (Jvm.Cond.classLink "LoopMixer" (7 : Nat) "LoopMixer$Numbers") ∈ lw_all := lw_i1 (List.mem_of_getElem? (i := 18) rfl) rfl
theorem w_1_19 : (Jvm.Cond.instantiable "LoopMixer$Numbers" (2 : Nat)) ∈ lw_all := lw_i1 (List.mem_of_getElem? (i := 19) rfl) rfl
theorem w_1_20 : (Jvm.Cond.methodLink "LoopMixer" (9 : Nat) ({ cls := "LoopMixer$Numbers", name := "<init>", desc := "()V" } : Jvm.MethodName)) ∈ lw_all := lw_i1 (List.mem_of_getElem? (i := 20) rfl) rfl
theorem w_1_21 : (Jvm.Cond.instanceMethod ({ cls := "LoopMixer$Numbers", name := "<init>", desc := "()V" } : Jvm.MethodName)) ∈ lw_all := lw_i1 (List.mem_of_getElem? (i := 21) rfl) rfl
theorem w_1_22 : (Jvm.Cond.code ({ cls := "LoopMixer$Numbers", name := "<init>", desc := "()V" } : Jvm.MethodName) prog_4_method_1_code (4 : Nat) (Option.none : Option Jvm.ClassFile.FieldType)) ∈ lw_all := lw_i1 (List.mem_of_getElem? (i := 22) rfl) rfl
theorem w_1_23 : (Jvm.Cond.methodLink "LoopMixer$Numbers" (1 : Nat) ({ cls := "java/lang/Object", name := "<init>", desc := "()V" } : Jvm.MethodName)) ∈ lw_all := lw_i1 (List.mem_of_getElem? (i := 23) rfl) rfl
theorem w_1_24 : (Jvm.Cond.constantDouble "LoopMixer$Numbers" (16 : Nat) (4611686018427387904 : UInt64)) ∈ lw_all := lw_i1 (List.mem_of_getElem? (i := 24) rfl) rfl
theorem w_1_25 : (Jvm.Cond.fieldLink "LoopMixer$Numbers" (9 : Nat) "LoopMixer$Numbers" "up" "[D") ∈ lw_all := lw_i1 (List.mem_of_getElem? (i := 25) rfl) rfl
theorem w_1_26 : (Jvm.Cond.fieldLink "LoopMixer$Numbers" (13 : Nat) "LoopMixer$Numbers" "down" "[D") ∈ lw_all := lw_i1 (List.mem_of_getElem? (i := 26) rfl) rfl
theorem w_1_27 : (Jvm.Cond.laysFinal "LoopMixer$Numbers" "LoopMixer$Numbers" "up" "[D") ∈ lw_all := lw_i1 (List.mem_of_getElem? (i := 27) rfl) rfl
theorem w_1_28 : (Jvm.Cond.soleField "LoopMixer$Numbers" "up") ∈ lw_all := lw_i1 (List.mem_of_getElem? (i := 28) rfl) rfl
theorem w_1_29 : (Jvm.Cond.laysFinal "LoopMixer$Numbers" "LoopMixer$Numbers" "down" "[D") ∈ lw_all := lw_i1 (List.mem_of_getElem? (i := 29) rfl) rfl
theorem w_1_30 : (Jvm.Cond.soleField "LoopMixer$Numbers" "down") ∈ lw_all := lw_i1 (List.mem_of_getElem? (i := 30) rfl) rfl
theorem w_1_31 : (Jvm.Cond.superclass "LoopMixer$Numbers" "java/lang/Object") ∈ lw_all := lw_i1 (List.mem_of_getElem? (i := 31) rfl) rfl
theorem w_1_32 : (Jvm.Cond.arrayClass Jvm.ClassFile.FieldType.double) ∈ lw_all := lw_i1 (List.mem_of_getElem? (i := 32) rfl) rfl
theorem w_1_33 : (Jvm.Cond.classLink "LoopMixer" (16 : Nat) "[D") ∈ lw_all := lw_i1 (List.mem_of_getElem? (i := 33) rfl) rfl
theorem w_1_35 : (Jvm.Cond.classLink "LoopMixer" (25 : Nat) "LoopMixer$Effect") ∈ lw_all := lw_i1 (List.mem_of_getElem? (i := 35) rfl) rfl
theorem w_1_37 : (Jvm.Cond.classLink "LoopMixer" (31 : Nat) "LoopMixer$Rack") ∈ lw_all := lw_i1 (List.mem_of_getElem? (i := 37) rfl) rfl
theorem w_1_39 : (Jvm.Cond.classLink "LoopMixer" (37 : Nat) "LoopMixer$Head") ∈ lw_all := lw_i1 (List.mem_of_getElem? (i := 39) rfl) rfl
theorem w_1_41 : (Jvm.Cond.fieldLink "LoopMixer" (10 : Nat) "LoopMixer" "numbers" "LLoopMixer$Numbers;") ∈ lw_all := lw_i1 (List.mem_of_getElem? (i := 41) rfl) rfl
theorem w_1_42 : (Jvm.Cond.fieldLink "LoopMixer" (18 : Nat) "LoopMixer" "tracks" "[[D") ∈ lw_all := lw_i1 (List.mem_of_getElem? (i := 42) rfl) rfl
theorem w_1_43 : (Jvm.Cond.fieldLink "LoopMixer" (22 : Nat) "LoopMixer" "curves" "[[D") ∈ lw_all := lw_i1 (List.mem_of_getElem? (i := 43) rfl) rfl
theorem w_1_44 : (Jvm.Cond.fieldLink "LoopMixer" (27 : Nat) "LoopMixer" "effects" "[LLoopMixer$Effect;") ∈ lw_all := lw_i1 (List.mem_of_getElem? (i := 44) rfl) rfl
theorem w_1_45 : (Jvm.Cond.fieldLink "LoopMixer" (33 : Nat) "LoopMixer" "racks" "[LLoopMixer$Rack;") ∈ lw_all := lw_i1 (List.mem_of_getElem? (i := 45) rfl) rfl
theorem w_1_46 : (Jvm.Cond.fieldLink "LoopMixer" (39 : Nat) "LoopMixer" "heads" "[LLoopMixer$Head;") ∈ lw_all := lw_i1 (List.mem_of_getElem? (i := 46) rfl) rfl
theorem w_1_47 : (Jvm.Cond.fieldLink "LoopMixer" (43 : Nat) "LoopMixer" "mixed" "[F") ∈ lw_all := lw_i1 (List.mem_of_getElem? (i := 47) rfl) rfl
theorem w_1_48 : (Jvm.Cond.fieldLink "LoopMixer" (47 : Nat) "LoopMixer" "latestFailure" "I") ∈ lw_all := lw_i1 (List.mem_of_getElem? (i := 48) rfl) rfl
theorem w_1_49 : (Jvm.Cond.fieldLink "LoopMixer" (51 : Nat) "LoopMixer" "time" "J") ∈ lw_all := lw_i1 (List.mem_of_getElem? (i := 49) rfl) rfl
theorem w_1_50 : (Jvm.Cond.fieldLink "LoopMixer" (55 : Nat) "LoopMixer" "latestTold" "J") ∈ lw_all := lw_i1 (List.mem_of_getElem? (i := 50) rfl) rfl
theorem w_1_51 : (Jvm.Cond.laysFinal "LoopMixer" "LoopMixer" "numbers" "LLoopMixer$Numbers;") ∈ lw_all := lw_i1 (List.mem_of_getElem? (i := 51) rfl) rfl
theorem w_1_52 : (Jvm.Cond.soleField "LoopMixer" "numbers") ∈ lw_all := lw_i1 (List.mem_of_getElem? (i := 52) rfl) rfl
theorem w_1_53 : (Jvm.Cond.laysFinal "LoopMixer" "LoopMixer" "tracks" "[[D") ∈ lw_all := lw_i1 (List.mem_of_getElem? (i := 53) rfl) rfl
theorem w_1_54 : (Jvm.Cond.soleField "LoopMixer" "tracks") ∈ lw_all := lw_i1 (List.mem_of_getElem? (i := 54) rfl) rfl
theorem w_1_55 : (Jvm.Cond.laysFinal "LoopMixer" "LoopMixer" "curves" "[[D") ∈ lw_all := lw_i1 (List.mem_of_getElem? (i := 55) rfl) rfl
theorem w_1_56 : (Jvm.Cond.soleField "LoopMixer" "curves") ∈ lw_all := lw_i1 (List.mem_of_getElem? (i := 56) rfl) rfl
theorem w_1_57 : (Jvm.Cond.laysFinal "LoopMixer" "LoopMixer" "effects" "[LLoopMixer$Effect;") ∈ lw_all := lw_i1 (List.mem_of_getElem? (i := 57) rfl) rfl
theorem w_1_58 : (Jvm.Cond.soleField "LoopMixer" "effects") ∈ lw_all := lw_i1 (List.mem_of_getElem? (i := 58) rfl) rfl
theorem w_1_59 : (Jvm.Cond.laysFinal "LoopMixer" "LoopMixer" "racks" "[LLoopMixer$Rack;") ∈ lw_all := lw_i1 (List.mem_of_getElem? (i := 59) rfl) rfl
theorem w_1_60 : (Jvm.Cond.soleField "LoopMixer" "racks") ∈ lw_all := lw_i1 (List.mem_of_getElem? (i := 60) rfl) rfl
theorem w_1_61 : (Jvm.Cond.laysFinal "LoopMixer" "LoopMixer" "heads" "[LLoopMixer$Head;") ∈ lw_all := lw_i1 (List.mem_of_getElem? (i := 61) rfl) rfl
theorem w_1_62 : (Jvm.Cond.soleField "LoopMixer" "heads") ∈ lw_all := lw_i1 (List.mem_of_getElem? (i := 62) rfl) rfl
theorem w_1_63 : (Jvm.Cond.laysFinal "LoopMixer" "LoopMixer" "mixed" "[F") ∈ lw_all := lw_i1 (List.mem_of_getElem? (i := 63) rfl) rfl
theorem w_1_64 : (Jvm.Cond.soleField "LoopMixer" "mixed") ∈ lw_all := lw_i1 (List.mem_of_getElem? (i := 64) rfl) rfl
theorem w_1_65 : (Jvm.Cond.lays "LoopMixer" "LoopMixer" "latestFailure" "I") ∈ lw_all := lw_i1 (List.mem_of_getElem? (i := 65) rfl) rfl
theorem w_1_66 : (Jvm.Cond.soleField "LoopMixer" "latestFailure") ∈ lw_all := lw_i1 (List.mem_of_getElem? (i := 66) rfl) rfl
theorem w_1_67 : (Jvm.Cond.lays "LoopMixer" "LoopMixer" "time" "J") ∈ lw_all := lw_i1 (List.mem_of_getElem? (i := 67) rfl) rfl
theorem w_1_68 : (Jvm.Cond.soleField "LoopMixer" "time") ∈ lw_all := lw_i1 (List.mem_of_getElem? (i := 68) rfl) rfl
theorem w_1_69 : (Jvm.Cond.lays "LoopMixer" "LoopMixer" "latestTold" "J") ∈ lw_all := lw_i1 (List.mem_of_getElem? (i := 69) rfl) rfl
theorem w_1_70 : (Jvm.Cond.soleField "LoopMixer" "latestTold") ∈ lw_all := lw_i1 (List.mem_of_getElem? (i := 70) rfl) rfl
theorem w_1_71 : (Jvm.Cond.superclass "LoopMixer" "java/lang/Object") ∈ lw_all := lw_i1 (List.mem_of_getElem? (i := 71) rfl) rfl
theorem w_1_73 : (Jvm.Cond.methodLink "LoopMixerLaw" (13 : Nat) ({ cls := "LoopMixer", name := "row", desc := "(ZII)I" } : Jvm.MethodName)) ∈ lw_all := lw_i1 (List.mem_of_getElem? (i := 73) rfl) rfl
theorem w_1_74 : (Jvm.Cond.instanceMethod ({ cls := "LoopMixer", name := "row", desc := "(ZII)I" } : Jvm.MethodName)) ∈ lw_all := lw_i1 (List.mem_of_getElem? (i := 74) rfl) rfl
theorem w_1_75 : (Jvm.Cond.selects "LoopMixer" ({ cls := "LoopMixer", name := "row", desc := "(ZII)I" } : Jvm.MethodName) ({ cls := "LoopMixer", name := "row", desc := "(ZII)I" } : Jvm.MethodName)) ∈ lw_all := lw_i1 (List.mem_of_getElem? (i := 75) rfl) rfl
theorem w_1_76 : (Jvm.Cond.code ({ cls := "LoopMixer", name := "row", desc := "(ZII)I" } : Jvm.MethodName) prog_1_method_2_code (4 : Nat) (Option.some Jvm.ClassFile.FieldType.int)) ∈ lw_all := lw_i1 (List.mem_of_getElem? (i := 76) rfl) rfl
theorem w_1_77 : (Jvm.Cond.methodLink "LoopMixer" (58 : Nat) ({ cls := "LoopMixer", name := "isBelow", desc := "(II)Z" } : Jvm.MethodName)) ∈ lw_all := lw_i1 (List.mem_of_getElem? (i := 77) rfl) rfl
theorem w_1_78 : (Jvm.Cond.static ({ cls := "LoopMixer", name := "isBelow", desc := "(II)Z" } : Jvm.MethodName)) ∈ lw_all := lw_i1 (List.mem_of_getElem? (i := 78) rfl) rfl
theorem w_1_79 : (Jvm.Cond.code ({ cls := "LoopMixer", name := "isBelow", desc := "(II)Z" } : Jvm.MethodName) prog_1_method_21_code (2 : Nat) (Option.some Jvm.ClassFile.FieldType.boolean)) ∈ lw_all := lw_i1 (List.mem_of_getElem? (i := 79) rfl) rfl
theorem w_1_80 : (Jvm.Cond.methodLink "LoopMixer" (62 : Nat) ({ cls := "LoopMixer", name := "rowsOf", desc := "(Z)[[D" } : Jvm.MethodName)) ∈ lw_all := lw_i1 (List.mem_of_getElem? (i := 80) rfl) rfl
theorem w_1_82 : (Jvm.Cond.instanceMethod ({ cls := "LoopMixer", name := "rowsOf", desc := "(Z)[[D" } : Jvm.MethodName)) ∈ lw_all := lw_i1 (List.mem_of_getElem? (i := 82) rfl) rfl
theorem w_1_83 : (Jvm.Cond.code ({ cls := "LoopMixer", name := "rowsOf", desc := "(Z)[[D" } : Jvm.MethodName) prog_1_method_26_code (2 : Nat) (Option.some (Jvm.ClassFile.FieldType.array (Jvm.ClassFile.FieldType.array Jvm.ClassFile.FieldType.double)))) ∈ lw_all := lw_i1 (List.mem_of_getElem? (i := 83) rfl) rfl
theorem w_1_84 : (Jvm.Cond.methodLink "LoopMixerLaw" (18 : Nat) ({ cls := "LoopMixer", name := "share", desc := "(ZII)I" } : Jvm.MethodName)) ∈ lw_all := lw_i1 (List.mem_of_getElem? (i := 84) rfl) rfl
theorem w_1_85 : (Jvm.Cond.instanceMethod ({ cls := "LoopMixer", name := "share", desc := "(ZII)I" } : Jvm.MethodName)) ∈ lw_all := lw_i1 (List.mem_of_getElem? (i := 85) rfl) rfl
theorem w_1_86 : (Jvm.Cond.selects "LoopMixer" ({ cls := "LoopMixer", name := "share", desc := "(ZII)I" } : Jvm.MethodName) ({ cls := "LoopMixer", name := "share", desc := "(ZII)I" } : Jvm.MethodName)) ∈ lw_all := lw_i1 (List.mem_of_getElem? (i := 86) rfl) rfl
theorem w_1_87 : (Jvm.Cond.code ({ cls := "LoopMixer", name := "share", desc := "(ZII)I" } : Jvm.MethodName) prog_1_method_3_code (5 : Nat) (Option.some Jvm.ClassFile.FieldType.int)) ∈ lw_all := lw_i1 (List.mem_of_getElem? (i := 87) rfl) rfl
theorem w_1_88 : (Jvm.Cond.methodLink "LoopMixerLaw" (22 : Nat) ({ cls := "LoopMixer", name := "drop", desc := "(ZI)I" } : Jvm.MethodName)) ∈ lw_all := lw_i1 (List.mem_of_getElem? (i := 88) rfl) rfl
theorem w_1_89 : (Jvm.Cond.instanceMethod ({ cls := "LoopMixer", name := "drop", desc := "(ZI)I" } : Jvm.MethodName)) ∈ lw_all := lw_i1 (List.mem_of_getElem? (i := 89) rfl) rfl
theorem w_1_90 : (Jvm.Cond.selects "LoopMixer" ({ cls := "LoopMixer", name := "drop", desc := "(ZI)I" } : Jvm.MethodName) ({ cls := "LoopMixer", name := "drop", desc := "(ZI)I" } : Jvm.MethodName)) ∈ lw_all := lw_i1 (List.mem_of_getElem? (i := 90) rfl) rfl
theorem w_1_91 : (Jvm.Cond.code ({ cls := "LoopMixer", name := "drop", desc := "(ZI)I" } : Jvm.MethodName) prog_1_method_4_code (5 : Nat) (Option.some Jvm.ClassFile.FieldType.int)) ∈ lw_all := lw_i1 (List.mem_of_getElem? (i := 91) rfl) rfl
theorem w_1_92 : (Jvm.Cond.methodLink "LoopMixerLaw" (29 : Nat) ({ cls := "LoopMixer", name := "set", desc := "(ZIIJ)I" } : Jvm.MethodName)) ∈ lw_all := lw_i1 (List.mem_of_getElem? (i := 92) rfl) rfl
theorem w_1_93 : (Jvm.Cond.instanceMethod ({ cls := "LoopMixer", name := "set", desc := "(ZIIJ)I" } : Jvm.MethodName)) ∈ lw_all := lw_i1 (List.mem_of_getElem? (i := 93) rfl) rfl
theorem w_1_94 : (Jvm.Cond.selects "LoopMixer" ({ cls := "LoopMixer", name := "set", desc := "(ZIIJ)I" } : Jvm.MethodName) ({ cls := "LoopMixer", name := "set", desc := "(ZIIJ)I" } : Jvm.MethodName)) ∈ lw_all := lw_i1 (List.mem_of_getElem? (i := 94) rfl) rfl
theorem w_1_95 : (Jvm.Cond.code ({ cls := "LoopMixer", name := "set", desc := "(ZIIJ)I" } : Jvm.MethodName) prog_1_method_5_code (7 : Nat) (Option.some Jvm.ClassFile.FieldType.int)) ∈ lw_all := lw_i1 (List.mem_of_getElem? (i := 95) rfl) rfl
theorem w_1_96 : (Jvm.Cond.methodLink "LoopMixer" (66 : Nat) ({ cls := "LoopMixer$Numbers", name := "isDouble", desc := "(J)Z" } : Jvm.MethodName)) ∈ lw_all := lw_i1 (List.mem_of_getElem? (i := 96) rfl) rfl
theorem w_1_97 : (Jvm.Cond.static ({ cls := "LoopMixer$Numbers", name := "isDouble", desc := "(J)Z" } : Jvm.MethodName)) ∈ lw_all := lw_i1 (List.mem_of_getElem? (i := 97) rfl) rfl
theorem w_1_98 : (Jvm.Cond.code ({ cls := "LoopMixer$Numbers", name := "isDouble", desc := "(J)Z" } : Jvm.MethodName) prog_4_method_2_code (2 : Nat) (Option.some Jvm.ClassFile.FieldType.boolean)) ∈ lw_all := lw_i1 (List.mem_of_getElem? (i := 98) rfl) rfl
theorem w_1_99 : (Jvm.Cond.constantLong "LoopMixer$Numbers" (18 : Nat) (9218868437227405312 : Int64)) ∈ lw_all := lw_i1 (List.mem_of_getElem? (i := 99) rfl) rfl
theorem w_1_100 : (Jvm.Cond.methodLink "LoopMixer" (70 : Nat) ({ cls := "LoopMixer$Numbers", name := "isFloat", desc := "(J)Z" } : Jvm.MethodName)) ∈ lw_all := lw_i1 (List.mem_of_getElem? (i := 100) rfl) rfl
theorem w_1_101 : (Jvm.Cond.static ({ cls := "LoopMixer$Numbers", name := "isFloat", desc := "(J)Z" } : Jvm.MethodName)) ∈ lw_all := lw_i1 (List.mem_of_getElem? (i := 101) rfl) rfl
theorem w_1_102 : (Jvm.Cond.code ({ cls := "LoopMixer$Numbers", name := "isFloat", desc := "(J)Z" } : Jvm.MethodName) prog_4_method_3_code (2 : Nat) (Option.some Jvm.ClassFile.FieldType.boolean)) ∈ lw_all := lw_i1 (List.mem_of_getElem? (i := 102) rfl) rfl
theorem w_1_103 : (Jvm.Cond.constantLong "LoopMixer$Numbers" (20 : Nat) (2139095040 : Int64)) ∈ lw_all := lw_i1 (List.mem_of_getElem? (i := 103) rfl) rfl
theorem w_1_104 : (Jvm.Cond.methodLink "LoopMixer" (73 : Nat) ({ cls := "LoopMixer", name := "answerFor", desc := "(I)I" } : Jvm.MethodName)) ∈ lw_all := lw_i1 (List.mem_of_getElem? (i := 104) rfl) rfl
theorem w_1_105 : (Jvm.Cond.static ({ cls := "LoopMixer", name := "answerFor", desc := "(I)I" } : Jvm.MethodName)) ∈ lw_all := lw_i1 (List.mem_of_getElem? (i := 105) rfl) rfl
theorem w_1_106 : (Jvm.Cond.code ({ cls := "LoopMixer", name := "answerFor", desc := "(I)I" } : Jvm.MethodName) prog_1_method_24_code (1 : Nat) (Option.some Jvm.ClassFile.FieldType.int)) ∈ lw_all := lw_i1 (List.mem_of_getElem? (i := 106) rfl) rfl
theorem w_1_107 : (Jvm.Cond.methodLink "LoopMixer" (77 : Nat) ({ cls := "LoopMixer$Numbers", name := "doubleOf", desc := "(J)D" } : Jvm.MethodName)) ∈ lw_all := lw_i1 (List.mem_of_getElem? (i := 107) rfl) rfl
theorem w_1_108 : (Jvm.Cond.instanceMethod ({ cls := "LoopMixer$Numbers", name := "doubleOf", desc := "(J)D" } : Jvm.MethodName)) ∈ lw_all := lw_i1 (List.mem_of_getElem? (i := 108) rfl) rfl
theorem w_1_109 : (Jvm.Cond.selects "LoopMixer$Numbers" ({ cls := "LoopMixer$Numbers", name := "doubleOf", desc := "(J)D" } : Jvm.MethodName) ({ cls := "LoopMixer$Numbers", name := "doubleOf", desc := "(J)D" } : Jvm.MethodName)) ∈ lw_all := lw_i1 (List.mem_of_getElem? (i := 109) rfl) rfl
theorem w_1_110 : (Jvm.Cond.code ({ cls := "LoopMixer$Numbers", name := "doubleOf", desc := "(J)D" } : Jvm.MethodName) prog_4_method_6_code (5 : Nat) (Option.some Jvm.ClassFile.FieldType.double)) ∈ lw_all := lw_i1 (List.mem_of_getElem? (i := 110) rfl) rfl
theorem w_1_111 : (Jvm.Cond.constantLong "LoopMixer$Numbers" (28 : Nat) (9223372036854775807 : Int64)) ∈ lw_all := lw_i1 (List.mem_of_getElem? (i := 111) rfl) rfl
theorem w_1_112 : (Jvm.Cond.methodLink "LoopMixer$Numbers" (30 : Nat) ({ cls := "LoopMixer$Numbers", name := "sizeToldBy", desc := "(JII)D" } : Jvm.MethodName)) ∈ lw_all := lw_i1 (List.mem_of_getElem? (i := 112) rfl) rfl
theorem w_1_114 : (Jvm.Cond.instanceMethod ({ cls := "LoopMixer$Numbers", name := "sizeToldBy", desc := "(JII)D" } : Jvm.MethodName)) ∈ lw_all := lw_i1 (List.mem_of_getElem? (i := 114) rfl) rfl
theorem w_1_115 : (Jvm.Cond.code ({ cls := "LoopMixer$Numbers", name := "sizeToldBy", desc := "(JII)D" } : Jvm.MethodName) prog_4_method_12_code (10 : Nat) (Option.some Jvm.ClassFile.FieldType.double)) ∈ lw_all := lw_i1 (List.mem_of_getElem? (i := 115) rfl) rfl
theorem w_1_116 : (Jvm.Cond.methodLink "LoopMixer$Numbers" (48 : Nat) ({ cls := "LoopMixer$Numbers", name := "scaled", desc := "(DI)D" } : Jvm.MethodName)) ∈ lw_all := lw_i1 (List.mem_of_getElem? (i := 116) rfl) rfl
theorem w_1_118 : (Jvm.Cond.instanceMethod ({ cls := "LoopMixer$Numbers", name := "scaled", desc := "(DI)D" } : Jvm.MethodName)) ∈ lw_all := lw_i1 (List.mem_of_getElem? (i := 118) rfl) rfl
theorem w_1_119 : (Jvm.Cond.code ({ cls := "LoopMixer$Numbers", name := "scaled", desc := "(DI)D" } : Jvm.MethodName) prog_4_method_14_code (5 : Nat) (Option.some Jvm.ClassFile.FieldType.double)) ∈ lw_all := lw_i1 (List.mem_of_getElem? (i := 119) rfl) rfl
theorem w_1_120 : (Jvm.Cond.methodLink "LoopMixer$Numbers" (52 : Nat) ({ cls := "LoopMixer$Numbers", name := "powerOfTwo", desc := "(I)D" } : Jvm.MethodName)) ∈ lw_all := lw_i1 (List.mem_of_getElem? (i := 120) rfl) rfl
theorem w_1_122 : (Jvm.Cond.instanceMethod ({ cls := "LoopMixer$Numbers", name := "powerOfTwo", desc := "(I)D" } : Jvm.MethodName)) ∈ lw_all := lw_i1 (List.mem_of_getElem? (i := 122) rfl) rfl
theorem w_1_123 : (Jvm.Cond.code ({ cls := "LoopMixer$Numbers", name := "powerOfTwo", desc := "(I)D" } : Jvm.MethodName) prog_4_method_15_code (7 : Nat) (Option.some Jvm.ClassFile.FieldType.double)) ∈ lw_all := lw_i1 (List.mem_of_getElem? (i := 123) rfl) rfl
theorem w_1_124 : (Jvm.Cond.methodLink "LoopMixer$Numbers" (56 : Nat) ({ cls := "java/lang/Math", name := "abs", desc := "(I)I" } : Jvm.MethodName)) ∈ lw_all := lw_i1 (List.mem_of_getElem? (i := 124) rfl) rfl
theorem w_1_125 : (Jvm.Cond.static ({ cls := "java/lang/Math", name := "abs", desc := "(I)I" } : Jvm.MethodName)) ∈ lw_all := lw_i1 (List.mem_of_getElem? (i := 125) rfl) rfl
theorem w_1_126 : (Jvm.Cond.code ({ cls := "java/lang/Math", name := "abs", desc := "(I)I" } : Jvm.MethodName) prog_10_method_59_code (1 : Nat) (Option.some Jvm.ClassFile.FieldType.int)) ∈ lw_all := lw_i1 (List.mem_of_getElem? (i := 126) rfl) rfl
theorem w_1_127 : (Jvm.Cond.constantLong "LoopMixer$Numbers" (34 : Nat) (-9223372036854775808 : Int64)) ∈ lw_all := lw_i1 (List.mem_of_getElem? (i := 127) rfl) rfl
theorem w_1_128 : (Jvm.Cond.methodLink "LoopMixer" (81 : Nat) ({ cls := "LoopMixer$Numbers", name := "floatOf", desc := "(J)F" } : Jvm.MethodName)) ∈ lw_all := lw_i1 (List.mem_of_getElem? (i := 128) rfl) rfl
theorem w_1_129 : (Jvm.Cond.instanceMethod ({ cls := "LoopMixer$Numbers", name := "floatOf", desc := "(J)F" } : Jvm.MethodName)) ∈ lw_all := lw_i1 (List.mem_of_getElem? (i := 129) rfl) rfl
theorem w_1_130 : (Jvm.Cond.selects "LoopMixer$Numbers" ({ cls := "LoopMixer$Numbers", name := "floatOf", desc := "(J)F" } : Jvm.MethodName) ({ cls := "LoopMixer$Numbers", name := "floatOf", desc := "(J)F" } : Jvm.MethodName)) ∈ lw_all := lw_i1 (List.mem_of_getElem? (i := 130) rfl) rfl
theorem w_1_131 : (Jvm.Cond.code ({ cls := "LoopMixer$Numbers", name := "floatOf", desc := "(J)F" } : Jvm.MethodName) prog_4_method_7_code (5 : Nat) (Option.some Jvm.ClassFile.FieldType.float)) ∈ lw_all := lw_i1 (List.mem_of_getElem? (i := 131) rfl) rfl
theorem w_1_132 : (Jvm.Cond.constantLong "LoopMixer$Numbers" (36 : Nat) (2147483647 : Int64)) ∈ lw_all := lw_i1 (List.mem_of_getElem? (i := 132) rfl) rfl
theorem w_1_133 : (Jvm.Cond.constantLong "LoopMixer$Numbers" (38 : Nat) (2147483648 : Int64)) ∈ lw_all := lw_i1 (List.mem_of_getElem? (i := 133) rfl) rfl
theorem w_1_134 : (Jvm.Cond.methodLink "LoopMixerLaw" (34 : Nat) ({ cls := "LoopMixer", name := "get", desc := "(ZII)I" } : Jvm.MethodName)) ∈ lw_all := lw_i1 (List.mem_of_getElem? (i := 134) rfl) rfl
theorem w_1_135 : (Jvm.Cond.instanceMethod ({ cls := "LoopMixer", name := "get", desc := "(ZII)I" } : Jvm.MethodName)) ∈ lw_all := lw_i1 (List.mem_of_getElem? (i := 135) rfl) rfl
theorem w_1_136 : (Jvm.Cond.selects "LoopMixer" ({ cls := "LoopMixer", name := "get", desc := "(ZII)I" } : Jvm.MethodName) ({ cls := "LoopMixer", name := "get", desc := "(ZII)I" } : Jvm.MethodName)) ∈ lw_all := lw_i1 (List.mem_of_getElem? (i := 136) rfl) rfl
theorem w_1_137 : (Jvm.Cond.code ({ cls := "LoopMixer", name := "get", desc := "(ZII)I" } : Jvm.MethodName) prog_1_method_6_code (5 : Nat) (Option.some Jvm.ClassFile.FieldType.int)) ∈ lw_all := lw_i1 (List.mem_of_getElem? (i := 137) rfl) rfl
theorem w_1_138 : (Jvm.Cond.methodLink "LoopMixer" (85 : Nat) ({ cls := "LoopMixer$Numbers", name := "bitsOfDouble", desc := "(D)J" } : Jvm.MethodName)) ∈ lw_all := lw_i1 (List.mem_of_getElem? (i := 138) rfl) rfl
theorem w_1_139 : (Jvm.Cond.instanceMethod ({ cls := "LoopMixer$Numbers", name := "bitsOfDouble", desc := "(D)J" } : Jvm.MethodName)) ∈ lw_all := lw_i1 (List.mem_of_getElem? (i := 139) rfl) rfl
theorem w_1_140 : (Jvm.Cond.selects "LoopMixer$Numbers" ({ cls := "LoopMixer$Numbers", name := "bitsOfDouble", desc := "(D)J" } : Jvm.MethodName) ({ cls := "LoopMixer$Numbers", name := "bitsOfDouble", desc := "(D)J" } : Jvm.MethodName)) ∈ lw_all := lw_i1 (List.mem_of_getElem? (i := 140) rfl) rfl
theorem w_1_141 : (Jvm.Cond.code ({ cls := "LoopMixer$Numbers", name := "bitsOfDouble", desc := "(D)J" } : Jvm.MethodName) prog_4_method_8_code (5 : Nat) (Option.some Jvm.ClassFile.FieldType.long)) ∈ lw_all := lw_i1 (List.mem_of_getElem? (i := 141) rfl) rfl
theorem w_1_142 : (Jvm.Cond.methodLink "LoopMixer$Numbers" (24 : Nat) ({ cls := "LoopMixer$Numbers", name := "sizeOf", desc := "(D)D" } : Jvm.MethodName)) ∈ lw_all := lw_i1 (List.mem_of_getElem? (i := 142) rfl) rfl
theorem w_1_143 : (Jvm.Cond.static ({ cls := "LoopMixer$Numbers", name := "sizeOf", desc := "(D)D" } : Jvm.MethodName)) ∈ lw_all := lw_i1 (List.mem_of_getElem? (i := 143) rfl) rfl
theorem w_1_144 : (Jvm.Cond.code ({ cls := "LoopMixer$Numbers", name := "sizeOf", desc := "(D)D" } : Jvm.MethodName) prog_4_method_10_code (2 : Nat) (Option.some Jvm.ClassFile.FieldType.double)) ∈ lw_all := lw_i1 (List.mem_of_getElem? (i := 144) rfl) rfl
theorem w_1_145 : (Jvm.Cond.methodLink "LoopMixer$Numbers" (40 : Nat) ({ cls := "LoopMixer$Numbers", name := "bitsOfSize", desc := "(DII)J" } : Jvm.MethodName)) ∈ lw_all := lw_i1 (List.mem_of_getElem? (i := 145) rfl) rfl
theorem w_1_147 : (Jvm.Cond.instanceMethod ({ cls := "LoopMixer$Numbers", name := "bitsOfSize", desc := "(DII)J" } : Jvm.MethodName)) ∈ lw_all := lw_i1 (List.mem_of_getElem? (i := 147) rfl) rfl
theorem w_1_148 : (Jvm.Cond.code ({ cls := "LoopMixer$Numbers", name := "bitsOfSize", desc := "(DII)J" } : Jvm.MethodName) prog_4_method_13_code (10 : Nat) (Option.some Jvm.ClassFile.FieldType.long)) ∈ lw_all := lw_i1 (List.mem_of_getElem? (i := 148) rfl) rfl
theorem w_1_149 : (Jvm.Cond.methodLink "LoopMixer$Numbers" (44 : Nat) ({ cls := "LoopMixer$Numbers", name := "isSigned", desc := "(D)Z" } : Jvm.MethodName)) ∈ lw_all := lw_i1 (List.mem_of_getElem? (i := 149) rfl) rfl
theorem w_1_150 : (Jvm.Cond.static ({ cls := "LoopMixer$Numbers", name := "isSigned", desc := "(D)Z" } : Jvm.MethodName)) ∈ lw_all := lw_i1 (List.mem_of_getElem? (i := 150) rfl) rfl
theorem w_1_151 : (Jvm.Cond.code ({ cls := "LoopMixer$Numbers", name := "isSigned", desc := "(D)Z" } : Jvm.MethodName) prog_4_method_11_code (2 : Nat) (Option.some Jvm.ClassFile.FieldType.boolean)) ∈ lw_all := lw_i1 (List.mem_of_getElem? (i := 151) rfl) rfl
theorem w_1_152 : (Jvm.Cond.methodLink "LoopMixer" (89 : Nat) ({ cls := "LoopMixer$Numbers", name := "bitsOfFloat", desc := "(F)I" } : Jvm.MethodName)) ∈ lw_all := lw_i1 (List.mem_of_getElem? (i := 152) rfl) rfl
theorem w_1_153 : (Jvm.Cond.instanceMethod ({ cls := "LoopMixer$Numbers", name := "bitsOfFloat", desc := "(F)I" } : Jvm.MethodName)) ∈ lw_all := lw_i1 (List.mem_of_getElem? (i := 153) rfl) rfl
theorem w_1_154 : (Jvm.Cond.selects "LoopMixer$Numbers" ({ cls := "LoopMixer$Numbers", name := "bitsOfFloat", desc := "(F)I" } : Jvm.MethodName) ({ cls := "LoopMixer$Numbers", name := "bitsOfFloat", desc := "(F)I" } : Jvm.MethodName)) ∈ lw_all := lw_i1 (List.mem_of_getElem? (i := 154) rfl) rfl
theorem w_1_155 : (Jvm.Cond.code ({ cls := "LoopMixer$Numbers", name := "bitsOfFloat", desc := "(F)I" } : Jvm.MethodName) prog_4_method_9_code (4 : Nat) (Option.some Jvm.ClassFile.FieldType.int)) ∈ lw_all := lw_i1 (List.mem_of_getElem? (i := 155) rfl) rfl
theorem w_1_156 : (Jvm.Cond.methodLink "LoopMixer" (93 : Nat) ({ cls := "LoopMixer", name := "tell", desc := "(J)I" } : Jvm.MethodName)) ∈ lw_all := lw_i1 (List.mem_of_getElem? (i := 156) rfl) rfl
theorem w_1_158 : (Jvm.Cond.instanceMethod ({ cls := "LoopMixer", name := "tell", desc := "(J)I" } : Jvm.MethodName)) ∈ lw_all := lw_i1 (List.mem_of_getElem? (i := 158) rfl) rfl
theorem w_1_159 : (Jvm.Cond.code ({ cls := "LoopMixer", name := "tell", desc := "(J)I" } : Jvm.MethodName) prog_1_method_25_code (3 : Nat) (Option.some Jvm.ClassFile.FieldType.int)) ∈ lw_all := lw_i1 (List.mem_of_getElem? (i := 159) rfl) rfl
theorem w_1_160 : (Jvm.Cond.methodLink "LoopMixerLaw" (38 : Nat) ({ cls := "LoopMixer", name := "wrap", desc := "(ZIII)I" } : Jvm.MethodName)) ∈ lw_all := lw_i1 (List.mem_of_getElem? (i := 160) rfl) rfl
theorem w_1_161 : (Jvm.Cond.instanceMethod ({ cls := "LoopMixer", name := "wrap", desc := "(ZIII)I" } : Jvm.MethodName)) ∈ lw_all := lw_i1 (List.mem_of_getElem? (i := 161) rfl) rfl
theorem w_1_162 : (Jvm.Cond.selects "LoopMixer" ({ cls := "LoopMixer", name := "wrap", desc := "(ZIII)I" } : Jvm.MethodName) ({ cls := "LoopMixer", name := "wrap", desc := "(ZIII)I" } : Jvm.MethodName)) ∈ lw_all := lw_i1 (List.mem_of_getElem? (i := 162) rfl) rfl
theorem w_1_163 : (Jvm.Cond.code ({ cls := "LoopMixer", name := "wrap", desc := "(ZIII)I" } : Jvm.MethodName) prog_1_method_7_code (6 : Nat) (Option.some Jvm.ClassFile.FieldType.int)) ∈ lw_all := lw_i1 (List.mem_of_getElem? (i := 163) rfl) rfl
theorem w_1_164 : (Jvm.Cond.methodLink "LoopMixer" (97 : Nat) ({ cls := "LoopMixer$Numbers", name := "rest", desc := "(DD)D" } : Jvm.MethodName)) ∈ lw_all := lw_i1 (List.mem_of_getElem? (i := 164) rfl) rfl
theorem w_1_165 : (Jvm.Cond.static ({ cls := "LoopMixer$Numbers", name := "rest", desc := "(DD)D" } : Jvm.MethodName)) ∈ lw_all := lw_i1 (List.mem_of_getElem? (i := 165) rfl) rfl
theorem w_1_166 : (Jvm.Cond.code ({ cls := "LoopMixer$Numbers", name := "rest", desc := "(DD)D" } : Jvm.MethodName) prog_4_method_5_code (12 : Nat) (Option.some Jvm.ClassFile.FieldType.double)) ∈ lw_all := lw_i1 (List.mem_of_getElem? (i := 166) rfl) rfl
theorem w_1_167 : (Jvm.Cond.methodLink "LoopMixerLaw" (43 : Nat) ({ cls := "LoopMixer", name := "effect", desc := "(IIJ)I" } : Jvm.MethodName)) ∈ lw_all := lw_i1 (List.mem_of_getElem? (i := 167) rfl) rfl
theorem w_1_168 : (Jvm.Cond.instanceMethod ({ cls := "LoopMixer", name := "effect", desc := "(IIJ)I" } : Jvm.MethodName)) ∈ lw_all := lw_i1 (List.mem_of_getElem? (i := 168) rfl) rfl
theorem w_1_169 : (Jvm.Cond.selects "LoopMixer" ({ cls := "LoopMixer", name := "effect", desc := "(IIJ)I" } : Jvm.MethodName) ({ cls := "LoopMixer", name := "effect", desc := "(IIJ)I" } : Jvm.MethodName)) ∈ lw_all := lw_i1 (List.mem_of_getElem? (i := 169) rfl) rfl
theorem w_1_170 : (Jvm.Cond.code ({ cls := "LoopMixer", name := "effect", desc := "(IIJ)I" } : Jvm.MethodName) prog_1_method_8_code (7 : Nat) (Option.some Jvm.ClassFile.FieldType.int)) ∈ lw_all := lw_i1 (List.mem_of_getElem? (i := 170) rfl) rfl
theorem w_1_171 : (Jvm.Cond.constant "LoopMixer" (101 : Nat) (1000000 : Int32)) ∈ lw_all := lw_i1 (List.mem_of_getElem? (i := 171) rfl) rfl
theorem w_1_172 : (Jvm.Cond.methodLink "LoopMixer" (102 : Nat) ({ cls := "LoopMixer", name := "isWithin", desc := "(DI)Z" } : Jvm.MethodName)) ∈ lw_all := lw_i1 (List.mem_of_getElem? (i := 172) rfl) rfl
theorem w_1_173 : (Jvm.Cond.static ({ cls := "LoopMixer", name := "isWithin", desc := "(DI)Z" } : Jvm.MethodName)) ∈ lw_all := lw_i1 (List.mem_of_getElem? (i := 173) rfl) rfl
theorem w_1_174 : (Jvm.Cond.code ({ cls := "LoopMixer", name := "isWithin", desc := "(DI)Z" } : Jvm.MethodName) prog_1_method_23_code (3 : Nat) (Option.some Jvm.ClassFile.FieldType.boolean)) ∈ lw_all := lw_i1 (List.mem_of_getElem? (i := 174) rfl) rfl
theorem w_1_175 : (Jvm.Cond.instantiable "LoopMixer$Effect" (2 : Nat)) ∈ lw_all := lw_i1 (List.mem_of_getElem? (i := 175) rfl) rfl
theorem w_1_176 : (Jvm.Cond.methodLink "LoopMixer" (106 : Nat) ({ cls := "LoopMixer$Effect", name := "<init>", desc := "(ID)V" } : Jvm.MethodName)) ∈ lw_all := lw_i1 (List.mem_of_getElem? (i := 176) rfl) rfl
theorem w_1_177 : (Jvm.Cond.instanceMethod ({ cls := "LoopMixer$Effect", name := "<init>", desc := "(ID)V" } : Jvm.MethodName)) ∈ lw_all := lw_i1 (List.mem_of_getElem? (i := 177) rfl) rfl
theorem w_1_178 : (Jvm.Cond.code ({ cls := "LoopMixer$Effect", name := "<init>", desc := "(ID)V" } : Jvm.MethodName) prog_2_method_1_code (4 : Nat) (Option.none : Option Jvm.ClassFile.FieldType)) ∈ lw_all := lw_i1 (List.mem_of_getElem? (i := 178) rfl) rfl
theorem w_1_179 : (Jvm.Cond.methodLink "LoopMixer$Effect" (1 : Nat) ({ cls := "java/lang/Object", name := "<init>", desc := "()V" } : Jvm.MethodName)) ∈ lw_all := lw_i1 (List.mem_of_getElem? (i := 179) rfl) rfl
theorem w_1_180 : (Jvm.Cond.fieldLink "LoopMixer$Effect" (7 : Nat) "LoopMixer$Effect" "kind" "I") ∈ lw_all := lw_i1 (List.mem_of_getElem? (i := 180) rfl) rfl
theorem w_1_181 : (Jvm.Cond.fieldLink "LoopMixer$Effect" (13 : Nat) "LoopMixer$Effect" "amount" "D") ∈ lw_all := lw_i1 (List.mem_of_getElem? (i := 181) rfl) rfl
theorem w_1_182 : (Jvm.Cond.laysFinal "LoopMixer$Effect" "LoopMixer$Effect" "kind" "I") ∈ lw_all := lw_i1 (List.mem_of_getElem? (i := 182) rfl) rfl
theorem w_1_183 : (Jvm.Cond.soleField "LoopMixer$Effect" "kind") ∈ lw_all := lw_i1 (List.mem_of_getElem? (i := 183) rfl) rfl
theorem w_1_184 : (Jvm.Cond.laysFinal "LoopMixer$Effect" "LoopMixer$Effect" "amount" "D") ∈ lw_all := lw_i1 (List.mem_of_getElem? (i := 184) rfl) rfl
theorem w_1_185 : (Jvm.Cond.soleField "LoopMixer$Effect" "amount") ∈ lw_all := lw_i1 (List.mem_of_getElem? (i := 185) rfl) rfl
theorem w_1_186 : (Jvm.Cond.superclass "LoopMixer$Effect" "java/lang/Object") ∈ lw_all := lw_i1 (List.mem_of_getElem? (i := 186) rfl) rfl
theorem w_1_187 : (Jvm.Cond.methodLink "LoopMixerLaw" (48 : Nat) ({ cls := "LoopMixer", name := "make", desc := "(IJ)I" } : Jvm.MethodName)) ∈ lw_all := lw_i1 (List.mem_of_getElem? (i := 187) rfl) rfl
theorem w_1_188 : (Jvm.Cond.instanceMethod ({ cls := "LoopMixer", name := "make", desc := "(IJ)I" } : Jvm.MethodName)) ∈ lw_all := lw_i1 (List.mem_of_getElem? (i := 188) rfl) rfl
theorem w_1_189 : (Jvm.Cond.selects "LoopMixer" ({ cls := "LoopMixer", name := "make", desc := "(IJ)I" } : Jvm.MethodName) ({ cls := "LoopMixer", name := "make", desc := "(IJ)I" } : Jvm.MethodName)) ∈ lw_all := lw_i1 (List.mem_of_getElem? (i := 189) rfl) rfl
theorem w_1_190 : (Jvm.Cond.code ({ cls := "LoopMixer", name := "make", desc := "(IJ)I" } : Jvm.MethodName) prog_1_method_9_code (6 : Nat) (Option.some Jvm.ClassFile.FieldType.int)) ∈ lw_all := lw_i1 (List.mem_of_getElem? (i := 190) rfl) rfl
theorem w_1_191 : (Jvm.Cond.methodLink "LoopMixer" (109 : Nat) ({ cls := "LoopMixer$Effect", name := "madeOf", desc := "(D)F" } : Jvm.MethodName)) ∈ lw_all := lw_i1 (List.mem_of_getElem? (i := 191) rfl) rfl
theorem w_1_192 : (Jvm.Cond.instanceMethod ({ cls := "LoopMixer$Effect", name := "madeOf", desc := "(D)F" } : Jvm.MethodName)) ∈ lw_all := lw_i1 (List.mem_of_getElem? (i := 192) rfl) rfl
theorem w_1_193 : (Jvm.Cond.selects "LoopMixer$Effect" ({ cls := "LoopMixer$Effect", name := "madeOf", desc := "(D)F" } : Jvm.MethodName) ({ cls := "LoopMixer$Effect", name := "madeOf", desc := "(D)F" } : Jvm.MethodName)) ∈ lw_all := lw_i1 (List.mem_of_getElem? (i := 193) rfl) rfl
theorem w_1_194 : (Jvm.Cond.code ({ cls := "LoopMixer$Effect", name := "madeOf", desc := "(D)F" } : Jvm.MethodName) prog_2_method_3_code (3 : Nat) (Option.some Jvm.ClassFile.FieldType.float)) ∈ lw_all := lw_i1 (List.mem_of_getElem? (i := 194) rfl) rfl
theorem w_1_195 : (Jvm.Cond.methodLink "LoopMixer$Effect" (17 : Nat) ({ cls := "LoopMixer$Numbers", name := "held", desc := "(D)F" } : Jvm.MethodName)) ∈ lw_all := lw_i1 (List.mem_of_getElem? (i := 195) rfl) rfl
theorem w_1_196 : (Jvm.Cond.static ({ cls := "LoopMixer$Numbers", name := "held", desc := "(D)F" } : Jvm.MethodName)) ∈ lw_all := lw_i1 (List.mem_of_getElem? (i := 196) rfl) rfl
theorem w_1_197 : (Jvm.Cond.code ({ cls := "LoopMixer$Numbers", name := "held", desc := "(D)F" } : Jvm.MethodName) prog_4_method_4_code (4 : Nat) (Option.some Jvm.ClassFile.FieldType.float)) ∈ lw_all := lw_i1 (List.mem_of_getElem? (i := 197) rfl) rfl
theorem w_1_198 : (Jvm.Cond.constantDouble "LoopMixer$Numbers" (22 : Nat) (5183643170566569984 : UInt64)) ∈ lw_all := lw_i1 (List.mem_of_getElem? (i := 198) rfl) rfl
theorem w_1_199 : (Jvm.Cond.constantDouble "LoopMixer$Effect" (23 : Nat) (4611686018427387904 : UInt64)) ∈ lw_all := lw_i1 (List.mem_of_getElem? (i := 199) rfl) rfl
theorem w_1_200 : (Jvm.Cond.methodLink "LoopMixer$Effect" (25 : Nat) ({ cls := "LoopMixer$Numbers", name := "rest", desc := "(DD)D" } : Jvm.MethodName)) ∈ lw_all := lw_i1 (List.mem_of_getElem? (i := 200) rfl) rfl
theorem w_1_201 : (Jvm.Cond.methodLink "LoopMixer$Effect" (29 : Nat) ({ cls := "LoopMixer$Effect", name := "folded", desc := "(D)D" } : Jvm.MethodName)) ∈ lw_all := lw_i1 (List.mem_of_getElem? (i := 201) rfl) rfl
theorem w_1_202 : (Jvm.Cond.static ({ cls := "LoopMixer$Effect", name := "folded", desc := "(D)D" } : Jvm.MethodName)) ∈ lw_all := lw_i1 (List.mem_of_getElem? (i := 202) rfl) rfl
theorem w_1_203 : (Jvm.Cond.code ({ cls := "LoopMixer$Effect", name := "folded", desc := "(D)D" } : Jvm.MethodName) prog_2_method_4_code (2 : Nat) (Option.some Jvm.ClassFile.FieldType.double)) ∈ lw_all := lw_i1 (List.mem_of_getElem? (i := 203) rfl) rfl
theorem w_1_204 : (Jvm.Cond.constantDouble "LoopMixer$Effect" (36 : Nat) (13830554455654793216 : UInt64)) ∈ lw_all := lw_i1 (List.mem_of_getElem? (i := 204) rfl) rfl
theorem w_1_205 : (Jvm.Cond.constantDouble "LoopMixer$Effect" (38 : Nat) (13835058055282163712 : UInt64)) ∈ lw_all := lw_i1 (List.mem_of_getElem? (i := 205) rfl) rfl
theorem w_1_206 : (Jvm.Cond.methodLink "LoopMixer$Effect" (33 : Nat) ({ cls := "LoopMixer$Effect", name := "crushed", desc := "(D)D" } : Jvm.MethodName)) ∈ lw_all := lw_i1 (List.mem_of_getElem? (i := 206) rfl) rfl
theorem w_1_208 : (Jvm.Cond.instanceMethod ({ cls := "LoopMixer$Effect", name := "crushed", desc := "(D)D" } : Jvm.MethodName)) ∈ lw_all := lw_i1 (List.mem_of_getElem? (i := 208) rfl) rfl
theorem w_1_209 : (Jvm.Cond.code ({ cls := "LoopMixer$Effect", name := "crushed", desc := "(D)D" } : Jvm.MethodName) prog_2_method_5_code (6 : Nat) (Option.some Jvm.ClassFile.FieldType.double)) ∈ lw_all := lw_i1 (List.mem_of_getElem? (i := 209) rfl) rfl
theorem w_1_210 : (Jvm.Cond.methodLink "LoopMixerLaw" (53 : Nat) ({ cls := "LoopMixer", name := "rack", desc := "(II)I" } : Jvm.MethodName)) ∈ lw_all := lw_i1 (List.mem_of_getElem? (i := 210) rfl) rfl
theorem w_1_211 : (Jvm.Cond.instanceMethod ({ cls := "LoopMixer", name := "rack", desc := "(II)I" } : Jvm.MethodName)) ∈ lw_all := lw_i1 (List.mem_of_getElem? (i := 211) rfl) rfl
theorem w_1_212 : (Jvm.Cond.selects "LoopMixer" ({ cls := "LoopMixer", name := "rack", desc := "(II)I" } : Jvm.MethodName) ({ cls := "LoopMixer", name := "rack", desc := "(II)I" } : Jvm.MethodName)) ∈ lw_all := lw_i1 (List.mem_of_getElem? (i := 212) rfl) rfl
theorem w_1_213 : (Jvm.Cond.code ({ cls := "LoopMixer", name := "rack", desc := "(II)I" } : Jvm.MethodName) prog_1_method_10_code (3 : Nat) (Option.some Jvm.ClassFile.FieldType.int)) ∈ lw_all := lw_i1 (List.mem_of_getElem? (i := 213) rfl) rfl
theorem w_1_214 : (Jvm.Cond.instantiable "LoopMixer$Rack" (2 : Nat)) ∈ lw_all := lw_i1 (List.mem_of_getElem? (i := 214) rfl) rfl
theorem w_1_215 : (Jvm.Cond.methodLink "LoopMixer" (113 : Nat) ({ cls := "LoopMixer$Rack", name := "<init>", desc := "(I)V" } : Jvm.MethodName)) ∈ lw_all := lw_i1 (List.mem_of_getElem? (i := 215) rfl) rfl
theorem w_1_216 : (Jvm.Cond.instanceMethod ({ cls := "LoopMixer$Rack", name := "<init>", desc := "(I)V" } : Jvm.MethodName)) ∈ lw_all := lw_i1 (List.mem_of_getElem? (i := 216) rfl) rfl
theorem w_1_217 : (Jvm.Cond.code ({ cls := "LoopMixer$Rack", name := "<init>", desc := "(I)V" } : Jvm.MethodName) prog_5_method_1_code (2 : Nat) (Option.none : Option Jvm.ClassFile.FieldType)) ∈ lw_all := lw_i1 (List.mem_of_getElem? (i := 217) rfl) rfl
theorem w_1_218 : (Jvm.Cond.methodLink "LoopMixer$Rack" (1 : Nat) ({ cls := "java/lang/Object", name := "<init>", desc := "()V" } : Jvm.MethodName)) ∈ lw_all := lw_i1 (List.mem_of_getElem? (i := 218) rfl) rfl
theorem w_1_219 : (Jvm.Cond.classLink "LoopMixer$Rack" (9 : Nat) "LoopMixer$Effect") ∈ lw_all := lw_i1 (List.mem_of_getElem? (i := 219) rfl) rfl
theorem w_1_220 : (Jvm.Cond.fieldLink "LoopMixer$Rack" (15 : Nat) "LoopMixer$Rack" "kind" "I") ∈ lw_all := lw_i1 (List.mem_of_getElem? (i := 220) rfl) rfl
theorem w_1_221 : (Jvm.Cond.fieldLink "LoopMixer" (116 : Nat) "LoopMixer$Rack" "kind" "I") ∈ lw_all := lw_i1 (List.mem_of_getElem? (i := 221) rfl) rfl
theorem w_1_222 : (Jvm.Cond.fieldLink "LoopMixer$Rack" (11 : Nat) "LoopMixer$Rack" "places" "[LLoopMixer$Effect;") ∈ lw_all := lw_i1 (List.mem_of_getElem? (i := 222) rfl) rfl
theorem w_1_223 : (Jvm.Cond.fieldLink "LoopMixer" (123 : Nat) "LoopMixer$Rack" "places" "[LLoopMixer$Effect;") ∈ lw_all := lw_i1 (List.mem_of_getElem? (i := 223) rfl) rfl
theorem w_1_224 : (Jvm.Cond.laysFinal "LoopMixer$Rack" "LoopMixer$Rack" "kind" "I") ∈ lw_all := lw_i1 (List.mem_of_getElem? (i := 224) rfl) rfl
theorem w_1_225 : (Jvm.Cond.soleField "LoopMixer$Rack" "kind") ∈ lw_all := lw_i1 (List.mem_of_getElem? (i := 225) rfl) rfl
theorem w_1_226 : (Jvm.Cond.laysFinal "LoopMixer$Rack" "LoopMixer$Rack" "places" "[LLoopMixer$Effect;") ∈ lw_all := lw_i1 (List.mem_of_getElem? (i := 226) rfl) rfl
theorem w_1_227 : (Jvm.Cond.soleField "LoopMixer$Rack" "places") ∈ lw_all := lw_i1 (List.mem_of_getElem? (i := 227) rfl) rfl
theorem w_1_228 : (Jvm.Cond.superclass "LoopMixer$Rack" "java/lang/Object") ∈ lw_all := lw_i1 (List.mem_of_getElem? (i := 228) rfl) rfl
theorem w_1_229 : (Jvm.Cond.methodLink "LoopMixerLaw" (58 : Nat) ({ cls := "LoopMixer", name := "hang", desc := "(III)I" } : Jvm.MethodName)) ∈ lw_all := lw_i1 (List.mem_of_getElem? (i := 229) rfl) rfl
theorem w_1_230 : (Jvm.Cond.instanceMethod ({ cls := "LoopMixer", name := "hang", desc := "(III)I" } : Jvm.MethodName)) ∈ lw_all := lw_i1 (List.mem_of_getElem? (i := 230) rfl) rfl
theorem w_1_231 : (Jvm.Cond.selects "LoopMixer" ({ cls := "LoopMixer", name := "hang", desc := "(III)I" } : Jvm.MethodName) ({ cls := "LoopMixer", name := "hang", desc := "(III)I" } : Jvm.MethodName)) ∈ lw_all := lw_i1 (List.mem_of_getElem? (i := 231) rfl) rfl
theorem w_1_232 : (Jvm.Cond.code ({ cls := "LoopMixer", name := "hang", desc := "(III)I" } : Jvm.MethodName) prog_1_method_11_code (6 : Nat) (Option.some Jvm.ClassFile.FieldType.int)) ∈ lw_all := lw_i1 (List.mem_of_getElem? (i := 232) rfl) rfl
theorem w_1_233 : (Jvm.Cond.methodLink "LoopMixer" (119 : Nat) ({ cls := "LoopMixer$Effect", name := "isOf", desc := "(I)Z" } : Jvm.MethodName)) ∈ lw_all := lw_i1 (List.mem_of_getElem? (i := 233) rfl) rfl
theorem w_1_234 : (Jvm.Cond.instanceMethod ({ cls := "LoopMixer$Effect", name := "isOf", desc := "(I)Z" } : Jvm.MethodName)) ∈ lw_all := lw_i1 (List.mem_of_getElem? (i := 234) rfl) rfl
theorem w_1_235 : (Jvm.Cond.selects "LoopMixer$Effect" ({ cls := "LoopMixer$Effect", name := "isOf", desc := "(I)Z" } : Jvm.MethodName) ({ cls := "LoopMixer$Effect", name := "isOf", desc := "(I)Z" } : Jvm.MethodName)) ∈ lw_all := lw_i1 (List.mem_of_getElem? (i := 235) rfl) rfl
theorem w_1_236 : (Jvm.Cond.code ({ cls := "LoopMixer$Effect", name := "isOf", desc := "(I)Z" } : Jvm.MethodName) prog_2_method_2_code (2 : Nat) (Option.some Jvm.ClassFile.FieldType.boolean)) ∈ lw_all := lw_i1 (List.mem_of_getElem? (i := 236) rfl) rfl
theorem w_1_237 : (Jvm.Cond.methodLink "LoopMixerLaw" (63 : Nat) ({ cls := "LoopMixer", name := "take", desc := "(IIII)I" } : Jvm.MethodName)) ∈ lw_all := lw_i1 (List.mem_of_getElem? (i := 237) rfl) rfl
theorem w_1_238 : (Jvm.Cond.instanceMethod ({ cls := "LoopMixer", name := "take", desc := "(IIII)I" } : Jvm.MethodName)) ∈ lw_all := lw_i1 (List.mem_of_getElem? (i := 238) rfl) rfl
theorem w_1_239 : (Jvm.Cond.selects "LoopMixer" ({ cls := "LoopMixer", name := "take", desc := "(IIII)I" } : Jvm.MethodName) ({ cls := "LoopMixer", name := "take", desc := "(IIII)I" } : Jvm.MethodName)) ∈ lw_all := lw_i1 (List.mem_of_getElem? (i := 239) rfl) rfl
theorem w_2_0 : (Jvm.Cond.code ({ cls := "LoopMixer", name := "take", desc := "(IIII)I" } : Jvm.MethodName) prog_1_method_12_code (7 : Nat) (Option.some Jvm.ClassFile.FieldType.int)) ∈ lw_all := lw_i2 (List.mem_of_getElem? (i := 0) rfl) rfl
theorem w_2_1 : (Jvm.Cond.methodLink "LoopMixerLaw" (68 : Nat) ({ cls := "LoopMixer", name := "head", desc := "(IIIIJ)I" } : Jvm.MethodName)) ∈ lw_all := lw_i2 (List.mem_of_getElem? (i := 1) rfl) rfl
theorem w_2_2 : (Jvm.Cond.instanceMethod ({ cls := "LoopMixer", name := "head", desc := "(IIIIJ)I" } : Jvm.MethodName)) ∈ lw_all := lw_i2 (List.mem_of_getElem? (i := 2) rfl) rfl
theorem w_2_3 : (Jvm.Cond.selects "LoopMixer" ({ cls := "LoopMixer", name := "head", desc := "(IIIIJ)I" } : Jvm.MethodName) ({ cls := "LoopMixer", name := "head", desc := "(IIIIJ)I" } : Jvm.MethodName)) ∈ lw_all := lw_i2 (List.mem_of_getElem? (i := 3) rfl) rfl
theorem w_2_4 : (Jvm.Cond.code ({ cls := "LoopMixer", name := "head", desc := "(IIIIJ)I" } : Jvm.MethodName) prog_1_method_13_code (9 : Nat) (Option.some Jvm.ClassFile.FieldType.int)) ∈ lw_all := lw_i2 (List.mem_of_getElem? (i := 4) rfl) rfl
theorem w_2_5 : (Jvm.Cond.methodLink "LoopMixer" (126 : Nat) ({ cls := "LoopMixer", name := "isBelowOrNone", desc := "(II)Z" } : Jvm.MethodName)) ∈ lw_all := lw_i2 (List.mem_of_getElem? (i := 5) rfl) rfl
theorem w_2_6 : (Jvm.Cond.static ({ cls := "LoopMixer", name := "isBelowOrNone", desc := "(II)Z" } : Jvm.MethodName)) ∈ lw_all := lw_i2 (List.mem_of_getElem? (i := 6) rfl) rfl
theorem w_2_7 : (Jvm.Cond.code ({ cls := "LoopMixer", name := "isBelowOrNone", desc := "(II)Z" } : Jvm.MethodName) prog_1_method_22_code (2 : Nat) (Option.some Jvm.ClassFile.FieldType.boolean)) ∈ lw_all := lw_i2 (List.mem_of_getElem? (i := 7) rfl) rfl
theorem w_2_8 : (Jvm.Cond.instantiable "LoopMixer$Head" (6 : Nat)) ∈ lw_all := lw_i2 (List.mem_of_getElem? (i := 8) rfl) rfl
theorem w_2_9 : (Jvm.Cond.methodLink "LoopMixer" (129 : Nat) ({ cls := "LoopMixer$Head", name := "<init>", desc := "(IIID)V" } : Jvm.MethodName)) ∈ lw_all := lw_i2 (List.mem_of_getElem? (i := 9) rfl) rfl
theorem w_2_10 : (Jvm.Cond.instanceMethod ({ cls := "LoopMixer$Head", name := "<init>", desc := "(IIID)V" } : Jvm.MethodName)) ∈ lw_all := lw_i2 (List.mem_of_getElem? (i := 10) rfl) rfl
theorem w_2_11 : (Jvm.Cond.code ({ cls := "LoopMixer$Head", name := "<init>", desc := "(IIID)V" } : Jvm.MethodName) prog_3_method_1_code (6 : Nat) (Option.none : Option Jvm.ClassFile.FieldType)) ∈ lw_all := lw_i2 (List.mem_of_getElem? (i := 11) rfl) rfl
theorem w_2_12 : (Jvm.Cond.methodLink "LoopMixer$Head" (1 : Nat) ({ cls := "java/lang/Object", name := "<init>", desc := "()V" } : Jvm.MethodName)) ∈ lw_all := lw_i2 (List.mem_of_getElem? (i := 12) rfl) rfl
theorem w_2_13 : (Jvm.Cond.fieldLink "LoopMixer$Head" (17 : Nat) "LoopMixer$Head" "track" "I") ∈ lw_all := lw_i2 (List.mem_of_getElem? (i := 13) rfl) rfl
theorem w_2_14 : (Jvm.Cond.fieldLink "LoopMixer" (148 : Nat) "LoopMixer$Head" "track" "I") ∈ lw_all := lw_i2 (List.mem_of_getElem? (i := 14) rfl) rfl
theorem w_2_15 : (Jvm.Cond.fieldLink "LoopMixer$Head" (21 : Nat) "LoopMixer$Head" "curve" "I") ∈ lw_all := lw_i2 (List.mem_of_getElem? (i := 15) rfl) rfl
theorem w_2_16 : (Jvm.Cond.fieldLink "LoopMixer" (151 : Nat) "LoopMixer$Head" "curve" "I") ∈ lw_all := lw_i2 (List.mem_of_getElem? (i := 16) rfl) rfl
theorem w_2_17 : (Jvm.Cond.fieldLink "LoopMixer$Head" (24 : Nat) "LoopMixer$Head" "rack" "I") ∈ lw_all := lw_i2 (List.mem_of_getElem? (i := 17) rfl) rfl
theorem w_2_18 : (Jvm.Cond.fieldLink "LoopMixer" (157 : Nat) "LoopMixer$Head" "rack" "I") ∈ lw_all := lw_i2 (List.mem_of_getElem? (i := 18) rfl) rfl
theorem w_2_19 : (Jvm.Cond.fieldLink "LoopMixer$Head" (27 : Nat) "LoopMixer$Head" "rate" "D") ∈ lw_all := lw_i2 (List.mem_of_getElem? (i := 19) rfl) rfl
theorem w_2_20 : (Jvm.Cond.fieldLink "LoopMixer$Head" (7 : Nat) "LoopMixer$Head" "place" "D") ∈ lw_all := lw_i2 (List.mem_of_getElem? (i := 20) rfl) rfl
theorem w_2_21 : (Jvm.Cond.fieldLink "LoopMixer" (141 : Nat) "LoopMixer$Head" "place" "D") ∈ lw_all := lw_i2 (List.mem_of_getElem? (i := 21) rfl) rfl
theorem w_2_22 : (Jvm.Cond.fieldLink "LoopMixer$Head" (13 : Nat) "LoopMixer$Head" "steps" "J") ∈ lw_all := lw_i2 (List.mem_of_getElem? (i := 22) rfl) rfl
theorem w_2_23 : (Jvm.Cond.fieldLink "LoopMixer" (145 : Nat) "LoopMixer$Head" "steps" "J") ∈ lw_all := lw_i2 (List.mem_of_getElem? (i := 23) rfl) rfl
theorem w_2_24 : (Jvm.Cond.laysFinal "LoopMixer$Head" "LoopMixer$Head" "track" "I") ∈ lw_all := lw_i2 (List.mem_of_getElem? (i := 24) rfl) rfl
theorem w_2_25 : (Jvm.Cond.soleField "LoopMixer$Head" "track") ∈ lw_all := lw_i2 (List.mem_of_getElem? (i := 25) rfl) rfl
theorem w_2_26 : (Jvm.Cond.laysFinal "LoopMixer$Head" "LoopMixer$Head" "curve" "I") ∈ lw_all := lw_i2 (List.mem_of_getElem? (i := 26) rfl) rfl
theorem w_2_27 : (Jvm.Cond.soleField "LoopMixer$Head" "curve") ∈ lw_all := lw_i2 (List.mem_of_getElem? (i := 27) rfl) rfl
theorem w_2_28 : (Jvm.Cond.laysFinal "LoopMixer$Head" "LoopMixer$Head" "rack" "I") ∈ lw_all := lw_i2 (List.mem_of_getElem? (i := 28) rfl) rfl
theorem w_2_29 : (Jvm.Cond.soleField "LoopMixer$Head" "rack") ∈ lw_all := lw_i2 (List.mem_of_getElem? (i := 29) rfl) rfl
theorem w_2_30 : (Jvm.Cond.laysFinal "LoopMixer$Head" "LoopMixer$Head" "rate" "D") ∈ lw_all := lw_i2 (List.mem_of_getElem? (i := 30) rfl) rfl
theorem w_2_31 : (Jvm.Cond.soleField "LoopMixer$Head" "rate") ∈ lw_all := lw_i2 (List.mem_of_getElem? (i := 31) rfl) rfl
theorem w_2_32 : (Jvm.Cond.lays "LoopMixer$Head" "LoopMixer$Head" "place" "D") ∈ lw_all := lw_i2 (List.mem_of_getElem? (i := 32) rfl) rfl
theorem w_2_33 : (Jvm.Cond.soleField "LoopMixer$Head" "place") ∈ lw_all := lw_i2 (List.mem_of_getElem? (i := 33) rfl) rfl
theorem w_2_34 : (Jvm.Cond.lays "LoopMixer$Head" "LoopMixer$Head" "steps" "J") ∈ lw_all := lw_i2 (List.mem_of_getElem? (i := 34) rfl) rfl
theorem w_2_35 : (Jvm.Cond.soleField "LoopMixer$Head" "steps") ∈ lw_all := lw_i2 (List.mem_of_getElem? (i := 35) rfl) rfl
theorem w_2_36 : (Jvm.Cond.superclass "LoopMixer$Head" "java/lang/Object") ∈ lw_all := lw_i2 (List.mem_of_getElem? (i := 36) rfl) rfl
theorem w_2_37 : (Jvm.Cond.methodLink "LoopMixerLaw" (73 : Nat) ({ cls := "LoopMixer", name := "play", desc := "(II)I" } : Jvm.MethodName)) ∈ lw_all := lw_i2 (List.mem_of_getElem? (i := 37) rfl) rfl
theorem w_2_38 : (Jvm.Cond.instanceMethod ({ cls := "LoopMixer", name := "play", desc := "(II)I" } : Jvm.MethodName)) ∈ lw_all := lw_i2 (List.mem_of_getElem? (i := 38) rfl) rfl
theorem w_2_39 : (Jvm.Cond.selects "LoopMixer" ({ cls := "LoopMixer", name := "play", desc := "(II)I" } : Jvm.MethodName) ({ cls := "LoopMixer", name := "play", desc := "(II)I" } : Jvm.MethodName)) ∈ lw_all := lw_i2 (List.mem_of_getElem? (i := 39) rfl) rfl
theorem w_2_40 : (Jvm.Cond.code ({ cls := "LoopMixer", name := "play", desc := "(II)I" } : Jvm.MethodName) prog_1_method_14_code (4 : Nat) (Option.some Jvm.ClassFile.FieldType.int)) ∈ lw_all := lw_i2 (List.mem_of_getElem? (i := 40) rfl) rfl
theorem w_2_41 : (Jvm.Cond.methodLink "LoopMixer" (132 : Nat) ({ cls := "LoopMixer", name := "isSetHead", desc := "(I)Z" } : Jvm.MethodName)) ∈ lw_all := lw_i2 (List.mem_of_getElem? (i := 41) rfl) rfl
theorem w_2_43 : (Jvm.Cond.instanceMethod ({ cls := "LoopMixer", name := "isSetHead", desc := "(I)Z" } : Jvm.MethodName)) ∈ lw_all := lw_i2 (List.mem_of_getElem? (i := 43) rfl) rfl
theorem w_2_44 : (Jvm.Cond.code ({ cls := "LoopMixer", name := "isSetHead", desc := "(I)Z" } : Jvm.MethodName) prog_1_method_27_code (2 : Nat) (Option.some Jvm.ClassFile.FieldType.boolean)) ∈ lw_all := lw_i2 (List.mem_of_getElem? (i := 44) rfl) rfl
theorem w_2_45 : (Jvm.Cond.methodLink "LoopMixer" (135 : Nat) ({ cls := "LoopMixer", name := "step", desc := "(LLoopMixer$Head;)I" } : Jvm.MethodName)) ∈ lw_all := lw_i2 (List.mem_of_getElem? (i := 45) rfl) rfl
theorem w_2_47 : (Jvm.Cond.instanceMethod ({ cls := "LoopMixer", name := "step", desc := "(LLoopMixer$Head;)I" } : Jvm.MethodName)) ∈ lw_all := lw_i2 (List.mem_of_getElem? (i := 47) rfl) rfl
theorem w_2_48 : (Jvm.Cond.code ({ cls := "LoopMixer", name := "step", desc := "(LLoopMixer$Head;)I" } : Jvm.MethodName) prog_1_method_28_code (7 : Nat) (Option.some Jvm.ClassFile.FieldType.int)) ∈ lw_all := lw_i2 (List.mem_of_getElem? (i := 48) rfl) rfl
theorem w_2_49 : (Jvm.Cond.methodLink "LoopMixer" (154 : Nat) ({ cls := "LoopMixer$Numbers", name := "held", desc := "(D)F" } : Jvm.MethodName)) ∈ lw_all := lw_i2 (List.mem_of_getElem? (i := 49) rfl) rfl
theorem w_2_50 : (Jvm.Cond.methodLink "LoopMixer" (160 : Nat) ({ cls := "LoopMixer$Rack", name := "hasBarePlace", desc := "()Z" } : Jvm.MethodName)) ∈ lw_all := lw_i2 (List.mem_of_getElem? (i := 50) rfl) rfl
theorem w_2_51 : (Jvm.Cond.instanceMethod ({ cls := "LoopMixer$Rack", name := "hasBarePlace", desc := "()Z" } : Jvm.MethodName)) ∈ lw_all := lw_i2 (List.mem_of_getElem? (i := 51) rfl) rfl
theorem w_2_52 : (Jvm.Cond.selects "LoopMixer$Rack" ({ cls := "LoopMixer$Rack", name := "hasBarePlace", desc := "()Z" } : Jvm.MethodName) ({ cls := "LoopMixer$Rack", name := "hasBarePlace", desc := "()Z" } : Jvm.MethodName)) ∈ lw_all := lw_i2 (List.mem_of_getElem? (i := 52) rfl) rfl
theorem w_2_53 : (Jvm.Cond.code ({ cls := "LoopMixer$Rack", name := "hasBarePlace", desc := "()Z" } : Jvm.MethodName) prog_5_method_2_code (2 : Nat) (Option.some Jvm.ClassFile.FieldType.boolean)) ∈ lw_all := lw_i2 (List.mem_of_getElem? (i := 53) rfl) rfl
theorem w_2_54 : (Jvm.Cond.methodLink "LoopMixer" (164 : Nat) ({ cls := "LoopMixer$Rack", name := "madeOf", desc := "(D)D" } : Jvm.MethodName)) ∈ lw_all := lw_i2 (List.mem_of_getElem? (i := 54) rfl) rfl
theorem w_2_55 : (Jvm.Cond.instanceMethod ({ cls := "LoopMixer$Rack", name := "madeOf", desc := "(D)D" } : Jvm.MethodName)) ∈ lw_all := lw_i2 (List.mem_of_getElem? (i := 55) rfl) rfl
theorem w_2_56 : (Jvm.Cond.selects "LoopMixer$Rack" ({ cls := "LoopMixer$Rack", name := "madeOf", desc := "(D)D" } : Jvm.MethodName) ({ cls := "LoopMixer$Rack", name := "madeOf", desc := "(D)D" } : Jvm.MethodName)) ∈ lw_all := lw_i2 (List.mem_of_getElem? (i := 56) rfl) rfl
theorem w_2_57 : (Jvm.Cond.code ({ cls := "LoopMixer$Rack", name := "madeOf", desc := "(D)D" } : Jvm.MethodName) prog_5_method_3_code (7 : Nat) (Option.some Jvm.ClassFile.FieldType.double)) ∈ lw_all := lw_i2 (List.mem_of_getElem? (i := 57) rfl) rfl
theorem w_2_58 : (Jvm.Cond.methodLink "LoopMixer$Rack" (19 : Nat) ({ cls := "LoopMixer$Effect", name := "madeOf", desc := "(D)F" } : Jvm.MethodName)) ∈ lw_all := lw_i2 (List.mem_of_getElem? (i := 58) rfl) rfl
theorem w_2_59 : (Jvm.Cond.constantLong "LoopMixer" (167 : Nat) (8 : Int64)) ∈ lw_all := lw_i2 (List.mem_of_getElem? (i := 59) rfl) rfl
theorem w_2_60 : (Jvm.Cond.methodLink "LoopMixer" (169 : Nat) ({ cls := "LoopMixer", name := "addToMix", desc := "(ID)V" } : Jvm.MethodName)) ∈ lw_all := lw_i2 (List.mem_of_getElem? (i := 60) rfl) rfl
theorem w_2_62 : (Jvm.Cond.instanceMethod ({ cls := "LoopMixer", name := "addToMix", desc := "(ID)V" } : Jvm.MethodName)) ∈ lw_all := lw_i2 (List.mem_of_getElem? (i := 62) rfl) rfl
theorem w_2_63 : (Jvm.Cond.code ({ cls := "LoopMixer", name := "addToMix", desc := "(ID)V" } : Jvm.MethodName) prog_1_method_29_code (4 : Nat) (Option.none : Option Jvm.ClassFile.FieldType)) ∈ lw_all := lw_i2 (List.mem_of_getElem? (i := 63) rfl) rfl
theorem w_2_64 : (Jvm.Cond.methodLink "LoopMixer" (172 : Nat) ({ cls := "LoopMixer$Head", name := "moveOn", desc := "(I)V" } : Jvm.MethodName)) ∈ lw_all := lw_i2 (List.mem_of_getElem? (i := 64) rfl) rfl
theorem w_2_65 : (Jvm.Cond.instanceMethod ({ cls := "LoopMixer$Head", name := "moveOn", desc := "(I)V" } : Jvm.MethodName)) ∈ lw_all := lw_i2 (List.mem_of_getElem? (i := 65) rfl) rfl
theorem w_2_66 : (Jvm.Cond.selects "LoopMixer$Head" ({ cls := "LoopMixer$Head", name := "moveOn", desc := "(I)V" } : Jvm.MethodName) ({ cls := "LoopMixer$Head", name := "moveOn", desc := "(I)V" } : Jvm.MethodName)) ∈ lw_all := lw_i2 (List.mem_of_getElem? (i := 66) rfl) rfl
theorem w_2_67 : (Jvm.Cond.code ({ cls := "LoopMixer$Head", name := "moveOn", desc := "(I)V" } : Jvm.MethodName) prog_3_method_2_code (4 : Nat) (Option.none : Option Jvm.ClassFile.FieldType)) ∈ lw_all := lw_i2 (List.mem_of_getElem? (i := 67) rfl) rfl
theorem w_2_68 : (Jvm.Cond.methodLink "LoopMixer$Head" (30 : Nat) ({ cls := "LoopMixer$Numbers", name := "rest", desc := "(DD)D" } : Jvm.MethodName)) ∈ lw_all := lw_i2 (List.mem_of_getElem? (i := 68) rfl) rfl
theorem w_2_69 : (Jvm.Cond.methodLink "LoopMixerLaw" (77 : Nat) ({ cls := "LoopMixer", name := "failed", desc := "()I" } : Jvm.MethodName)) ∈ lw_all := lw_i2 (List.mem_of_getElem? (i := 69) rfl) rfl
theorem w_2_70 : (Jvm.Cond.instanceMethod ({ cls := "LoopMixer", name := "failed", desc := "()I" } : Jvm.MethodName)) ∈ lw_all := lw_i2 (List.mem_of_getElem? (i := 70) rfl) rfl
theorem w_2_71 : (Jvm.Cond.selects "LoopMixer" ({ cls := "LoopMixer", name := "failed", desc := "()I" } : Jvm.MethodName) ({ cls := "LoopMixer", name := "failed", desc := "()I" } : Jvm.MethodName)) ∈ lw_all := lw_i2 (List.mem_of_getElem? (i := 71) rfl) rfl
theorem w_2_72 : (Jvm.Cond.code ({ cls := "LoopMixer", name := "failed", desc := "()I" } : Jvm.MethodName) prog_1_method_15_code (1 : Nat) (Option.some Jvm.ClassFile.FieldType.int)) ∈ lw_all := lw_i2 (List.mem_of_getElem? (i := 72) rfl) rfl
theorem w_2_73 : (Jvm.Cond.methodLink "LoopMixerLaw" (82 : Nat) ({ cls := "LoopMixer", name := "mix", desc := "(II)I" } : Jvm.MethodName)) ∈ lw_all := lw_i2 (List.mem_of_getElem? (i := 73) rfl) rfl
theorem w_2_74 : (Jvm.Cond.instanceMethod ({ cls := "LoopMixer", name := "mix", desc := "(II)I" } : Jvm.MethodName)) ∈ lw_all := lw_i2 (List.mem_of_getElem? (i := 74) rfl) rfl
theorem w_2_75 : (Jvm.Cond.selects "LoopMixer" ({ cls := "LoopMixer", name := "mix", desc := "(II)I" } : Jvm.MethodName) ({ cls := "LoopMixer", name := "mix", desc := "(II)I" } : Jvm.MethodName)) ∈ lw_all := lw_i2 (List.mem_of_getElem? (i := 75) rfl) rfl
theorem w_2_76 : (Jvm.Cond.code ({ cls := "LoopMixer", name := "mix", desc := "(II)I" } : Jvm.MethodName) prog_1_method_16_code (5 : Nat) (Option.some Jvm.ClassFile.FieldType.int)) ∈ lw_all := lw_i2 (List.mem_of_getElem? (i := 76) rfl) rfl
theorem w_2_77 : (Jvm.Cond.constantDouble "LoopMixer" (139 : Nat) (4674736138332667904 : UInt64)) ∈ lw_all := lw_i2 (List.mem_of_getElem? (i := 77) rfl) rfl
theorem w_2_78 : (Jvm.Cond.methodLink "LoopMixerLaw" (86 : Nat) ({ cls := "LoopMixer", name := "hush", desc := "()I" } : Jvm.MethodName)) ∈ lw_all := lw_i2 (List.mem_of_getElem? (i := 78) rfl) rfl
theorem w_2_79 : (Jvm.Cond.instanceMethod ({ cls := "LoopMixer", name := "hush", desc := "()I" } : Jvm.MethodName)) ∈ lw_all := lw_i2 (List.mem_of_getElem? (i := 79) rfl) rfl
theorem w_2_80 : (Jvm.Cond.selects "LoopMixer" ({ cls := "LoopMixer", name := "hush", desc := "()I" } : Jvm.MethodName) ({ cls := "LoopMixer", name := "hush", desc := "()I" } : Jvm.MethodName)) ∈ lw_all := lw_i2 (List.mem_of_getElem? (i := 80) rfl) rfl
theorem w_2_81 : (Jvm.Cond.code ({ cls := "LoopMixer", name := "hush", desc := "()I" } : Jvm.MethodName) prog_1_method_17_code (2 : Nat) (Option.some Jvm.ClassFile.FieldType.int)) ∈ lw_all := lw_i2 (List.mem_of_getElem? (i := 81) rfl) rfl
theorem w_2_82 : (Jvm.Cond.methodLink "LoopMixerLaw" (90 : Nat) ({ cls := "LoopMixer", name := "at", desc := "(II)I" } : Jvm.MethodName)) ∈ lw_all := lw_i2 (List.mem_of_getElem? (i := 82) rfl) rfl
theorem w_2_83 : (Jvm.Cond.instanceMethod ({ cls := "LoopMixer", name := "at", desc := "(II)I" } : Jvm.MethodName)) ∈ lw_all := lw_i2 (List.mem_of_getElem? (i := 83) rfl) rfl
theorem w_2_84 : (Jvm.Cond.selects "LoopMixer" ({ cls := "LoopMixer", name := "at", desc := "(II)I" } : Jvm.MethodName) ({ cls := "LoopMixer", name := "at", desc := "(II)I" } : Jvm.MethodName)) ∈ lw_all := lw_i2 (List.mem_of_getElem? (i := 84) rfl) rfl
theorem w_2_85 : (Jvm.Cond.code ({ cls := "LoopMixer", name := "at", desc := "(II)I" } : Jvm.MethodName) prog_1_method_18_code (3 : Nat) (Option.some Jvm.ClassFile.FieldType.int)) ∈ lw_all := lw_i2 (List.mem_of_getElem? (i := 85) rfl) rfl
theorem w_2_86 : (Jvm.Cond.methodLink "LoopMixerLaw" (94 : Nat) ({ cls := "LoopMixer", name := "clock", desc := "(JI)I" } : Jvm.MethodName)) ∈ lw_all := lw_i2 (List.mem_of_getElem? (i := 86) rfl) rfl
theorem w_2_87 : (Jvm.Cond.instanceMethod ({ cls := "LoopMixer", name := "clock", desc := "(JI)I" } : Jvm.MethodName)) ∈ lw_all := lw_i2 (List.mem_of_getElem? (i := 87) rfl) rfl
theorem w_2_88 : (Jvm.Cond.selects "LoopMixer" ({ cls := "LoopMixer", name := "clock", desc := "(JI)I" } : Jvm.MethodName) ({ cls := "LoopMixer", name := "clock", desc := "(JI)I" } : Jvm.MethodName)) ∈ lw_all := lw_i2 (List.mem_of_getElem? (i := 88) rfl) rfl
theorem w_2_89 : (Jvm.Cond.code ({ cls := "LoopMixer", name := "clock", desc := "(JI)I" } : Jvm.MethodName) prog_1_method_19_code (4 : Nat) (Option.some Jvm.ClassFile.FieldType.int)) ∈ lw_all := lw_i2 (List.mem_of_getElem? (i := 89) rfl) rfl
theorem w_2_90 : (Jvm.Cond.methodLink "LoopMixerLaw" (99 : Nat) ({ cls := "LoopMixer", name := "told", desc := "()J" } : Jvm.MethodName)) ∈ lw_all := lw_i2 (List.mem_of_getElem? (i := 90) rfl) rfl
theorem w_2_91 : (Jvm.Cond.instanceMethod ({ cls := "LoopMixer", name := "told", desc := "()J" } : Jvm.MethodName)) ∈ lw_all := lw_i2 (List.mem_of_getElem? (i := 91) rfl) rfl
theorem w_2_92 : (Jvm.Cond.selects "LoopMixer" ({ cls := "LoopMixer", name := "told", desc := "()J" } : Jvm.MethodName) ({ cls := "LoopMixer", name := "told", desc := "()J" } : Jvm.MethodName)) ∈ lw_all := lw_i2 (List.mem_of_getElem? (i := 92) rfl) rfl
theorem w_2_93 : (Jvm.Cond.code ({ cls := "LoopMixer", name := "told", desc := "()J" } : Jvm.MethodName) prog_1_method_20_code (1 : Nat) (Option.some Jvm.ClassFile.FieldType.long)) ∈ lw_all := lw_i2 (List.mem_of_getElem? (i := 93) rfl) rfl
theorem w_2_94 : (Jvm.Cond.classLink "LoopMixerLaw" (10 : Nat) "LoopMixerModel") ∈ lw_all := lw_i2 (List.mem_of_getElem? (i := 94) rfl) rfl
theorem w_2_95 : (Jvm.Cond.instantiable "LoopMixerModel" (21 : Nat)) ∈ lw_all := lw_i2 (List.mem_of_getElem? (i := 95) rfl) rfl
theorem w_2_96 : (Jvm.Cond.methodLink "LoopMixerLaw" (12 : Nat) ({ cls := "LoopMixerModel", name := "<init>", desc := "()V" } : Jvm.MethodName)) ∈ lw_all := lw_i2 (List.mem_of_getElem? (i := 96) rfl) rfl
theorem w_2_97 : (Jvm.Cond.instanceMethod ({ cls := "LoopMixerModel", name := "<init>", desc := "()V" } : Jvm.MethodName)) ∈ lw_all := lw_i2 (List.mem_of_getElem? (i := 97) rfl) rfl
theorem w_2_98 : (Jvm.Cond.code ({ cls := "LoopMixerModel", name := "<init>", desc := "()V" } : Jvm.MethodName) prog_7_method_1_code (1 : Nat) (Option.none : Option Jvm.ClassFile.FieldType)) ∈ lw_all := lw_i2 (List.mem_of_getElem? (i := 98) rfl) rfl
theorem w_2_99 : (Jvm.Cond.methodLink "LoopMixerModel" (3 : Nat) ({ cls := "java/lang/Object", name := "<init>", desc := "()V" } : Jvm.MethodName)) ∈ lw_all := lw_i2 (List.mem_of_getElem? (i := 99) rfl) rfl
theorem w_2_100 : (Jvm.Cond.fieldLink "LoopMixerModel" (97 : Nat) "LoopMixerModel" "rows" "I") ∈ lw_all := lw_i2 (List.mem_of_getElem? (i := 100) rfl) rfl
theorem w_2_101 : (Jvm.Cond.fieldLink "LoopMixerModel" (9 : Nat) "LoopMixerModel" "sizes" "[I") ∈ lw_all := lw_i2 (List.mem_of_getElem? (i := 101) rfl) rfl
theorem w_2_102 : (Jvm.Cond.fieldLink "LoopMixerModel" (15 : Nat) "LoopMixerModel" "items" "[D") ∈ lw_all := lw_i2 (List.mem_of_getElem? (i := 102) rfl) rfl
theorem w_2_103 : (Jvm.Cond.fieldLink "LoopMixerModel" (19 : Nat) "LoopMixerModel" "rowOf" "[I") ∈ lw_all := lw_i2 (List.mem_of_getElem? (i := 103) rfl) rfl
theorem w_2_104 : (Jvm.Cond.fieldLink "LoopMixerModel" (137 : Nat) "LoopMixerModel" "effects" "I") ∈ lw_all := lw_i2 (List.mem_of_getElem? (i := 104) rfl) rfl
theorem w_2_105 : (Jvm.Cond.fieldLink "LoopMixerModel" (22 : Nat) "LoopMixerModel" "kinds" "[I") ∈ lw_all := lw_i2 (List.mem_of_getElem? (i := 105) rfl) rfl
theorem w_2_106 : (Jvm.Cond.fieldLink "LoopMixerModel" (25 : Nat) "LoopMixerModel" "amounts" "[D") ∈ lw_all := lw_i2 (List.mem_of_getElem? (i := 106) rfl) rfl
theorem w_2_107 : (Jvm.Cond.fieldLink "LoopMixerModel" (28 : Nat) "LoopMixerModel" "effectOf" "[I") ∈ lw_all := lw_i2 (List.mem_of_getElem? (i := 107) rfl) rfl
theorem w_2_108 : (Jvm.Cond.fieldLink "LoopMixerModel" (31 : Nat) "LoopMixerModel" "rackOf" "[I") ∈ lw_all := lw_i2 (List.mem_of_getElem? (i := 108) rfl) rfl
theorem w_2_109 : (Jvm.Cond.fieldLink "LoopMixerModel" (34 : Nat) "LoopMixerModel" "hooks" "[I") ∈ lw_all := lw_i2 (List.mem_of_getElem? (i := 109) rfl) rfl
theorem w_2_110 : (Jvm.Cond.fieldLink "LoopMixerModel" (37 : Nat) "LoopMixerModel" "isSet" "[Z") ∈ lw_all := lw_i2 (List.mem_of_getElem? (i := 110) rfl) rfl
theorem w_2_111 : (Jvm.Cond.fieldLink "LoopMixerModel" (41 : Nat) "LoopMixerModel" "track" "[I") ∈ lw_all := lw_i2 (List.mem_of_getElem? (i := 111) rfl) rfl
theorem w_2_112 : (Jvm.Cond.fieldLink "LoopMixerModel" (44 : Nat) "LoopMixerModel" "curve" "[I") ∈ lw_all := lw_i2 (List.mem_of_getElem? (i := 112) rfl) rfl
theorem w_2_113 : (Jvm.Cond.fieldLink "LoopMixerModel" (47 : Nat) "LoopMixerModel" "rack" "[I") ∈ lw_all := lw_i2 (List.mem_of_getElem? (i := 113) rfl) rfl
theorem w_2_114 : (Jvm.Cond.fieldLink "LoopMixerModel" (50 : Nat) "LoopMixerModel" "rate" "[D") ∈ lw_all := lw_i2 (List.mem_of_getElem? (i := 114) rfl) rfl
theorem w_2_115 : (Jvm.Cond.fieldLink "LoopMixerModel" (53 : Nat) "LoopMixerModel" "place" "[D") ∈ lw_all := lw_i2 (List.mem_of_getElem? (i := 115) rfl) rfl
theorem w_2_116 : (Jvm.Cond.fieldLink "LoopMixerModel" (56 : Nat) "LoopMixerModel" "steps" "[J") ∈ lw_all := lw_i2 (List.mem_of_getElem? (i := 116) rfl) rfl
theorem w_2_117 : (Jvm.Cond.fieldLink "LoopMixerModel" (60 : Nat) "LoopMixerModel" "mix" "[D") ∈ lw_all := lw_i2 (List.mem_of_getElem? (i := 117) rfl) rfl
theorem w_2_118 : (Jvm.Cond.fieldLink "LoopMixerModel" (164 : Nat) "LoopMixerModel" "failure" "I") ∈ lw_all := lw_i2 (List.mem_of_getElem? (i := 118) rfl) rfl
theorem w_2_119 : (Jvm.Cond.fieldLink "LoopMixerModel" (172 : Nat) "LoopMixerModel" "clock" "J") ∈ lw_all := lw_i2 (List.mem_of_getElem? (i := 119) rfl) rfl
theorem w_2_120 : (Jvm.Cond.fieldLink "LoopMixerModel" (129 : Nat) "LoopMixerModel" "told" "J") ∈ lw_all := lw_i2 (List.mem_of_getElem? (i := 120) rfl) rfl
theorem w_2_121 : (Jvm.Cond.lays "LoopMixerModel" "LoopMixerModel" "rows" "I") ∈ lw_all := lw_i2 (List.mem_of_getElem? (i := 121) rfl) rfl
theorem w_2_122 : (Jvm.Cond.soleField "LoopMixerModel" "rows") ∈ lw_all := lw_i2 (List.mem_of_getElem? (i := 122) rfl) rfl
theorem w_2_123 : (Jvm.Cond.laysFinal "LoopMixerModel" "LoopMixerModel" "sizes" "[I") ∈ lw_all := lw_i2 (List.mem_of_getElem? (i := 123) rfl) rfl
theorem w_2_124 : (Jvm.Cond.soleField "LoopMixerModel" "sizes") ∈ lw_all := lw_i2 (List.mem_of_getElem? (i := 124) rfl) rfl
theorem w_2_125 : (Jvm.Cond.laysFinal "LoopMixerModel" "LoopMixerModel" "items" "[D") ∈ lw_all := lw_i2 (List.mem_of_getElem? (i := 125) rfl) rfl
theorem w_2_126 : (Jvm.Cond.soleField "LoopMixerModel" "items") ∈ lw_all := lw_i2 (List.mem_of_getElem? (i := 126) rfl) rfl
theorem w_2_127 : (Jvm.Cond.laysFinal "LoopMixerModel" "LoopMixerModel" "rowOf" "[I") ∈ lw_all := lw_i2 (List.mem_of_getElem? (i := 127) rfl) rfl
theorem w_2_128 : (Jvm.Cond.soleField "LoopMixerModel" "rowOf") ∈ lw_all := lw_i2 (List.mem_of_getElem? (i := 128) rfl) rfl
theorem w_2_129 : (Jvm.Cond.lays "LoopMixerModel" "LoopMixerModel" "effects" "I") ∈ lw_all := lw_i2 (List.mem_of_getElem? (i := 129) rfl) rfl
theorem w_2_130 : (Jvm.Cond.soleField "LoopMixerModel" "effects") ∈ lw_all := lw_i2 (List.mem_of_getElem? (i := 130) rfl) rfl
theorem w_2_131 : (Jvm.Cond.laysFinal "LoopMixerModel" "LoopMixerModel" "kinds" "[I") ∈ lw_all := lw_i2 (List.mem_of_getElem? (i := 131) rfl) rfl
theorem w_2_132 : (Jvm.Cond.soleField "LoopMixerModel" "kinds") ∈ lw_all := lw_i2 (List.mem_of_getElem? (i := 132) rfl) rfl
theorem w_2_133 : (Jvm.Cond.laysFinal "LoopMixerModel" "LoopMixerModel" "amounts" "[D") ∈ lw_all := lw_i2 (List.mem_of_getElem? (i := 133) rfl) rfl
theorem w_2_134 : (Jvm.Cond.soleField "LoopMixerModel" "amounts") ∈ lw_all := lw_i2 (List.mem_of_getElem? (i := 134) rfl) rfl
theorem w_2_135 : (Jvm.Cond.laysFinal "LoopMixerModel" "LoopMixerModel" "effectOf" "[I") ∈ lw_all := lw_i2 (List.mem_of_getElem? (i := 135) rfl) rfl
theorem w_2_136 : (Jvm.Cond.soleField "LoopMixerModel" "effectOf") ∈ lw_all := lw_i2 (List.mem_of_getElem? (i := 136) rfl) rfl
theorem w_2_137 : (Jvm.Cond.laysFinal "LoopMixerModel" "LoopMixerModel" "rackOf" "[I") ∈ lw_all := lw_i2 (List.mem_of_getElem? (i := 137) rfl) rfl
theorem w_2_138 : (Jvm.Cond.soleField "LoopMixerModel" "rackOf") ∈ lw_all := lw_i2 (List.mem_of_getElem? (i := 138) rfl) rfl
theorem w_2_139 : (Jvm.Cond.laysFinal "LoopMixerModel" "LoopMixerModel" "hooks" "[I") ∈ lw_all := lw_i2 (List.mem_of_getElem? (i := 139) rfl) rfl
theorem w_2_140 : (Jvm.Cond.soleField "LoopMixerModel" "hooks") ∈ lw_all := lw_i2 (List.mem_of_getElem? (i := 140) rfl) rfl
theorem w_2_141 : (Jvm.Cond.laysFinal "LoopMixerModel" "LoopMixerModel" "isSet" "[Z") ∈ lw_all := lw_i2 (List.mem_of_getElem? (i := 141) rfl) rfl
theorem w_2_142 : (Jvm.Cond.soleField "LoopMixerModel" "isSet") ∈ lw_all := lw_i2 (List.mem_of_getElem? (i := 142) rfl) rfl
theorem w_2_143 : (Jvm.Cond.laysFinal "LoopMixerModel" "LoopMixerModel" "track" "[I") ∈ lw_all := lw_i2 (List.mem_of_getElem? (i := 143) rfl) rfl
theorem w_2_144 : (Jvm.Cond.soleField "LoopMixerModel" "track") ∈ lw_all := lw_i2 (List.mem_of_getElem? (i := 144) rfl) rfl
theorem w_2_145 : (Jvm.Cond.laysFinal "LoopMixerModel" "LoopMixerModel" "curve" "[I") ∈ lw_all := lw_i2 (List.mem_of_getElem? (i := 145) rfl) rfl
theorem w_2_146 : (Jvm.Cond.soleField "LoopMixerModel" "curve") ∈ lw_all := lw_i2 (List.mem_of_getElem? (i := 146) rfl) rfl
theorem w_2_147 : (Jvm.Cond.laysFinal "LoopMixerModel" "LoopMixerModel" "rack" "[I") ∈ lw_all := lw_i2 (List.mem_of_getElem? (i := 147) rfl) rfl
theorem w_2_148 : (Jvm.Cond.soleField "LoopMixerModel" "rack") ∈ lw_all := lw_i2 (List.mem_of_getElem? (i := 148) rfl) rfl
theorem w_2_149 : (Jvm.Cond.laysFinal "LoopMixerModel" "LoopMixerModel" "rate" "[D") ∈ lw_all := lw_i2 (List.mem_of_getElem? (i := 149) rfl) rfl
theorem w_2_150 : (Jvm.Cond.soleField "LoopMixerModel" "rate") ∈ lw_all := lw_i2 (List.mem_of_getElem? (i := 150) rfl) rfl
theorem w_2_151 : (Jvm.Cond.laysFinal "LoopMixerModel" "LoopMixerModel" "place" "[D") ∈ lw_all := lw_i2 (List.mem_of_getElem? (i := 151) rfl) rfl
theorem w_2_152 : (Jvm.Cond.soleField "LoopMixerModel" "place") ∈ lw_all := lw_i2 (List.mem_of_getElem? (i := 152) rfl) rfl
theorem w_2_153 : (Jvm.Cond.laysFinal "LoopMixerModel" "LoopMixerModel" "steps" "[J") ∈ lw_all := lw_i2 (List.mem_of_getElem? (i := 153) rfl) rfl
theorem w_2_154 : (Jvm.Cond.soleField "LoopMixerModel" "steps") ∈ lw_all := lw_i2 (List.mem_of_getElem? (i := 154) rfl) rfl
theorem w_2_155 : (Jvm.Cond.laysFinal "LoopMixerModel" "LoopMixerModel" "mix" "[D") ∈ lw_all := lw_i2 (List.mem_of_getElem? (i := 155) rfl) rfl
theorem w_2_156 : (Jvm.Cond.soleField "LoopMixerModel" "mix") ∈ lw_all := lw_i2 (List.mem_of_getElem? (i := 156) rfl) rfl
theorem w_2_157 : (Jvm.Cond.lays "LoopMixerModel" "LoopMixerModel" "failure" "I") ∈ lw_all := lw_i2 (List.mem_of_getElem? (i := 157) rfl) rfl
theorem w_2_158 : (Jvm.Cond.soleField "LoopMixerModel" "failure") ∈ lw_all := lw_i2 (List.mem_of_getElem? (i := 158) rfl) rfl
theorem w_2_159 : (Jvm.Cond.lays "LoopMixerModel" "LoopMixerModel" "clock" "J") ∈ lw_all := lw_i2 (List.mem_of_getElem? (i := 159) rfl) rfl
theorem w_2_160 : (Jvm.Cond.soleField "LoopMixerModel" "clock") ∈ lw_all := lw_i2 (List.mem_of_getElem? (i := 160) rfl) rfl
theorem w_2_161 : (Jvm.Cond.lays "LoopMixerModel" "LoopMixerModel" "told" "J") ∈ lw_all := lw_i2 (List.mem_of_getElem? (i := 161) rfl) rfl
theorem w_2_162 : (Jvm.Cond.soleField "LoopMixerModel" "told") ∈ lw_all := lw_i2 (List.mem_of_getElem? (i := 162) rfl) rfl
theorem w_2_163 : (Jvm.Cond.superclass "LoopMixerModel" "java/lang/Object") ∈ lw_all := lw_i2 (List.mem_of_getElem? (i := 163) rfl) rfl
theorem w_2_167 : (Jvm.Cond.methodLink "LoopMixerLaw" (17 : Nat) ({ cls := "LoopMixerModel", name := "row", desc := "(ZII)I" } : Jvm.MethodName)) ∈ lw_all := lw_i2 (List.mem_of_getElem? (i := 167) rfl) rfl
theorem w_2_168 : (Jvm.Cond.instanceMethod ({ cls := "LoopMixerModel", name := "row", desc := "(ZII)I" } : Jvm.MethodName)) ∈ lw_all := lw_i2 (List.mem_of_getElem? (i := 168) rfl) rfl
theorem w_2_169 : (Jvm.Cond.selects "LoopMixerModel" ({ cls := "LoopMixerModel", name := "row", desc := "(ZII)I" } : Jvm.MethodName) ({ cls := "LoopMixerModel", name := "row", desc := "(ZII)I" } : Jvm.MethodName)) ∈ lw_all := lw_i2 (List.mem_of_getElem? (i := 169) rfl) rfl
theorem w_2_170 : (Jvm.Cond.code ({ cls := "LoopMixerModel", name := "row", desc := "(ZII)I" } : Jvm.MethodName) prog_7_method_9_code (5 : Nat) (Option.some Jvm.ClassFile.FieldType.int)) ∈ lw_all := lw_i2 (List.mem_of_getElem? (i := 170) rfl) rfl
theorem w_2_171 : (Jvm.Cond.methodLink "LoopMixerModel" (93 : Nat) ({ cls := "LoopMixerModel", name := "in", desc := "(III)Z" } : Jvm.MethodName)) ∈ lw_all := lw_i2 (List.mem_of_getElem? (i := 171) rfl) rfl
theorem w_2_172 : (Jvm.Cond.static ({ cls := "LoopMixerModel", name := "in", desc := "(III)Z" } : Jvm.MethodName)) ∈ lw_all := lw_i2 (List.mem_of_getElem? (i := 172) rfl) rfl
theorem w_2_173 : (Jvm.Cond.code ({ cls := "LoopMixerModel", name := "in", desc := "(III)Z" } : Jvm.MethodName) prog_7_method_2_code (3 : Nat) (Option.some Jvm.ClassFile.FieldType.boolean)) ∈ lw_all := lw_i2 (List.mem_of_getElem? (i := 173) rfl) rfl
theorem w_2_174 : (Jvm.Cond.methodLink "LoopMixerModel" (101 : Nat) ({ cls := "LoopMixerModel", name := "slotOf", desc := "(ZI)I" } : Jvm.MethodName)) ∈ lw_all := lw_i2 (List.mem_of_getElem? (i := 174) rfl) rfl
theorem w_2_175 : (Jvm.Cond.static ({ cls := "LoopMixerModel", name := "slotOf", desc := "(ZI)I" } : Jvm.MethodName)) ∈ lw_all := lw_i2 (List.mem_of_getElem? (i := 175) rfl) rfl
theorem w_2_176 : (Jvm.Cond.code ({ cls := "LoopMixerModel", name := "slotOf", desc := "(ZI)I" } : Jvm.MethodName) prog_7_method_8_code (2 : Nat) (Option.some Jvm.ClassFile.FieldType.int)) ∈ lw_all := lw_i2 (List.mem_of_getElem? (i := 176) rfl) rfl
theorem w_2_177 : (Jvm.Cond.methodLink "LoopMixerLaw" (21 : Nat) ({ cls := "LoopMixerModel", name := "share", desc := "(ZII)I" } : Jvm.MethodName)) ∈ lw_all := lw_i2 (List.mem_of_getElem? (i := 177) rfl) rfl
theorem w_2_178 : (Jvm.Cond.instanceMethod ({ cls := "LoopMixerModel", name := "share", desc := "(ZII)I" } : Jvm.MethodName)) ∈ lw_all := lw_i2 (List.mem_of_getElem? (i := 178) rfl) rfl
theorem w_2_179 : (Jvm.Cond.selects "LoopMixerModel" ({ cls := "LoopMixerModel", name := "share", desc := "(ZII)I" } : Jvm.MethodName) ({ cls := "LoopMixerModel", name := "share", desc := "(ZII)I" } : Jvm.MethodName)) ∈ lw_all := lw_i2 (List.mem_of_getElem? (i := 179) rfl) rfl
theorem w_2_180 : (Jvm.Cond.code ({ cls := "LoopMixerModel", name := "share", desc := "(ZII)I" } : Jvm.MethodName) prog_7_method_10_code (4 : Nat) (Option.some Jvm.ClassFile.FieldType.int)) ∈ lw_all := lw_i2 (List.mem_of_getElem? (i := 180) rfl) rfl
theorem w_2_181 : (Jvm.Cond.methodLink "LoopMixerLaw" (26 : Nat) ({ cls := "LoopMixerModel", name := "drop", desc := "(ZI)I" } : Jvm.MethodName)) ∈ lw_all := lw_i2 (List.mem_of_getElem? (i := 181) rfl) rfl
theorem w_2_182 : (Jvm.Cond.instanceMethod ({ cls := "LoopMixerModel", name := "drop", desc := "(ZI)I" } : Jvm.MethodName)) ∈ lw_all := lw_i2 (List.mem_of_getElem? (i := 182) rfl) rfl
theorem w_2_183 : (Jvm.Cond.selects "LoopMixerModel" ({ cls := "LoopMixerModel", name := "drop", desc := "(ZI)I" } : Jvm.MethodName) ({ cls := "LoopMixerModel", name := "drop", desc := "(ZI)I" } : Jvm.MethodName)) ∈ lw_all := lw_i2 (List.mem_of_getElem? (i := 183) rfl) rfl
theorem w_2_184 : (Jvm.Cond.code ({ cls := "LoopMixerModel", name := "drop", desc := "(ZI)I" } : Jvm.MethodName) prog_7_method_11_code (4 : Nat) (Option.some Jvm.ClassFile.FieldType.int)) ∈ lw_all := lw_i2 (List.mem_of_getElem? (i := 184) rfl) rfl
theorem w_2_185 : (Jvm.Cond.methodLink "LoopMixerLaw" (33 : Nat) ({ cls := "LoopMixerModel", name := "set", desc := "(ZIIJ)I" } : Jvm.MethodName)) ∈ lw_all := lw_i2 (List.mem_of_getElem? (i := 185) rfl) rfl
theorem w_2_186 : (Jvm.Cond.instanceMethod ({ cls := "LoopMixerModel", name := "set", desc := "(ZIIJ)I" } : Jvm.MethodName)) ∈ lw_all := lw_i2 (List.mem_of_getElem? (i := 186) rfl) rfl
theorem w_2_187 : (Jvm.Cond.selects "LoopMixerModel" ({ cls := "LoopMixerModel", name := "set", desc := "(ZIIJ)I" } : Jvm.MethodName) ({ cls := "LoopMixerModel", name := "set", desc := "(ZIIJ)I" } : Jvm.MethodName)) ∈ lw_all := lw_i2 (List.mem_of_getElem? (i := 187) rfl) rfl
theorem w_2_188 : (Jvm.Cond.code ({ cls := "LoopMixerModel", name := "set", desc := "(ZIIJ)I" } : Jvm.MethodName) prog_7_method_14_code (7 : Nat) (Option.some Jvm.ClassFile.FieldType.int)) ∈ lw_all := lw_i2 (List.mem_of_getElem? (i := 188) rfl) rfl
theorem w_2_189 : (Jvm.Cond.methodLink "LoopMixerModel" (105 : Nat) ({ cls := "LoopMixerModel", name := "isFine", desc := "(ZJ)Z" } : Jvm.MethodName)) ∈ lw_all := lw_i2 (List.mem_of_getElem? (i := 189) rfl) rfl
theorem w_2_190 : (Jvm.Cond.static ({ cls := "LoopMixerModel", name := "isFine", desc := "(ZJ)Z" } : Jvm.MethodName)) ∈ lw_all := lw_i2 (List.mem_of_getElem? (i := 190) rfl) rfl
theorem w_2_191 : (Jvm.Cond.code ({ cls := "LoopMixerModel", name := "isFine", desc := "(ZJ)Z" } : Jvm.MethodName) prog_7_method_4_code (3 : Nat) (Option.some Jvm.ClassFile.FieldType.boolean)) ∈ lw_all := lw_i2 (List.mem_of_getElem? (i := 191) rfl) rfl
theorem w_2_192 : (Jvm.Cond.constantLong "LoopMixerModel" (63 : Nat) (9223372036854775807 : Int64)) ∈ lw_all := lw_i2 (List.mem_of_getElem? (i := 192) rfl) rfl
theorem w_2_193 : (Jvm.Cond.constantLong "LoopMixerModel" (65 : Nat) (9218868437227405312 : Int64)) ∈ lw_all := lw_i2 (List.mem_of_getElem? (i := 193) rfl) rfl
theorem w_2_194 : (Jvm.Cond.constant "LoopMixerModel" (67 : Nat) (2147483647 : Int32)) ∈ lw_all := lw_i2 (List.mem_of_getElem? (i := 194) rfl) rfl
theorem w_2_195 : (Jvm.Cond.constant "LoopMixerModel" (68 : Nat) (2139095040 : Int32)) ∈ lw_all := lw_i2 (List.mem_of_getElem? (i := 195) rfl) rfl
theorem w_2_196 : (Jvm.Cond.methodLink "LoopMixerModel" (109 : Nat) ({ cls := "LoopMixerModel", name := "asked", desc := "(ZII)I" } : Jvm.MethodName)) ∈ lw_all := lw_i2 (List.mem_of_getElem? (i := 196) rfl) rfl
theorem w_2_198 : (Jvm.Cond.instanceMethod ({ cls := "LoopMixerModel", name := "asked", desc := "(ZII)I" } : Jvm.MethodName)) ∈ lw_all := lw_i2 (List.mem_of_getElem? (i := 198) rfl) rfl
theorem w_2_199 : (Jvm.Cond.code ({ cls := "LoopMixerModel", name := "asked", desc := "(ZII)I" } : Jvm.MethodName) prog_7_method_12_code (5 : Nat) (Option.some Jvm.ClassFile.FieldType.int)) ∈ lw_all := lw_i2 (List.mem_of_getElem? (i := 199) rfl) rfl
theorem w_2_200 : (Jvm.Cond.methodLink "LoopMixerModel" (113 : Nat) ({ cls := "LoopMixerModel", name := "fails", desc := "(I)I" } : Jvm.MethodName)) ∈ lw_all := lw_i2 (List.mem_of_getElem? (i := 200) rfl) rfl
theorem w_2_201 : (Jvm.Cond.static ({ cls := "LoopMixerModel", name := "fails", desc := "(I)I" } : Jvm.MethodName)) ∈ lw_all := lw_i2 (List.mem_of_getElem? (i := 201) rfl) rfl
theorem w_2_202 : (Jvm.Cond.code ({ cls := "LoopMixerModel", name := "fails", desc := "(I)I" } : Jvm.MethodName) prog_7_method_3_code (1 : Nat) (Option.some Jvm.ClassFile.FieldType.int)) ∈ lw_all := lw_i2 (List.mem_of_getElem? (i := 202) rfl) rfl
theorem w_2_203 : (Jvm.Cond.methodLink "LoopMixerModel" (117 : Nat) ({ cls := "LoopMixerModel", name := "number", desc := "(ZJ)D" } : Jvm.MethodName)) ∈ lw_all := lw_i2 (List.mem_of_getElem? (i := 203) rfl) rfl
theorem w_2_204 : (Jvm.Cond.static ({ cls := "LoopMixerModel", name := "number", desc := "(ZJ)D" } : Jvm.MethodName)) ∈ lw_all := lw_i2 (List.mem_of_getElem? (i := 204) rfl) rfl
theorem w_2_205 : (Jvm.Cond.code ({ cls := "LoopMixerModel", name := "number", desc := "(ZJ)D" } : Jvm.MethodName) prog_7_method_5_code (3 : Nat) (Option.some Jvm.ClassFile.FieldType.double)) ∈ lw_all := lw_i2 (List.mem_of_getElem? (i := 205) rfl) rfl
theorem w_2_206 : (Jvm.Cond.methodLink "LoopMixerModel" (69 : Nat) ({ cls := "java/lang/Double", name := "longBitsToDouble", desc := "(J)D" } : Jvm.MethodName)) ∈ lw_all := lw_i2 (List.mem_of_getElem? (i := 206) rfl) rfl
theorem w_2_207 : (Jvm.Cond.static ({ cls := "java/lang/Double", name := "longBitsToDouble", desc := "(J)D" } : Jvm.MethodName)) ∈ lw_all := lw_i2 (List.mem_of_getElem? (i := 207) rfl) rfl
theorem w_2_208 : (Jvm.Cond.native ({ cls := "java/lang/Double", name := "longBitsToDouble", desc := "(J)D" } : Jvm.MethodName)) ∈ lw_all := lw_i2 (List.mem_of_getElem? (i := 208) rfl) rfl
theorem w_2_209 : (Jvm.Cond.methodLink "LoopMixerModel" (75 : Nat) ({ cls := "java/lang/Float", name := "intBitsToFloat", desc := "(I)F" } : Jvm.MethodName)) ∈ lw_all := lw_i2 (List.mem_of_getElem? (i := 209) rfl) rfl
theorem w_2_210 : (Jvm.Cond.static ({ cls := "java/lang/Float", name := "intBitsToFloat", desc := "(I)F" } : Jvm.MethodName)) ∈ lw_all := lw_i2 (List.mem_of_getElem? (i := 210) rfl) rfl
theorem w_2_211 : (Jvm.Cond.native ({ cls := "java/lang/Float", name := "intBitsToFloat", desc := "(I)F" } : Jvm.MethodName)) ∈ lw_all := lw_i2 (List.mem_of_getElem? (i := 211) rfl) rfl
theorem w_2_212 : (Jvm.Cond.methodLink "LoopMixerLaw" (37 : Nat) ({ cls := "LoopMixerModel", name := "get", desc := "(ZII)I" } : Jvm.MethodName)) ∈ lw_all := lw_i2 (List.mem_of_getElem? (i := 212) rfl) rfl
theorem w_2_213 : (Jvm.Cond.instanceMethod ({ cls := "LoopMixerModel", name := "get", desc := "(ZII)I" } : Jvm.MethodName)) ∈ lw_all := lw_i2 (List.mem_of_getElem? (i := 213) rfl) rfl
theorem w_2_214 : (Jvm.Cond.selects "LoopMixerModel" ({ cls := "LoopMixerModel", name := "get", desc := "(ZII)I" } : Jvm.MethodName) ({ cls := "LoopMixerModel", name := "get", desc := "(ZII)I" } : Jvm.MethodName)) ∈ lw_all := lw_i2 (List.mem_of_getElem? (i := 214) rfl) rfl
theorem w_2_215 : (Jvm.Cond.code ({ cls := "LoopMixerModel", name := "get", desc := "(ZII)I" } : Jvm.MethodName) prog_7_method_15_code (5 : Nat) (Option.some Jvm.ClassFile.FieldType.int)) ∈ lw_all := lw_i2 (List.mem_of_getElem? (i := 215) rfl) rfl
theorem w_2_216 : (Jvm.Cond.methodLink "LoopMixerModel" (121 : Nat) ({ cls := "LoopMixerModel", name := "item", desc := "(ZII)D" } : Jvm.MethodName)) ∈ lw_all := lw_i2 (List.mem_of_getElem? (i := 216) rfl) rfl
theorem w_2_218 : (Jvm.Cond.instanceMethod ({ cls := "LoopMixerModel", name := "item", desc := "(ZII)D" } : Jvm.MethodName)) ∈ lw_all := lw_i2 (List.mem_of_getElem? (i := 218) rfl) rfl
theorem w_2_219 : (Jvm.Cond.code ({ cls := "LoopMixerModel", name := "item", desc := "(ZII)D" } : Jvm.MethodName) prog_7_method_13_code (4 : Nat) (Option.some Jvm.ClassFile.FieldType.double)) ∈ lw_all := lw_i2 (List.mem_of_getElem? (i := 219) rfl) rfl
theorem w_2_220 : (Jvm.Cond.methodLink "LoopMixerModel" (125 : Nat) ({ cls := "LoopMixerModel", name := "bitsOf", desc := "(ZD)J" } : Jvm.MethodName)) ∈ lw_all := lw_i2 (List.mem_of_getElem? (i := 220) rfl) rfl
theorem w_2_221 : (Jvm.Cond.static ({ cls := "LoopMixerModel", name := "bitsOf", desc := "(ZD)J" } : Jvm.MethodName)) ∈ lw_all := lw_i2 (List.mem_of_getElem? (i := 221) rfl) rfl
theorem w_2_222 : (Jvm.Cond.code ({ cls := "LoopMixerModel", name := "bitsOf", desc := "(ZD)J" } : Jvm.MethodName) prog_7_method_6_code (3 : Nat) (Option.some Jvm.ClassFile.FieldType.long)) ∈ lw_all := lw_i2 (List.mem_of_getElem? (i := 222) rfl) rfl
theorem w_2_223 : (Jvm.Cond.methodLink "LoopMixerModel" (79 : Nat) ({ cls := "java/lang/Double", name := "doubleToLongBits", desc := "(D)J" } : Jvm.MethodName)) ∈ lw_all := lw_i2 (List.mem_of_getElem? (i := 223) rfl) rfl
theorem w_2_224 : (Jvm.Cond.static ({ cls := "java/lang/Double", name := "doubleToLongBits", desc := "(D)J" } : Jvm.MethodName)) ∈ lw_all := lw_i2 (List.mem_of_getElem? (i := 224) rfl) rfl
theorem w_2_225 : (Jvm.Cond.code ({ cls := "java/lang/Double", name := "doubleToLongBits", desc := "(D)J" } : Jvm.MethodName) prog_8_method_23_code (2 : Nat) (Option.some Jvm.ClassFile.FieldType.long)) ∈ lw_all := lw_i2 (List.mem_of_getElem? (i := 225) rfl) rfl
theorem w_2_226 : (Jvm.Cond.methodLink "java/lang/Double" (122 : Nat) ({ cls := "java/lang/Double", name := "isNaN", desc := "(D)Z" } : Jvm.MethodName)) ∈ lw_all := lw_i2 (List.mem_of_getElem? (i := 226) rfl) rfl
theorem w_2_227 : (Jvm.Cond.static ({ cls := "java/lang/Double", name := "isNaN", desc := "(D)Z" } : Jvm.MethodName)) ∈ lw_all := lw_i2 (List.mem_of_getElem? (i := 227) rfl) rfl
theorem w_2_228 : (Jvm.Cond.code ({ cls := "java/lang/Double", name := "isNaN", desc := "(D)Z" } : Jvm.MethodName) prog_8_method_6_code (2 : Nat) (Option.some Jvm.ClassFile.FieldType.boolean)) ∈ lw_all := lw_i2 (List.mem_of_getElem? (i := 228) rfl) rfl
theorem w_2_229 : (Jvm.Cond.methodLink "java/lang/Double" (134 : Nat) ({ cls := "java/lang/Double", name := "doubleToRawLongBits", desc := "(D)J" } : Jvm.MethodName)) ∈ lw_all := lw_i2 (List.mem_of_getElem? (i := 229) rfl) rfl
theorem w_2_230 : (Jvm.Cond.static ({ cls := "java/lang/Double", name := "doubleToRawLongBits", desc := "(D)J" } : Jvm.MethodName)) ∈ lw_all := lw_i2 (List.mem_of_getElem? (i := 230) rfl) rfl
theorem w_2_231 : (Jvm.Cond.native ({ cls := "java/lang/Double", name := "doubleToRawLongBits", desc := "(D)J" } : Jvm.MethodName)) ∈ lw_all := lw_i2 (List.mem_of_getElem? (i := 231) rfl) rfl
theorem w_2_232 : (Jvm.Cond.constantLong "java/lang/Double" (137 : Nat) (9221120237041090560 : Int64)) ∈ lw_all := lw_i2 (List.mem_of_getElem? (i := 232) rfl) rfl
theorem w_2_233 : (Jvm.Cond.methodLink "LoopMixerModel" (83 : Nat) ({ cls := "java/lang/Float", name := "floatToIntBits", desc := "(F)I" } : Jvm.MethodName)) ∈ lw_all := lw_i2 (List.mem_of_getElem? (i := 233) rfl) rfl
theorem w_2_234 : (Jvm.Cond.static ({ cls := "java/lang/Float", name := "floatToIntBits", desc := "(F)I" } : Jvm.MethodName)) ∈ lw_all := lw_i2 (List.mem_of_getElem? (i := 234) rfl) rfl
theorem w_2_235 : (Jvm.Cond.code ({ cls := "java/lang/Float", name := "floatToIntBits", desc := "(F)I" } : Jvm.MethodName) prog_9_method_24_code (1 : Nat) (Option.some Jvm.ClassFile.FieldType.int)) ∈ lw_all := lw_i2 (List.mem_of_getElem? (i := 235) rfl) rfl
theorem w_2_236 : (Jvm.Cond.methodLink "java/lang/Float" (59 : Nat) ({ cls := "java/lang/Float", name := "isNaN", desc := "(F)Z" } : Jvm.MethodName)) ∈ lw_all := lw_i2 (List.mem_of_getElem? (i := 236) rfl) rfl
theorem w_2_237 : (Jvm.Cond.static ({ cls := "java/lang/Float", name := "isNaN", desc := "(F)Z" } : Jvm.MethodName)) ∈ lw_all := lw_i2 (List.mem_of_getElem? (i := 237) rfl) rfl
theorem w_2_238 : (Jvm.Cond.code ({ cls := "java/lang/Float", name := "isNaN", desc := "(F)Z" } : Jvm.MethodName) prog_9_method_6_code (1 : Nat) (Option.some Jvm.ClassFile.FieldType.boolean)) ∈ lw_all := lw_i2 (List.mem_of_getElem? (i := 238) rfl) rfl
theorem w_2_239 : (Jvm.Cond.methodLink "java/lang/Float" (74 : Nat) ({ cls := "java/lang/Float", name := "floatToRawIntBits", desc := "(F)I" } : Jvm.MethodName)) ∈ lw_all := lw_i2 (List.mem_of_getElem? (i := 239) rfl) rfl
theorem w_3_0 : (Jvm.Cond.static ({ cls := "java/lang/Float", name := "floatToRawIntBits", desc := "(F)I" } : Jvm.MethodName)) ∈ lw_all := lw_i3 (List.mem_of_getElem? (i := 0) rfl) rfl
theorem w_3_1 : (Jvm.Cond.native ({ cls := "java/lang/Float", name := "floatToRawIntBits", desc := "(F)I" } : Jvm.MethodName)) ∈ lw_all := lw_i3 (List.mem_of_getElem? (i := 1) rfl) rfl
theorem w_3_2 : (Jvm.Cond.constant "java/lang/Float" (77 : Nat) (2143289344 : Int32)) ∈ lw_all := lw_i3 (List.mem_of_getElem? (i := 2) rfl) rfl
theorem w_3_3 : (Jvm.Cond.methodLink "LoopMixerLaw" (42 : Nat) ({ cls := "LoopMixerModel", name := "wrap", desc := "(ZIII)I" } : Jvm.MethodName)) ∈ lw_all := lw_i3 (List.mem_of_getElem? (i := 3) rfl) rfl
theorem w_3_4 : (Jvm.Cond.instanceMethod ({ cls := "LoopMixerModel", name := "wrap", desc := "(ZIII)I" } : Jvm.MethodName)) ∈ lw_all := lw_i3 (List.mem_of_getElem? (i := 4) rfl) rfl
theorem w_3_5 : (Jvm.Cond.selects "LoopMixerModel" ({ cls := "LoopMixerModel", name := "wrap", desc := "(ZIII)I" } : Jvm.MethodName) ({ cls := "LoopMixerModel", name := "wrap", desc := "(ZIII)I" } : Jvm.MethodName)) ∈ lw_all := lw_i3 (List.mem_of_getElem? (i := 5) rfl) rfl
theorem w_3_6 : (Jvm.Cond.code ({ cls := "LoopMixerModel", name := "wrap", desc := "(ZIII)I" } : Jvm.MethodName) prog_7_method_16_code (8 : Nat) (Option.some Jvm.ClassFile.FieldType.int)) ∈ lw_all := lw_i3 (List.mem_of_getElem? (i := 6) rfl) rfl
theorem w_3_7 : (Jvm.Cond.methodLink "LoopMixerLaw" (47 : Nat) ({ cls := "LoopMixerModel", name := "effect", desc := "(IIJ)I" } : Jvm.MethodName)) ∈ lw_all := lw_i3 (List.mem_of_getElem? (i := 7) rfl) rfl
theorem w_3_8 : (Jvm.Cond.instanceMethod ({ cls := "LoopMixerModel", name := "effect", desc := "(IIJ)I" } : Jvm.MethodName)) ∈ lw_all := lw_i3 (List.mem_of_getElem? (i := 8) rfl) rfl
theorem w_3_9 : (Jvm.Cond.selects "LoopMixerModel" ({ cls := "LoopMixerModel", name := "effect", desc := "(IIJ)I" } : Jvm.MethodName) ({ cls := "LoopMixerModel", name := "effect", desc := "(IIJ)I" } : Jvm.MethodName)) ∈ lw_all := lw_i3 (List.mem_of_getElem? (i := 9) rfl) rfl
theorem w_3_10 : (Jvm.Cond.code ({ cls := "LoopMixerModel", name := "effect", desc := "(IIJ)I" } : Jvm.MethodName) prog_7_method_17_code (7 : Nat) (Option.some Jvm.ClassFile.FieldType.int)) ∈ lw_all := lw_i3 (List.mem_of_getElem? (i := 10) rfl) rfl
theorem w_3_11 : (Jvm.Cond.constantDouble "LoopMixerModel" (133 : Nat) (13920209183539462144 : UInt64)) ∈ lw_all := lw_i3 (List.mem_of_getElem? (i := 11) rfl) rfl
theorem w_3_12 : (Jvm.Cond.constantDouble "LoopMixerModel" (135 : Nat) (4696837146684686336 : UInt64)) ∈ lw_all := lw_i3 (List.mem_of_getElem? (i := 12) rfl) rfl
theorem w_3_13 : (Jvm.Cond.methodLink "LoopMixerLaw" (52 : Nat) ({ cls := "LoopMixerModel", name := "make", desc := "(IJ)I" } : Jvm.MethodName)) ∈ lw_all := lw_i3 (List.mem_of_getElem? (i := 13) rfl) rfl
theorem w_3_14 : (Jvm.Cond.instanceMethod ({ cls := "LoopMixerModel", name := "make", desc := "(IJ)I" } : Jvm.MethodName)) ∈ lw_all := lw_i3 (List.mem_of_getElem? (i := 14) rfl) rfl
theorem w_3_15 : (Jvm.Cond.selects "LoopMixerModel" ({ cls := "LoopMixerModel", name := "make", desc := "(IJ)I" } : Jvm.MethodName) ({ cls := "LoopMixerModel", name := "make", desc := "(IJ)I" } : Jvm.MethodName)) ∈ lw_all := lw_i3 (List.mem_of_getElem? (i := 15) rfl) rfl
theorem w_3_16 : (Jvm.Cond.code ({ cls := "LoopMixerModel", name := "make", desc := "(IJ)I" } : Jvm.MethodName) prog_7_method_19_code (4 : Nat) (Option.some Jvm.ClassFile.FieldType.int)) ∈ lw_all := lw_i3 (List.mem_of_getElem? (i := 16) rfl) rfl
theorem w_3_17 : (Jvm.Cond.methodLink "LoopMixerModel" (150 : Nat) ({ cls := "LoopMixerModel", name := "made", desc := "(ID)D" } : Jvm.MethodName)) ∈ lw_all := lw_i3 (List.mem_of_getElem? (i := 17) rfl) rfl
theorem w_3_19 : (Jvm.Cond.instanceMethod ({ cls := "LoopMixerModel", name := "made", desc := "(ID)D" } : Jvm.MethodName)) ∈ lw_all := lw_i3 (List.mem_of_getElem? (i := 19) rfl) rfl
theorem w_3_20 : (Jvm.Cond.code ({ cls := "LoopMixerModel", name := "made", desc := "(ID)D" } : Jvm.MethodName) prog_7_method_18_code (8 : Nat) (Option.some Jvm.ClassFile.FieldType.double)) ∈ lw_all := lw_i3 (List.mem_of_getElem? (i := 20) rfl) rfl
theorem w_3_21 : (Jvm.Cond.methodLink "LoopMixerModel" (140 : Nat) ({ cls := "LoopMixerModel", name := "held", desc := "(D)D" } : Jvm.MethodName)) ∈ lw_all := lw_i3 (List.mem_of_getElem? (i := 21) rfl) rfl
theorem w_3_22 : (Jvm.Cond.static ({ cls := "LoopMixerModel", name := "held", desc := "(D)D" } : Jvm.MethodName)) ∈ lw_all := lw_i3 (List.mem_of_getElem? (i := 22) rfl) rfl
theorem w_3_23 : (Jvm.Cond.code ({ cls := "LoopMixerModel", name := "held", desc := "(D)D" } : Jvm.MethodName) prog_7_method_7_code (3 : Nat) (Option.some Jvm.ClassFile.FieldType.double)) ∈ lw_all := lw_i3 (List.mem_of_getElem? (i := 23) rfl) rfl
theorem w_3_24 : (Jvm.Cond.constantFloat "LoopMixerModel" (87 : Nat) (2139095039 : UInt32)) ∈ lw_all := lw_i3 (List.mem_of_getElem? (i := 24) rfl) rfl
theorem w_3_25 : (Jvm.Cond.constantDouble "LoopMixerModel" (88 : Nat) (5183643170566569984 : UInt64)) ∈ lw_all := lw_i3 (List.mem_of_getElem? (i := 25) rfl) rfl
theorem w_3_26 : (Jvm.Cond.constantFloat "LoopMixerModel" (90 : Nat) (4286578687 : UInt32)) ∈ lw_all := lw_i3 (List.mem_of_getElem? (i := 26) rfl) rfl
theorem w_3_27 : (Jvm.Cond.constantDouble "LoopMixerModel" (91 : Nat) (14407015207421345792 : UInt64)) ∈ lw_all := lw_i3 (List.mem_of_getElem? (i := 27) rfl) rfl
theorem w_3_28 : (Jvm.Cond.constantDouble "LoopMixerModel" (144 : Nat) (4611686018427387904 : UInt64)) ∈ lw_all := lw_i3 (List.mem_of_getElem? (i := 28) rfl) rfl
theorem w_3_29 : (Jvm.Cond.constantDouble "LoopMixerModel" (146 : Nat) (13830554455654793216 : UInt64)) ∈ lw_all := lw_i3 (List.mem_of_getElem? (i := 29) rfl) rfl
theorem w_3_30 : (Jvm.Cond.constantDouble "LoopMixerModel" (148 : Nat) (13835058055282163712 : UInt64)) ∈ lw_all := lw_i3 (List.mem_of_getElem? (i := 30) rfl) rfl
theorem w_3_31 : (Jvm.Cond.methodLink "LoopMixerLaw" (57 : Nat) ({ cls := "LoopMixerModel", name := "rack", desc := "(II)I" } : Jvm.MethodName)) ∈ lw_all := lw_i3 (List.mem_of_getElem? (i := 31) rfl) rfl
theorem w_3_32 : (Jvm.Cond.instanceMethod ({ cls := "LoopMixerModel", name := "rack", desc := "(II)I" } : Jvm.MethodName)) ∈ lw_all := lw_i3 (List.mem_of_getElem? (i := 32) rfl) rfl
theorem w_3_33 : (Jvm.Cond.selects "LoopMixerModel" ({ cls := "LoopMixerModel", name := "rack", desc := "(II)I" } : Jvm.MethodName) ({ cls := "LoopMixerModel", name := "rack", desc := "(II)I" } : Jvm.MethodName)) ∈ lw_all := lw_i3 (List.mem_of_getElem? (i := 33) rfl) rfl
theorem w_3_34 : (Jvm.Cond.code ({ cls := "LoopMixerModel", name := "rack", desc := "(II)I" } : Jvm.MethodName) prog_7_method_21_code (4 : Nat) (Option.some Jvm.ClassFile.FieldType.int)) ∈ lw_all := lw_i3 (List.mem_of_getElem? (i := 34) rfl) rfl
theorem w_3_35 : (Jvm.Cond.methodLink "LoopMixerLaw" (62 : Nat) ({ cls := "LoopMixerModel", name := "hang", desc := "(III)I" } : Jvm.MethodName)) ∈ lw_all := lw_i3 (List.mem_of_getElem? (i := 35) rfl) rfl
theorem w_3_36 : (Jvm.Cond.instanceMethod ({ cls := "LoopMixerModel", name := "hang", desc := "(III)I" } : Jvm.MethodName)) ∈ lw_all := lw_i3 (List.mem_of_getElem? (i := 36) rfl) rfl
theorem w_3_37 : (Jvm.Cond.selects "LoopMixerModel" ({ cls := "LoopMixerModel", name := "hang", desc := "(III)I" } : Jvm.MethodName) ({ cls := "LoopMixerModel", name := "hang", desc := "(III)I" } : Jvm.MethodName)) ∈ lw_all := lw_i3 (List.mem_of_getElem? (i := 37) rfl) rfl
theorem w_3_38 : (Jvm.Cond.code ({ cls := "LoopMixerModel", name := "hang", desc := "(III)I" } : Jvm.MethodName) prog_7_method_22_code (5 : Nat) (Option.some Jvm.ClassFile.FieldType.int)) ∈ lw_all := lw_i3 (List.mem_of_getElem? (i := 38) rfl) rfl
theorem w_3_39 : (Jvm.Cond.methodLink "LoopMixerModel" (154 : Nat) ({ cls := "LoopMixerModel", name := "fits", desc := "(II)Z" } : Jvm.MethodName)) ∈ lw_all := lw_i3 (List.mem_of_getElem? (i := 39) rfl) rfl
theorem w_3_40 : (Jvm.Cond.static ({ cls := "LoopMixerModel", name := "fits", desc := "(II)Z" } : Jvm.MethodName)) ∈ lw_all := lw_i3 (List.mem_of_getElem? (i := 40) rfl) rfl
theorem w_3_41 : (Jvm.Cond.code ({ cls := "LoopMixerModel", name := "fits", desc := "(II)Z" } : Jvm.MethodName) prog_7_method_20_code (2 : Nat) (Option.some Jvm.ClassFile.FieldType.boolean)) ∈ lw_all := lw_i3 (List.mem_of_getElem? (i := 41) rfl) rfl
theorem w_3_42 : (Jvm.Cond.methodLink "LoopMixerLaw" (67 : Nat) ({ cls := "LoopMixerModel", name := "take", desc := "(IIII)I" } : Jvm.MethodName)) ∈ lw_all := lw_i3 (List.mem_of_getElem? (i := 42) rfl) rfl
theorem w_3_43 : (Jvm.Cond.instanceMethod ({ cls := "LoopMixerModel", name := "take", desc := "(IIII)I" } : Jvm.MethodName)) ∈ lw_all := lw_i3 (List.mem_of_getElem? (i := 43) rfl) rfl
theorem w_3_44 : (Jvm.Cond.selects "LoopMixerModel" ({ cls := "LoopMixerModel", name := "take", desc := "(IIII)I" } : Jvm.MethodName) ({ cls := "LoopMixerModel", name := "take", desc := "(IIII)I" } : Jvm.MethodName)) ∈ lw_all := lw_i3 (List.mem_of_getElem? (i := 44) rfl) rfl
theorem w_3_45 : (Jvm.Cond.code ({ cls := "LoopMixerModel", name := "take", desc := "(IIII)I" } : Jvm.MethodName) prog_7_method_23_code (6 : Nat) (Option.some Jvm.ClassFile.FieldType.int)) ∈ lw_all := lw_i3 (List.mem_of_getElem? (i := 45) rfl) rfl
theorem w_3_46 : (Jvm.Cond.methodLink "LoopMixerLaw" (72 : Nat) ({ cls := "LoopMixerModel", name := "head", desc := "(IIIIJ)I" } : Jvm.MethodName)) ∈ lw_all := lw_i3 (List.mem_of_getElem? (i := 46) rfl) rfl
theorem w_3_47 : (Jvm.Cond.instanceMethod ({ cls := "LoopMixerModel", name := "head", desc := "(IIIIJ)I" } : Jvm.MethodName)) ∈ lw_all := lw_i3 (List.mem_of_getElem? (i := 47) rfl) rfl
theorem w_3_48 : (Jvm.Cond.selects "LoopMixerModel" ({ cls := "LoopMixerModel", name := "head", desc := "(IIIIJ)I" } : Jvm.MethodName) ({ cls := "LoopMixerModel", name := "head", desc := "(IIIIJ)I" } : Jvm.MethodName)) ∈ lw_all := lw_i3 (List.mem_of_getElem? (i := 48) rfl) rfl
theorem w_3_49 : (Jvm.Cond.code ({ cls := "LoopMixerModel", name := "head", desc := "(IIIIJ)I" } : Jvm.MethodName) prog_7_method_24_code (9 : Nat) (Option.some Jvm.ClassFile.FieldType.int)) ∈ lw_all := lw_i3 (List.mem_of_getElem? (i := 49) rfl) rfl
theorem w_3_50 : (Jvm.Cond.constantDouble "LoopMixerModel" (158 : Nat) (13857576053419016192 : UInt64)) ∈ lw_all := lw_i3 (List.mem_of_getElem? (i := 50) rfl) rfl
theorem w_3_51 : (Jvm.Cond.constantDouble "LoopMixerModel" (160 : Nat) (4634204016564240384 : UInt64)) ∈ lw_all := lw_i3 (List.mem_of_getElem? (i := 51) rfl) rfl
theorem w_3_52 : (Jvm.Cond.methodLink "LoopMixerLaw" (76 : Nat) ({ cls := "LoopMixerModel", name := "play", desc := "(II)I" } : Jvm.MethodName)) ∈ lw_all := lw_i3 (List.mem_of_getElem? (i := 52) rfl) rfl
theorem w_3_53 : (Jvm.Cond.instanceMethod ({ cls := "LoopMixerModel", name := "play", desc := "(II)I" } : Jvm.MethodName)) ∈ lw_all := lw_i3 (List.mem_of_getElem? (i := 53) rfl) rfl
theorem w_3_54 : (Jvm.Cond.selects "LoopMixerModel" ({ cls := "LoopMixerModel", name := "play", desc := "(II)I" } : Jvm.MethodName) ({ cls := "LoopMixerModel", name := "play", desc := "(II)I" } : Jvm.MethodName)) ∈ lw_all := lw_i3 (List.mem_of_getElem? (i := 54) rfl) rfl
theorem w_3_55 : (Jvm.Cond.code ({ cls := "LoopMixerModel", name := "play", desc := "(II)I" } : Jvm.MethodName) prog_7_method_26_code (4 : Nat) (Option.some Jvm.ClassFile.FieldType.int)) ∈ lw_all := lw_i3 (List.mem_of_getElem? (i := 55) rfl) rfl
theorem w_3_56 : (Jvm.Cond.methodLink "LoopMixerModel" (167 : Nat) ({ cls := "LoopMixerModel", name := "step", desc := "(I)I" } : Jvm.MethodName)) ∈ lw_all := lw_i3 (List.mem_of_getElem? (i := 56) rfl) rfl
theorem w_3_58 : (Jvm.Cond.instanceMethod ({ cls := "LoopMixerModel", name := "step", desc := "(I)I" } : Jvm.MethodName)) ∈ lw_all := lw_i3 (List.mem_of_getElem? (i := 58) rfl) rfl
theorem w_3_59 : (Jvm.Cond.code ({ cls := "LoopMixerModel", name := "step", desc := "(I)I" } : Jvm.MethodName) prog_7_method_25_code (11 : Nat) (Option.some Jvm.ClassFile.FieldType.int)) ∈ lw_all := lw_i3 (List.mem_of_getElem? (i := 59) rfl) rfl
theorem w_3_60 : (Jvm.Cond.constantLong "LoopMixerModel" (162 : Nat) (8 : Int64)) ∈ lw_all := lw_i3 (List.mem_of_getElem? (i := 60) rfl) rfl
theorem w_3_61 : (Jvm.Cond.methodLink "LoopMixerLaw" (81 : Nat) ({ cls := "LoopMixerModel", name := "failed", desc := "()I" } : Jvm.MethodName)) ∈ lw_all := lw_i3 (List.mem_of_getElem? (i := 61) rfl) rfl
theorem w_3_62 : (Jvm.Cond.instanceMethod ({ cls := "LoopMixerModel", name := "failed", desc := "()I" } : Jvm.MethodName)) ∈ lw_all := lw_i3 (List.mem_of_getElem? (i := 62) rfl) rfl
theorem w_3_63 : (Jvm.Cond.selects "LoopMixerModel" ({ cls := "LoopMixerModel", name := "failed", desc := "()I" } : Jvm.MethodName) ({ cls := "LoopMixerModel", name := "failed", desc := "()I" } : Jvm.MethodName)) ∈ lw_all := lw_i3 (List.mem_of_getElem? (i := 63) rfl) rfl
theorem w_3_64 : (Jvm.Cond.code ({ cls := "LoopMixerModel", name := "failed", desc := "()I" } : Jvm.MethodName) prog_7_method_27_code (1 : Nat) (Option.some Jvm.ClassFile.FieldType.int)) ∈ lw_all := lw_i3 (List.mem_of_getElem? (i := 64) rfl) rfl
theorem w_3_65 : (Jvm.Cond.methodLink "LoopMixerLaw" (85 : Nat) ({ cls := "LoopMixerModel", name := "mix", desc := "(II)I" } : Jvm.MethodName)) ∈ lw_all := lw_i3 (List.mem_of_getElem? (i := 65) rfl) rfl
theorem w_3_66 : (Jvm.Cond.instanceMethod ({ cls := "LoopMixerModel", name := "mix", desc := "(II)I" } : Jvm.MethodName)) ∈ lw_all := lw_i3 (List.mem_of_getElem? (i := 66) rfl) rfl
theorem w_3_67 : (Jvm.Cond.selects "LoopMixerModel" ({ cls := "LoopMixerModel", name := "mix", desc := "(II)I" } : Jvm.MethodName) ({ cls := "LoopMixerModel", name := "mix", desc := "(II)I" } : Jvm.MethodName)) ∈ lw_all := lw_i3 (List.mem_of_getElem? (i := 67) rfl) rfl
theorem w_3_68 : (Jvm.Cond.code ({ cls := "LoopMixerModel", name := "mix", desc := "(II)I" } : Jvm.MethodName) prog_7_method_28_code (6 : Nat) (Option.some Jvm.ClassFile.FieldType.int)) ∈ lw_all := lw_i3 (List.mem_of_getElem? (i := 68) rfl) rfl
theorem w_3_69 : (Jvm.Cond.constantDouble "LoopMixerModel" (170 : Nat) (4674736138332667904 : UInt64)) ∈ lw_all := lw_i3 (List.mem_of_getElem? (i := 69) rfl) rfl
theorem w_3_70 : (Jvm.Cond.methodLink "LoopMixerLaw" (89 : Nat) ({ cls := "LoopMixerModel", name := "hush", desc := "()I" } : Jvm.MethodName)) ∈ lw_all := lw_i3 (List.mem_of_getElem? (i := 70) rfl) rfl
theorem w_3_71 : (Jvm.Cond.instanceMethod ({ cls := "LoopMixerModel", name := "hush", desc := "()I" } : Jvm.MethodName)) ∈ lw_all := lw_i3 (List.mem_of_getElem? (i := 71) rfl) rfl
theorem w_3_72 : (Jvm.Cond.selects "LoopMixerModel" ({ cls := "LoopMixerModel", name := "hush", desc := "()I" } : Jvm.MethodName) ({ cls := "LoopMixerModel", name := "hush", desc := "()I" } : Jvm.MethodName)) ∈ lw_all := lw_i3 (List.mem_of_getElem? (i := 72) rfl) rfl
theorem w_3_73 : (Jvm.Cond.code ({ cls := "LoopMixerModel", name := "hush", desc := "()I" } : Jvm.MethodName) prog_7_method_29_code (2 : Nat) (Option.some Jvm.ClassFile.FieldType.int)) ∈ lw_all := lw_i3 (List.mem_of_getElem? (i := 73) rfl) rfl
theorem w_3_74 : (Jvm.Cond.methodLink "LoopMixerLaw" (93 : Nat) ({ cls := "LoopMixerModel", name := "at", desc := "(II)I" } : Jvm.MethodName)) ∈ lw_all := lw_i3 (List.mem_of_getElem? (i := 74) rfl) rfl
theorem w_3_75 : (Jvm.Cond.instanceMethod ({ cls := "LoopMixerModel", name := "at", desc := "(II)I" } : Jvm.MethodName)) ∈ lw_all := lw_i3 (List.mem_of_getElem? (i := 75) rfl) rfl
theorem w_3_76 : (Jvm.Cond.selects "LoopMixerModel" ({ cls := "LoopMixerModel", name := "at", desc := "(II)I" } : Jvm.MethodName) ({ cls := "LoopMixerModel", name := "at", desc := "(II)I" } : Jvm.MethodName)) ∈ lw_all := lw_i3 (List.mem_of_getElem? (i := 76) rfl) rfl
theorem w_3_77 : (Jvm.Cond.code ({ cls := "LoopMixerModel", name := "at", desc := "(II)I" } : Jvm.MethodName) prog_7_method_30_code (3 : Nat) (Option.some Jvm.ClassFile.FieldType.int)) ∈ lw_all := lw_i3 (List.mem_of_getElem? (i := 77) rfl) rfl
theorem w_3_78 : (Jvm.Cond.methodLink "LoopMixerLaw" (98 : Nat) ({ cls := "LoopMixerModel", name := "clock", desc := "(JI)I" } : Jvm.MethodName)) ∈ lw_all := lw_i3 (List.mem_of_getElem? (i := 78) rfl) rfl
theorem w_3_79 : (Jvm.Cond.instanceMethod ({ cls := "LoopMixerModel", name := "clock", desc := "(JI)I" } : Jvm.MethodName)) ∈ lw_all := lw_i3 (List.mem_of_getElem? (i := 79) rfl) rfl
theorem w_3_80 : (Jvm.Cond.selects "LoopMixerModel" ({ cls := "LoopMixerModel", name := "clock", desc := "(JI)I" } : Jvm.MethodName) ({ cls := "LoopMixerModel", name := "clock", desc := "(JI)I" } : Jvm.MethodName)) ∈ lw_all := lw_i3 (List.mem_of_getElem? (i := 80) rfl) rfl
theorem w_3_81 : (Jvm.Cond.code ({ cls := "LoopMixerModel", name := "clock", desc := "(JI)I" } : Jvm.MethodName) prog_7_method_31_code (4 : Nat) (Option.some Jvm.ClassFile.FieldType.int)) ∈ lw_all := lw_i3 (List.mem_of_getElem? (i := 81) rfl) rfl
theorem w_3_82 : (Jvm.Cond.methodLink "LoopMixerLaw" (103 : Nat) ({ cls := "LoopMixerModel", name := "told", desc := "()J" } : Jvm.MethodName)) ∈ lw_all := lw_i3 (List.mem_of_getElem? (i := 82) rfl) rfl
theorem w_3_83 : (Jvm.Cond.instanceMethod ({ cls := "LoopMixerModel", name := "told", desc := "()J" } : Jvm.MethodName)) ∈ lw_all := lw_i3 (List.mem_of_getElem? (i := 83) rfl) rfl
theorem w_3_84 : (Jvm.Cond.selects "LoopMixerModel" ({ cls := "LoopMixerModel", name := "told", desc := "()J" } : Jvm.MethodName) ({ cls := "LoopMixerModel", name := "told", desc := "()J" } : Jvm.MethodName)) ∈ lw_all := lw_i3 (List.mem_of_getElem? (i := 84) rfl) rfl
theorem w_3_85 : (Jvm.Cond.code ({ cls := "LoopMixerModel", name := "told", desc := "()J" } : Jvm.MethodName) prog_7_method_32_code (1 : Nat) (Option.some Jvm.ClassFile.FieldType.long)) ∈ lw_all := lw_i3 (List.mem_of_getElem? (i := 85) rfl) rfl
theorem w_3_86 : (Jvm.Cond.constantLong "LoopMixerLaw" (27 : Nat) (4294967295 : Int64)) ∈ lw_all := lw_i3 (List.mem_of_getElem? (i := 86) rfl) rfl
theorem w_S_0 : (Jvm.Cond.selects "LoopMixer" ({ cls := "LoopMixer", name := "rowsOf", desc := "(Z)[[D" } : Jvm.MethodName) ({ cls := "LoopMixer", name := "rowsOf", desc := "(Z)[[D" } : Jvm.MethodName)) ∈ lw_all := lw_iS (List.mem_of_getElem? (i := 0) rfl) rfl
theorem w_S_1 : (Jvm.Cond.selects "LoopMixer$Numbers" ({ cls := "LoopMixer$Numbers", name := "sizeToldBy", desc := "(JII)D" } : Jvm.MethodName) ({ cls := "LoopMixer$Numbers", name := "sizeToldBy", desc := "(JII)D" } : Jvm.MethodName)) ∈ lw_all := lw_iS (List.mem_of_getElem? (i := 1) rfl) rfl
theorem w_S_2 : (Jvm.Cond.selects "LoopMixer$Numbers" ({ cls := "LoopMixer$Numbers", name := "scaled", desc := "(DI)D" } : Jvm.MethodName) ({ cls := "LoopMixer$Numbers", name := "scaled", desc := "(DI)D" } : Jvm.MethodName)) ∈ lw_all := lw_iS (List.mem_of_getElem? (i := 2) rfl) rfl
theorem w_S_3 : (Jvm.Cond.selects "LoopMixer$Numbers" ({ cls := "LoopMixer$Numbers", name := "powerOfTwo", desc := "(I)D" } : Jvm.MethodName) ({ cls := "LoopMixer$Numbers", name := "powerOfTwo", desc := "(I)D" } : Jvm.MethodName)) ∈ lw_all := lw_iS (List.mem_of_getElem? (i := 3) rfl) rfl
theorem w_S_4 : (Jvm.Cond.selects "LoopMixer$Numbers" ({ cls := "LoopMixer$Numbers", name := "bitsOfSize", desc := "(DII)J" } : Jvm.MethodName) ({ cls := "LoopMixer$Numbers", name := "bitsOfSize", desc := "(DII)J" } : Jvm.MethodName)) ∈ lw_all := lw_iS (List.mem_of_getElem? (i := 4) rfl) rfl
theorem w_S_5 : (Jvm.Cond.selects "LoopMixer" ({ cls := "LoopMixer", name := "tell", desc := "(J)I" } : Jvm.MethodName) ({ cls := "LoopMixer", name := "tell", desc := "(J)I" } : Jvm.MethodName)) ∈ lw_all := lw_iS (List.mem_of_getElem? (i := 5) rfl) rfl
theorem w_S_6 : (Jvm.Cond.selects "LoopMixer$Effect" ({ cls := "LoopMixer$Effect", name := "crushed", desc := "(D)D" } : Jvm.MethodName) ({ cls := "LoopMixer$Effect", name := "crushed", desc := "(D)D" } : Jvm.MethodName)) ∈ lw_all := lw_iS (List.mem_of_getElem? (i := 6) rfl) rfl
theorem w_S_7 : (Jvm.Cond.selects "LoopMixer" ({ cls := "LoopMixer", name := "isSetHead", desc := "(I)Z" } : Jvm.MethodName) ({ cls := "LoopMixer", name := "isSetHead", desc := "(I)Z" } : Jvm.MethodName)) ∈ lw_all := lw_iS (List.mem_of_getElem? (i := 7) rfl) rfl
theorem w_S_8 : (Jvm.Cond.selects "LoopMixer" ({ cls := "LoopMixer", name := "step", desc := "(LLoopMixer$Head;)I" } : Jvm.MethodName) ({ cls := "LoopMixer", name := "step", desc := "(LLoopMixer$Head;)I" } : Jvm.MethodName)) ∈ lw_all := lw_iS (List.mem_of_getElem? (i := 8) rfl) rfl
theorem w_S_9 : (Jvm.Cond.selects "LoopMixer" ({ cls := "LoopMixer", name := "addToMix", desc := "(ID)V" } : Jvm.MethodName) ({ cls := "LoopMixer", name := "addToMix", desc := "(ID)V" } : Jvm.MethodName)) ∈ lw_all := lw_iS (List.mem_of_getElem? (i := 9) rfl) rfl
theorem w_S_10 : (Jvm.Cond.selects "LoopMixerModel" ({ cls := "LoopMixerModel", name := "asked", desc := "(ZII)I" } : Jvm.MethodName) ({ cls := "LoopMixerModel", name := "asked", desc := "(ZII)I" } : Jvm.MethodName)) ∈ lw_all := lw_iS (List.mem_of_getElem? (i := 10) rfl) rfl
theorem w_S_11 : (Jvm.Cond.selects "LoopMixerModel" ({ cls := "LoopMixerModel", name := "item", desc := "(ZII)D" } : Jvm.MethodName) ({ cls := "LoopMixerModel", name := "item", desc := "(ZII)D" } : Jvm.MethodName)) ∈ lw_all := lw_iS (List.mem_of_getElem? (i := 11) rfl) rfl
theorem w_S_12 : (Jvm.Cond.selects "LoopMixerModel" ({ cls := "LoopMixerModel", name := "made", desc := "(ID)D" } : Jvm.MethodName) ({ cls := "LoopMixerModel", name := "made", desc := "(ID)D" } : Jvm.MethodName)) ∈ lw_all := lw_iS (List.mem_of_getElem? (i := 12) rfl) rfl
theorem w_S_13 : (Jvm.Cond.selects "LoopMixerModel" ({ cls := "LoopMixerModel", name := "step", desc := "(I)I" } : Jvm.MethodName) ({ cls := "LoopMixerModel", name := "step", desc := "(I)I" } : Jvm.MethodName)) ∈ lw_all := lw_iS (List.mem_of_getElem? (i := 13) rfl) rfl
theorem w_1_34 : (Jvm.Cond.arrayOver (Jvm.ClassFile.FieldType.array Jvm.ClassFile.FieldType.double)) ∈ tables_1 := List.mem_append_left _ (List.mem_of_getElem? (i := 34) rfl)
theorem w_1_36 : (Jvm.Cond.arrayOver (Jvm.ClassFile.FieldType.object "LoopMixer$Effect")) ∈ tables_1 := List.mem_append_left _ (List.mem_of_getElem? (i := 36) rfl)
theorem w_1_38 : (Jvm.Cond.arrayOver (Jvm.ClassFile.FieldType.object "LoopMixer$Rack")) ∈ tables_1 := List.mem_append_left _ (List.mem_of_getElem? (i := 38) rfl)
theorem w_1_40 : (Jvm.Cond.arrayOver (Jvm.ClassFile.FieldType.object "LoopMixer$Head")) ∈ tables_1 := List.mem_append_left _ (List.mem_of_getElem? (i := 40) rfl)
theorem inX0 : ∀ w ∈ wsX00, w ∈ lw_all := List.forall_mem_cons.mpr ⟨w_1_182, List.forall_mem_cons.mpr ⟨w_1_184, fun _ h => absurd h List.not_mem_nil⟩⟩
theorem inX1 : ∀ w ∈ wsX10, w ∈ lw_all := List.forall_mem_cons.mpr ⟨w_2_24, List.forall_mem_cons.mpr ⟨w_2_26, List.forall_mem_cons.mpr ⟨w_2_28, List.forall_mem_cons.mpr ⟨w_2_30, List.forall_mem_cons.mpr ⟨w_2_32, List.forall_mem_cons.mpr ⟨w_2_34, fun _ h => absurd h List.not_mem_nil⟩⟩⟩⟩⟩⟩
theorem inX2 : ∀ w ∈ wsX20, w ∈ lw_all := List.forall_mem_cons.mpr ⟨w_1_27, List.forall_mem_cons.mpr ⟨w_1_29, fun _ h => absurd h List.not_mem_nil⟩⟩
theorem inX3 : ∀ w ∈ wsX30, w ∈ lw_all := List.forall_mem_cons.mpr ⟨w_1_224, List.forall_mem_cons.mpr ⟨w_1_226, fun _ h => absurd h List.not_mem_nil⟩⟩
theorem inX4 : ∀ w ∈ wsX40, w ∈ lw_all := List.forall_mem_cons.mpr ⟨w_1_51, List.forall_mem_cons.mpr ⟨w_1_53, List.forall_mem_cons.mpr ⟨w_1_55, List.forall_mem_cons.mpr ⟨w_1_57, List.forall_mem_cons.mpr ⟨w_1_59, List.forall_mem_cons.mpr ⟨w_1_61, List.forall_mem_cons.mpr ⟨w_1_63, List.forall_mem_cons.mpr ⟨w_1_65, List.forall_mem_cons.mpr ⟨w_1_67, List.forall_mem_cons.mpr ⟨w_1_69, fun _ h => absurd h List.not_mem_nil⟩⟩⟩⟩⟩⟩⟩⟩⟩⟩
theorem inX5 : ∀ w ∈ wsX50, w ∈ lw_all := List.forall_mem_cons.mpr ⟨w_2_121, List.forall_mem_cons.mpr ⟨w_2_123, List.forall_mem_cons.mpr ⟨w_2_125, List.forall_mem_cons.mpr ⟨w_2_127, List.forall_mem_cons.mpr ⟨w_2_129, List.forall_mem_cons.mpr ⟨w_2_131, List.forall_mem_cons.mpr ⟨w_2_133, List.forall_mem_cons.mpr ⟨w_2_135, List.forall_mem_cons.mpr ⟨w_2_137, List.forall_mem_cons.mpr ⟨w_2_139, List.forall_mem_cons.mpr ⟨w_2_141, List.forall_mem_cons.mpr ⟨w_2_143, List.forall_mem_cons.mpr ⟨w_2_145, List.forall_mem_cons.mpr ⟨w_2_147, List.forall_mem_cons.mpr ⟨w_2_149, List.forall_mem_cons.mpr ⟨w_2_151, List.forall_mem_cons.mpr ⟨w_2_153, List.forall_mem_cons.mpr ⟨w_2_155, List.forall_mem_cons.mpr ⟨w_2_157, List.forall_mem_cons.mpr ⟨w_2_159, List.forall_mem_cons.mpr ⟨w_2_161, fun _ h => absurd h List.not_mem_nil⟩⟩⟩⟩⟩⟩⟩⟩⟩⟩⟩⟩⟩⟩⟩⟩⟩⟩⟩⟩⟩

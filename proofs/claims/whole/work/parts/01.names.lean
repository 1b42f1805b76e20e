/-- a private method of a class that the tables say can be made, by its rows of tables_1 -/
def lw_okq (q : MethodName × Nat) : Prop := (q.1.cls ≠ "java/lang/invoke/MethodHandle" ∧ q.1.cls ≠ "java/lang/invoke/VarHandle") ∧ Cond.instantiable q.1.cls q.2 ∈ tables_1 ∧ Cond.privateMethod q.1 ∈ tables_1 ∧ Cond.instanceMethod q.1 ∈ tables_1
theorem lw_p0 : lw_okq (⟨"LoopMixer", "rowsOf", "(Z)[[D"⟩, 10) := ⟨⟨by decide +kernel, by decide +kernel⟩, List.mem_of_getElem? (i := 11) (by decide +kernel), List.mem_of_getElem? (i := 81) (by decide +kernel), List.mem_of_getElem? (i := 82) (by decide +kernel)⟩
theorem lw_p1 : lw_okq (⟨"LoopMixer$Numbers", "sizeToldBy", "(JII)D"⟩, 2) := ⟨⟨by decide +kernel, by decide +kernel⟩, List.mem_of_getElem? (i := 19) (by decide +kernel), List.mem_of_getElem? (i := 113) (by decide +kernel), List.mem_of_getElem? (i := 114) (by decide +kernel)⟩
theorem lw_p2 : lw_okq (⟨"LoopMixer$Numbers", "scaled", "(DI)D"⟩, 2) := ⟨⟨by decide +kernel, by decide +kernel⟩, List.mem_of_getElem? (i := 19) (by decide +kernel), List.mem_of_getElem? (i := 117) (by decide +kernel), List.mem_of_getElem? (i := 118) (by decide +kernel)⟩
theorem lw_p3 : lw_okq (⟨"LoopMixer$Numbers", "powerOfTwo", "(I)D"⟩, 2) := ⟨⟨by decide +kernel, by decide +kernel⟩, List.mem_of_getElem? (i := 19) (by decide +kernel), List.mem_of_getElem? (i := 121) (by decide +kernel), List.mem_of_getElem? (i := 122) (by decide +kernel)⟩
theorem lw_p4 : lw_okq (⟨"LoopMixer$Numbers", "bitsOfSize", "(DII)J"⟩, 2) := ⟨⟨by decide +kernel, by decide +kernel⟩, List.mem_of_getElem? (i := 19) (by decide +kernel), List.mem_of_getElem? (i := 146) (by decide +kernel), List.mem_of_getElem? (i := 147) (by decide +kernel)⟩
theorem lw_p5 : lw_okq (⟨"LoopMixer", "tell", "(J)I"⟩, 10) := ⟨⟨by decide +kernel, by decide +kernel⟩, List.mem_of_getElem? (i := 11) (by decide +kernel), List.mem_of_getElem? (i := 157) (by decide +kernel), List.mem_of_getElem? (i := 158) (by decide +kernel)⟩
theorem lw_p6 : lw_okq (⟨"LoopMixer$Effect", "crushed", "(D)D"⟩, 2) := ⟨⟨by decide +kernel, by decide +kernel⟩, List.mem_of_getElem? (i := 175) (by decide +kernel), List.mem_of_getElem? (i := 207) (by decide +kernel), List.mem_of_getElem? (i := 208) (by decide +kernel)⟩
theorem lw_p7 : lw_okq (⟨"LoopMixer", "isSetHead", "(I)Z"⟩, 10) := ⟨⟨by decide +kernel, by decide +kernel⟩, List.mem_of_getElem? (i := 11) (by decide +kernel), List.mem_of_getElem? (i := 282) (by decide +kernel), List.mem_of_getElem? (i := 283) (by decide +kernel)⟩
theorem lw_p8 : lw_okq (⟨"LoopMixer", "step", "(LLoopMixer$Head;)I"⟩, 10) := ⟨⟨by decide +kernel, by decide +kernel⟩, List.mem_of_getElem? (i := 11) (by decide +kernel), List.mem_of_getElem? (i := 286) (by decide +kernel), List.mem_of_getElem? (i := 287) (by decide +kernel)⟩
theorem lw_p9 : lw_okq (⟨"LoopMixer", "addToMix", "(ID)V"⟩, 10) := ⟨⟨by decide +kernel, by decide +kernel⟩, List.mem_of_getElem? (i := 11) (by decide +kernel), List.mem_of_getElem? (i := 301) (by decide +kernel), List.mem_of_getElem? (i := 302) (by decide +kernel)⟩
theorem lw_p10 : lw_okq (⟨"LoopMixerModel", "asked", "(ZII)I"⟩, 21) := ⟨⟨by decide +kernel, by decide +kernel⟩, List.mem_of_getElem? (i := 335) (by decide +kernel), List.mem_of_getElem? (i := 437) (by decide +kernel), List.mem_of_getElem? (i := 438) (by decide +kernel)⟩
theorem lw_p11 : lw_okq (⟨"LoopMixerModel", "item", "(ZII)D"⟩, 21) := ⟨⟨by decide +kernel, by decide +kernel⟩, List.mem_of_getElem? (i := 335) (by decide +kernel), List.mem_of_getElem? (i := 457) (by decide +kernel), List.mem_of_getElem? (i := 458) (by decide +kernel)⟩
theorem lw_p12 : lw_okq (⟨"LoopMixerModel", "made", "(ID)D"⟩, 21) := ⟨⟨by decide +kernel, by decide +kernel⟩, List.mem_of_getElem? (i := 335) (by decide +kernel), List.mem_of_getElem? (i := 498) (by decide +kernel), List.mem_of_getElem? (i := 499) (by decide +kernel)⟩
theorem lw_p13 : lw_okq (⟨"LoopMixerModel", "step", "(I)I"⟩, 21) := ⟨⟨by decide +kernel, by decide +kernel⟩, List.mem_of_getElem? (i := 335) (by decide +kernel), List.mem_of_getElem? (i := 537) (by decide +kernel), List.mem_of_getElem? (i := 538) (by decide +kernel)⟩
def lw_privs_1 : List (MethodName × Nat) := [(⟨"LoopMixer", "rowsOf", "(Z)[[D"⟩, 10), (⟨"LoopMixer$Numbers", "sizeToldBy", "(JII)D"⟩, 2), (⟨"LoopMixer$Numbers", "scaled", "(DI)D"⟩, 2), (⟨"LoopMixer$Numbers", "powerOfTwo", "(I)D"⟩, 2), (⟨"LoopMixer$Numbers", "bitsOfSize", "(DII)J"⟩, 2), (⟨"LoopMixer", "tell", "(J)I"⟩, 10), (⟨"LoopMixer$Effect", "crushed", "(D)D"⟩, 2), (⟨"LoopMixer", "isSetHead", "(I)Z"⟩, 10), (⟨"LoopMixer", "step", "(LLoopMixer$Head;)I"⟩, 10), (⟨"LoopMixer", "addToMix", "(ID)V"⟩, 10), (⟨"LoopMixerModel", "asked", "(ZII)I"⟩, 21), (⟨"LoopMixerModel", "item", "(ZII)D"⟩, 21), (⟨"LoopMixerModel", "made", "(ID)D"⟩, 21), (⟨"LoopMixerModel", "step", "(I)I"⟩, 21)]
theorem lw_r1 : ∀ q ∈ lw_privs_1, lw_okq q := List.forall_mem_cons.mpr ⟨lw_p0, List.forall_mem_cons.mpr ⟨lw_p1, List.forall_mem_cons.mpr ⟨lw_p2, List.forall_mem_cons.mpr ⟨lw_p3, List.forall_mem_cons.mpr ⟨lw_p4, List.forall_mem_cons.mpr ⟨lw_p5, List.forall_mem_cons.mpr ⟨lw_p6, List.forall_mem_cons.mpr ⟨lw_p7, List.forall_mem_cons.mpr ⟨lw_p8, List.forall_mem_cons.mpr ⟨lw_p9, List.forall_mem_cons.mpr ⟨lw_p10, List.forall_mem_cons.mpr ⟨lw_p11, List.forall_mem_cons.mpr ⟨lw_p12, List.forall_mem_cons.mpr ⟨lw_p13, fun _ h => absurd h List.not_mem_nil⟩⟩⟩⟩⟩⟩⟩⟩⟩⟩⟩⟩⟩⟩
def lw_privs : List (MethodName × Nat) := lw_privs_1
def lw_tbl : List Cond := k2_sels lw_privs ++ tables_1
theorem lw_privs_ok : ∀ q ∈ lw_privs, lw_okq q := lw_r1
/-- the streams that the claim lets the run draw from -/
abbrev lw_cs : List Choice := [Jvm.Choice.named "NaN.bits", Jvm.Choice.named "NaN.copy"]
theorem lw_bits : nanBits ∈ lw_cs := by first | decide | exact List.mem_cons_self | simp [lw_cs, nanBits]
def RX0 : String := "LoopMixer$Effect"
def TX0 : u_T := fun k => match k with
  | 0 => ("LoopMixer$Effect", "kind", "I", true)
  | _ => ("LoopMixer$Effect", "amount", "D", true)
def tyX0 : Nat → FieldType := fun k => match k with
  | 0 => .int
  | _ => .double
abbrev wsX00 : List Cond := u_ws RX0 TX0 2
theorem nmX0 : ∀ a, a < 2 → ∀ b, b < 2 → a ≠ b → (TX0 a).2.1 ≠ (TX0 b).2.1 := by decide +kernel
theorem tyX0_ok : ∀ k, k < 2 → parseFieldDescriptor (TX0 k).2.2.1 = some (tyX0 k) := by decide +kernel
abbrev cX0_init : ByteArray := prog_2_method_1_code
def yX0_init : MethodName := ⟨RX0, "<init>", "(ID)V"⟩
abbrev cX0_isOf : ByteArray := prog_2_method_2_code
def yX0_isOf : MethodName := ⟨RX0, "isOf", "(I)Z"⟩
abbrev cX0_madeOf : ByteArray := prog_2_method_3_code
def yX0_madeOf : MethodName := ⟨RX0, "madeOf", "(D)F"⟩
abbrev cX0_folded : ByteArray := prog_2_method_4_code
def yX0_folded : MethodName := ⟨RX0, "folded", "(D)D"⟩
abbrev cX0_crushed : ByteArray := prog_2_method_5_code
def yX0_crushed : MethodName := ⟨RX0, "crushed", "(D)D"⟩
def RX1 : String := "LoopMixer$Head"
def TX1 : u_T := fun k => match k with
  | 0 => ("LoopMixer$Head", "track", "I", true)
  | 1 => ("LoopMixer$Head", "curve", "I", true)
  | 2 => ("LoopMixer$Head", "rack", "I", true)
  | 3 => ("LoopMixer$Head", "rate", "D", true)
  | 4 => ("LoopMixer$Head", "place", "D", false)
  | _ => ("LoopMixer$Head", "steps", "J", false)
def tyX1 : Nat → FieldType := fun k => match k with
  | 0 => .int
  | 1 => .int
  | 2 => .int
  | 3 => .double
  | 4 => .double
  | _ => .long
abbrev wsX10 : List Cond := u_ws RX1 TX1 6
theorem nmX1 : ∀ a, a < 6 → ∀ b, b < 6 → a ≠ b → (TX1 a).2.1 ≠ (TX1 b).2.1 := by decide +kernel
theorem tyX1_ok : ∀ k, k < 6 → parseFieldDescriptor (TX1 k).2.2.1 = some (tyX1 k) := by decide +kernel
abbrev cX1_init : ByteArray := prog_3_method_1_code
def yX1_init : MethodName := ⟨RX1, "<init>", "(IIID)V"⟩
abbrev cX1_moveOn : ByteArray := prog_3_method_2_code
def yX1_moveOn : MethodName := ⟨RX1, "moveOn", "(I)V"⟩
def RX2 : String := "LoopMixer$Numbers"
def TX2 : u_T := fun k => match k with
  | 0 => ("LoopMixer$Numbers", "up", "[D", true)
  | _ => ("LoopMixer$Numbers", "down", "[D", true)
def tyX2 : Nat → FieldType := fun k => match k with
  | 0 => .array .double
  | _ => .array .double
abbrev wsX20 : List Cond := u_ws RX2 TX2 2
theorem nmX2 : ∀ a, a < 2 → ∀ b, b < 2 → a ≠ b → (TX2 a).2.1 ≠ (TX2 b).2.1 := by decide +kernel
theorem tyX2_ok : ∀ k, k < 2 → parseFieldDescriptor (TX2 k).2.2.1 = some (tyX2 k) := by decide +kernel
abbrev cX2_init : ByteArray := prog_4_method_1_code
def yX2_init : MethodName := ⟨RX2, "<init>", "()V"⟩
abbrev cX2_isDouble : ByteArray := prog_4_method_2_code
def yX2_isDouble : MethodName := ⟨RX2, "isDouble", "(J)Z"⟩
abbrev cX2_isFloat : ByteArray := prog_4_method_3_code
def yX2_isFloat : MethodName := ⟨RX2, "isFloat", "(J)Z"⟩
abbrev cX2_held : ByteArray := prog_4_method_4_code
def yX2_held : MethodName := ⟨RX2, "held", "(D)F"⟩
abbrev cX2_rest : ByteArray := prog_4_method_5_code
def yX2_rest : MethodName := ⟨RX2, "rest", "(DD)D"⟩
abbrev cX2_doubleOf : ByteArray := prog_4_method_6_code
def yX2_doubleOf : MethodName := ⟨RX2, "doubleOf", "(J)D"⟩
abbrev cX2_floatOf : ByteArray := prog_4_method_7_code
def yX2_floatOf : MethodName := ⟨RX2, "floatOf", "(J)F"⟩
abbrev cX2_bitsOfDouble : ByteArray := prog_4_method_8_code
def yX2_bitsOfDouble : MethodName := ⟨RX2, "bitsOfDouble", "(D)J"⟩
abbrev cX2_bitsOfFloat : ByteArray := prog_4_method_9_code
def yX2_bitsOfFloat : MethodName := ⟨RX2, "bitsOfFloat", "(F)I"⟩
abbrev cX2_sizeOf : ByteArray := prog_4_method_10_code
def yX2_sizeOf : MethodName := ⟨RX2, "sizeOf", "(D)D"⟩
abbrev cX2_isSigned : ByteArray := prog_4_method_11_code
def yX2_isSigned : MethodName := ⟨RX2, "isSigned", "(D)Z"⟩
abbrev cX2_sizeToldBy : ByteArray := prog_4_method_12_code
def yX2_sizeToldBy : MethodName := ⟨RX2, "sizeToldBy", "(JII)D"⟩
abbrev cX2_bitsOfSize : ByteArray := prog_4_method_13_code
def yX2_bitsOfSize : MethodName := ⟨RX2, "bitsOfSize", "(DII)J"⟩
abbrev cX2_scaled : ByteArray := prog_4_method_14_code
def yX2_scaled : MethodName := ⟨RX2, "scaled", "(DI)D"⟩
abbrev cX2_powerOfTwo : ByteArray := prog_4_method_15_code
def yX2_powerOfTwo : MethodName := ⟨RX2, "powerOfTwo", "(I)D"⟩
def RX3 : String := "LoopMixer$Rack"
def TX3 : u_T := fun k => match k with
  | 0 => ("LoopMixer$Rack", "kind", "I", true)
  | _ => ("LoopMixer$Rack", "places", "[LLoopMixer$Effect;", true)
def tyX3 : Nat → FieldType := fun k => match k with
  | 0 => .int
  | _ => .array (.object "LoopMixer$Effect")
abbrev wsX30 : List Cond := u_ws RX3 TX3 2
theorem nmX3 : ∀ a, a < 2 → ∀ b, b < 2 → a ≠ b → (TX3 a).2.1 ≠ (TX3 b).2.1 := by decide +kernel
theorem tyX3_ok : ∀ k, k < 2 → parseFieldDescriptor (TX3 k).2.2.1 = some (tyX3 k) := by decide +kernel
abbrev cX3_init : ByteArray := prog_5_method_1_code
def yX3_init : MethodName := ⟨RX3, "<init>", "(I)V"⟩
abbrev cX3_hasBarePlace : ByteArray := prog_5_method_2_code
def yX3_hasBarePlace : MethodName := ⟨RX3, "hasBarePlace", "()Z"⟩
abbrev cX3_madeOf : ByteArray := prog_5_method_3_code
def yX3_madeOf : MethodName := ⟨RX3, "madeOf", "(D)D"⟩
def RX4 : String := "LoopMixer"
def TX4 : u_T := fun k => match k with
  | 0 => ("LoopMixer", "numbers", "LLoopMixer$Numbers;", true)
  | 1 => ("LoopMixer", "tracks", "[[D", true)
  | 2 => ("LoopMixer", "curves", "[[D", true)
  | 3 => ("LoopMixer", "effects", "[LLoopMixer$Effect;", true)
  | 4 => ("LoopMixer", "racks", "[LLoopMixer$Rack;", true)
  | 5 => ("LoopMixer", "heads", "[LLoopMixer$Head;", true)
  | 6 => ("LoopMixer", "mixed", "[F", true)
  | 7 => ("LoopMixer", "latestFailure", "I", false)
  | 8 => ("LoopMixer", "time", "J", false)
  | _ => ("LoopMixer", "latestTold", "J", false)
def tyX4 : Nat → FieldType := fun k => match k with
  | 0 => .object "LoopMixer$Numbers"
  | 1 => .array (.array .double)
  | 2 => .array (.array .double)
  | 3 => .array (.object "LoopMixer$Effect")
  | 4 => .array (.object "LoopMixer$Rack")
  | 5 => .array (.object "LoopMixer$Head")
  | 6 => .array .float
  | 7 => .int
  | 8 => .long
  | _ => .long
abbrev wsX40 : List Cond := u_ws RX4 TX4 10
theorem nmX4 : ∀ a, a < 10 → ∀ b, b < 10 → a ≠ b → (TX4 a).2.1 ≠ (TX4 b).2.1 := by decide +kernel
theorem tyX4_ok : ∀ k, k < 10 → parseFieldDescriptor (TX4 k).2.2.1 = some (tyX4 k) := by decide +kernel
abbrev cX4_init : ByteArray := prog_1_method_1_code
def yX4_init : MethodName := ⟨RX4, "<init>", "()V"⟩
abbrev cX4_row : ByteArray := prog_1_method_2_code
def yX4_row : MethodName := ⟨RX4, "row", "(ZII)I"⟩
abbrev cX4_share : ByteArray := prog_1_method_3_code
def yX4_share : MethodName := ⟨RX4, "share", "(ZII)I"⟩
abbrev cX4_drop : ByteArray := prog_1_method_4_code
def yX4_drop : MethodName := ⟨RX4, "drop", "(ZI)I"⟩
abbrev cX4_set : ByteArray := prog_1_method_5_code
def yX4_set : MethodName := ⟨RX4, "set", "(ZIIJ)I"⟩
abbrev cX4_get : ByteArray := prog_1_method_6_code
def yX4_get : MethodName := ⟨RX4, "get", "(ZII)I"⟩
abbrev cX4_wrap : ByteArray := prog_1_method_7_code
def yX4_wrap : MethodName := ⟨RX4, "wrap", "(ZIII)I"⟩
abbrev cX4_effect : ByteArray := prog_1_method_8_code
def yX4_effect : MethodName := ⟨RX4, "effect", "(IIJ)I"⟩
abbrev cX4_make : ByteArray := prog_1_method_9_code
def yX4_make : MethodName := ⟨RX4, "make", "(IJ)I"⟩
abbrev cX4_rack : ByteArray := prog_1_method_10_code
def yX4_rack : MethodName := ⟨RX4, "rack", "(II)I"⟩
abbrev cX4_hang : ByteArray := prog_1_method_11_code
def yX4_hang : MethodName := ⟨RX4, "hang", "(III)I"⟩
abbrev cX4_take : ByteArray := prog_1_method_12_code
def yX4_take : MethodName := ⟨RX4, "take", "(IIII)I"⟩
abbrev cX4_head : ByteArray := prog_1_method_13_code
def yX4_head : MethodName := ⟨RX4, "head", "(IIIIJ)I"⟩
abbrev cX4_play : ByteArray := prog_1_method_14_code
def yX4_play : MethodName := ⟨RX4, "play", "(II)I"⟩
abbrev cX4_failed : ByteArray := prog_1_method_15_code
def yX4_failed : MethodName := ⟨RX4, "failed", "()I"⟩
abbrev cX4_mix : ByteArray := prog_1_method_16_code
def yX4_mix : MethodName := ⟨RX4, "mix", "(II)I"⟩
abbrev cX4_hush : ByteArray := prog_1_method_17_code
def yX4_hush : MethodName := ⟨RX4, "hush", "()I"⟩
abbrev cX4_at : ByteArray := prog_1_method_18_code
def yX4_at : MethodName := ⟨RX4, "at", "(II)I"⟩
abbrev cX4_clock : ByteArray := prog_1_method_19_code
def yX4_clock : MethodName := ⟨RX4, "clock", "(JI)I"⟩
abbrev cX4_told : ByteArray := prog_1_method_20_code
def yX4_told : MethodName := ⟨RX4, "told", "()J"⟩
abbrev cX4_isBelow : ByteArray := prog_1_method_21_code
def yX4_isBelow : MethodName := ⟨RX4, "isBelow", "(II)Z"⟩
abbrev cX4_isBelowOrNone : ByteArray := prog_1_method_22_code
def yX4_isBelowOrNone : MethodName := ⟨RX4, "isBelowOrNone", "(II)Z"⟩
abbrev cX4_isWithin : ByteArray := prog_1_method_23_code
def yX4_isWithin : MethodName := ⟨RX4, "isWithin", "(DI)Z"⟩
abbrev cX4_answerFor : ByteArray := prog_1_method_24_code
def yX4_answerFor : MethodName := ⟨RX4, "answerFor", "(I)I"⟩
abbrev cX4_tell : ByteArray := prog_1_method_25_code
def yX4_tell : MethodName := ⟨RX4, "tell", "(J)I"⟩
abbrev cX4_rowsOf : ByteArray := prog_1_method_26_code
def yX4_rowsOf : MethodName := ⟨RX4, "rowsOf", "(Z)[[D"⟩
abbrev cX4_isSetHead : ByteArray := prog_1_method_27_code
def yX4_isSetHead : MethodName := ⟨RX4, "isSetHead", "(I)Z"⟩
abbrev cX4_step : ByteArray := prog_1_method_28_code
def yX4_step : MethodName := ⟨RX4, "step", "(LLoopMixer$Head;)I"⟩
abbrev cX4_addToMix : ByteArray := prog_1_method_29_code
def yX4_addToMix : MethodName := ⟨RX4, "addToMix", "(ID)V"⟩
def RX5 : String := "LoopMixerModel"
def TX5 : u_T := fun k => match k with
  | 0 => ("LoopMixerModel", "rows", "I", false)
  | 1 => ("LoopMixerModel", "sizes", "[I", true)
  | 2 => ("LoopMixerModel", "items", "[D", true)
  | 3 => ("LoopMixerModel", "rowOf", "[I", true)
  | 4 => ("LoopMixerModel", "effects", "I", false)
  | 5 => ("LoopMixerModel", "kinds", "[I", true)
  | 6 => ("LoopMixerModel", "amounts", "[D", true)
  | 7 => ("LoopMixerModel", "effectOf", "[I", true)
  | 8 => ("LoopMixerModel", "rackOf", "[I", true)
  | 9 => ("LoopMixerModel", "hooks", "[I", true)
  | 10 => ("LoopMixerModel", "isSet", "[Z", true)
  | 11 => ("LoopMixerModel", "track", "[I", true)
  | 12 => ("LoopMixerModel", "curve", "[I", true)
  | 13 => ("LoopMixerModel", "rack", "[I", true)
  | 14 => ("LoopMixerModel", "rate", "[D", true)
  | 15 => ("LoopMixerModel", "place", "[D", true)
  | 16 => ("LoopMixerModel", "steps", "[J", true)
  | 17 => ("LoopMixerModel", "mix", "[D", true)
  | 18 => ("LoopMixerModel", "failure", "I", false)
  | 19 => ("LoopMixerModel", "clock", "J", false)
  | _ => ("LoopMixerModel", "told", "J", false)
def tyX5 : Nat → FieldType := fun k => match k with
  | 0 => .int
  | 1 => .array .int
  | 2 => .array .double
  | 3 => .array .int
  | 4 => .int
  | 5 => .array .int
  | 6 => .array .double
  | 7 => .array .int
  | 8 => .array .int
  | 9 => .array .int
  | 10 => .array .boolean
  | 11 => .array .int
  | 12 => .array .int
  | 13 => .array .int
  | 14 => .array .double
  | 15 => .array .double
  | 16 => .array .long
  | 17 => .array .double
  | 18 => .int
  | 19 => .long
  | _ => .long
abbrev wsX50 : List Cond := u_ws RX5 TX5 21
theorem nmX5 : ∀ a, a < 21 → ∀ b, b < 21 → a ≠ b → (TX5 a).2.1 ≠ (TX5 b).2.1 := by decide +kernel
theorem tyX5_ok : ∀ k, k < 21 → parseFieldDescriptor (TX5 k).2.2.1 = some (tyX5 k) := by decide +kernel
abbrev cX5_init : ByteArray := prog_7_method_1_code
def yX5_init : MethodName := ⟨RX5, "<init>", "()V"⟩
abbrev cX5_in : ByteArray := prog_7_method_2_code
def yX5_in : MethodName := ⟨RX5, "in", "(III)Z"⟩
abbrev cX5_fails : ByteArray := prog_7_method_3_code
def yX5_fails : MethodName := ⟨RX5, "fails", "(I)I"⟩
abbrev cX5_isFine : ByteArray := prog_7_method_4_code
def yX5_isFine : MethodName := ⟨RX5, "isFine", "(ZJ)Z"⟩
abbrev cX5_number : ByteArray := prog_7_method_5_code
def yX5_number : MethodName := ⟨RX5, "number", "(ZJ)D"⟩
abbrev cX5_bitsOf : ByteArray := prog_7_method_6_code
def yX5_bitsOf : MethodName := ⟨RX5, "bitsOf", "(ZD)J"⟩
abbrev cX5_held : ByteArray := prog_7_method_7_code
def yX5_held : MethodName := ⟨RX5, "held", "(D)D"⟩
abbrev cX5_slotOf : ByteArray := prog_7_method_8_code
def yX5_slotOf : MethodName := ⟨RX5, "slotOf", "(ZI)I"⟩
abbrev cX5_row : ByteArray := prog_7_method_9_code
def yX5_row : MethodName := ⟨RX5, "row", "(ZII)I"⟩
abbrev cX5_share : ByteArray := prog_7_method_10_code
def yX5_share : MethodName := ⟨RX5, "share", "(ZII)I"⟩
abbrev cX5_drop : ByteArray := prog_7_method_11_code
def yX5_drop : MethodName := ⟨RX5, "drop", "(ZI)I"⟩
abbrev cX5_asked : ByteArray := prog_7_method_12_code
def yX5_asked : MethodName := ⟨RX5, "asked", "(ZII)I"⟩
abbrev cX5_item : ByteArray := prog_7_method_13_code
def yX5_item : MethodName := ⟨RX5, "item", "(ZII)D"⟩
abbrev cX5_set : ByteArray := prog_7_method_14_code
def yX5_set : MethodName := ⟨RX5, "set", "(ZIIJ)I"⟩
abbrev cX5_get : ByteArray := prog_7_method_15_code
def yX5_get : MethodName := ⟨RX5, "get", "(ZII)I"⟩
abbrev cX5_wrap : ByteArray := prog_7_method_16_code
def yX5_wrap : MethodName := ⟨RX5, "wrap", "(ZIII)I"⟩
abbrev cX5_effect : ByteArray := prog_7_method_17_code
def yX5_effect : MethodName := ⟨RX5, "effect", "(IIJ)I"⟩
abbrev cX5_made : ByteArray := prog_7_method_18_code
def yX5_made : MethodName := ⟨RX5, "made", "(ID)D"⟩
abbrev cX5_make : ByteArray := prog_7_method_19_code
def yX5_make : MethodName := ⟨RX5, "make", "(IJ)I"⟩
abbrev cX5_fits : ByteArray := prog_7_method_20_code
def yX5_fits : MethodName := ⟨RX5, "fits", "(II)Z"⟩
abbrev cX5_rack : ByteArray := prog_7_method_21_code
def yX5_rack : MethodName := ⟨RX5, "rack", "(II)I"⟩
abbrev cX5_hang : ByteArray := prog_7_method_22_code
def yX5_hang : MethodName := ⟨RX5, "hang", "(III)I"⟩
abbrev cX5_take : ByteArray := prog_7_method_23_code
def yX5_take : MethodName := ⟨RX5, "take", "(IIII)I"⟩
abbrev cX5_head : ByteArray := prog_7_method_24_code
def yX5_head : MethodName := ⟨RX5, "head", "(IIIIJ)I"⟩
abbrev cX5_step : ByteArray := prog_7_method_25_code
def yX5_step : MethodName := ⟨RX5, "step", "(I)I"⟩
abbrev cX5_play : ByteArray := prog_7_method_26_code
def yX5_play : MethodName := ⟨RX5, "play", "(II)I"⟩
abbrev cX5_failed : ByteArray := prog_7_method_27_code
def yX5_failed : MethodName := ⟨RX5, "failed", "()I"⟩
abbrev cX5_mix : ByteArray := prog_7_method_28_code
def yX5_mix : MethodName := ⟨RX5, "mix", "(II)I"⟩
abbrev cX5_hush : ByteArray := prog_7_method_29_code
def yX5_hush : MethodName := ⟨RX5, "hush", "()I"⟩
abbrev cX5_at : ByteArray := prog_7_method_30_code
def yX5_at : MethodName := ⟨RX5, "at", "(II)I"⟩
abbrev cX5_clock : ByteArray := prog_7_method_31_code
def yX5_clock : MethodName := ⟨RX5, "clock", "(JI)I"⟩
abbrev cX5_told : ByteArray := prog_7_method_32_code
def yX5_told : MethodName := ⟨RX5, "told", "()J"⟩
def RJxe99ae : String := "java/lang/Double"
def TJxe99ae : u_T := fun k => match k with
  | _ => ("", "", "", false)
def tyJxe99ae : Nat → FieldType := fun k => match k with
  | _ => .int
abbrev wsJxe99ae0 : List Cond := u_ws RJxe99ae TJxe99ae 0
theorem nmJxe99ae : ∀ a, a < 0 → ∀ b, b < 0 → a ≠ b → (TJxe99ae a).2.1 ≠ (TJxe99ae b).2.1 := by decide +kernel
theorem tyJxe99ae_ok : ∀ k, k < 0 → parseFieldDescriptor (TJxe99ae k).2.2.1 = some (tyJxe99ae k) := by decide +kernel
abbrev cJxe99ae_isNaN_b9ae7 : ByteArray := prog_8_method_6_code
def yJxe99ae_isNaN_b9ae7 : MethodName := ⟨RJxe99ae, "isNaN", "(D)Z"⟩
abbrev cJxe99ae_doubleToLongBits_ccdee : ByteArray := prog_8_method_23_code
def yJxe99ae_doubleToLongBits_ccdee : MethodName := ⟨RJxe99ae, "doubleToLongBits", "(D)J"⟩
def RJxf58ca : String := "java/lang/Float"
def TJxf58ca : u_T := fun k => match k with
  | _ => ("", "", "", false)
def tyJxf58ca : Nat → FieldType := fun k => match k with
  | _ => .int
abbrev wsJxf58ca0 : List Cond := u_ws RJxf58ca TJxf58ca 0
theorem nmJxf58ca : ∀ a, a < 0 → ∀ b, b < 0 → a ≠ b → (TJxf58ca a).2.1 ≠ (TJxf58ca b).2.1 := by decide +kernel
theorem tyJxf58ca_ok : ∀ k, k < 0 → parseFieldDescriptor (TJxf58ca k).2.2.1 = some (tyJxf58ca k) := by decide +kernel
abbrev cJxf58ca_isNaN_12338 : ByteArray := prog_9_method_6_code
def yJxf58ca_isNaN_12338 : MethodName := ⟨RJxf58ca, "isNaN", "(F)Z"⟩
abbrev cJxf58ca_floatToIntBits_5c35a : ByteArray := prog_9_method_24_code
def yJxf58ca_floatToIntBits_5c35a : MethodName := ⟨RJxf58ca, "floatToIntBits", "(F)I"⟩
def RJ9 : String := "java/lang/Math"
def TJ9 : u_T := fun k => match k with
  | _ => ("", "", "", false)
def tyJ9 : Nat → FieldType := fun k => match k with
  | _ => .int
abbrev wsJ90 : List Cond := u_ws RJ9 TJ9 0
theorem nmJ9 : ∀ a, a < 0 → ∀ b, b < 0 → a ≠ b → (TJ9 a).2.1 ≠ (TJ9 b).2.1 := by decide +kernel
theorem tyJ9_ok : ∀ k, k < 0 → parseFieldDescriptor (TJ9 k).2.2.1 = some (tyJ9 k) := by decide +kernel
abbrev cJ9_abs_0f7a4 : ByteArray := prog_10_method_59_code
def yJ9_abs_0f7a4 : MethodName := ⟨RJ9, "abs", "(I)I"⟩
def RL : String := "LoopMixerLaw"
abbrev cL_law : ByteArray := code
def yL_law : MethodName := ⟨RL, "law", "([I)Z"⟩
abbrev vwCl : List vw_C := [(RX0, TX0, 2), (RX1, TX1, 6), (RX2, TX2, 2), (RX3, TX3, 2), (RX4, TX4, 10), (RX5, TX5, 21)]

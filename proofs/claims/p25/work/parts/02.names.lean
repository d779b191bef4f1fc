/-! ===== BEGIN printed: names, fields, word lists, decode rows ===== -/
def RX0 : String := "RingHerd$Claim"
def TX0 : u_T := fun k => match k with
  | 0 => ("RingHerd$Claim", "frame", "I", false)
  | 1 => ("RingHerd$Claim", "from", "I", false)
  | 2 => ("RingHerd$Claim", "to", "I", false)
  | _ => ("RingHerd$Claim", "most", "I", false)
def tyX0 : Nat → FieldType := fun k => match k with
  | 0 => .int
  | 1 => .int
  | 2 => .int
  | _ => .int
abbrev wsX00 : List Cond := u_ws RX0 TX0 4
theorem nmX0 : ∀ a, a < 4 → ∀ b, b < 4 → a ≠ b → (TX0 a).2.1 ≠ (TX0 b).2.1 := by decide +kernel
theorem tyX0_ok : ∀ k, k < 4 → parseFieldDescriptor (TX0 k).2.2.1 = some (tyX0 k) := by decide +kernel
abbrev cX0_init : ByteArray := prog_2_method_1_code
def yX0_init : MethodName := ⟨RX0, "<init>", "()V"⟩
def RX1 : String := "RingHerd$Frame"
def TX1 : u_T := fun k => match k with
  | 0 => ("RingHerd$Frame", "masses", "[I", true)
  | _ => ("RingHerd$Frame", "takenAt", "I", false)
def tyX1 : Nat → FieldType := fun k => match k with
  | 0 => .array .int
  | _ => .int
abbrev wsX10 : List Cond := u_ws RX1 TX1 2
theorem nmX1 : ∀ a, a < 2 → ∀ b, b < 2 → a ≠ b → (TX1 a).2.1 ≠ (TX1 b).2.1 := by decide +kernel
theorem tyX1_ok : ∀ k, k < 2 → parseFieldDescriptor (TX1 k).2.2.1 = some (tyX1 k) := by decide +kernel
abbrev cX1_init : ByteArray := prog_3_method_1_code
def yX1_init : MethodName := ⟨RX1, "<init>", "()V"⟩
def RX2 : String := "RingHerd$Grain"
def TX2 : u_T := fun k => match k with
  | 0 => ("RingHerd$Grain", "lane", "I", false)
  | 1 => ("RingHerd$Grain", "angle", "I", false)
  | 2 => ("RingHerd$Grain", "mass", "I", false)
  | 3 => ("RingHerd$Grain", "unrest", "I", false)
  | 4 => ("RingHerd$Grain", "darkness", "I", false)
  | 5 => ("RingHerd$Grain", "there", "Z", false)
  | _ => ("RingHerd$Grain", "met", "Z", false)
def tyX2 : Nat → FieldType := fun k => match k with
  | 0 => .int
  | 1 => .int
  | 2 => .int
  | 3 => .int
  | 4 => .int
  | 5 => .boolean
  | _ => .boolean
abbrev wsX20 : List Cond := u_ws RX2 TX2 7
theorem nmX2 : ∀ a, a < 7 → ∀ b, b < 7 → a ≠ b → (TX2 a).2.1 ≠ (TX2 b).2.1 := by decide +kernel
theorem tyX2_ok : ∀ k, k < 7 → parseFieldDescriptor (TX2 k).2.2.1 = some (tyX2 k) := by decide +kernel
abbrev cX2_init : ByteArray := prog_4_method_1_code
def yX2_init : MethodName := ⟨RX2, "<init>", "()V"⟩
abbrev cX2_carried : ByteArray := prog_4_method_2_code
def yX2_carried : MethodName := ⟨RX2, "carried", "()J"⟩
abbrev cX2_isNear : ByteArray := prog_4_method_3_code
def yX2_isNear : MethodName := ⟨RX2, "isNear", "(IIII)Z"⟩
abbrev cX2_mayMeet : ByteArray := prog_4_method_4_code
def yX2_mayMeet : MethodName := ⟨RX2, "mayMeet", "()Z"⟩
def RX3 : String := "RingHerd$Herd"
def TX3 : u_T := fun k => match k with
  | 0 => ("RingHerd$Herd", "planet", "LRingHerd$Planet;", true)
  | 1 => ("RingHerd$Herd", "ledger", "LRingHerd$Ledger;", true)
  | 2 => ("RingHerd$Herd", "grains", "[LRingHerd$Grain;", true)
  | 3 => ("RingHerd$Herd", "grainCount", "I", false)
  | 4 => ("RingHerd$Herd", "firstBound", "I", false)
  | 5 => ("RingHerd$Herd", "secondBound", "I", false)
  | _ => ("RingHerd$Herd", "spring", "I", false)
def tyX3 : Nat → FieldType := fun k => match k with
  | 0 => .object "RingHerd$Planet"
  | 1 => .object "RingHerd$Ledger"
  | 2 => .array (.object "RingHerd$Grain")
  | 3 => .int
  | 4 => .int
  | 5 => .int
  | _ => .int
abbrev wsX30 : List Cond := u_ws RX3 TX3 7
theorem nmX3 : ∀ a, a < 7 → ∀ b, b < 7 → a ≠ b → (TX3 a).2.1 ≠ (TX3 b).2.1 := by decide +kernel
theorem tyX3_ok : ∀ k, k < 7 → parseFieldDescriptor (TX3 k).2.2.1 = some (tyX3 k) := by decide +kernel
abbrev cX3_init : ByteArray := prog_5_method_1_code
def yX3_init : MethodName := ⟨RX3, "<init>", "()V"⟩
abbrev cX3_put : ByteArray := prog_5_method_2_code
def yX3_put : MethodName := ⟨RX3, "put", "(IIII)I"⟩
abbrev cX3_countThere : ByteArray := prog_5_method_3_code
def yX3_countThere : MethodName := ⟨RX3, "countThere", "()I"⟩
abbrev cX3_massThere : ByteArray := prog_5_method_4_code
def yX3_massThere : MethodName := ⟨RX3, "massThere", "()I"⟩
abbrev cX3_momentumThere : ByteArray := prog_5_method_5_code
def yX3_momentumThere : MethodName := ⟨RX3, "momentumThere", "()J"⟩
abbrev cX3_weighLanes : ByteArray := prog_5_method_6_code
def yX3_weighLanes : MethodName := ⟨RX3, "weighLanes", "([I)V"⟩
abbrev cX3_goRound : ByteArray := prog_5_method_7_code
def yX3_goRound : MethodName := ⟨RX3, "goRound", "()V"⟩
abbrev cX3_yieldTo : ByteArray := prog_5_method_8_code
def yX3_yieldTo : MethodName := ⟨RX3, "yieldTo", "(LRingHerd$Moon;)V"⟩
abbrev cX3_meetAll : ByteArray := prog_5_method_9_code
def yX3_meetAll : MethodName := ⟨RX3, "meetAll", "()V"⟩
abbrev cX3_darken : ByteArray := prog_5_method_10_code
def yX3_darken : MethodName := ⟨RX3, "darken", "()V"⟩
abbrev cX3_partnerOf : ByteArray := prog_5_method_11_code
def yX3_partnerOf : MethodName := ⟨RX3, "partnerOf", "(II)I"⟩
abbrev cX3_meet : ByteArray := prog_5_method_12_code
def yX3_meet : MethodName := ⟨RX3, "meet", "(LRingHerd$Grain;LRingHerd$Grain;)V"⟩
abbrev cX3_stick : ByteArray := prog_5_method_13_code
def yX3_stick : MethodName := ⟨RX3, "stick", "(LRingHerd$Grain;LRingHerd$Grain;)V"⟩
abbrev cX3_blend : ByteArray := prog_5_method_14_code
def yX3_blend : MethodName := ⟨RX3, "blend", "(LRingHerd$Grain;ILRingHerd$Grain;I)I"⟩
abbrev cX3_breakUp : ByteArray := prog_5_method_15_code
def yX3_breakUp : MethodName := ⟨RX3, "breakUp", "(LRingHerd$Grain;)V"⟩
abbrev cX3_bump : ByteArray := prog_5_method_16_code
def yX3_bump : MethodName := ⟨RX3, "bump", "(LRingHerd$Grain;LRingHerd$Grain;)V"⟩
abbrev cX3_shift : ByteArray := prog_5_method_17_code
def yX3_shift : MethodName := ⟨RX3, "shift", "(LRingHerd$Grain;I)V"⟩
def RX4 : String := "RingHerd$Ledger"
def TX4 : u_T := fun k => match k with
  | 0 => ("RingHerd$Ledger", "stuck", "I", false)
  | 1 => ("RingHerd$Ledger", "broken", "I", false)
  | 2 => ("RingHerd$Ledger", "bumps", "I", false)
  | 3 => ("RingHerd$Ledger", "rained", "I", false)
  | 4 => ("RingHerd$Ledger", "escaped", "I", false)
  | 5 => ("RingHerd$Ledger", "putMass", "I", false)
  | 6 => ("RingHerd$Ledger", "rainedMass", "I", false)
  | 7 => ("RingHerd$Ledger", "escapedMass", "I", false)
  | 8 => ("RingHerd$Ledger", "putMomentum", "J", false)
  | 9 => ("RingHerd$Ledger", "rainedMomentum", "J", false)
  | 10 => ("RingHerd$Ledger", "escapedMomentum", "J", false)
  | 11 => ("RingHerd$Ledger", "givenByMoons", "J", false)
  | _ => ("RingHerd$Ledger", "heat", "J", false)
def tyX4 : Nat → FieldType := fun k => match k with
  | 0 => .int
  | 1 => .int
  | 2 => .int
  | 3 => .int
  | 4 => .int
  | 5 => .int
  | 6 => .int
  | 7 => .int
  | 8 => .long
  | 9 => .long
  | 10 => .long
  | 11 => .long
  | _ => .long
abbrev wsX40 : List Cond := u_ws RX4 TX4 13
theorem nmX4 : ∀ a, a < 13 → ∀ b, b < 13 → a ≠ b → (TX4 a).2.1 ≠ (TX4 b).2.1 := by decide +kernel
theorem tyX4_ok : ∀ k, k < 13 → parseFieldDescriptor (TX4 k).2.2.1 = some (tyX4 k) := by decide +kernel
abbrev cX4_init : ByteArray := prog_6_method_1_code
def yX4_init : MethodName := ⟨RX4, "<init>", "()V"⟩
def RX5 : String := "RingHerd$Moon"
def TX5 : u_T := fun k => match k with
  | 0 => ("RingHerd$Moon", "lane", "I", false)
  | 1 => ("RingHerd$Moon", "angle", "I", false)
  | _ => ("RingHerd$Moon", "width", "I", false)
def tyX5 : Nat → FieldType := fun k => match k with
  | 0 => .int
  | 1 => .int
  | _ => .int
abbrev wsX50 : List Cond := u_ws RX5 TX5 3
theorem nmX5 : ∀ a, a < 3 → ∀ b, b < 3 → a ≠ b → (TX5 a).2.1 ≠ (TX5 b).2.1 := by decide +kernel
theorem tyX5_ok : ∀ k, k < 3 → parseFieldDescriptor (TX5 k).2.2.1 = some (tyX5 k) := by decide +kernel
abbrev cX5_init : ByteArray := prog_7_method_1_code
def yX5_init : MethodName := ⟨RX5, "<init>", "()V"⟩
def RX6 : String := "RingHerd$Planet"
def TX6 : u_T := fun k => match k with
  | _ => ("RingHerd$Planet", "flatness", "I", false)
def tyX6 : Nat → FieldType := fun k => match k with
  | _ => .int
abbrev wsX60 : List Cond := u_ws RX6 TX6 1
theorem nmX6 : ∀ a, a < 1 → ∀ b, b < 1 → a ≠ b → (TX6 a).2.1 ≠ (TX6 b).2.1 := by decide +kernel
theorem tyX6_ok : ∀ k, k < 1 → parseFieldDescriptor (TX6 k).2.2.1 = some (tyX6 k) := by decide +kernel
abbrev cX6_init : ByteArray := prog_8_method_1_code
def yX6_init : MethodName := ⟨RX6, "<init>", "()V"⟩
abbrev cX6_speedIn : ByteArray := prog_8_method_2_code
def yX6_speedIn : MethodName := ⟨RX6, "speedIn", "(I)I"⟩
def RX7 : String := "RingHerd"
def TX7 : u_T := fun k => match k with
  | 0 => ("RingHerd", "herd", "LRingHerd$Herd;", true)
  | 1 => ("RingHerd", "moons", "[LRingHerd$Moon;", true)
  | 2 => ("RingHerd", "moonCount", "I", false)
  | 3 => ("RingHerd", "frames", "[LRingHerd$Frame;", true)
  | 4 => ("RingHerd", "frameCount", "I", false)
  | 5 => ("RingHerd", "claims", "[LRingHerd$Claim;", true)
  | 6 => ("RingHerd", "claimCount", "I", false)
  | 7 => ("RingHerd", "ticksGone", "I", false)
  | 8 => ("RingHerd", "laneMasses", "[I", true)
  | 9 => ("RingHerd", "gapFirsts", "[I", true)
  | _ => ("RingHerd", "gapLasts", "[I", true)
def tyX7 : Nat → FieldType := fun k => match k with
  | 0 => .object "RingHerd$Herd"
  | 1 => .array (.object "RingHerd$Moon")
  | 2 => .int
  | 3 => .array (.object "RingHerd$Frame")
  | 4 => .int
  | 5 => .array (.object "RingHerd$Claim")
  | 6 => .int
  | 7 => .int
  | 8 => .array .int
  | 9 => .array .int
  | _ => .array .int
abbrev wsX70 : List Cond := u_ws RX7 TX7 11
theorem nmX7 : ∀ a, a < 11 → ∀ b, b < 11 → a ≠ b → (TX7 a).2.1 ≠ (TX7 b).2.1 := by decide +kernel
theorem tyX7_ok : ∀ k, k < 11 → parseFieldDescriptor (TX7 k).2.2.1 = some (tyX7 k) := by decide +kernel
abbrev cX7_init : ByteArray := prog_1_method_1_code
def yX7_init : MethodName := ⟨RX7, "<init>", "()V"⟩
abbrev cX7_grain : ByteArray := prog_1_method_2_code
def yX7_grain : MethodName := ⟨RX7, "grain", "(IIII)I"⟩
abbrev cX7_moon : ByteArray := prog_1_method_3_code
def yX7_moon : MethodName := ⟨RX7, "moon", "(III)I"⟩
abbrev cX7_flatness : ByteArray := prog_1_method_4_code
def yX7_flatness : MethodName := ⟨RX7, "flatness", "(I)I"⟩
abbrev cX7_bounds : ByteArray := prog_1_method_5_code
def yX7_bounds : MethodName := ⟨RX7, "bounds", "(III)V"⟩
abbrev cX7_tick : ByteArray := prog_1_method_6_code
def yX7_tick : MethodName := ⟨RX7, "tick", "(I)I"⟩
abbrev cX7_told : ByteArray := prog_1_method_10_code
def yX7_told : MethodName := ⟨RX7, "told", "(II)I"⟩
abbrev cX7_angle : ByteArray := prog_1_method_11_code
def yX7_angle : MethodName := ⟨RX7, "angle", "(I)I"⟩
abbrev cX7_speed : ByteArray := prog_1_method_12_code
def yX7_speed : MethodName := ⟨RX7, "speed", "(I)I"⟩
abbrev cX7_count : ByteArray := prog_1_method_13_code
def yX7_count : MethodName := ⟨RX7, "count", "(I)I"⟩
abbrev cX7_mass : ByteArray := prog_1_method_14_code
def yX7_mass : MethodName := ⟨RX7, "mass", "(I)I"⟩
abbrev cX7_sum : ByteArray := prog_1_method_15_code
def yX7_sum : MethodName := ⟨RX7, "sum", "(I)I"⟩
abbrev cX7_momentum : ByteArray := prog_1_method_16_code
def yX7_momentum : MethodName := ⟨RX7, "momentum", "(I)J"⟩
abbrev cX7_momentumByLanes : ByteArray := prog_1_method_17_code
def yX7_momentumByLanes : MethodName := ⟨RX7, "momentumByLanes", "()J"⟩
abbrev cX7_requireRange : ByteArray := prog_1_method_24_code
def yX7_requireRange : MethodName := ⟨RX7, "requireRange", "(III)V"⟩
abbrev cX7_requireLane : ByteArray := prog_1_method_25_code
def yX7_requireLane : MethodName := ⟨RX7, "requireLane", "(I)V"⟩
abbrev cX7_requirePlace : ByteArray := prog_1_method_26_code
def yX7_requirePlace : MethodName := ⟨RX7, "requirePlace", "(III)V"⟩
abbrev cX7_requireNumber : ByteArray := prog_1_method_27_code
def yX7_requireNumber : MethodName := ⟨RX7, "requireNumber", "(II)V"⟩
abbrev cX7_radiusOf : ByteArray := prog_1_method_28_code
def yX7_radiusOf : MethodName := ⟨RX7, "radiusOf", "(I)I"⟩
abbrev cX7_turned : ByteArray := prog_1_method_29_code
def yX7_turned : MethodName := ⟨RX7, "turned", "(II)I"⟩
abbrev cX7_anglesApart : ByteArray := prog_1_method_30_code
def yX7_anglesApart : MethodName := ⟨RX7, "anglesApart", "(II)I"⟩
abbrev cX7_widthOf : ByteArray := prog_1_method_31_code
def yX7_widthOf : MethodName := ⟨RX7, "widthOf", "(I)I"⟩
abbrev cX7_passTick : ByteArray := prog_1_method_32_code
def yX7_passTick : MethodName := ⟨RX7, "passTick", "()V"⟩
def RX8 : String := "RingHerdModel"
def TX8 : u_T := fun k => match k with
  | _ => ("", "", "", false)
def tyX8 : Nat → FieldType := fun k => match k with
  | _ => .int
abbrev wsX80 : List Cond := u_ws RX8 TX8 0
theorem nmX8 : ∀ a, a < 0 → ∀ b, b < 0 → a ≠ b → (TX8 a).2.1 ≠ (TX8 b).2.1 := by decide +kernel
theorem tyX8_ok : ∀ k, k < 0 → parseFieldDescriptor (TX8 k).2.2.1 = some (tyX8 k) := by decide +kernel
def RJ9 : String := "java/lang/Math"
def TJ9 : u_T := fun k => match k with
  | _ => ("", "", "", false)
def tyJ9 : Nat → FieldType := fun k => match k with
  | _ => .int
abbrev wsJ90 : List Cond := u_ws RJ9 TJ9 0
theorem nmJ9 : ∀ a, a < 0 → ∀ b, b < 0 → a ≠ b → (TJ9 a).2.1 ≠ (TJ9 b).2.1 := by decide +kernel
theorem tyJ9_ok : ∀ k, k < 0 → parseFieldDescriptor (TJ9 k).2.2.1 = some (tyJ9 k) := by decide +kernel
abbrev cJ9_abs_0f7a4 : ByteArray := prog_15_method_59_code
def yJ9_abs_0f7a4 : MethodName := ⟨RJ9, "abs", "(I)I"⟩
abbrev cJ9_min_7cf53 : ByteArray := prog_15_method_69_code
def yJ9_min_7cf53 : MethodName := ⟨RJ9, "min", "(II)I"⟩
def RJ0 : String := "java/lang/String"
def TJ0 : u_T := fun k => match k with
  | _ => ("", "", "", false)
def tyJ0 : Nat → FieldType := fun k => match k with
  | _ => .int
abbrev wsJ00 : List Cond := u_ws RJ0 TJ0 0
theorem nmJ0 : ∀ a, a < 0 → ∀ b, b < 0 → a ≠ b → (TJ0 a).2.1 ≠ (TJ0 b).2.1 := by decide +kernel
theorem tyJ0_ok : ∀ k, k < 0 → parseFieldDescriptor (TJ0 k).2.2.1 = some (tyJ0 k) := by decide +kernel
def RL : String := "RingHerdLaw"
abbrev cL_cell : ByteArray := method_2_code
def yL_cell : MethodName := ⟨RL, "cell", "([II)I"⟩
abbrev cL_low : ByteArray := method_3_code
def yL_low : MethodName := ⟨RL, "low", "(II)I"⟩
abbrev cL_speed : ByteArray := method_4_code
def yL_speed : MethodName := ⟨RL, "speed", "([II)I"⟩
abbrev cL_apart : ByteArray := method_5_code
def yL_apart : MethodName := ⟨RL, "apart", "(II)I"⟩
abbrev cL_comes : ByteArray := method_6_code
def yL_comes : MethodName := ⟨RL, "comes", "([I[I[I[III)J"⟩
abbrev cL_moment : ByteArray := method_7_code
def yL_moment : MethodName := ⟨RL, "moment", "([I[II)J"⟩
abbrev cL_law : ByteArray := code
def yL_law : MethodName := ⟨RL, "law", "([I)Z"⟩
abbrev vwCl : List vw_C := [(RX0, TX0, 4), (RX1, TX1, 2), (RX2, TX2, 7), (RX3, TX3, 7), (RX4, TX4, 13), (RX5, TX5, 3), (RX6, TX6, 1), (RX7, TX7, 11)]

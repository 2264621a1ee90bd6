/-! ===== BEGIN printed: names, fields, word lists, decode rows ===== -/
def RX0 : String := "DryLoaf$Hardened"
def TX0 : u_T := fun k => match k with
  | 0 => ("DryLoaf$Person", "fear", "I", true)
  | _ => ("DryLoaf$Person", "odds", "I", true)
def tyX0 : Nat → FieldType := fun k => match k with
  | 0 => .int
  | _ => .int
abbrev wsX00 : List Cond := u_ws RX0 TX0 2
theorem nmX0 : ∀ a, a < 2 → ∀ b, b < 2 → a ≠ b → (TX0 a).2.1 ≠ (TX0 b).2.1 := by decide +kernel
theorem tyX0_ok : ∀ k, k < 2 → parseFieldDescriptor (TX0 k).2.2.1 = some (tyX0 k) := by decide +kernel
abbrev cX0_init : ByteArray := prog_2_method_1_code
def yX0_init : MethodName := ⟨RX0, "<init>", "(II)V"⟩
abbrev cX0_kind : ByteArray := prog_2_method_2_code
def yX0_kind : MethodName := ⟨RX0, "kind", "()I"⟩
abbrev cX0_dread : ByteArray := prog_2_method_3_code
def yX0_dread : MethodName := ⟨RX0, "dread", "(Z)I"⟩
def RX1 : String := "DryLoaf$Page"
def TX1 : u_T := fun k => match k with
  | 0 => ("DryLoaf$Page", "codes", "[I", true)
  | _ => ("DryLoaf$Page", "size", "I", false)
def tyX1 : Nat → FieldType := fun k => match k with
  | 0 => .array .int
  | _ => .int
abbrev wsX10 : List Cond := u_ws RX1 TX1 2
theorem nmX1 : ∀ a, a < 2 → ∀ b, b < 2 → a ≠ b → (TX1 a).2.1 ≠ (TX1 b).2.1 := by decide +kernel
theorem tyX1_ok : ∀ k, k < 2 → parseFieldDescriptor (TX1 k).2.2.1 = some (tyX1 k) := by decide +kernel
abbrev cX1_init : ByteArray := prog_3_method_1_code
def yX1_init : MethodName := ⟨RX1, "<init>", "()V"⟩
abbrev cX1_write : ByteArray := prog_3_method_2_code
def yX1_write : MethodName := ⟨RX1, "write", "(I)Z"⟩
abbrev cX1_codeAt : ByteArray := prog_3_method_3_code
def yX1_codeAt : MethodName := ⟨RX1, "codeAt", "(I)I"⟩
abbrev cX1_digitAt : ByteArray := prog_3_method_4_code
def yX1_digitAt : MethodName := ⟨RX1, "digitAt", "(I)I"⟩
abbrev cX1_firstFault : ByteArray := prog_3_method_5_code
def yX1_firstFault : MethodName := ⟨RX1, "firstFault", "()I"⟩
abbrev cX1_isWhole : ByteArray := prog_3_method_6_code
def yX1_isWhole : MethodName := ⟨RX1, "isWhole", "()Z"⟩
abbrev cX1_accusedCount : ByteArray := prog_3_method_7_code
def yX1_accusedCount : MethodName := ⟨RX1, "accusedCount", "()I"⟩
abbrev cX1_readPerson : ByteArray := prog_3_method_8_code
def yX1_readPerson : MethodName := ⟨RX1, "readPerson", "(I)LDryLoaf$Person;"⟩
abbrev cX1_fitsAccused : ByteArray := prog_3_method_9_code
def yX1_fitsAccused : MethodName := ⟨RX1, "fitsAccused", "(I)Z"⟩
abbrev cX1_fitsBehind : ByteArray := prog_3_method_10_code
def yX1_fitsBehind : MethodName := ⟨RX1, "fitsBehind", "(II)Z"⟩
abbrev cX1_kindAt : ByteArray := prog_3_method_11_code
def yX1_kindAt : MethodName := ⟨RX1, "kindAt", "(I)I"⟩
abbrev cX1_isDigit : ByteArray := prog_3_method_12_code
def yX1_isDigit : MethodName := ⟨RX1, "isDigit", "(II)Z"⟩
def RX2 : String := "DryLoaf$Person"
def TX2 : u_T := fun k => match k with
  | 0 => ("DryLoaf$Person", "fear", "I", true)
  | _ => ("DryLoaf$Person", "odds", "I", true)
def tyX2 : Nat → FieldType := fun k => match k with
  | 0 => .int
  | _ => .int
abbrev wsX20 : List Cond := u_ws RX2 TX2 2
theorem nmX2 : ∀ a, a < 2 → ∀ b, b < 2 → a ≠ b → (TX2 a).2.1 ≠ (TX2 b).2.1 := by decide +kernel
theorem tyX2_ok : ∀ k, k < 2 → parseFieldDescriptor (TX2 k).2.2.1 = some (tyX2 k) := by decide +kernel
abbrev cX2_init : ByteArray := prog_4_method_1_code
def yX2_init : MethodName := ⟨RX2, "<init>", "(II)V"⟩
abbrev cX2_kind : ByteArray := prog_4_method_2_code
def yX2_kind : MethodName := ⟨RX2, "kind", "()I"⟩
abbrev cX2_dread : ByteArray := prog_4_method_3_code
def yX2_dread : MethodName := ⟨RX2, "dread", "(Z)I"⟩
abbrev cX2_tenths : ByteArray := prog_4_method_4_code
def yX2_tenths : MethodName := ⟨RX2, "tenths", "(ZII)I"⟩
abbrev cX2_need : ByteArray := prog_4_method_5_code
def yX2_need : MethodName := ⟨RX2, "need", "(I)I"⟩
abbrev cX2_butterBits : ByteArray := prog_4_method_6_code
def yX2_butterBits : MethodName := ⟨RX2, "butterBits", "(ZZI)I"⟩
def RX3 : String := "DryLoaf$Priest"
def TX3 : u_T := fun k => match k with
  | 0 => ("DryLoaf$Person", "fear", "I", true)
  | _ => ("DryLoaf$Person", "odds", "I", true)
def tyX3 : Nat → FieldType := fun k => match k with
  | 0 => .int
  | _ => .int
abbrev wsX30 : List Cond := u_ws RX3 TX3 2
theorem nmX3 : ∀ a, a < 2 → ∀ b, b < 2 → a ≠ b → (TX3 a).2.1 ≠ (TX3 b).2.1 := by decide +kernel
theorem tyX3_ok : ∀ k, k < 2 → parseFieldDescriptor (TX3 k).2.2.1 = some (tyX3 k) := by decide +kernel
abbrev cX3_init : ByteArray := prog_5_method_1_code
def yX3_init : MethodName := ⟨RX3, "<init>", "(II)V"⟩
abbrev cX3_kind : ByteArray := prog_5_method_2_code
def yX3_kind : MethodName := ⟨RX3, "kind", "()I"⟩
abbrev cX3_dread : ByteArray := prog_5_method_3_code
def yX3_dread : MethodName := ⟨RX3, "dread", "(Z)I"⟩
def RX4 : String := "DryLoaf$Standing"
def TX4 : u_T := fun k => match k with
  | 0 => ("DryLoaf$Standing", "butter", "[I", true)
  | 1 => ("DryLoaf$Standing", "weights", "[J", true)
  | 2 => ("DryLoaf$Standing", "ate", "[I", true)
  | 3 => ("DryLoaf$Standing", "choked", "[I", true)
  | 4 => ("DryLoaf$Standing", "butterBits", "[I", true)
  | 5 => ("DryLoaf$Standing", "heard", "I", false)
  | _ => ("DryLoaf$Standing", "dry", "I", false)
def tyX4 : Nat → FieldType := fun k => match k with
  | 0 => .array .int
  | 1 => .array .long
  | 2 => .array .int
  | 3 => .array .int
  | 4 => .array .int
  | 5 => .int
  | _ => .int
abbrev wsX40 : List Cond := u_ws RX4 TX4 7
theorem nmX4 : ∀ a, a < 7 → ∀ b, b < 7 → a ≠ b → (TX4 a).2.1 ≠ (TX4 b).2.1 := by decide +kernel
theorem tyX4_ok : ∀ k, k < 7 → parseFieldDescriptor (TX4 k).2.2.1 = some (tyX4 k) := by decide +kernel
abbrev cX4_init : ByteArray := prog_6_method_1_code
def yX4_init : MethodName := ⟨RX4, "<init>", "()V"⟩
abbrev cX4_clear : ByteArray := prog_6_method_2_code
def yX4_clear : MethodName := ⟨RX4, "clear", "(I)V"⟩
abbrev cX4_unhear : ByteArray := prog_6_method_3_code
def yX4_unhear : MethodName := ⟨RX4, "unhear", "()V"⟩
abbrev cX4_copyFrom : ByteArray := prog_6_method_4_code
def yX4_copyFrom : MethodName := ⟨RX4, "copyFrom", "(LDryLoaf$Standing;)V"⟩
def RX5 : String := "DryLoaf$Thief"
def TX5 : u_T := fun k => match k with
  | 0 => ("DryLoaf$Person", "fear", "I", true)
  | _ => ("DryLoaf$Person", "odds", "I", true)
def tyX5 : Nat → FieldType := fun k => match k with
  | 0 => .int
  | _ => .int
abbrev wsX50 : List Cond := u_ws RX5 TX5 2
theorem nmX5 : ∀ a, a < 2 → ∀ b, b < 2 → a ≠ b → (TX5 a).2.1 ≠ (TX5 b).2.1 := by decide +kernel
theorem tyX5_ok : ∀ k, k < 2 → parseFieldDescriptor (TX5 k).2.2.1 = some (tyX5 k) := by decide +kernel
abbrev cX5_init : ByteArray := prog_7_method_1_code
def yX5_init : MethodName := ⟨RX5, "<init>", "(II)V"⟩
abbrev cX5_kind : ByteArray := prog_7_method_2_code
def yX5_kind : MethodName := ⟨RX5, "kind", "()I"⟩
abbrev cX5_dread : ByteArray := prog_7_method_3_code
def yX5_dread : MethodName := ⟨RX5, "dread", "(Z)I"⟩
def RX6 : String := "DryLoaf$Weeper"
def TX6 : u_T := fun k => match k with
  | 0 => ("DryLoaf$Person", "fear", "I", true)
  | _ => ("DryLoaf$Person", "odds", "I", true)
def tyX6 : Nat → FieldType := fun k => match k with
  | 0 => .int
  | _ => .int
abbrev wsX60 : List Cond := u_ws RX6 TX6 2
theorem nmX6 : ∀ a, a < 2 → ∀ b, b < 2 → a ≠ b → (TX6 a).2.1 ≠ (TX6 b).2.1 := by decide +kernel
theorem tyX6_ok : ∀ k, k < 2 → parseFieldDescriptor (TX6 k).2.2.1 = some (tyX6 k) := by decide +kernel
abbrev cX6_init : ByteArray := prog_8_method_1_code
def yX6_init : MethodName := ⟨RX6, "<init>", "(II)V"⟩
abbrev cX6_kind : ByteArray := prog_8_method_2_code
def yX6_kind : MethodName := ⟨RX6, "kind", "()I"⟩
abbrev cX6_dread : ByteArray := prog_8_method_3_code
def yX6_dread : MethodName := ⟨RX6, "dread", "(Z)I"⟩
def RX7 : String := "DryLoaf"
def TX7 : u_T := fun k => match k with
  | 0 => ("DryLoaf", "page", "LDryLoaf$Page;", true)
  | 1 => ("DryLoaf", "people", "[LDryLoaf$Person;", true)
  | 2 => ("DryLoaf", "now", "LDryLoaf$Standing;", true)
  | 3 => ("DryLoaf", "kept", "LDryLoaf$Standing;", true)
  | 4 => ("DryLoaf", "rows", "[[J", true)
  | 5 => ("DryLoaf", "many", "I", false)
  | 6 => ("DryLoaf", "courtsRead", "I", false)
  | 7 => ("DryLoaf", "keptCourt", "I", false)
  | _ => ("DryLoaf", "rightsDone", "I", false)
def tyX7 : Nat → FieldType := fun k => match k with
  | 0 => .object "DryLoaf$Page"
  | 1 => .array (.object "DryLoaf$Person")
  | 2 => .object "DryLoaf$Standing"
  | 3 => .object "DryLoaf$Standing"
  | 4 => .array (.array .long)
  | 5 => .int
  | 6 => .int
  | 7 => .int
  | _ => .int
abbrev wsX70 : List Cond := u_ws RX7 TX7 9
theorem nmX7 : ∀ a, a < 9 → ∀ b, b < 9 → a ≠ b → (TX7 a).2.1 ≠ (TX7 b).2.1 := by decide +kernel
theorem tyX7_ok : ∀ k, k < 9 → parseFieldDescriptor (TX7 k).2.2.1 = some (tyX7 k) := by decide +kernel
abbrev cX7_init : ByteArray := prog_1_method_1_code
def yX7_init : MethodName := ⟨RX7, "<init>", "()V"⟩
abbrev cX7_letter : ByteArray := prog_1_method_2_code
def yX7_letter : MethodName := ⟨RX7, "letter", "(I)I"⟩
abbrev cX7_blank : ByteArray := prog_1_method_3_code
def yX7_blank : MethodName := ⟨RX7, "blank", "()I"⟩
abbrev cX7_fault : ByteArray := prog_1_method_4_code
def yX7_fault : MethodName := ⟨RX7, "fault", "()I"⟩
abbrev cX7_court : ByteArray := prog_1_method_5_code
def yX7_court : MethodName := ⟨RX7, "court", "()I"⟩
abbrev cX7_about : ByteArray := prog_1_method_6_code
def yX7_about : MethodName := ⟨RX7, "about", "(II)I"⟩
abbrev cX7_as : ByteArray := prog_1_method_7_code
def yX7_as : MethodName := ⟨RX7, "as", "(II)I"⟩
abbrev cX7_butter : ByteArray := prog_1_method_8_code
def yX7_butter : MethodName := ⟨RX7, "butter", "(II)I"⟩
abbrev cX7_loaf : ByteArray := prog_1_method_9_code
def yX7_loaf : MethodName := ⟨RX7, "loaf", "(I)I"⟩
abbrev cX7_eat : ByteArray := prog_1_method_10_code
def yX7_eat : MethodName := ⟨RX7, "eat", "(IZ)I"⟩
abbrev cX7_belief : ByteArray := prog_1_method_11_code
def yX7_belief : MethodName := ⟨RX7, "belief", "(II)J"⟩
abbrev cX7_judged : ByteArray := prog_1_method_12_code
def yX7_judged : MethodName := ⟨RX7, "judged", "()I"⟩
abbrev cX7_right : ByteArray := prog_1_method_13_code
def yX7_right : MethodName := ⟨RX7, "right", "(II)J"⟩
abbrev cX7_driest : ByteArray := prog_1_method_14_code
def yX7_driest : MethodName := ⟨RX7, "driest", "(II)J"⟩
abbrev cX7_hear : ByteArray := prog_1_method_15_code
def yX7_hear : MethodName := ⟨RX7, "hear", "(IZZ)I"⟩
abbrev cX7_forget : ByteArray := prog_1_method_16_code
def yX7_forget : MethodName := ⟨RX7, "forget", "()I"⟩
abbrev cX7_buttered : ByteArray := prog_1_method_17_code
def yX7_buttered : MethodName := ⟨RX7, "buttered", "(I)I"⟩
abbrev cX7_sessions : ByteArray := prog_1_method_18_code
def yX7_sessions : MethodName := ⟨RX7, "sessions", "(IIII)I"⟩
abbrev cX7_image : ByteArray := prog_1_method_19_code
def yX7_image : MethodName := ⟨RX7, "image", "()I"⟩
abbrev cX7_restore : ByteArray := prog_1_method_20_code
def yX7_restore : MethodName := ⟨RX7, "restore", "()I"⟩
abbrev cX7_count : ByteArray := prog_1_method_21_code
def yX7_count : MethodName := ⟨RX7, "count", "(I)I"⟩
abbrev cX7_digest : ByteArray := prog_1_method_22_code
def yX7_digest : MethodName := ⟨RX7, "digest", "()J"⟩
abbrev cX7_foldAccused : ByteArray := prog_1_method_23_code
def yX7_foldAccused : MethodName := ⟨RX7, "foldAccused", "(JI)J"⟩
abbrev cX7_fold : ByteArray := prog_1_method_24_code
def yX7_fold : MethodName := ⟨RX7, "fold", "(JJ)J"⟩
abbrev cX7_personAt : ByteArray := prog_1_method_25_code
def yX7_personAt : MethodName := ⟨RX7, "personAt", "(I)LDryLoaf$Person;"⟩
abbrev cX7_isSuch : ByteArray := prog_1_method_26_code
def yX7_isSuch : MethodName := ⟨RX7, "isSuch", "(LDryLoaf$Person;I)Z"⟩
abbrev cX7_weigh : ByteArray := prog_1_method_27_code
def yX7_weigh : MethodName := ⟨RX7, "weigh", "([JIZI[J)V"⟩
abbrev cX7_rightAtBest : ByteArray := prog_1_method_28_code
def yX7_rightAtBest : MethodName := ⟨RX7, "rightAtBest", "(I)J"⟩
abbrev cX7_rightIfEats : ByteArray := prog_1_method_29_code
def yX7_rightIfEats : MethodName := ⟨RX7, "rightIfEats", "(III)J"⟩
abbrev cX7_bestEater : ByteArray := prog_1_method_30_code
def yX7_bestEater : MethodName := ⟨RX7, "bestEater", "(I)I"⟩
abbrev cX7_weightOfAll : ByteArray := prog_1_method_31_code
def yX7_weightOfAll : MethodName := ⟨RX7, "weightOfAll", "()J"⟩
abbrev cX7_heaviest : ByteArray := prog_1_method_32_code
def yX7_heaviest : MethodName := ⟨RX7, "heaviest", "([J)I"⟩
abbrev cX7_sumOf : ByteArray := prog_1_method_33_code
def yX7_sumOf : MethodName := ⟨RX7, "sumOf", "([I)I"⟩
abbrev cX7_inLowestTerms : ByteArray := prog_1_method_34_code
def yX7_inLowestTerms : MethodName := ⟨RX7, "inLowestTerms", "(JJI)J"⟩
abbrev cX7_commonDivisor : ByteArray := prog_1_method_35_code
def yX7_commonDivisor : MethodName := ⟨RX7, "commonDivisor", "([J)J"⟩
abbrev cX7_commonDivisor_ : ByteArray := prog_1_method_36_code
def yX7_commonDivisor_ : MethodName := ⟨RX7, "commonDivisor", "(JJ)J"⟩
abbrev cX7_nextSeed : ByteArray := prog_1_method_37_code
def yX7_nextSeed : MethodName := ⟨RX7, "nextSeed", "(J)J"⟩
abbrev cX7_draw : ByteArray := prog_1_method_38_code
def yX7_draw : MethodName := ⟨RX7, "draw", "(JI)I"⟩
def RX8 : String := "DryLoafModel"
def TX8 : u_T := fun k => match k with
  | 0 => ("DryLoafModel", "courts", "I", false)
  | 1 => ("DryLoafModel", "accused", "I", false)
  | 2 => ("DryLoafModel", "dry", "I", false)
  | 3 => ("DryLoafModel", "kindOf", "[I", true)
  | 4 => ("DryLoafModel", "fearOf", "[I", true)
  | 5 => ("DryLoafModel", "oddsOf", "[I", true)
  | 6 => ("DryLoafModel", "butterOf", "[I", true)
  | 7 => ("DryLoafModel", "ateOf", "[I", true)
  | 8 => ("DryLoafModel", "chokedOf", "[I", true)
  | 9 => ("DryLoafModel", "weightOf", "[J", true)
  | 10 => ("DryLoafModel", "ate", "I", false)
  | 11 => ("DryLoafModel", "heard", "I", false)
  | 12 => ("DryLoafModel", "heardOne", "[I", true)
  | 13 => ("DryLoafModel", "heardDid", "[I", true)
  | 14 => ("DryLoafModel", "heardChoked", "[I", true)
  | 15 => ("DryLoafModel", "heardDry", "[I", true)
  | 16 => ("DryLoafModel", "asks", "I", false)
  | 17 => ("DryLoafModel", "pageLength", "I", false)
  | 18 => ("DryLoafModel", "page", "[B", true)
  | 19 => ("DryLoafModel", "isWhole", "Z", false)
  | 20 => ("DryLoafModel", "newMany", "I", false)
  | 21 => ("DryLoafModel", "thought", "[J", true)
  | 22 => ("DryLoafModel", "bestFirst", "I", false)
  | 23 => ("DryLoafModel", "seedNow", "J", false)
  | 24 => ("DryLoafModel", "isKept", "Z", false)
  | 25 => ("DryLoafModel", "keptCourt", "I", false)
  | 26 => ("DryLoafModel", "keptDry", "I", false)
  | 27 => ("DryLoafModel", "keptAte", "I", false)
  | 28 => ("DryLoafModel", "keptHeard", "I", false)
  | 29 => ("DryLoafModel", "keptButter", "[I", true)
  | 30 => ("DryLoafModel", "keptAteOf", "[I", true)
  | 31 => ("DryLoafModel", "keptChokedOf", "[I", true)
  | 32 => ("DryLoafModel", "keptWeight", "[J", true)
  | 33 => ("DryLoafModel", "keptOne", "[I", true)
  | 34 => ("DryLoafModel", "keptDid", "[I", true)
  | 35 => ("DryLoafModel", "keptChoked", "[I", true)
  | 36 => ("DryLoafModel", "keptHeardDry", "[I", true)
  | _ => ("DryLoafModel", "h", "J", false)
def tyX8 : Nat → FieldType := fun k => match k with
  | 0 => .int
  | 1 => .int
  | 2 => .int
  | 3 => .array .int
  | 4 => .array .int
  | 5 => .array .int
  | 6 => .array .int
  | 7 => .array .int
  | 8 => .array .int
  | 9 => .array .long
  | 10 => .int
  | 11 => .int
  | 12 => .array .int
  | 13 => .array .int
  | 14 => .array .int
  | 15 => .array .int
  | 16 => .int
  | 17 => .int
  | 18 => .array .byte
  | 19 => .boolean
  | 20 => .int
  | 21 => .array .long
  | 22 => .int
  | 23 => .long
  | 24 => .boolean
  | 25 => .int
  | 26 => .int
  | 27 => .int
  | 28 => .int
  | 29 => .array .int
  | 30 => .array .int
  | 31 => .array .int
  | 32 => .array .long
  | 33 => .array .int
  | 34 => .array .int
  | 35 => .array .int
  | 36 => .array .int
  | _ => .long
abbrev wsX80 : List Cond := u_ws RX8 TX8 38
theorem nmX8 : ∀ a, a < 38 → ∀ b, b < 38 → a ≠ b → (TX8 a).2.1 ≠ (TX8 b).2.1 := by decide +kernel
theorem tyX8_ok : ∀ k, k < 38 → parseFieldDescriptor (TX8 k).2.2.1 = some (tyX8 k) := by decide +kernel
abbrev cX8_init : ByteArray := prog_10_method_1_code
def yX8_init : MethodName := ⟨RX8, "<init>", "()V"⟩
abbrev cX8_within : ByteArray := prog_10_method_3_code
def yX8_within : MethodName := ⟨RX8, "within", "(III)Z"⟩
abbrev cX8_divisor : ByteArray := prog_10_method_4_code
def yX8_divisor : MethodName := ⟨RX8, "divisor", "(JJ)J"⟩
abbrev cX8_lowest : ByteArray := prog_10_method_5_code
def yX8_lowest : MethodName := ⟨RX8, "lowest", "(JJI)J"⟩
abbrev cX8_letter : ByteArray := prog_10_method_6_code
def yX8_letter : MethodName := ⟨RX8, "letter", "(I)I"⟩
abbrev cX8_blank : ByteArray := prog_10_method_7_code
def yX8_blank : MethodName := ⟨RX8, "blank", "()I"⟩
abbrev cX8_kindBy : ByteArray := prog_10_method_8_code
def yX8_kindBy : MethodName := ⟨RX8, "kindBy", "(I)I"⟩
abbrev cX8_isFigure : ByteArray := prog_10_method_9_code
def yX8_isFigure : MethodName := ⟨RX8, "isFigure", "(II)Z"⟩
abbrev cX8_readOne : ByteArray := prog_10_method_10_code
def yX8_readOne : MethodName := ⟨RX8, "readOne", "(I)I"⟩
abbrev cX8_read : ByteArray := prog_10_method_11_code
def yX8_read : MethodName := ⟨RX8, "read", "()I"⟩
abbrev cX8_fault : ByteArray := prog_10_method_12_code
def yX8_fault : MethodName := ⟨RX8, "fault", "()I"⟩
abbrev cX8_court : ByteArray := prog_10_method_13_code
def yX8_court : MethodName := ⟨RX8, "court", "()I"⟩
abbrev cX8_isOne : ByteArray := prog_10_method_14_code
def yX8_isOne : MethodName := ⟨RX8, "isOne", "(I)Z"⟩
abbrev cX8_dreads : ByteArray := prog_10_method_15_code
def yX8_dreads : MethodName := ⟨RX8, "dreads", "(IZ)I"⟩
abbrev cX8_tenthsBy : ByteArray := prog_10_method_16_code
def yX8_tenthsBy : MethodName := ⟨RX8, "tenthsBy", "(IZII)I"⟩
abbrev cX8_tenths : ByteArray := prog_10_method_17_code
def yX8_tenths : MethodName := ⟨RX8, "tenths", "(IZ)I"⟩
abbrev cX8_needOf : ByteArray := prog_10_method_18_code
def yX8_needOf : MethodName := ⟨RX8, "needOf", "(I)I"⟩
abbrev cX8_oneNow : ByteArray := prog_10_method_19_code
def yX8_oneNow : MethodName := ⟨RX8, "oneNow", "(II)I"⟩
abbrev cX8_about : ByteArray := prog_10_method_20_code
def yX8_about : MethodName := ⟨RX8, "about", "(II)I"⟩
abbrev cX8_as : ByteArray := prog_10_method_21_code
def yX8_as : MethodName := ⟨RX8, "as", "(II)I"⟩
abbrev cX8_butter : ByteArray := prog_10_method_22_code
def yX8_butter : MethodName := ⟨RX8, "butter", "(II)I"⟩
abbrev cX8_loaf : ByteArray := prog_10_method_23_code
def yX8_loaf : MethodName := ⟨RX8, "loaf", "(I)I"⟩
abbrev cX8_eatOn : ByteArray := prog_10_method_24_code
def yX8_eatOn : MethodName := ⟨RX8, "eatOn", "(IIZI)V"⟩
abbrev cX8_think : ByteArray := prog_10_method_25_code
def yX8_think : MethodName := ⟨RX8, "think", "()V"⟩
abbrev cX8_greatest : ByteArray := prog_10_method_26_code
def yX8_greatest : MethodName := ⟨RX8, "greatest", "(I)J"⟩
abbrev cX8_weightAll : ByteArray := prog_10_method_27_code
def yX8_weightAll : MethodName := ⟨RX8, "weightAll", "()J"⟩
abbrev cX8_judgedNow : ByteArray := prog_10_method_28_code
def yX8_judgedNow : MethodName := ⟨RX8, "judgedNow", "()I"⟩
abbrev cX8_eat : ByteArray := prog_10_method_29_code
def yX8_eat : MethodName := ⟨RX8, "eat", "(IZ)I"⟩
abbrev cX8_takeThought : ByteArray := prog_10_method_30_code
def yX8_takeThought : MethodName := ⟨RX8, "takeThought", "()V"⟩
abbrev cX8_belief : ByteArray := prog_10_method_31_code
def yX8_belief : MethodName := ⟨RX8, "belief", "(II)J"⟩
abbrev cX8_judged : ByteArray := prog_10_method_32_code
def yX8_judged : MethodName := ⟨RX8, "judged", "()I"⟩
abbrev cX8_bestOne : ByteArray := prog_10_method_33_code
def yX8_bestOne : MethodName := ⟨RX8, "bestOne", "(I)J"⟩
abbrev cX8_bestTwo : ByteArray := prog_10_method_34_code
def yX8_bestTwo : MethodName := ⟨RX8, "bestTwo", "(I)J"⟩
abbrev cX8_restOf : ByteArray := prog_10_method_35_code
def yX8_restOf : MethodName := ⟨RX8, "restOf", "(II)J"⟩
abbrev cX8_layRight : ByteArray := prog_10_method_36_code
def yX8_layRight : MethodName := ⟨RX8, "layRight", "(I)J"⟩
abbrev cX8_right : ByteArray := prog_10_method_37_code
def yX8_right : MethodName := ⟨RX8, "right", "(II)J"⟩
abbrev cX8_rightBy : ByteArray := prog_10_method_38_code
def yX8_rightBy : MethodName := ⟨RX8, "rightBy", "(II)J"⟩
abbrev cX8_driestNow : ByteArray := prog_10_method_39_code
def yX8_driestNow : MethodName := ⟨RX8, "driestNow", "(II)J"⟩
abbrev cX8_driest : ByteArray := prog_10_method_40_code
def yX8_driest : MethodName := ⟨RX8, "driest", "(II)J"⟩
abbrev cX8_hear : ByteArray := prog_10_method_41_code
def yX8_hear : MethodName := ⟨RX8, "hear", "(IZZ)I"⟩
abbrev cX8_forget : ByteArray := prog_10_method_42_code
def yX8_forget : MethodName := ⟨RX8, "forget", "()I"⟩
abbrev cX8_couldHave : ByteArray := prog_10_method_43_code
def yX8_couldHave : MethodName := ⟨RX8, "couldHave", "(II)Z"⟩
abbrev cX8_butteredNow : ByteArray := prog_10_method_44_code
def yX8_butteredNow : MethodName := ⟨RX8, "butteredNow", "(I)I"⟩
abbrev cX8_buttered : ByteArray := prog_10_method_45_code
def yX8_buttered : MethodName := ⟨RX8, "buttered", "(I)I"⟩
abbrev cX8_draw : ByteArray := prog_10_method_46_code
def yX8_draw : MethodName := ⟨RX8, "draw", "(I)I"⟩
abbrev cX8_sessionsNow : ByteArray := prog_10_method_47_code
def yX8_sessionsNow : MethodName := ⟨RX8, "sessionsNow", "(IIII)I"⟩
abbrev cX8_sessions : ByteArray := prog_10_method_48_code
def yX8_sessions : MethodName := ⟨RX8, "sessions", "(IIII)I"⟩
abbrev cX8_image : ByteArray := prog_10_method_49_code
def yX8_image : MethodName := ⟨RX8, "image", "()I"⟩
abbrev cX8_restore : ByteArray := prog_10_method_50_code
def yX8_restore : MethodName := ⟨RX8, "restore", "()I"⟩
abbrev cX8_sum : ByteArray := prog_10_method_51_code
def yX8_sum : MethodName := ⟨RX8, "sum", "(I)I"⟩
abbrev cX8_howMany : ByteArray := prog_10_method_52_code
def yX8_howMany : MethodName := ⟨RX8, "howMany", "(I)I"⟩
abbrev cX8_count : ByteArray := prog_10_method_53_code
def yX8_count : MethodName := ⟨RX8, "count", "(I)I"⟩
abbrev cX8_mix : ByteArray := prog_10_method_54_code
def yX8_mix : MethodName := ⟨RX8, "mix", "(J)V"⟩
abbrev cX8_mixOne : ByteArray := prog_10_method_55_code
def yX8_mixOne : MethodName := ⟨RX8, "mixOne", "(I)V"⟩
abbrev cX8_digest : ByteArray := prog_10_method_56_code
def yX8_digest : MethodName := ⟨RX8, "digest", "()J"⟩
def RJ11 : String := "java/lang/Character"
def TJ11 : u_T := fun k => match k with
  | _ => ("", "", "", false)
def tyJ11 : Nat → FieldType := fun k => match k with
  | _ => .int
abbrev wsJ110 : List Cond := u_ws RJ11 TJ11 0
theorem nmJ11 : ∀ a, a < 0 → ∀ b, b < 0 → a ≠ b → (TJ11 a).2.1 ≠ (TJ11 b).2.1 := by decide +kernel
theorem tyJ11_ok : ∀ k, k < 0 → parseFieldDescriptor (TJ11 k).2.2.1 = some (tyJ11 k) := by decide +kernel
abbrev cJ11_isValidCodePoint_9a6ad : ByteArray := prog_11_method_11_code
def yJ11_isValidCodePoint_9a6ad : MethodName := ⟨RJ11, "isValidCodePoint", "(I)Z"⟩
abbrev cJ11_highSurrogate_5068e : ByteArray := prog_11_method_28_code
def yJ11_highSurrogate_5068e : MethodName := ⟨RJ11, "highSurrogate", "(I)C"⟩
abbrev cJ11_lowSurrogate_5068e : ByteArray := prog_11_method_29_code
def yJ11_lowSurrogate_5068e : MethodName := ⟨RJ11, "lowSurrogate", "(I)C"⟩
def RJ9 : String := "java/lang/Math"
def TJ9 : u_T := fun k => match k with
  | _ => ("", "", "", false)
def tyJ9 : Nat → FieldType := fun k => match k with
  | _ => .int
abbrev wsJ90 : List Cond := u_ws RJ9 TJ9 0
theorem nmJ9 : ∀ a, a < 0 → ∀ b, b < 0 → a ≠ b → (TJ9 a).2.1 ≠ (TJ9 b).2.1 := by decide +kernel
theorem tyJ9_ok : ∀ k, k < 0 → parseFieldDescriptor (TJ9 k).2.2.1 = some (tyJ9 k) := by decide +kernel
abbrev cJ9_max_7cf53 : ByteArray := prog_12_method_65_code
def yJ9_max_7cf53 : MethodName := ⟨RJ9, "max", "(II)I"⟩
abbrev cJ9_max_f86c9 : ByteArray := prog_12_method_66_code
def yJ9_max_f86c9 : MethodName := ⟨RJ9, "max", "(JJ)J"⟩
abbrev cJ9_min_7cf53 : ByteArray := prog_12_method_69_code
def yJ9_min_7cf53 : MethodName := ⟨RJ9, "min", "(II)I"⟩
def RJ0 : String := "java/lang/String"
def TJ0 : u_T := fun k => match k with
  | _ => ("", "", "", false)
def tyJ0 : Nat → FieldType := fun k => match k with
  | _ => .int
abbrev wsJ00 : List Cond := u_ws RJ0 TJ0 0
theorem nmJ0 : ∀ a, a < 0 → ∀ b, b < 0 → a ≠ b → (TJ0 a).2.1 ≠ (TJ0 b).2.1 := by decide +kernel
theorem tyJ0_ok : ∀ k, k < 0 → parseFieldDescriptor (TJ0 k).2.2.1 = some (tyJ0 k) := by decide +kernel
abbrev cJ0_length_8abf5 : ByteArray := prog_13_method_54_code
def yJ0_length_8abf5 : MethodName := ⟨RJ0, "length", "()I"⟩
abbrev cJ0_indexOf_0f7a4 : ByteArray := prog_13_method_79_code
def yJ0_indexOf_0f7a4 : MethodName := ⟨RJ0, "indexOf", "(I)I"⟩
abbrev cJ0_indexOf_7cf53 : ByteArray := prog_13_method_80_code
def yJ0_indexOf_7cf53 : MethodName := ⟨RJ0, "indexOf", "(II)I"⟩
abbrev cJ0_coder_7d493 : ByteArray := prog_13_method_152_code
def yJ0_coder_7d493 : MethodName := ⟨RJ0, "coder", "()B"⟩
abbrev cJ0_isLatin1_aae02 : ByteArray := prog_13_method_154_code
def yJ0_isLatin1_aae02 : MethodName := ⟨RJ0, "isLatin1", "()Z"⟩
abbrev cJ0_checkBoundsBeginEnd_23922 : ByteArray := prog_13_method_158_code
def yJ0_checkBoundsBeginEnd_23922 : MethodName := ⟨RJ0, "checkBoundsBeginEnd", "(III)V"⟩
def RJ1 : String := "java/lang/StringLatin1"
def TJ1 : u_T := fun k => match k with
  | _ => ("", "", "", false)
def tyJ1 : Nat → FieldType := fun k => match k with
  | _ => .int
abbrev wsJ10 : List Cond := u_ws RJ1 TJ1 0
theorem nmJ1 : ∀ a, a < 0 → ∀ b, b < 0 → a ≠ b → (TJ1 a).2.1 ≠ (TJ1 b).2.1 := by decide +kernel
theorem tyJ1_ok : ∀ k, k < 0 → parseFieldDescriptor (TJ1 k).2.2.1 = some (tyJ1 k) := by decide +kernel
abbrev cJ1_canEncode_9a6ad : ByteArray := prog_14_method_4_code
def yJ1_canEncode_9a6ad : MethodName := ⟨RJ1, "canEncode", "(I)Z"⟩
abbrev cJ1_indexOf_4cfef : ByteArray := prog_14_method_22_code
def yJ1_indexOf_4cfef : MethodName := ⟨RJ1, "indexOf", "([BIII)I"⟩
abbrev cJ1_indexOfChar_4cfef : ByteArray := prog_14_method_23_code
def yJ1_indexOfChar_4cfef : MethodName := ⟨RJ1, "indexOfChar", "([BIII)I"⟩
def RJ2 : String := "java/lang/StringUTF16"
def TJ2 : u_T := fun k => match k with
  | _ => ("", "", "", false)
def tyJ2 : Nat → FieldType := fun k => match k with
  | _ => .int
abbrev wsJ20 : List Cond := u_ws RJ2 TJ2 0
theorem nmJ2 : ∀ a, a < 0 → ∀ b, b < 0 → a ≠ b → (TJ2 a).2.1 ≠ (TJ2 b).2.1 := by decide +kernel
theorem tyJ2_ok : ∀ k, k < 0 → parseFieldDescriptor (TJ2 k).2.2.1 = some (tyJ2 k) := by decide +kernel
abbrev cJ2_getChar_3b067 : ByteArray := prog_15_method_5_code
def yJ2_getChar_3b067 : MethodName := ⟨RJ2, "getChar", "([BI)C"⟩
abbrev cJ2_length_9d52b : ByteArray := prog_15_method_6_code
def yJ2_length_9d52b : MethodName := ⟨RJ2, "length", "([B)I"⟩
abbrev cJ2_indexOf_4cfef : ByteArray := prog_15_method_40_code
def yJ2_indexOf_4cfef : MethodName := ⟨RJ2, "indexOf", "([BIII)I"⟩
abbrev cJ2_indexOfChar_4cfef : ByteArray := prog_15_method_47_code
def yJ2_indexOfChar_4cfef : MethodName := ⟨RJ2, "indexOfChar", "([BIII)I"⟩
abbrev cJ2_indexOfCharUnsafe_4cfef : ByteArray := prog_15_method_48_code
def yJ2_indexOfCharUnsafe_4cfef : MethodName := ⟨RJ2, "indexOfCharUnsafe", "([BIII)I"⟩
abbrev cJ2_indexOfSupplementary_4cfef : ByteArray := prog_15_method_49_code
def yJ2_indexOfSupplementary_4cfef : MethodName := ⟨RJ2, "indexOfSupplementary", "([BIII)I"⟩
abbrev cJ2_checkBoundsBeginEnd_d044e : ByteArray := prog_15_method_93_code
def yJ2_checkBoundsBeginEnd_d044e : MethodName := ⟨RJ2, "checkBoundsBeginEnd", "(II[B)V"⟩
def RJ10 : String := "java/lang/System"
def TJ10 : u_T := fun k => match k with
  | _ => ("", "", "", false)
def tyJ10 : Nat → FieldType := fun k => match k with
  | _ => .int
abbrev wsJ100 : List Cond := u_ws RJ10 TJ10 0
theorem nmJ10 : ∀ a, a < 0 → ∀ b, b < 0 → a ≠ b → (TJ10 a).2.1 ≠ (TJ10 b).2.1 := by decide +kernel
theorem tyJ10_ok : ∀ k, k < 0 → parseFieldDescriptor (TJ10 k).2.2.1 = some (tyJ10 k) := by decide +kernel
def RJ3 : String := "jdk/internal/util/Preconditions"
def TJ3 : u_T := fun k => match k with
  | _ => ("", "", "", false)
def tyJ3 : Nat → FieldType := fun k => match k with
  | _ => .int
abbrev wsJ30 : List Cond := u_ws RJ3 TJ3 0
theorem nmJ3 : ∀ a, a < 0 → ∀ b, b < 0 → a ≠ b → (TJ3 a).2.1 ≠ (TJ3 b).2.1 := by decide +kernel
theorem tyJ3_ok : ∀ k, k < 0 → parseFieldDescriptor (TJ3 k).2.2.1 = some (tyJ3 k) := by decide +kernel
abbrev cJ3_checkFromToIndex_8c36e : ByteArray := prog_17_method_12_code
def yJ3_checkFromToIndex_8c36e : MethodName := ⟨RJ3, "checkFromToIndex", "(IIILjava/util/function/BiFunction;)I"⟩
def RL : String := "DryLoafLaw"
abbrev cL_law : ByteArray := code
def yL_law : MethodName := ⟨RL, "law", "([I)Z"⟩
theorem kz_memr {big : List Cond} (ws : List Cond) (ps : List Nat) (hp : ws = ps.filterMap (fun i => big[i]?)) : ∀ w ∈ ws, w ∈ big := by
  intro w hw
  rw [hp] at hw
  obtain ⟨i, -, hi⟩ := List.mem_filterMap.mp hw
  exact List.mem_of_getElem? hi
def wsL_law_r1 : List Cond := [Cond.classLink RL 7 RX7, Cond.instantiable RX7 9, Cond.initialized RX7, Cond.classLink RL 10 RX8, Cond.instantiable RX8 38, Cond.initialized RX8, Cond.methodLink RL 9 yX7_init, Cond.instanceMethod yX7_init, Cond.code yX7_init cX7_init 1 none, Cond.methodLink RX7 1 objectInit, Cond.instanceMethod objectInit, Cond.code objectInit ⟨#[0xb1]⟩ 1 none, Cond.classLink RX7 7 RX1, Cond.instantiable RX1 2, Cond.initialized RX1, Cond.fieldLink RX7 10 "DryLoaf" "page" "LDryLoaf$Page;", Cond.classLink RX7 16 RX2, Cond.fieldLink RX7 18 "DryLoaf" "people" "[LDryLoaf$Person;", Cond.classLink RX7 22 RX4, Cond.instantiable RX4 7, Cond.initialized RX4, Cond.fieldLink RX7 25 "DryLoaf" "now" "LDryLoaf$Standing;", Cond.fieldLink RX7 29 "DryLoaf" "kept" "LDryLoaf$Standing;", Cond.classLink RX7 32 "[[J"]
set_option maxRecDepth 20000 in
theorem wt_0 : ∀ w ∈ wsL_law_r1, w ∈ lw_tbl := kz_memr _ [57, 58, 41, 586, 587, 44, 59, 60, 61, 62, 63, 64, 65, 66, 42, 120, 80, 121, 82, 83, 43, 122, 123, 118] rfl
def wsL_law_r2 : List Cond := [Cond.arrayClass .long, Cond.fieldLink RX7 34 "DryLoaf" "rows" "[[J", Cond.methodLink RX7 9 yX1_init, Cond.instanceMethod yX1_init, Cond.code yX1_init cX1_init 1 none, Cond.methodLink RX1 3 objectInit, Cond.arrayClass .int, Cond.fieldLink RX1 9 "DryLoaf$Page" "codes" "[I", Cond.methodLink RX7 24 yX4_init, Cond.instanceMethod yX4_init, Cond.code yX4_init cX4_init 1 none, Cond.methodLink RX4 3 objectInit, Cond.fieldLink RX4 9 "DryLoaf$Standing" "butter" "[I", Cond.fieldLink RX4 15 "DryLoaf$Standing" "weights" "[J", Cond.fieldLink RX4 19 "DryLoaf$Standing" "ate" "[I", Cond.fieldLink RX4 22 "DryLoaf$Standing" "choked" "[I", Cond.fieldLink RX4 25 "DryLoaf$Standing" "butterBits" "[I", Cond.methodLink RL 12 yX8_init, Cond.instanceMethod yX8_init, Cond.code yX8_init cX8_init 1 none, Cond.methodLink RX8 1 objectInit, Cond.fieldLink RX8 7 "DryLoafModel" "kindOf" "[I", Cond.fieldLink RX8 13 "DryLoafModel" "fearOf" "[I", Cond.fieldLink RX8 16 "DryLoafModel" "oddsOf" "[I"]
set_option maxRecDepth 20000 in
theorem wt_1 : ∀ w ∈ wsL_law_r2, w ∈ lw_tbl := kz_memr _ [117, 124, 67, 68, 69, 70, 79, 71, 84, 85, 86, 87, 88, 90, 92, 94, 96, 588, 589, 590, 591, 595, 596, 597] rfl
def wsL_law_r3 : List Cond := [Cond.fieldLink RX8 19 "DryLoafModel" "butterOf" "[I", Cond.fieldLink RX8 22 "DryLoafModel" "ateOf" "[I", Cond.fieldLink RX8 25 "DryLoafModel" "chokedOf" "[I", Cond.fieldLink RX8 28 "DryLoafModel" "weightOf" "[J", Cond.fieldLink RX8 32 "DryLoafModel" "heardOne" "[I", Cond.fieldLink RX8 35 "DryLoafModel" "heardDid" "[I", Cond.fieldLink RX8 38 "DryLoafModel" "heardChoked" "[I", Cond.fieldLink RX8 41 "DryLoafModel" "heardDry" "[I", Cond.arrayClass .byte, Cond.fieldLink RX8 44 "DryLoafModel" "page" "[B", Cond.fieldLink RX8 48 "DryLoafModel" "thought" "[J", Cond.fieldLink RX8 51 "DryLoafModel" "keptButter" "[I", Cond.fieldLink RX8 54 "DryLoafModel" "keptAteOf" "[I", Cond.fieldLink RX8 57 "DryLoafModel" "keptChokedOf" "[I", Cond.fieldLink RX8 60 "DryLoafModel" "keptWeight" "[J", Cond.fieldLink RX8 63 "DryLoafModel" "keptOne" "[I", Cond.fieldLink RX8 66 "DryLoafModel" "keptDid" "[I", Cond.fieldLink RX8 69 "DryLoafModel" "keptChoked" "[I", Cond.fieldLink RX8 72 "DryLoafModel" "keptHeardDry" "[I", Cond.methodLink RL 13 yX7_letter, Cond.instanceMethod yX7_letter, Cond.selects RX7 yX7_letter yX7_letter, Cond.code yX7_letter cX7_letter 2 (some .int), Cond.fieldLink RX7 41 "DryLoaf$Page" "size" "I"]
set_option maxRecDepth 20000 in
theorem wt_2 : ∀ w ∈ wsL_law_r3, w ∈ lw_tbl := kz_memr _ [598, 599, 600, 601, 604, 605, 606, 607, 279, 610, 613, 621, 622, 623, 624, 625, 626, 627, 628, 148, 149, 150, 151, 73] rfl
def wsL_law_r4 : List Cond := [Cond.methodLink RX7 37 yX1_write, Cond.instanceMethod yX1_write, Cond.selects RX1 yX1_write yX1_write, Cond.code yX1_write cX1_write 2 (some .boolean), Cond.fieldLink RX1 15 "DryLoaf$Page" "size" "I", Cond.methodLink RL 17 yX8_letter, Cond.instanceMethod yX8_letter, Cond.selects RX8 yX8_letter yX8_letter, Cond.code yX8_letter cX8_letter 2 (some .int), Cond.fieldLink RX8 83 "DryLoafModel" "pageLength" "I", Cond.methodLink RX8 79 yX8_within, Cond.static yX8_within, Cond.code yX8_within cX8_within 3 (some .boolean), Cond.methodLink RL 18 yX7_blank, Cond.instanceMethod yX7_blank, Cond.selects RX7 yX7_blank yX7_blank, Cond.code yX7_blank cX7_blank 2 (some .int), Cond.methodLink RL 22 yX8_blank, Cond.instanceMethod yX8_blank, Cond.selects RX8 yX8_blank yX8_blank, Cond.code yX8_blank cX8_blank 2 (some .int), Cond.methodLink RL 23 yX7_fault, Cond.instanceMethod yX7_fault, Cond.selects RX7 yX7_fault yX7_fault]
set_option maxRecDepth 20000 in
theorem wt_3 : ∀ w ∈ wsL_law_r4, w ∈ lw_tbl := kz_memr _ [152, 153, 154, 155, 72, 707, 708, 709, 710, 609, 711, 712, 713, 156, 157, 158, 159, 714, 715, 716, 717, 160, 161, 162] rfl
def wsL_law_r5 : List Cond := [Cond.code yX7_fault cX7_fault 1 (some .int), Cond.methodLink RX7 45 yX1_firstFault, Cond.instanceMethod yX1_firstFault, Cond.selects RX1 yX1_firstFault yX1_firstFault, Cond.code yX1_firstFault cX1_firstFault 4 (some .int), Cond.methodLink RX1 23 yX1_fitsAccused, Cond.instanceMethod yX1_fitsAccused, Cond.selects RX1 yX1_fitsAccused yX1_fitsAccused, Cond.code yX1_fitsAccused cX1_fitsAccused 2 (some .boolean), Cond.methodLink RX1 44 yX1_kindAt, Cond.instanceMethod yX1_kindAt, Cond.selects RX1 yX1_kindAt yX1_kindAt, Cond.code yX1_kindAt cX1_kindAt 2 (some .int), Cond.methodLink RX1 19 yX1_codeAt, Cond.instanceMethod yX1_codeAt, Cond.selects RX1 yX1_codeAt yX1_codeAt, Cond.code yX1_codeAt cX1_codeAt 2 (some .int), Cond.methodLink RX1 69 yJ0_indexOf_0f7a4, Cond.instanceMethod yJ0_indexOf_0f7a4, Cond.selects RJ0 yJ0_indexOf_0f7a4 yJ0_indexOf_0f7a4, Cond.initialized RJ0, Cond.code yJ0_indexOf_0f7a4 cJ0_indexOf_0f7a4 2 (some .int), Cond.methodLink RJ0 633 yJ0_indexOf_7cf53, Cond.instanceMethod yJ0_indexOf_7cf53]
set_option maxRecDepth 20000 in
theorem wt_4 : ∀ w ∈ wsL_law_r5, w ∈ lw_tbl := kz_memr _ [163, 164, 165, 166, 167, 168, 170, 0, 171, 172, 174, 1, 175, 177, 178, 179, 180, 181, 182, 183, 45, 184, 185, 186] rfl
def wsL_law_r6 : List Cond := [Cond.selects RJ0 yJ0_indexOf_7cf53 yJ0_indexOf_7cf53, Cond.code yJ0_indexOf_7cf53 cJ0_indexOf_7cf53 3 (some .int), Cond.fieldLink RJ0 9 "java/lang/String" "value" "[B", Cond.methodLink RJ0 492 yJ0_isLatin1_aae02, Cond.instanceMethod yJ0_isLatin1_aae02, Cond.selects RJ0 yJ0_isLatin1_aae02 yJ0_isLatin1_aae02, Cond.code yJ0_isLatin1_aae02 cJ0_isLatin1_aae02 1 (some .boolean), Cond.fieldLink RJ0 38 "java/lang/String" "COMPACT_STRINGS" "Z", Cond.fieldLink RJ0 15 "java/lang/String" "coder" "B", Cond.methodLink RJ0 505 yJ0_length_8abf5, Cond.instanceMethod yJ0_length_8abf5, Cond.selects RJ0 yJ0_length_8abf5 yJ0_length_8abf5, Cond.code yJ0_length_8abf5 cJ0_length_8abf5 1 (some .int), Cond.methodLink RJ0 335 yJ0_coder_7d493, Cond.instanceMethod yJ0_coder_7d493, Cond.selects RJ0 yJ0_coder_7d493 yJ0_coder_7d493, Cond.code yJ0_coder_7d493 cJ0_coder_7d493 1 (some .byte), Cond.methodLink RJ0 637 yJ1_indexOf_4cfef, Cond.static yJ1_indexOf_4cfef, Cond.initialized RJ1, Cond.code yJ1_indexOf_4cfef cJ1_indexOf_4cfef 4 (some .int), Cond.methodLink RJ1 92 Lib.Math.max.name, Cond.static Lib.Math.max.name, Cond.initialized "java/lang/Math"]
set_option maxRecDepth 20000 in
theorem wt_5 : ∀ w ∈ wsL_law_r6, w ∈ lw_tbl := kz_memr _ [187, 188, 936, 189, 190, 191, 192, 193, 935, 195, 196, 197, 198, 199, 200, 201, 202, 203, 204, 46, 205, 209, 210, 47] rfl
def wsL_law_r7 : List Cond := [Cond.code Lib.Math.max.name Lib.Math.max.code 2 (some .int), Cond.methodLink RJ1 38 Lib.Math.min.name, Cond.static Lib.Math.min.name, Cond.code Lib.Math.min.name Lib.Math.min.code 2 (some .int), Cond.methodLink RJ1 88 yJ1_canEncode_9a6ad, Cond.static yJ1_canEncode_9a6ad, Cond.code yJ1_canEncode_9a6ad cJ1_canEncode_9a6ad 1 (some .boolean), Cond.methodLink RJ1 95 yJ1_indexOfChar_4cfef, Cond.static yJ1_indexOfChar_4cfef, Cond.code yJ1_indexOfChar_4cfef cJ1_indexOfChar_4cfef 6 (some .int), Cond.methodLink RJ0 640 yJ2_indexOf_4cfef, Cond.static yJ2_indexOf_4cfef, Cond.initialized RJ2, Cond.code yJ2_indexOf_4cfef cJ2_indexOf_4cfef 4 (some .int), Cond.methodLink RJ2 224 Lib.Math.max.name, Cond.methodLink RJ2 183 Lib.Math.min.name, Cond.constant RJ2 227 (65536), Cond.methodLink RJ2 228 yJ2_indexOfChar_4cfef, Cond.static yJ2_indexOfChar_4cfef, Cond.code yJ2_indexOfChar_4cfef cJ2_indexOfChar_4cfef 4 (some .int), Cond.methodLink RJ2 96 yJ2_checkBoundsBeginEnd_d044e, Cond.static yJ2_checkBoundsBeginEnd_d044e, Cond.code yJ2_checkBoundsBeginEnd_d044e cJ2_checkBoundsBeginEnd_d044e 3 none, Cond.methodLink RJ2 48 yJ2_length_9d52b]
set_option maxRecDepth 20000 in
theorem wt_6 : ∀ w ∈ wsL_law_r7, w ∈ lw_tbl := kz_memr _ [211, 212, 213, 214, 206, 207, 208, 215, 216, 217, 218, 219, 48, 220, 221, 222, 223, 224, 225, 226, 227, 228, 229, 230] rfl
def wsL_law_r8 : List Cond := [Cond.static yJ2_length_9d52b, Cond.code yJ2_length_9d52b cJ2_length_9d52b 1 (some .int), Cond.methodLink RJ2 241 yJ0_checkBoundsBeginEnd_23922, Cond.static yJ0_checkBoundsBeginEnd_23922, Cond.code yJ0_checkBoundsBeginEnd_23922 cJ0_checkBoundsBeginEnd_23922 3 none, Cond.fieldLink RJ0 1053 "jdk/internal/util/Preconditions" "SIOOBE_FORMATTER" "Ljava/util/function/BiFunction;", Cond.methodLink RJ0 1062 yJ3_checkFromToIndex_8c36e, Cond.static yJ3_checkFromToIndex_8c36e, Cond.initialized RJ3, Cond.code yJ3_checkFromToIndex_8c36e cJ3_checkFromToIndex_8c36e 4 (some .int), Cond.methodLink RJ2 244 yJ2_indexOfCharUnsafe_4cfef, Cond.static yJ2_indexOfCharUnsafe_4cfef, Cond.code yJ2_indexOfCharUnsafe_4cfef cJ2_indexOfCharUnsafe_4cfef 5 (some .int), Cond.methodLink RJ2 71 yJ2_getChar_3b067, Cond.static yJ2_getChar_3b067, Cond.code yJ2_getChar_3b067 cJ2_getChar_3b067 2 (some .char), Cond.fieldLink RJ2 44 "java/lang/StringUTF16" "$assertionsDisabled" "Z", Cond.fieldLink RJ2 59 "java/lang/StringUTF16" "HI_BYTE_SHIFT" "I", Cond.fieldLink RJ2 63 "java/lang/StringUTF16" "LO_BYTE_SHIFT" "I", Cond.methodLink RJ2 232 yJ2_indexOfSupplementary_4cfef, Cond.static yJ2_indexOfSupplementary_4cfef, Cond.code yJ2_indexOfSupplementary_4cfef cJ2_indexOfSupplementary_4cfef 7 (some .int), Cond.methodLink RJ2 164 yJ11_isValidCodePoint_9a6ad, Cond.static yJ11_isValidCodePoint_9a6ad]
set_option maxRecDepth 20000 in
theorem wt_7 : ∀ w ∈ wsL_law_r8, w ∈ lw_tbl := kz_memr _ [231, 232, 233, 234, 235, 236, 238, 239, 49, 240, 241, 242, 243, 244, 245, 246, 247, 249, 251, 253, 254, 255, 256, 257] rfl
def wsL_law_r9 : List Cond := [Cond.initialized RJ11, Cond.code yJ11_isValidCodePoint_9a6ad cJ11_isValidCodePoint_9a6ad 2 (some .boolean), Cond.methodLink RJ2 157 yJ11_highSurrogate_5068e, Cond.static yJ11_highSurrogate_5068e, Cond.code yJ11_highSurrogate_5068e cJ11_highSurrogate_5068e 1 (some .char), Cond.constant RJ11 110 (55232), Cond.methodLink RJ2 161 yJ11_lowSurrogate_5068e, Cond.static yJ11_lowSurrogate_5068e, Cond.code yJ11_lowSurrogate_5068e cJ11_lowSurrogate_5068e 1 (some .char), Cond.constant RJ11 76 (56320), Cond.methodLink RX1 27 yX1_isDigit, Cond.instanceMethod yX1_isDigit, Cond.selects RX1 yX1_isDigit yX1_isDigit, Cond.code yX1_isDigit cX1_isDigit 4 (some .boolean), Cond.methodLink RX1 41 yX1_digitAt, Cond.instanceMethod yX1_digitAt, Cond.selects RX1 yX1_digitAt yX1_digitAt, Cond.code yX1_digitAt cX1_digitAt 2 (some .int), Cond.methodLink RX1 64 yX1_fitsBehind, Cond.instanceMethod yX1_fitsBehind, Cond.selects RX1 yX1_fitsBehind yX1_fitsBehind, Cond.code yX1_fitsBehind cX1_fitsBehind 4 (some .boolean), Cond.methodLink RL 26 yX8_fault, Cond.instanceMethod yX8_fault]
set_option maxRecDepth 20000 in
theorem wt_8 : ∀ w ∈ wsL_law_r9, w ∈ lw_tbl := kz_memr _ [50, 258, 259, 260, 261, 262, 263, 264, 265, 266, 267, 269, 2, 270, 271, 272, 273, 274, 275, 277, 3, 278, 718, 719] rfl
def wsL_law_r10 : List Cond := [Cond.selects RX8 yX8_fault yX8_fault, Cond.code yX8_fault cX8_fault 1 (some .int), Cond.methodLink RX8 105 yX8_read, Cond.instanceMethod yX8_read, Cond.selects RX8 yX8_read yX8_read, Cond.code yX8_read cX8_read 3 (some .int), Cond.fieldLink RX8 95 "DryLoafModel" "isWhole" "Z", Cond.fieldLink RX8 99 "DryLoafModel" "newMany" "I", Cond.methodLink RX8 102 yX8_readOne, Cond.instanceMethod yX8_readOne, Cond.selects RX8 yX8_readOne yX8_readOne, Cond.code yX8_readOne cX8_readOne 2 (some .int), Cond.methodLink RX8 87 yX8_kindBy, Cond.static yX8_kindBy, Cond.code yX8_kindBy cX8_kindBy 1 (some .int), Cond.methodLink RX8 91 yX8_isFigure, Cond.instanceMethod yX8_isFigure, Cond.selects RX8 yX8_isFigure yX8_isFigure, Cond.code yX8_isFigure cX8_isFigure 3 (some .boolean), Cond.methodLink RL 27 yX7_court, Cond.instanceMethod yX7_court, Cond.selects RX7 yX7_court yX7_court, Cond.code yX7_court cX7_court 3 (some .int), Cond.fieldLink RX7 56 "DryLoaf" "many" "I"]
set_option maxRecDepth 20000 in
theorem wt_9 : ∀ w ∈ wsL_law_r10, w ∈ lw_tbl := kz_memr _ [720, 721, 722, 724, 11, 725, 611, 612, 726, 728, 12, 729, 730, 731, 732, 733, 735, 13, 736, 280, 281, 282, 283, 125] rfl
def wsL_law_r11 : List Cond := [Cond.fieldLink RX7 71 "DryLoaf$Standing" "weights" "[J", Cond.fieldLink RX7 75 "DryLoaf$Person" "odds" "I", Cond.fieldLink RX7 78 "DryLoaf" "courtsRead" "I", Cond.methodLink RX7 49 yX1_isWhole, Cond.instanceMethod yX1_isWhole, Cond.selects RX1 yX1_isWhole yX1_isWhole, Cond.code yX1_isWhole cX1_isWhole 1 (some .boolean), Cond.methodLink RX1 31 yX1_firstFault, Cond.methodLink RX7 53 yX1_accusedCount, Cond.instanceMethod yX1_accusedCount, Cond.selects RX1 yX1_accusedCount yX1_accusedCount, Cond.code yX1_accusedCount cX1_accusedCount 1 (some .int), Cond.methodLink RX1 35 Lib.Math.min.name, Cond.methodLink RX7 59 yX1_digitAt, Cond.methodLink RX7 63 yX4_clear, Cond.instanceMethod yX4_clear, Cond.selects RX4 yX4_clear yX4_clear, Cond.code yX4_clear cX4_clear 3 none, Cond.fieldLink RX4 31 "DryLoaf$Standing" "dry" "I", Cond.methodLink RX4 28 yX4_unhear, Cond.instanceMethod yX4_unhear, Cond.selects RX4 yX4_unhear yX4_unhear, Cond.code yX4_unhear cX4_unhear 2 none, Cond.fieldLink RX4 35 "DryLoaf$Standing" "heard" "I"]
set_option maxRecDepth 20000 in
theorem wt_10 : ∀ w ∈ wsL_law_r11, w ∈ lw_tbl := kz_memr _ [91, 327, 126, 284, 285, 286, 287, 288, 289, 290, 291, 292, 293, 294, 295, 296, 297, 298, 100, 299, 300, 301, 302, 98] rfl
def wsL_law_r12 : List Cond := [Cond.methodLink RX7 67 yX1_readPerson, Cond.instanceMethod yX1_readPerson, Cond.selects RX1 yX1_readPerson yX1_readPerson, Cond.code yX1_readPerson cX1_readPerson 5 (some (.object "DryLoaf$Person")), Cond.classLink RX1 47 RX0, Cond.instantiable RX0 2, Cond.initialized RX0, Cond.classLink RX1 52 RX6, Cond.instantiable RX6 2, Cond.initialized RX6, Cond.classLink RX1 55 RX3, Cond.instantiable RX3 2, Cond.initialized RX3, Cond.classLink RX1 58 RX5, Cond.instantiable RX5 2, Cond.initialized RX5, Cond.classLink RX1 61 RX2, Cond.instantiable RX2 2, Cond.initialized RX2, Cond.methodLink RX1 49 yX0_init, Cond.instanceMethod yX0_init, Cond.code yX0_init cX0_init 3 none, Cond.methodLink RX0 3 yX2_init, Cond.instanceMethod yX2_init]
set_option maxRecDepth 20000 in
theorem wt_11 : ∀ w ∈ wsL_law_r12, w ∈ lw_tbl := kz_memr _ [303, 304, 305, 306, 307, 308, 52, 333, 334, 53, 342, 343, 54, 351, 352, 55, 360, 361, 51, 309, 310, 311, 312, 313] rfl
def wsL_law_r13 : List Cond := [Cond.code yX2_init cX2_init 3 none, Cond.methodLink RX2 3 objectInit, Cond.fieldLink RX2 9 "DryLoaf$Person" "fear" "I", Cond.fieldLink RX2 15 "DryLoaf$Person" "odds" "I", Cond.methodLink RX1 54 yX6_init, Cond.instanceMethod yX6_init, Cond.code yX6_init cX6_init 3 none, Cond.methodLink RX6 3 yX2_init, Cond.methodLink RX1 57 yX3_init, Cond.instanceMethod yX3_init, Cond.code yX3_init cX3_init 3 none, Cond.methodLink RX3 3 yX2_init, Cond.methodLink RX1 60 yX5_init, Cond.instanceMethod yX5_init, Cond.code yX5_init cX5_init 3 none, Cond.methodLink RX5 3 yX0_init, Cond.methodLink RX1 63 yX2_init, Cond.methodLink RL 30 yX8_court, Cond.instanceMethod yX8_court, Cond.selects RX8 yX8_court yX8_court, Cond.code yX8_court cX8_court 3 (some .int), Cond.fieldLink RX8 109 "DryLoafModel" "accused" "I", Cond.fieldLink RX8 112 "DryLoafModel" "dry" "I", Cond.fieldLink RX8 115 "DryLoafModel" "courts" "I"]
set_option maxRecDepth 20000 in
theorem wt_12 : ∀ w ∈ wsL_law_r13, w ∈ lw_tbl := kz_memr _ [314, 315, 316, 326, 335, 336, 337, 338, 344, 345, 346, 347, 353, 354, 355, 356, 362, 737, 738, 739, 740, 593, 594, 592] rfl
def wsL_law_r14 : List Cond := [Cond.fieldLink RX8 118 "DryLoafModel" "ate" "I", Cond.fieldLink RX8 121 "DryLoafModel" "heard" "I", Cond.methodLink RL 31 yX7_about, Cond.instanceMethod yX7_about, Cond.selects RX7 yX7_about yX7_about, Cond.code yX7_about cX7_about 4 (some .int), Cond.fieldLink RX7 87 "DryLoaf$Person" "fear" "I", Cond.fieldLink RX7 90 "DryLoaf$Standing" "butter" "[I", Cond.fieldLink RX7 94 "DryLoaf$Standing" "dry" "I", Cond.fieldLink RX7 101 "DryLoaf$Standing" "ate" "[I", Cond.fieldLink RX7 104 "DryLoaf$Standing" "choked" "[I", Cond.methodLink RX7 81 yX7_personAt, Cond.instanceMethod yX7_personAt, Cond.selects RX7 yX7_personAt yX7_personAt, Cond.code yX7_personAt cX7_personAt 2 (some (.object "DryLoaf$Person")), Cond.methodLink RX7 84 ⟨"DryLoaf$Person", "kind", "()I"⟩, Cond.sameMethod "DryLoaf$Person" "DryLoaf$Person" "kind" "()I", Cond.instanceMethod ⟨"DryLoaf$Person", "kind", "()I"⟩, Cond.selects RX0 ⟨"DryLoaf$Person", "kind", "()I"⟩ yX0_kind, Cond.instanceMethod yX0_kind, Cond.code yX0_kind cX0_kind 1 (some .int), Cond.code yX2_kind cX2_kind 1 (some .int), Cond.methodLink RX7 84 yX2_kind, Cond.instanceMethod yX2_kind]
set_option maxRecDepth 20000 in
theorem wt_13 : ∀ w ∈ wsL_law_r14, w ∈ lw_tbl := kz_memr _ [602, 603, 366, 367, 368, 369, 325, 89, 101, 93, 95, 370, 372, 4, 373, 374, 377, 375, 378, 379, 380, 390, 374, 375] rfl
def wsL_law_r15 : List Cond := [Cond.selects RX2 yX2_kind yX2_kind, Cond.selects RX3 ⟨"DryLoaf$Person", "kind", "()I"⟩ yX3_kind, Cond.instanceMethod yX3_kind, Cond.code yX3_kind cX3_kind 1 (some .int), Cond.selects RX5 ⟨"DryLoaf$Person", "kind", "()I"⟩ yX5_kind, Cond.instanceMethod yX5_kind, Cond.code yX5_kind cX5_kind 1 (some .int), Cond.selects RX6 ⟨"DryLoaf$Person", "kind", "()I"⟩ yX6_kind, Cond.instanceMethod yX6_kind, Cond.code yX6_kind cX6_kind 1 (some .int), Cond.methodLink RX7 97 ⟨"DryLoaf$Person", "tenths", "(ZII)I"⟩, Cond.sameMethod "DryLoaf$Person" "DryLoaf$Person" "tenths" "(ZII)I", Cond.selects RX0 ⟨"DryLoaf$Person", "tenths", "(ZII)I"⟩ yX2_tenths, Cond.instanceMethod yX2_tenths, Cond.code yX2_tenths cX2_tenths 4 (some .int), Cond.methodLink RX2 22 Lib.Math.min.name, Cond.methodLink RX2 28 Lib.Math.max.name, Cond.methodLink RX2 18 ⟨"DryLoaf$Person", "dread", "(Z)I"⟩, Cond.sameMethod "DryLoaf$Person" "DryLoaf$Person" "dread" "(Z)I", Cond.instanceMethod ⟨"DryLoaf$Person", "dread", "(Z)I"⟩, Cond.selects RX0 ⟨"DryLoaf$Person", "dread", "(Z)I"⟩ yX0_dread, Cond.instanceMethod yX0_dread, Cond.code yX0_dread cX0_dread 2 (some .int), Cond.fieldLink RX0 9 "DryLoaf$Hardened" "fear" "I"]
set_option maxRecDepth 20000 in
theorem wt_14 : ∀ w ∈ wsL_law_r15, w ∈ lw_tbl := kz_memr _ [376, 381, 382, 383, 384, 385, 386, 387, 388, 389, 391, 394, 395, 392, 399, 417, 418, 400, 403, 401, 404, 405, 406, 317] rfl
def wsL_law_r16 : List Cond := [Cond.sameField "DryLoaf$Hardened" "DryLoaf$Person" "fear" "I", Cond.code yX2_dread cX2_dread 2 (some .int), Cond.methodLink RX2 18 yX2_dread, Cond.instanceMethod yX2_dread, Cond.selects RX2 yX2_dread yX2_dread, Cond.selects RX3 ⟨"DryLoaf$Person", "dread", "(Z)I"⟩ yX3_dread, Cond.instanceMethod yX3_dread, Cond.code yX3_dread cX3_dread 2 (some .int), Cond.fieldLink RX3 9 "DryLoaf$Priest" "fear" "I", Cond.sameField "DryLoaf$Priest" "DryLoaf$Person" "fear" "I", Cond.selects RX5 ⟨"DryLoaf$Person", "dread", "(Z)I"⟩ yX5_dread, Cond.instanceMethod yX5_dread, Cond.code yX5_dread cX5_dread 2 (some .int), Cond.fieldLink RX5 9 "DryLoaf$Thief" "fear" "I", Cond.sameField "DryLoaf$Thief" "DryLoaf$Person" "fear" "I", Cond.selects RX6 ⟨"DryLoaf$Person", "dread", "(Z)I"⟩ yX6_dread, Cond.instanceMethod yX6_dread, Cond.code yX6_dread cX6_dread 2 (some .int), Cond.fieldLink RX6 9 "DryLoaf$Weeper" "fear" "I", Cond.sameField "DryLoaf$Weeper" "DryLoaf$Person" "fear" "I", Cond.methodLink RX7 97 yX2_tenths, Cond.selects RX2 yX2_tenths yX2_tenths, Cond.selects RX3 ⟨"DryLoaf$Person", "tenths", "(ZII)I"⟩ yX2_tenths, Cond.selects RX5 ⟨"DryLoaf$Person", "tenths", "(ZII)I"⟩ yX2_tenths]
set_option maxRecDepth 20000 in
theorem wt_15 : ∀ w ∈ wsL_law_r16, w ∈ lw_tbl := kz_memr _ [318, 416, 400, 401, 402, 407, 408, 409, 321, 322, 410, 411, 412, 323, 324, 413, 414, 415, 319, 320, 391, 393, 396, 397] rfl
def wsL_law_r17 : List Cond := [Cond.selects RX6 ⟨"DryLoaf$Person", "tenths", "(ZII)I"⟩ yX2_tenths, Cond.methodLink RX7 107 ⟨"DryLoaf$Person", "need", "(I)I"⟩, Cond.sameMethod "DryLoaf$Person" "DryLoaf$Person" "need" "(I)I", Cond.selects RX0 ⟨"DryLoaf$Person", "need", "(I)I"⟩ yX2_need, Cond.instanceMethod yX2_need, Cond.code yX2_need cX2_need 3 (some .int), Cond.methodLink RX2 31 ⟨"DryLoaf$Person", "tenths", "(ZII)I"⟩, Cond.methodLink RX2 31 yX2_tenths, Cond.methodLink RX7 107 yX2_need, Cond.selects RX2 yX2_need yX2_need, Cond.selects RX3 ⟨"DryLoaf$Person", "need", "(I)I"⟩ yX2_need, Cond.selects RX5 ⟨"DryLoaf$Person", "need", "(I)I"⟩ yX2_need, Cond.selects RX6 ⟨"DryLoaf$Person", "need", "(I)I"⟩ yX2_need, Cond.methodLink RL 35 yX8_about, Cond.instanceMethod yX8_about, Cond.selects RX8 yX8_about yX8_about, Cond.code yX8_about cX8_about 3 (some .int), Cond.methodLink RX8 138 yX8_isOne, Cond.instanceMethod yX8_isOne, Cond.selects RX8 yX8_isOne yX8_isOne, Cond.code yX8_isOne cX8_isOne 2 (some .boolean), Cond.methodLink RX8 142 yX8_oneNow, Cond.instanceMethod yX8_oneNow, Cond.selects RX8 yX8_oneNow yX8_oneNow]
set_option maxRecDepth 20000 in
theorem wt_16 : ∀ w ∈ wsL_law_r17, w ∈ lw_tbl := kz_memr _ [398, 419, 422, 423, 420, 427, 428, 428, 419, 421, 424, 425, 426, 741, 742, 743, 744, 745, 747, 14, 748, 749, 751, 15] rfl
def wsL_law_r18 : List Cond := [Cond.code yX8_oneNow cX8_oneNow 3 (some .int), Cond.methodLink RX8 132 yX8_tenths, Cond.instanceMethod yX8_tenths, Cond.selects RX8 yX8_tenths yX8_tenths, Cond.code yX8_tenths cX8_tenths 3 (some .int), Cond.methodLink RX8 128 yX8_tenthsBy, Cond.instanceMethod yX8_tenthsBy, Cond.selects RX8 yX8_tenthsBy yX8_tenthsBy, Cond.code yX8_tenthsBy cX8_tenthsBy 6 (some .int), Cond.methodLink RX8 124 yX8_dreads, Cond.instanceMethod yX8_dreads, Cond.selects RX8 yX8_dreads yX8_dreads, Cond.code yX8_dreads cX8_dreads 4 (some .int), Cond.methodLink RX8 135 yX8_needOf, Cond.instanceMethod yX8_needOf, Cond.selects RX8 yX8_needOf yX8_needOf, Cond.code yX8_needOf cX8_needOf 3 (some .int), Cond.methodLink RL 36 yX7_as, Cond.instanceMethod yX7_as, Cond.selects RX7 yX7_as yX7_as, Cond.code yX7_as cX7_as 4 (some .int), Cond.methodLink RX7 110 yX7_isSuch, Cond.static yX7_isSuch, Cond.code yX7_isSuch cX7_isSuch 2 (some .boolean)]
set_option maxRecDepth 20000 in
theorem wt_17 : ∀ w ∈ wsL_law_r18, w ∈ lw_tbl := kz_memr _ [752, 753, 755, 16, 756, 757, 759, 17, 760, 761, 763, 18, 764, 765, 767, 19, 768, 429, 430, 431, 432, 433, 434, 435] rfl
def wsL_law_r19 : List Cond := [Cond.classLink RX7 230 "DryLoaf$Hardened", Cond.classLink RX7 232 "DryLoaf$Weeper", Cond.classLink RX7 234 "DryLoaf$Priest", Cond.classLink RX7 236 "DryLoaf$Thief", Cond.methodLink RL 39 yX8_as, Cond.instanceMethod yX8_as, Cond.selects RX8 yX8_as yX8_as, Cond.code yX8_as cX8_as 4 (some .int), Cond.methodLink RL 40 yX7_butter, Cond.instanceMethod yX7_butter, Cond.selects RX7 yX7_butter yX7_butter, Cond.code yX7_butter cX7_butter 4 (some .int), Cond.methodLink RL 43 yX8_butter, Cond.instanceMethod yX8_butter, Cond.selects RX8 yX8_butter yX8_butter, Cond.code yX8_butter cX8_butter 4 (some .int), Cond.methodLink RL 44 yX7_loaf, Cond.instanceMethod yX7_loaf, Cond.selects RX7 yX7_loaf yX7_loaf, Cond.code yX7_loaf cX7_loaf 3 (some .int), Cond.methodLink RL 47 yX8_loaf, Cond.instanceMethod yX8_loaf, Cond.selects RX8 yX8_loaf yX8_loaf, Cond.code yX8_loaf cX8_loaf 3 (some .int)]
set_option maxRecDepth 20000 in
theorem wt_18 : ∀ w ∈ wsL_law_r19, w ∈ lw_tbl := kz_memr _ [436, 437, 438, 439, 769, 770, 771, 772, 440, 441, 442, 443, 773, 774, 775, 776, 444, 445, 446, 447, 777, 778, 779, 780] rfl
def wsL_law_r20 : List Cond := [Cond.methodLink RL 48 yX7_eat, Cond.instanceMethod yX7_eat, Cond.selects RX7 yX7_eat yX7_eat, Cond.code yX7_eat cX7_eat 7 (some .int), Cond.methodLink RX7 114 yX7_weigh, Cond.instanceMethod yX7_weigh, Cond.selects RX7 yX7_weigh yX7_weigh, Cond.code yX7_weigh cX7_weigh 11 none, Cond.methodLink RX7 118 yX7_commonDivisor, Cond.static yX7_commonDivisor, Cond.code yX7_commonDivisor cX7_commonDivisor 4 (some .long), Cond.methodLink RX7 243 yX7_commonDivisor_, Cond.static yX7_commonDivisor_, Cond.code yX7_commonDivisor_ cX7_commonDivisor_ 11 (some .long), Cond.methodLink RX7 122 yX7_sumOf, Cond.static yX7_sumOf, Cond.code yX7_sumOf cX7_sumOf 3 (some .int), Cond.methodLink RX7 126 yX7_heaviest, Cond.static yX7_heaviest, Cond.code yX7_heaviest cX7_heaviest 3 (some .int), Cond.methodLink RL 52 yX8_eat, Cond.instanceMethod yX8_eat, Cond.selects RX8 yX8_eat yX8_eat, Cond.code yX8_eat cX8_eat 3 (some .int)]
set_option maxRecDepth 20000 in
theorem wt_19 : ∀ w ∈ wsL_law_r20, w ∈ lw_tbl := kz_memr _ [448, 449, 450, 451, 452, 454, 5, 455, 456, 457, 458, 459, 460, 461, 462, 463, 464, 465, 466, 467, 781, 782, 783, 784] rfl
def wsL_law_r21 : List Cond := [Cond.methodLink RX8 146 yX8_think, Cond.instanceMethod yX8_think, Cond.selects RX8 yX8_think yX8_think, Cond.code yX8_think cX8_think 2 none, Cond.methodLink RX8 149 yX8_eatOn, Cond.instanceMethod yX8_eatOn, Cond.selects RX8 yX8_eatOn yX8_eatOn, Cond.code yX8_eatOn cX8_eatOn 7 none, Cond.methodLink RX8 153 yX8_greatest, Cond.instanceMethod yX8_greatest, Cond.selects RX8 yX8_greatest yX8_greatest, Cond.code yX8_greatest cX8_greatest 5 (some .long), Cond.methodLink RX8 157 yX8_takeThought, Cond.instanceMethod yX8_takeThought, Cond.selects RX8 yX8_takeThought yX8_takeThought, Cond.code yX8_takeThought cX8_takeThought 4 none, Cond.methodLink RX8 75 yX8_divisor, Cond.static yX8_divisor, Cond.code yX8_divisor cX8_divisor 10 (some .long), Cond.methodLink RX8 160 yX8_judgedNow, Cond.instanceMethod yX8_judgedNow, Cond.selects RX8 yX8_judgedNow yX8_judgedNow, Cond.code yX8_judgedNow cX8_judgedNow 3 (some .int), Cond.methodLink RL 53 yX7_belief]
set_option maxRecDepth 20000 in
theorem wt_20 : ∀ w ∈ wsL_law_r21, w ∈ lw_tbl := kz_memr _ [785, 787, 20, 788, 789, 791, 21, 792, 793, 795, 22, 796, 797, 799, 23, 800, 801, 802, 803, 804, 806, 24, 807, 468] rfl
def wsL_law_r22 : List Cond := [Cond.instanceMethod yX7_belief, Cond.selects RX7 yX7_belief yX7_belief, Cond.code yX7_belief cX7_belief 3 (some .long), Cond.constantLong RX7 130 (-101), Cond.constantLong RX7 132 (-102), Cond.methodLink RX7 134 yX7_weightOfAll, Cond.instanceMethod yX7_weightOfAll, Cond.selects RX7 yX7_weightOfAll yX7_weightOfAll, Cond.code yX7_weightOfAll cX7_weightOfAll 4 (some .long), Cond.methodLink RX7 138 yX7_inLowestTerms, Cond.static yX7_inLowestTerms, Cond.code yX7_inLowestTerms cX7_inLowestTerms 7 (some .long), Cond.methodLink RL 57 yX8_belief, Cond.instanceMethod yX8_belief, Cond.selects RX8 yX8_belief yX8_belief, Cond.code yX8_belief cX8_belief 3 (some .long), Cond.constantLong RX8 163 (-101), Cond.constantLong RX8 173 (-102), Cond.methodLink RX8 165 yX8_weightAll, Cond.instanceMethod yX8_weightAll, Cond.selects RX8 yX8_weightAll yX8_weightAll, Cond.code yX8_weightAll cX8_weightAll 4 (some .long), Cond.methodLink RX8 169 yX8_lowest, Cond.static yX8_lowest]
set_option maxRecDepth 20000 in
theorem wt_21 : ∀ w ∈ wsL_law_r22, w ∈ lw_tbl := kz_memr _ [469, 470, 471, 472, 473, 474, 476, 6, 477, 478, 479, 480, 808, 809, 810, 811, 812, 820, 813, 815, 25, 816, 817, 818] rfl
def wsL_law_r23 : List Cond := [Cond.code yX8_lowest cX8_lowest 7 (some .long), Cond.methodLink RL 58 yX7_judged, Cond.instanceMethod yX7_judged, Cond.selects RX7 yX7_judged yX7_judged, Cond.code yX7_judged cX7_judged 1 (some .int), Cond.methodLink RL 61 yX8_judged, Cond.instanceMethod yX8_judged, Cond.selects RX8 yX8_judged yX8_judged, Cond.code yX8_judged cX8_judged 1 (some .int), Cond.methodLink RL 62 yX7_right, Cond.instanceMethod yX7_right, Cond.selects RX7 yX7_right yX7_right, Cond.code yX7_right cX7_right 6 (some .long), Cond.fieldLink RX7 142 "DryLoaf" "rightsDone" "I", Cond.constantLong RX7 145 (-103), Cond.methodLink RX7 147 arraycopyName, Cond.native arraycopyName, Cond.static arraycopyName, Cond.initialized "java/lang/System", Cond.constantLong RX7 156 (10), Cond.methodLink RX7 153 yX7_bestEater, Cond.instanceMethod yX7_bestEater, Cond.selects RX7 yX7_bestEater yX7_bestEater, Cond.code yX7_bestEater cX7_bestEater 8 (some .int)]
set_option maxRecDepth 20000 in
theorem wt_22 : ∀ w ∈ wsL_law_r23, w ∈ lw_tbl := kz_memr _ [819, 481, 482, 483, 484, 821, 822, 823, 824, 485, 486, 487, 488, 128, 489, 490, 492, 491, 56, 509, 493, 495, 7, 496] rfl
def wsL_law_r24 : List Cond := [Cond.constantLong RX7 162 (-1), Cond.methodLink RX7 164 yX7_rightIfEats, Cond.instanceMethod yX7_rightIfEats, Cond.selects RX7 yX7_rightIfEats yX7_rightIfEats, Cond.code yX7_rightIfEats cX7_rightIfEats 6 (some .long), Cond.methodLink RX7 158 yX7_rightAtBest, Cond.instanceMethod yX7_rightAtBest, Cond.selects RX7 yX7_rightAtBest yX7_rightAtBest, Cond.code yX7_rightAtBest cX7_rightAtBest 5 (some .long), Cond.methodLink RX7 238 Lib.MathLoose.max_long.x, Cond.static Lib.MathLoose.max_long.x, Cond.code Lib.MathLoose.max_long.x Lib.MathLoose.max_long.code 4 (some .long), Cond.methodLink RL 65 yX8_right, Cond.instanceMethod yX8_right, Cond.selects RX8 yX8_right yX8_right, Cond.code yX8_right cX8_right 8 (some .long), Cond.fieldLink RX8 190 "DryLoafModel" "asks" "I", Cond.constantLong RX8 193 (-103), Cond.constantLong RX8 198 (10), Cond.fieldLink RX8 183 "DryLoafModel" "bestFirst" "I", Cond.methodLink RX8 195 yX8_layRight, Cond.instanceMethod yX8_layRight, Cond.selects RX8 yX8_layRight yX8_layRight, Cond.code yX8_layRight cX8_layRight 7 (some .long)]
set_option maxRecDepth 20000 in
theorem wt_23 : ∀ w ∈ wsL_law_r24, w ∈ lw_tbl := kz_memr _ [497, 498, 500, 8, 501, 502, 504, 9, 505, 506, 507, 508, 825, 826, 827, 828, 608, 829, 847, 614, 830, 832, 26, 833] rfl
def wsL_law_r25 : List Cond := [Cond.constantLong RX8 175 (-1), Cond.methodLink RX8 186 yX8_restOf, Cond.instanceMethod yX8_restOf, Cond.selects RX8 yX8_restOf yX8_restOf, Cond.code yX8_restOf cX8_restOf 3 (some .long), Cond.methodLink RX8 177 yX8_bestOne, Cond.instanceMethod yX8_bestOne, Cond.selects RX8 yX8_bestOne yX8_bestOne, Cond.code yX8_bestOne cX8_bestOne 7 (some .long), Cond.methodLink RX8 180 yX8_bestTwo, Cond.instanceMethod yX8_bestTwo, Cond.selects RX8 yX8_bestTwo yX8_bestTwo, Cond.code yX8_bestTwo cX8_bestTwo 7 (some .long), Cond.methodLink RL 66 yX7_driest, Cond.instanceMethod yX7_driest, Cond.selects RX7 yX7_driest yX7_driest, Cond.code yX7_driest cX7_driest 9 (some .long), Cond.methodLink RL 69 yX8_driest, Cond.instanceMethod yX8_driest, Cond.selects RX8 yX8_driest yX8_driest, Cond.code yX8_driest cX8_driest 3 (some .long), Cond.methodLink RX8 203 yX8_driestNow, Cond.instanceMethod yX8_driestNow, Cond.selects RX8 yX8_driestNow yX8_driestNow]
set_option maxRecDepth 20000 in
theorem wt_24 : ∀ w ∈ wsL_law_r25, w ∈ lw_tbl := kz_memr _ [834, 835, 837, 27, 838, 839, 841, 28, 842, 843, 845, 29, 846, 510, 511, 512, 513, 848, 849, 850, 851, 852, 854, 30] rfl
def wsL_law_r26 : List Cond := [Cond.code yX8_driestNow cX8_driestNow 9 (some .long), Cond.methodLink RX8 200 yX8_rightBy, Cond.instanceMethod yX8_rightBy, Cond.selects RX8 yX8_rightBy yX8_rightBy, Cond.code yX8_rightBy cX8_rightBy 5 (some .long), Cond.methodLink RL 70 yX7_hear, Cond.instanceMethod yX7_hear, Cond.selects RX7 yX7_hear yX7_hear, Cond.code yX7_hear cX7_hear 5 (some .int), Cond.fieldLink RX7 168 "DryLoaf$Standing" "heard" "I", Cond.fieldLink RX7 171 "DryLoaf$Standing" "butterBits" "[I", Cond.methodLink RX7 174 ⟨"DryLoaf$Person", "butterBits", "(ZZI)I"⟩, Cond.sameMethod "DryLoaf$Person" "DryLoaf$Person" "butterBits" "(ZZI)I", Cond.selects RX0 ⟨"DryLoaf$Person", "butterBits", "(ZZI)I"⟩ yX2_butterBits, Cond.instanceMethod yX2_butterBits, Cond.code yX2_butterBits cX2_butterBits 7 (some .int), Cond.methodLink RX7 174 yX2_butterBits, Cond.selects RX2 yX2_butterBits yX2_butterBits, Cond.selects RX3 ⟨"DryLoaf$Person", "butterBits", "(ZZI)I"⟩ yX2_butterBits, Cond.selects RX5 ⟨"DryLoaf$Person", "butterBits", "(ZZI)I"⟩ yX2_butterBits, Cond.selects RX6 ⟨"DryLoaf$Person", "butterBits", "(ZZI)I"⟩ yX2_butterBits, Cond.methodLink RL 74 yX8_hear, Cond.instanceMethod yX8_hear, Cond.selects RX8 yX8_hear yX8_hear]
set_option maxRecDepth 20000 in
theorem wt_25 : ∀ w ∈ wsL_law_r26, w ∈ lw_tbl := kz_memr _ [855, 856, 858, 31, 859, 514, 515, 516, 517, 99, 97, 518, 521, 522, 519, 526, 518, 520, 523, 524, 525, 860, 861, 862] rfl
def wsL_law_r27 : List Cond := [Cond.code yX8_hear cX8_hear 4 (some .int), Cond.methodLink RL 75 yX7_forget, Cond.instanceMethod yX7_forget, Cond.selects RX7 yX7_forget yX7_forget, Cond.code yX7_forget cX7_forget 2 (some .int), Cond.methodLink RX7 177 yX4_unhear, Cond.methodLink RL 78 yX8_forget, Cond.instanceMethod yX8_forget, Cond.selects RX8 yX8_forget yX8_forget, Cond.code yX8_forget cX8_forget 2 (some .int), Cond.methodLink RL 79 yX7_buttered, Cond.instanceMethod yX7_buttered, Cond.selects RX7 yX7_buttered yX7_buttered, Cond.code yX7_buttered cX7_buttered 2 (some .int), Cond.methodLink RL 82 yX8_buttered, Cond.instanceMethod yX8_buttered, Cond.selects RX8 yX8_buttered yX8_buttered, Cond.code yX8_buttered cX8_buttered 2 (some .int), Cond.methodLink RX8 209 yX8_butteredNow, Cond.instanceMethod yX8_butteredNow, Cond.selects RX8 yX8_butteredNow yX8_butteredNow, Cond.code yX8_butteredNow cX8_butteredNow 4 (some .int), Cond.methodLink RX8 206 yX8_couldHave, Cond.instanceMethod yX8_couldHave]
set_option maxRecDepth 20000 in
theorem wt_26 : ∀ w ∈ wsL_law_r27, w ∈ lw_tbl := kz_memr _ [863, 527, 528, 529, 530, 531, 864, 865, 866, 867, 532, 533, 534, 535, 868, 869, 870, 871, 872, 874, 32, 875, 876, 878] rfl
def wsL_law_r28 : List Cond := [Cond.selects RX8 yX8_couldHave yX8_couldHave, Cond.code yX8_couldHave cX8_couldHave 6 (some .boolean), Cond.methodLink RL 83 yX7_sessions, Cond.instanceMethod yX7_sessions, Cond.selects RX7 yX7_sessions yX7_sessions, Cond.code yX7_sessions cX7_sessions 12 (some .int), Cond.methodLink RX7 180 yX7_nextSeed, Cond.static yX7_nextSeed, Cond.code yX7_nextSeed cX7_nextSeed 2 (some .long), Cond.constantLong RX7 245 (1103515245), Cond.constantLong RX7 247 (12345), Cond.constantLong RX7 249 (2147483648), Cond.methodLink RX7 184 yX7_draw, Cond.static yX7_draw, Cond.code yX7_draw cX7_draw 3 (some .int), Cond.constantLong RX7 251 (65536), Cond.methodLink RX7 188 yX7_about, Cond.methodLink RL 87 yX8_sessions, Cond.instanceMethod yX8_sessions, Cond.selects RX8 yX8_sessions yX8_sessions, Cond.code yX8_sessions cX8_sessions 5 (some .int), Cond.methodLink RX8 227 yX8_sessionsNow, Cond.instanceMethod yX8_sessionsNow, Cond.selects RX8 yX8_sessionsNow yX8_sessionsNow]
set_option maxRecDepth 20000 in
theorem wt_27 : ∀ w ∈ wsL_law_r28, w ∈ lw_tbl := kz_memr _ [33, 879, 536, 537, 538, 539, 540, 541, 542, 543, 544, 545, 546, 547, 548, 549, 550, 880, 881, 882, 883, 884, 886, 34] rfl
def wsL_law_r29 : List Cond := [Cond.code yX8_sessionsNow cX8_sessionsNow 10 (some .int), Cond.fieldLink RX8 214 "DryLoafModel" "seedNow" "J", Cond.methodLink RX8 224 yX8_draw, Cond.instanceMethod yX8_draw, Cond.selects RX8 yX8_draw yX8_draw, Cond.code yX8_draw cX8_draw 2 (some .int), Cond.constantLong RX8 212 (1103515245), Cond.constantLong RX8 218 (12345), Cond.constantLong RX8 220 (2147483647), Cond.constantLong RX8 222 (65536), Cond.methodLink RL 88 yX7_image, Cond.instanceMethod yX7_image, Cond.selects RX7 yX7_image yX7_image, Cond.code yX7_image cX7_image 1 (some .int), Cond.fieldLink RX7 196 "DryLoaf" "keptCourt" "I", Cond.methodLink RX7 192 yX4_copyFrom, Cond.instanceMethod yX4_copyFrom, Cond.selects RX4 yX4_copyFrom yX4_copyFrom, Cond.code yX4_copyFrom cX4_copyFrom 3 none, Cond.methodLink RL 91 yX8_image, Cond.instanceMethod yX8_image, Cond.selects RX8 yX8_image yX8_image, Cond.code yX8_image cX8_image 2 (some .int), Cond.fieldLink RX8 231 "DryLoafModel" "isKept" "Z"]
set_option maxRecDepth 20000 in
theorem wt_28 : ∀ w ∈ wsL_law_r29, w ∈ lw_tbl := kz_memr _ [887, 615, 888, 890, 35, 891, 892, 893, 894, 895, 551, 552, 553, 554, 127, 555, 556, 557, 558, 896, 897, 898, 899, 616] rfl
def wsL_law_r30 : List Cond := [Cond.fieldLink RX8 234 "DryLoafModel" "keptCourt" "I", Cond.fieldLink RX8 237 "DryLoafModel" "keptDry" "I", Cond.fieldLink RX8 240 "DryLoafModel" "keptAte" "I", Cond.fieldLink RX8 243 "DryLoafModel" "keptHeard" "I", Cond.methodLink RL 92 yX7_restore, Cond.instanceMethod yX7_restore, Cond.selects RX7 yX7_restore yX7_restore, Cond.code yX7_restore cX7_restore 1 (some .int), Cond.methodLink RL 95 yX8_restore, Cond.instanceMethod yX8_restore, Cond.selects RX8 yX8_restore yX8_restore, Cond.code yX8_restore cX8_restore 2 (some .int), Cond.methodLink RL 96 yX7_count, Cond.instanceMethod yX7_count, Cond.selects RX7 yX7_count yX7_count, Cond.code yX7_count cX7_count 2 (some .int), Cond.methodLink RL 99 yX8_count, Cond.instanceMethod yX8_count, Cond.selects RX8 yX8_count yX8_count, Cond.code yX8_count cX8_count 2 (some .int), Cond.methodLink RX8 249 yX8_howMany, Cond.instanceMethod yX8_howMany, Cond.selects RX8 yX8_howMany yX8_howMany, Cond.code yX8_howMany cX8_howMany 2 (some .int)]
set_option maxRecDepth 20000 in
theorem wt_29 : ∀ w ∈ wsL_law_r30, w ∈ lw_tbl := kz_memr _ [617, 618, 619, 620, 559, 560, 561, 562, 900, 901, 902, 903, 563, 564, 565, 566, 904, 905, 906, 907, 908, 910, 36, 911] rfl
def wsL_law_r31 : List Cond := [Cond.methodLink RX8 246 yX8_sum, Cond.instanceMethod yX8_sum, Cond.selects RX8 yX8_sum yX8_sum, Cond.code yX8_sum cX8_sum 4 (some .int), Cond.methodLink RL 100 yX7_digest, Cond.instanceMethod yX7_digest, Cond.selects RX7 yX7_digest yX7_digest, Cond.code yX7_digest cX7_digest 4 (some .long), Cond.constantLong RX7 199 (919), Cond.methodLink RX7 201 yX7_foldAccused, Cond.instanceMethod yX7_foldAccused, Cond.selects RX7 yX7_foldAccused yX7_foldAccused, Cond.code yX7_foldAccused cX7_foldAccused 7 (some .long), Cond.methodLink RX7 208 yX7_fold, Cond.static yX7_fold, Cond.code yX7_fold cX7_fold 4 (some .long), Cond.constantLong RX7 228 (31), Cond.methodLink RX7 218 yX7_belief, Cond.methodLink RX7 222 yX7_driest, Cond.methodLink RX7 225 yX7_buttered, Cond.methodLink RX7 205 yX7_judged, Cond.methodLink RX7 212 yX1_codeAt, Cond.methodLink RX7 215 yX7_count, Cond.methodLink RL 104 yX8_digest]
set_option maxRecDepth 20000 in
theorem wt_30 : ∀ w ∈ wsL_law_r31, w ∈ lw_tbl := kz_memr _ [912, 914, 37, 915, 567, 568, 569, 570, 571, 572, 574, 10, 575, 576, 577, 578, 579, 580, 581, 582, 583, 584, 585, 916] rfl
def wsL_law_r32 : List Cond := [Cond.instanceMethod yX8_digest, Cond.selects RX8 yX8_digest yX8_digest, Cond.code yX8_digest cX8_digest 2 (some .long), Cond.constantLong RX8 261 (919), Cond.fieldLink RX8 254 "DryLoafModel" "h" "J", Cond.methodLink RX8 263 yX8_mixOne, Cond.instanceMethod yX8_mixOne, Cond.selects RX8 yX8_mixOne yX8_mixOne, Cond.code yX8_mixOne cX8_mixOne 3 none, Cond.methodLink RX8 257 yX8_mix, Cond.instanceMethod yX8_mix, Cond.selects RX8 yX8_mix yX8_mix, Cond.code yX8_mix cX8_mix 3 none, Cond.constantLong RX8 252 (31)]
set_option maxRecDepth 20000 in
theorem wt_31 : ∀ w ∈ wsL_law_r32, w ∈ lw_tbl := kz_memr _ [917, 918, 919, 920, 629, 921, 923, 38, 924, 925, 927, 39, 928, 929] rfl
theorem wt_32 : ∀ w ∈ wsX00, w ∈ lw_tbl := kz_memr _ [328, 330] (by decide +kernel)
theorem wt_33 : ∀ w ∈ wsX10, w ∈ lw_tbl := kz_memr _ [74, 76] (by decide +kernel)
theorem wt_34 : ∀ w ∈ wsX20, w ∈ lw_tbl := kz_memr _ [363, 364] (by decide +kernel)
theorem wt_35 : ∀ w ∈ wsX30, w ∈ lw_tbl := kz_memr _ [348, 349] (by decide +kernel)
theorem wt_36 : ∀ w ∈ wsX40, w ∈ lw_tbl := kz_memr _ [102, 104, 106, 108, 110, 112, 114] (by decide +kernel)
theorem wt_37 : ∀ w ∈ wsX50, w ∈ lw_tbl := kz_memr _ [357, 358] (by decide +kernel)
theorem wt_38 : ∀ w ∈ wsX60, w ∈ lw_tbl := kz_memr _ [339, 340] (by decide +kernel)
theorem wt_39 : ∀ w ∈ wsX70, w ∈ lw_tbl := kz_memr _ [129, 131, 133, 135, 137, 139, 141, 143, 145] (by decide +kernel)
theorem wt_40 : ∀ w ∈ wsX80, w ∈ lw_tbl := kz_memr _ [630, 632, 634, 636, 638, 640, 642, 644, 646, 648, 650, 652, 654, 656, 658, 660, 662, 664, 666, 668, 670, 672, 674, 676, 678, 680, 682, 684, 686, 688, 690, 692, 694, 696, 698, 700, 702, 704] (by decide +kernel)
def WB : List Cond := wsL_law_r1 ++ (wsL_law_r2 ++ (wsL_law_r3 ++ (wsL_law_r4 ++ (wsL_law_r5 ++ (wsL_law_r6 ++ (wsL_law_r7 ++ (wsL_law_r8 ++ (wsL_law_r9 ++ (wsL_law_r10 ++ (wsL_law_r11 ++ (wsL_law_r12 ++ (wsL_law_r13 ++ (wsL_law_r14 ++ (wsL_law_r15 ++ (wsL_law_r16 ++ (wsL_law_r17 ++ (wsL_law_r18 ++ (wsL_law_r19 ++ (wsL_law_r20 ++ (wsL_law_r21 ++ (wsL_law_r22 ++ (wsL_law_r23 ++ (wsL_law_r24 ++ (wsL_law_r25 ++ (wsL_law_r26 ++ (wsL_law_r27 ++ (wsL_law_r28 ++ (wsL_law_r29 ++ (wsL_law_r30 ++ (wsL_law_r31 ++ (wsL_law_r32 ++ (wsX00 ++ (wsX10 ++ (wsX20 ++ (wsX30 ++ (wsX40 ++ (wsX50 ++ (wsX60 ++ (wsX70 ++ wsX80)))))))))))))))))))))))))))))))))))))))
theorem wi_0 : ∀ w ∈ wsL_law_r1, w ∈ WB := fun w h => (List.mem_append_left _ h)
theorem wi_1 : ∀ w ∈ wsL_law_r2, w ∈ WB := fun w h => (List.mem_append_right _ (List.mem_append_left _ h))
theorem wi_2 : ∀ w ∈ wsL_law_r3, w ∈ WB := fun w h => (List.mem_append_right _ (List.mem_append_right _ (List.mem_append_left _ h)))
theorem wi_3 : ∀ w ∈ wsL_law_r4, w ∈ WB := fun w h => (List.mem_append_right _ (List.mem_append_right _ (List.mem_append_right _ (List.mem_append_left _ h))))
theorem wi_4 : ∀ w ∈ wsL_law_r5, w ∈ WB := fun w h => (List.mem_append_right _ (List.mem_append_right _ (List.mem_append_right _ (List.mem_append_right _ (List.mem_append_left _ h)))))
theorem wi_5 : ∀ w ∈ wsL_law_r6, w ∈ WB := fun w h => (List.mem_append_right _ (List.mem_append_right _ (List.mem_append_right _ (List.mem_append_right _ (List.mem_append_right _ (List.mem_append_left _ h))))))
theorem wi_6 : ∀ w ∈ wsL_law_r7, w ∈ WB := fun w h => (List.mem_append_right _ (List.mem_append_right _ (List.mem_append_right _ (List.mem_append_right _ (List.mem_append_right _ (List.mem_append_right _ (List.mem_append_left _ h)))))))
theorem wi_7 : ∀ w ∈ wsL_law_r8, w ∈ WB := fun w h => (List.mem_append_right _ (List.mem_append_right _ (List.mem_append_right _ (List.mem_append_right _ (List.mem_append_right _ (List.mem_append_right _ (List.mem_append_right _ (List.mem_append_left _ h))))))))
theorem wi_8 : ∀ w ∈ wsL_law_r9, w ∈ WB := fun w h => (List.mem_append_right _ (List.mem_append_right _ (List.mem_append_right _ (List.mem_append_right _ (List.mem_append_right _ (List.mem_append_right _ (List.mem_append_right _ (List.mem_append_right _ (List.mem_append_left _ h)))))))))
theorem wi_9 : ∀ w ∈ wsL_law_r10, w ∈ WB := fun w h => (List.mem_append_right _ (List.mem_append_right _ (List.mem_append_right _ (List.mem_append_right _ (List.mem_append_right _ (List.mem_append_right _ (List.mem_append_right _ (List.mem_append_right _ (List.mem_append_right _ (List.mem_append_left _ h))))))))))
theorem wi_10 : ∀ w ∈ wsL_law_r11, w ∈ WB := fun w h => (List.mem_append_right _ (List.mem_append_right _ (List.mem_append_right _ (List.mem_append_right _ (List.mem_append_right _ (List.mem_append_right _ (List.mem_append_right _ (List.mem_append_right _ (List.mem_append_right _ (List.mem_append_right _ (List.mem_append_left _ h)))))))))))
theorem wi_11 : ∀ w ∈ wsL_law_r12, w ∈ WB := fun w h => (List.mem_append_right _ (List.mem_append_right _ (List.mem_append_right _ (List.mem_append_right _ (List.mem_append_right _ (List.mem_append_right _ (List.mem_append_right _ (List.mem_append_right _ (List.mem_append_right _ (List.mem_append_right _ (List.mem_append_right _ (List.mem_append_left _ h))))))))))))
theorem wi_12 : ∀ w ∈ wsL_law_r13, w ∈ WB := fun w h => (List.mem_append_right _ (List.mem_append_right _ (List.mem_append_right _ (List.mem_append_right _ (List.mem_append_right _ (List.mem_append_right _ (List.mem_append_right _ (List.mem_append_right _ (List.mem_append_right _ (List.mem_append_right _ (List.mem_append_right _ (List.mem_append_right _ (List.mem_append_left _ h)))))))))))))
theorem wi_13 : ∀ w ∈ wsL_law_r14, w ∈ WB := fun w h => (List.mem_append_right _ (List.mem_append_right _ (List.mem_append_right _ (List.mem_append_right _ (List.mem_append_right _ (List.mem_append_right _ (List.mem_append_right _ (List.mem_append_right _ (List.mem_append_right _ (List.mem_append_right _ (List.mem_append_right _ (List.mem_append_right _ (List.mem_append_right _ (List.mem_append_left _ h))))))))))))))
theorem wi_14 : ∀ w ∈ wsL_law_r15, w ∈ WB := fun w h => (List.mem_append_right _ (List.mem_append_right _ (List.mem_append_right _ (List.mem_append_right _ (List.mem_append_right _ (List.mem_append_right _ (List.mem_append_right _ (List.mem_append_right _ (List.mem_append_right _ (List.mem_append_right _ (List.mem_append_right _ (List.mem_append_right _ (List.mem_append_right _ (List.mem_append_right _ (List.mem_append_left _ h)))))))))))))))
theorem wi_15 : ∀ w ∈ wsL_law_r16, w ∈ WB := fun w h => (List.mem_append_right _ (List.mem_append_right _ (List.mem_append_right _ (List.mem_append_right _ (List.mem_append_right _ (List.mem_append_right _ (List.mem_append_right _ (List.mem_append_right _ (List.mem_append_right _ (List.mem_append_right _ (List.mem_append_right _ (List.mem_append_right _ (List.mem_append_right _ (List.mem_append_right _ (List.mem_append_right _ (List.mem_append_left _ h))))))))))))))))
theorem wi_16 : ∀ w ∈ wsL_law_r17, w ∈ WB := fun w h => (List.mem_append_right _ (List.mem_append_right _ (List.mem_append_right _ (List.mem_append_right _ (List.mem_append_right _ (List.mem_append_right _ (List.mem_append_right _ (List.mem_append_right _ (List.mem_append_right _ (List.mem_append_right _ (List.mem_append_right _ (List.mem_append_right _ (List.mem_append_right _ (List.mem_append_right _ (List.mem_append_right _ (List.mem_append_right _ (List.mem_append_left _ h)))))))))))))))))
theorem wi_17 : ∀ w ∈ wsL_law_r18, w ∈ WB := fun w h => (List.mem_append_right _ (List.mem_append_right _ (List.mem_append_right _ (List.mem_append_right _ (List.mem_append_right _ (List.mem_append_right _ (List.mem_append_right _ (List.mem_append_right _ (List.mem_append_right _ (List.mem_append_right _ (List.mem_append_right _ (List.mem_append_right _ (List.mem_append_right _ (List.mem_append_right _ (List.mem_append_right _ (List.mem_append_right _ (List.mem_append_right _ (List.mem_append_left _ h))))))))))))))))))
theorem wi_18 : ∀ w ∈ wsL_law_r19, w ∈ WB := fun w h => (List.mem_append_right _ (List.mem_append_right _ (List.mem_append_right _ (List.mem_append_right _ (List.mem_append_right _ (List.mem_append_right _ (List.mem_append_right _ (List.mem_append_right _ (List.mem_append_right _ (List.mem_append_right _ (List.mem_append_right _ (List.mem_append_right _ (List.mem_append_right _ (List.mem_append_right _ (List.mem_append_right _ (List.mem_append_right _ (List.mem_append_right _ (List.mem_append_right _ (List.mem_append_left _ h)))))))))))))))))))
theorem wi_19 : ∀ w ∈ wsL_law_r20, w ∈ WB := fun w h => (List.mem_append_right _ (List.mem_append_right _ (List.mem_append_right _ (List.mem_append_right _ (List.mem_append_right _ (List.mem_append_right _ (List.mem_append_right _ (List.mem_append_right _ (List.mem_append_right _ (List.mem_append_right _ (List.mem_append_right _ (List.mem_append_right _ (List.mem_append_right _ (List.mem_append_right _ (List.mem_append_right _ (List.mem_append_right _ (List.mem_append_right _ (List.mem_append_right _ (List.mem_append_right _ (List.mem_append_left _ h))))))))))))))))))))
theorem wi_20 : ∀ w ∈ wsL_law_r21, w ∈ WB := fun w h => (List.mem_append_right _ (List.mem_append_right _ (List.mem_append_right _ (List.mem_append_right _ (List.mem_append_right _ (List.mem_append_right _ (List.mem_append_right _ (List.mem_append_right _ (List.mem_append_right _ (List.mem_append_right _ (List.mem_append_right _ (List.mem_append_right _ (List.mem_append_right _ (List.mem_append_right _ (List.mem_append_right _ (List.mem_append_right _ (List.mem_append_right _ (List.mem_append_right _ (List.mem_append_right _ (List.mem_append_right _ (List.mem_append_left _ h)))))))))))))))))))))
theorem wi_21 : ∀ w ∈ wsL_law_r22, w ∈ WB := fun w h => (List.mem_append_right _ (List.mem_append_right _ (List.mem_append_right _ (List.mem_append_right _ (List.mem_append_right _ (List.mem_append_right _ (List.mem_append_right _ (List.mem_append_right _ (List.mem_append_right _ (List.mem_append_right _ (List.mem_append_right _ (List.mem_append_right _ (List.mem_append_right _ (List.mem_append_right _ (List.mem_append_right _ (List.mem_append_right _ (List.mem_append_right _ (List.mem_append_right _ (List.mem_append_right _ (List.mem_append_right _ (List.mem_append_right _ (List.mem_append_left _ h))))))))))))))))))))))
theorem wi_22 : ∀ w ∈ wsL_law_r23, w ∈ WB := fun w h => (List.mem_append_right _ (List.mem_append_right _ (List.mem_append_right _ (List.mem_append_right _ (List.mem_append_right _ (List.mem_append_right _ (List.mem_append_right _ (List.mem_append_right _ (List.mem_append_right _ (List.mem_append_right _ (List.mem_append_right _ (List.mem_append_right _ (List.mem_append_right _ (List.mem_append_right _ (List.mem_append_right _ (List.mem_append_right _ (List.mem_append_right _ (List.mem_append_right _ (List.mem_append_right _ (List.mem_append_right _ (List.mem_append_right _ (List.mem_append_right _ (List.mem_append_left _ h)))))))))))))))))))))))
theorem wi_23 : ∀ w ∈ wsL_law_r24, w ∈ WB := fun w h => (List.mem_append_right _ (List.mem_append_right _ (List.mem_append_right _ (List.mem_append_right _ (List.mem_append_right _ (List.mem_append_right _ (List.mem_append_right _ (List.mem_append_right _ (List.mem_append_right _ (List.mem_append_right _ (List.mem_append_right _ (List.mem_append_right _ (List.mem_append_right _ (List.mem_append_right _ (List.mem_append_right _ (List.mem_append_right _ (List.mem_append_right _ (List.mem_append_right _ (List.mem_append_right _ (List.mem_append_right _ (List.mem_append_right _ (List.mem_append_right _ (List.mem_append_right _ (List.mem_append_left _ h))))))))))))))))))))))))
theorem wi_24 : ∀ w ∈ wsL_law_r25, w ∈ WB := fun w h => (List.mem_append_right _ (List.mem_append_right _ (List.mem_append_right _ (List.mem_append_right _ (List.mem_append_right _ (List.mem_append_right _ (List.mem_append_right _ (List.mem_append_right _ (List.mem_append_right _ (List.mem_append_right _ (List.mem_append_right _ (List.mem_append_right _ (List.mem_append_right _ (List.mem_append_right _ (List.mem_append_right _ (List.mem_append_right _ (List.mem_append_right _ (List.mem_append_right _ (List.mem_append_right _ (List.mem_append_right _ (List.mem_append_right _ (List.mem_append_right _ (List.mem_append_right _ (List.mem_append_right _ (List.mem_append_left _ h)))))))))))))))))))))))))
theorem wi_25 : ∀ w ∈ wsL_law_r26, w ∈ WB := fun w h => (List.mem_append_right _ (List.mem_append_right _ (List.mem_append_right _ (List.mem_append_right _ (List.mem_append_right _ (List.mem_append_right _ (List.mem_append_right _ (List.mem_append_right _ (List.mem_append_right _ (List.mem_append_right _ (List.mem_append_right _ (List.mem_append_right _ (List.mem_append_right _ (List.mem_append_right _ (List.mem_append_right _ (List.mem_append_right _ (List.mem_append_right _ (List.mem_append_right _ (List.mem_append_right _ (List.mem_append_right _ (List.mem_append_right _ (List.mem_append_right _ (List.mem_append_right _ (List.mem_append_right _ (List.mem_append_right _ (List.mem_append_left _ h))))))))))))))))))))))))))
theorem wi_26 : ∀ w ∈ wsL_law_r27, w ∈ WB := fun w h => (List.mem_append_right _ (List.mem_append_right _ (List.mem_append_right _ (List.mem_append_right _ (List.mem_append_right _ (List.mem_append_right _ (List.mem_append_right _ (List.mem_append_right _ (List.mem_append_right _ (List.mem_append_right _ (List.mem_append_right _ (List.mem_append_right _ (List.mem_append_right _ (List.mem_append_right _ (List.mem_append_right _ (List.mem_append_right _ (List.mem_append_right _ (List.mem_append_right _ (List.mem_append_right _ (List.mem_append_right _ (List.mem_append_right _ (List.mem_append_right _ (List.mem_append_right _ (List.mem_append_right _ (List.mem_append_right _ (List.mem_append_right _ (List.mem_append_left _ h)))))))))))))))))))))))))))
theorem wi_27 : ∀ w ∈ wsL_law_r28, w ∈ WB := fun w h => (List.mem_append_right _ (List.mem_append_right _ (List.mem_append_right _ (List.mem_append_right _ (List.mem_append_right _ (List.mem_append_right _ (List.mem_append_right _ (List.mem_append_right _ (List.mem_append_right _ (List.mem_append_right _ (List.mem_append_right _ (List.mem_append_right _ (List.mem_append_right _ (List.mem_append_right _ (List.mem_append_right _ (List.mem_append_right _ (List.mem_append_right _ (List.mem_append_right _ (List.mem_append_right _ (List.mem_append_right _ (List.mem_append_right _ (List.mem_append_right _ (List.mem_append_right _ (List.mem_append_right _ (List.mem_append_right _ (List.mem_append_right _ (List.mem_append_right _ (List.mem_append_left _ h))))))))))))))))))))))))))))
theorem wi_28 : ∀ w ∈ wsL_law_r29, w ∈ WB := fun w h => (List.mem_append_right _ (List.mem_append_right _ (List.mem_append_right _ (List.mem_append_right _ (List.mem_append_right _ (List.mem_append_right _ (List.mem_append_right _ (List.mem_append_right _ (List.mem_append_right _ (List.mem_append_right _ (List.mem_append_right _ (List.mem_append_right _ (List.mem_append_right _ (List.mem_append_right _ (List.mem_append_right _ (List.mem_append_right _ (List.mem_append_right _ (List.mem_append_right _ (List.mem_append_right _ (List.mem_append_right _ (List.mem_append_right _ (List.mem_append_right _ (List.mem_append_right _ (List.mem_append_right _ (List.mem_append_right _ (List.mem_append_right _ (List.mem_append_right _ (List.mem_append_right _ (List.mem_append_left _ h)))))))))))))))))))))))))))))
theorem wi_29 : ∀ w ∈ wsL_law_r30, w ∈ WB := fun w h => (List.mem_append_right _ (List.mem_append_right _ (List.mem_append_right _ (List.mem_append_right _ (List.mem_append_right _ (List.mem_append_right _ (List.mem_append_right _ (List.mem_append_right _ (List.mem_append_right _ (List.mem_append_right _ (List.mem_append_right _ (List.mem_append_right _ (List.mem_append_right _ (List.mem_append_right _ (List.mem_append_right _ (List.mem_append_right _ (List.mem_append_right _ (List.mem_append_right _ (List.mem_append_right _ (List.mem_append_right _ (List.mem_append_right _ (List.mem_append_right _ (List.mem_append_right _ (List.mem_append_right _ (List.mem_append_right _ (List.mem_append_right _ (List.mem_append_right _ (List.mem_append_right _ (List.mem_append_right _ (List.mem_append_left _ h))))))))))))))))))))))))))))))
theorem wi_30 : ∀ w ∈ wsL_law_r31, w ∈ WB := fun w h => (List.mem_append_right _ (List.mem_append_right _ (List.mem_append_right _ (List.mem_append_right _ (List.mem_append_right _ (List.mem_append_right _ (List.mem_append_right _ (List.mem_append_right _ (List.mem_append_right _ (List.mem_append_right _ (List.mem_append_right _ (List.mem_append_right _ (List.mem_append_right _ (List.mem_append_right _ (List.mem_append_right _ (List.mem_append_right _ (List.mem_append_right _ (List.mem_append_right _ (List.mem_append_right _ (List.mem_append_right _ (List.mem_append_right _ (List.mem_append_right _ (List.mem_append_right _ (List.mem_append_right _ (List.mem_append_right _ (List.mem_append_right _ (List.mem_append_right _ (List.mem_append_right _ (List.mem_append_right _ (List.mem_append_right _ (List.mem_append_left _ h)))))))))))))))))))))))))))))))
theorem wi_31 : ∀ w ∈ wsL_law_r32, w ∈ WB := fun w h => (List.mem_append_right _ (List.mem_append_right _ (List.mem_append_right _ (List.mem_append_right _ (List.mem_append_right _ (List.mem_append_right _ (List.mem_append_right _ (List.mem_append_right _ (List.mem_append_right _ (List.mem_append_right _ (List.mem_append_right _ (List.mem_append_right _ (List.mem_append_right _ (List.mem_append_right _ (List.mem_append_right _ (List.mem_append_right _ (List.mem_append_right _ (List.mem_append_right _ (List.mem_append_right _ (List.mem_append_right _ (List.mem_append_right _ (List.mem_append_right _ (List.mem_append_right _ (List.mem_append_right _ (List.mem_append_right _ (List.mem_append_right _ (List.mem_append_right _ (List.mem_append_right _ (List.mem_append_right _ (List.mem_append_right _ (List.mem_append_right _ (List.mem_append_left _ h))))))))))))))))))))))))))))))))
theorem inX0 : ∀ w ∈ wsX00, w ∈ WB := fun w h => (List.mem_append_right _ (List.mem_append_right _ (List.mem_append_right _ (List.mem_append_right _ (List.mem_append_right _ (List.mem_append_right _ (List.mem_append_right _ (List.mem_append_right _ (List.mem_append_right _ (List.mem_append_right _ (List.mem_append_right _ (List.mem_append_right _ (List.mem_append_right _ (List.mem_append_right _ (List.mem_append_right _ (List.mem_append_right _ (List.mem_append_right _ (List.mem_append_right _ (List.mem_append_right _ (List.mem_append_right _ (List.mem_append_right _ (List.mem_append_right _ (List.mem_append_right _ (List.mem_append_right _ (List.mem_append_right _ (List.mem_append_right _ (List.mem_append_right _ (List.mem_append_right _ (List.mem_append_right _ (List.mem_append_right _ (List.mem_append_right _ (List.mem_append_right _ (List.mem_append_left _ h)))))))))))))))))))))))))))))))))
theorem inX1 : ∀ w ∈ wsX10, w ∈ WB := fun w h => (List.mem_append_right _ (List.mem_append_right _ (List.mem_append_right _ (List.mem_append_right _ (List.mem_append_right _ (List.mem_append_right _ (List.mem_append_right _ (List.mem_append_right _ (List.mem_append_right _ (List.mem_append_right _ (List.mem_append_right _ (List.mem_append_right _ (List.mem_append_right _ (List.mem_append_right _ (List.mem_append_right _ (List.mem_append_right _ (List.mem_append_right _ (List.mem_append_right _ (List.mem_append_right _ (List.mem_append_right _ (List.mem_append_right _ (List.mem_append_right _ (List.mem_append_right _ (List.mem_append_right _ (List.mem_append_right _ (List.mem_append_right _ (List.mem_append_right _ (List.mem_append_right _ (List.mem_append_right _ (List.mem_append_right _ (List.mem_append_right _ (List.mem_append_right _ (List.mem_append_right _ (List.mem_append_left _ h))))))))))))))))))))))))))))))))))
theorem inX2 : ∀ w ∈ wsX20, w ∈ WB := fun w h => (List.mem_append_right _ (List.mem_append_right _ (List.mem_append_right _ (List.mem_append_right _ (List.mem_append_right _ (List.mem_append_right _ (List.mem_append_right _ (List.mem_append_right _ (List.mem_append_right _ (List.mem_append_right _ (List.mem_append_right _ (List.mem_append_right _ (List.mem_append_right _ (List.mem_append_right _ (List.mem_append_right _ (List.mem_append_right _ (List.mem_append_right _ (List.mem_append_right _ (List.mem_append_right _ (List.mem_append_right _ (List.mem_append_right _ (List.mem_append_right _ (List.mem_append_right _ (List.mem_append_right _ (List.mem_append_right _ (List.mem_append_right _ (List.mem_append_right _ (List.mem_append_right _ (List.mem_append_right _ (List.mem_append_right _ (List.mem_append_right _ (List.mem_append_right _ (List.mem_append_right _ (List.mem_append_right _ (List.mem_append_left _ h)))))))))))))))))))))))))))))))))))
theorem inX3 : ∀ w ∈ wsX30, w ∈ WB := fun w h => (List.mem_append_right _ (List.mem_append_right _ (List.mem_append_right _ (List.mem_append_right _ (List.mem_append_right _ (List.mem_append_right _ (List.mem_append_right _ (List.mem_append_right _ (List.mem_append_right _ (List.mem_append_right _ (List.mem_append_right _ (List.mem_append_right _ (List.mem_append_right _ (List.mem_append_right _ (List.mem_append_right _ (List.mem_append_right _ (List.mem_append_right _ (List.mem_append_right _ (List.mem_append_right _ (List.mem_append_right _ (List.mem_append_right _ (List.mem_append_right _ (List.mem_append_right _ (List.mem_append_right _ (List.mem_append_right _ (List.mem_append_right _ (List.mem_append_right _ (List.mem_append_right _ (List.mem_append_right _ (List.mem_append_right _ (List.mem_append_right _ (List.mem_append_right _ (List.mem_append_right _ (List.mem_append_right _ (List.mem_append_right _ (List.mem_append_left _ h))))))))))))))))))))))))))))))))))))
theorem inX4 : ∀ w ∈ wsX40, w ∈ WB := fun w h => (List.mem_append_right _ (List.mem_append_right _ (List.mem_append_right _ (List.mem_append_right _ (List.mem_append_right _ (List.mem_append_right _ (List.mem_append_right _ (List.mem_append_right _ (List.mem_append_right _ (List.mem_append_right _ (List.mem_append_right _ (List.mem_append_right _ (List.mem_append_right _ (List.mem_append_right _ (List.mem_append_right _ (List.mem_append_right _ (List.mem_append_right _ (List.mem_append_right _ (List.mem_append_right _ (List.mem_append_right _ (List.mem_append_right _ (List.mem_append_right _ (List.mem_append_right _ (List.mem_append_right _ (List.mem_append_right _ (List.mem_append_right _ (List.mem_append_right _ (List.mem_append_right _ (List.mem_append_right _ (List.mem_append_right _ (List.mem_append_right _ (List.mem_append_right _ (List.mem_append_right _ (List.mem_append_right _ (List.mem_append_right _ (List.mem_append_right _ (List.mem_append_left _ h)))))))))))))))))))))))))))))))))))))
theorem inX5 : ∀ w ∈ wsX50, w ∈ WB := fun w h => (List.mem_append_right _ (List.mem_append_right _ (List.mem_append_right _ (List.mem_append_right _ (List.mem_append_right _ (List.mem_append_right _ (List.mem_append_right _ (List.mem_append_right _ (List.mem_append_right _ (List.mem_append_right _ (List.mem_append_right _ (List.mem_append_right _ (List.mem_append_right _ (List.mem_append_right _ (List.mem_append_right _ (List.mem_append_right _ (List.mem_append_right _ (List.mem_append_right _ (List.mem_append_right _ (List.mem_append_right _ (List.mem_append_right _ (List.mem_append_right _ (List.mem_append_right _ (List.mem_append_right _ (List.mem_append_right _ (List.mem_append_right _ (List.mem_append_right _ (List.mem_append_right _ (List.mem_append_right _ (List.mem_append_right _ (List.mem_append_right _ (List.mem_append_right _ (List.mem_append_right _ (List.mem_append_right _ (List.mem_append_right _ (List.mem_append_right _ (List.mem_append_right _ (List.mem_append_left _ h))))))))))))))))))))))))))))))))))))))
theorem inX6 : ∀ w ∈ wsX60, w ∈ WB := fun w h => (List.mem_append_right _ (List.mem_append_right _ (List.mem_append_right _ (List.mem_append_right _ (List.mem_append_right _ (List.mem_append_right _ (List.mem_append_right _ (List.mem_append_right _ (List.mem_append_right _ (List.mem_append_right _ (List.mem_append_right _ (List.mem_append_right _ (List.mem_append_right _ (List.mem_append_right _ (List.mem_append_right _ (List.mem_append_right _ (List.mem_append_right _ (List.mem_append_right _ (List.mem_append_right _ (List.mem_append_right _ (List.mem_append_right _ (List.mem_append_right _ (List.mem_append_right _ (List.mem_append_right _ (List.mem_append_right _ (List.mem_append_right _ (List.mem_append_right _ (List.mem_append_right _ (List.mem_append_right _ (List.mem_append_right _ (List.mem_append_right _ (List.mem_append_right _ (List.mem_append_right _ (List.mem_append_right _ (List.mem_append_right _ (List.mem_append_right _ (List.mem_append_right _ (List.mem_append_right _ (List.mem_append_left _ h)))))))))))))))))))))))))))))))))))))))
theorem inX7 : ∀ w ∈ wsX70, w ∈ WB := fun w h => (List.mem_append_right _ (List.mem_append_right _ (List.mem_append_right _ (List.mem_append_right _ (List.mem_append_right _ (List.mem_append_right _ (List.mem_append_right _ (List.mem_append_right _ (List.mem_append_right _ (List.mem_append_right _ (List.mem_append_right _ (List.mem_append_right _ (List.mem_append_right _ (List.mem_append_right _ (List.mem_append_right _ (List.mem_append_right _ (List.mem_append_right _ (List.mem_append_right _ (List.mem_append_right _ (List.mem_append_right _ (List.mem_append_right _ (List.mem_append_right _ (List.mem_append_right _ (List.mem_append_right _ (List.mem_append_right _ (List.mem_append_right _ (List.mem_append_right _ (List.mem_append_right _ (List.mem_append_right _ (List.mem_append_right _ (List.mem_append_right _ (List.mem_append_right _ (List.mem_append_right _ (List.mem_append_right _ (List.mem_append_right _ (List.mem_append_right _ (List.mem_append_right _ (List.mem_append_right _ (List.mem_append_right _ (List.mem_append_left _ h))))))))))))))))))))))))))))))))))))))))
theorem inX8 : ∀ w ∈ wsX80, w ∈ WB := fun w h => (List.mem_append_right _ (List.mem_append_right _ (List.mem_append_right _ (List.mem_append_right _ (List.mem_append_right _ (List.mem_append_right _ (List.mem_append_right _ (List.mem_append_right _ (List.mem_append_right _ (List.mem_append_right _ (List.mem_append_right _ (List.mem_append_right _ (List.mem_append_right _ (List.mem_append_right _ (List.mem_append_right _ (List.mem_append_right _ (List.mem_append_right _ (List.mem_append_right _ (List.mem_append_right _ (List.mem_append_right _ (List.mem_append_right _ (List.mem_append_right _ (List.mem_append_right _ (List.mem_append_right _ (List.mem_append_right _ (List.mem_append_right _ (List.mem_append_right _ (List.mem_append_right _ (List.mem_append_right _ (List.mem_append_right _ (List.mem_append_right _ (List.mem_append_right _ (List.mem_append_right _ (List.mem_append_right _ (List.mem_append_right _ (List.mem_append_right _ (List.mem_append_right _ (List.mem_append_right _ (List.mem_append_right _ (List.mem_append_right _ h))))))))))))))))))))))))))))))))))))))))
theorem WB_tbl : ∀ w ∈ WB, w ∈ lw_tbl := fun w h => (List.mem_append.mp h).elim (wt_0 w) (fun h => (List.mem_append.mp h).elim (wt_1 w) (fun h => (List.mem_append.mp h).elim (wt_2 w) (fun h => (List.mem_append.mp h).elim (wt_3 w) (fun h => (List.mem_append.mp h).elim (wt_4 w) (fun h => (List.mem_append.mp h).elim (wt_5 w) (fun h => (List.mem_append.mp h).elim (wt_6 w) (fun h => (List.mem_append.mp h).elim (wt_7 w) (fun h => (List.mem_append.mp h).elim (wt_8 w) (fun h => (List.mem_append.mp h).elim (wt_9 w) (fun h => (List.mem_append.mp h).elim (wt_10 w) (fun h => (List.mem_append.mp h).elim (wt_11 w) (fun h => (List.mem_append.mp h).elim (wt_12 w) (fun h => (List.mem_append.mp h).elim (wt_13 w) (fun h => (List.mem_append.mp h).elim (wt_14 w) (fun h => (List.mem_append.mp h).elim (wt_15 w) (fun h => (List.mem_append.mp h).elim (wt_16 w) (fun h => (List.mem_append.mp h).elim (wt_17 w) (fun h => (List.mem_append.mp h).elim (wt_18 w) (fun h => (List.mem_append.mp h).elim (wt_19 w) (fun h => (List.mem_append.mp h).elim (wt_20 w) (fun h => (List.mem_append.mp h).elim (wt_21 w) (fun h => (List.mem_append.mp h).elim (wt_22 w) (fun h => (List.mem_append.mp h).elim (wt_23 w) (fun h => (List.mem_append.mp h).elim (wt_24 w) (fun h => (List.mem_append.mp h).elim (wt_25 w) (fun h => (List.mem_append.mp h).elim (wt_26 w) (fun h => (List.mem_append.mp h).elim (wt_27 w) (fun h => (List.mem_append.mp h).elim (wt_28 w) (fun h => (List.mem_append.mp h).elim (wt_29 w) (fun h => (List.mem_append.mp h).elim (wt_30 w) (fun h => (List.mem_append.mp h).elim (wt_31 w) (fun h => (List.mem_append.mp h).elim (wt_32 w) (fun h => (List.mem_append.mp h).elim (wt_33 w) (fun h => (List.mem_append.mp h).elim (wt_34 w) (fun h => (List.mem_append.mp h).elim (wt_35 w) (fun h => (List.mem_append.mp h).elim (wt_36 w) (fun h => (List.mem_append.mp h).elim (wt_37 w) (fun h => (List.mem_append.mp h).elim (wt_38 w) (fun h => (List.mem_append.mp h).elim (wt_39 w) (fun h => wt_40 w h))))))))))))))))))))))))))))))))))))))))
theorem wg_0 : wsL_law_r1.all goodWord = true := by decide +kernel
theorem wg_1 : wsL_law_r2.all goodWord = true := by decide +kernel
theorem wg_2 : wsL_law_r3.all goodWord = true := by decide +kernel
theorem wg_3 : wsL_law_r4.all goodWord = true := by decide +kernel
theorem wg_4 : wsL_law_r5.all goodWord = true := by decide +kernel
theorem wg_5 : wsL_law_r6.all goodWord = true := by decide +kernel
theorem wg_6 : wsL_law_r7.all goodWord = true := by decide +kernel
theorem wg_7 : wsL_law_r8.all goodWord = true := by decide +kernel
theorem wg_8 : wsL_law_r9.all goodWord = true := by decide +kernel
theorem wg_9 : wsL_law_r10.all goodWord = true := by decide +kernel
theorem wg_10 : wsL_law_r11.all goodWord = true := by decide +kernel
theorem wg_11 : wsL_law_r12.all goodWord = true := by decide +kernel
theorem wg_12 : wsL_law_r13.all goodWord = true := by decide +kernel
theorem wg_13 : wsL_law_r14.all goodWord = true := by decide +kernel
theorem wg_14 : wsL_law_r15.all goodWord = true := by decide +kernel
theorem wg_15 : wsL_law_r16.all goodWord = true := by decide +kernel
theorem wg_16 : wsL_law_r17.all goodWord = true := by decide +kernel
theorem wg_17 : wsL_law_r18.all goodWord = true := by decide +kernel
theorem wg_18 : wsL_law_r19.all goodWord = true := by decide +kernel
theorem wg_19 : wsL_law_r20.all goodWord = true := by decide +kernel
theorem wg_20 : wsL_law_r21.all goodWord = true := by decide +kernel
theorem wg_21 : wsL_law_r22.all goodWord = true := by decide +kernel
theorem wg_22 : wsL_law_r23.all goodWord = true := by decide +kernel
theorem wg_23 : wsL_law_r24.all goodWord = true := by decide +kernel
theorem wg_24 : wsL_law_r25.all goodWord = true := by decide +kernel
theorem wg_25 : wsL_law_r26.all goodWord = true := by decide +kernel
theorem wg_26 : wsL_law_r27.all goodWord = true := by decide +kernel
theorem wg_27 : wsL_law_r28.all goodWord = true := by decide +kernel
theorem wg_28 : wsL_law_r29.all goodWord = true := by decide +kernel
theorem wg_29 : wsL_law_r30.all goodWord = true := by decide +kernel
theorem wg_30 : wsL_law_r31.all goodWord = true := by decide +kernel
theorem wg_31 : wsL_law_r32.all goodWord = true := by decide +kernel
theorem wg_32 : wsX00.all goodWord = true := by decide +kernel
theorem wg_33 : wsX10.all goodWord = true := by decide +kernel
theorem wg_34 : wsX20.all goodWord = true := by decide +kernel
theorem wg_35 : wsX30.all goodWord = true := by decide +kernel
theorem wg_36 : wsX40.all goodWord = true := by decide +kernel
theorem wg_37 : wsX50.all goodWord = true := by decide +kernel
theorem wg_38 : wsX60.all goodWord = true := by decide +kernel
theorem wg_39 : wsX70.all goodWord = true := by decide +kernel
theorem wg_40 : wsX80.all goodWord = true := by decide +kernel
theorem WB_good : ∀ w ∈ WB, goodWord w = true := fun w h => (List.mem_append.mp h).elim (List.all_eq_true.mp wg_0 w) (fun h => (List.mem_append.mp h).elim (List.all_eq_true.mp wg_1 w) (fun h => (List.mem_append.mp h).elim (List.all_eq_true.mp wg_2 w) (fun h => (List.mem_append.mp h).elim (List.all_eq_true.mp wg_3 w) (fun h => (List.mem_append.mp h).elim (List.all_eq_true.mp wg_4 w) (fun h => (List.mem_append.mp h).elim (List.all_eq_true.mp wg_5 w) (fun h => (List.mem_append.mp h).elim (List.all_eq_true.mp wg_6 w) (fun h => (List.mem_append.mp h).elim (List.all_eq_true.mp wg_7 w) (fun h => (List.mem_append.mp h).elim (List.all_eq_true.mp wg_8 w) (fun h => (List.mem_append.mp h).elim (List.all_eq_true.mp wg_9 w) (fun h => (List.mem_append.mp h).elim (List.all_eq_true.mp wg_10 w) (fun h => (List.mem_append.mp h).elim (List.all_eq_true.mp wg_11 w) (fun h => (List.mem_append.mp h).elim (List.all_eq_true.mp wg_12 w) (fun h => (List.mem_append.mp h).elim (List.all_eq_true.mp wg_13 w) (fun h => (List.mem_append.mp h).elim (List.all_eq_true.mp wg_14 w) (fun h => (List.mem_append.mp h).elim (List.all_eq_true.mp wg_15 w) (fun h => (List.mem_append.mp h).elim (List.all_eq_true.mp wg_16 w) (fun h => (List.mem_append.mp h).elim (List.all_eq_true.mp wg_17 w) (fun h => (List.mem_append.mp h).elim (List.all_eq_true.mp wg_18 w) (fun h => (List.mem_append.mp h).elim (List.all_eq_true.mp wg_19 w) (fun h => (List.mem_append.mp h).elim (List.all_eq_true.mp wg_20 w) (fun h => (List.mem_append.mp h).elim (List.all_eq_true.mp wg_21 w) (fun h => (List.mem_append.mp h).elim (List.all_eq_true.mp wg_22 w) (fun h => (List.mem_append.mp h).elim (List.all_eq_true.mp wg_23 w) (fun h => (List.mem_append.mp h).elim (List.all_eq_true.mp wg_24 w) (fun h => (List.mem_append.mp h).elim (List.all_eq_true.mp wg_25 w) (fun h => (List.mem_append.mp h).elim (List.all_eq_true.mp wg_26 w) (fun h => (List.mem_append.mp h).elim (List.all_eq_true.mp wg_27 w) (fun h => (List.mem_append.mp h).elim (List.all_eq_true.mp wg_28 w) (fun h => (List.mem_append.mp h).elim (List.all_eq_true.mp wg_29 w) (fun h => (List.mem_append.mp h).elim (List.all_eq_true.mp wg_30 w) (fun h => (List.mem_append.mp h).elim (List.all_eq_true.mp wg_31 w) (fun h => (List.mem_append.mp h).elim (List.all_eq_true.mp wg_32 w) (fun h => (List.mem_append.mp h).elim (List.all_eq_true.mp wg_33 w) (fun h => (List.mem_append.mp h).elim (List.all_eq_true.mp wg_34 w) (fun h => (List.mem_append.mp h).elim (List.all_eq_true.mp wg_35 w) (fun h => (List.mem_append.mp h).elim (List.all_eq_true.mp wg_36 w) (fun h => (List.mem_append.mp h).elim (List.all_eq_true.mp wg_37 w) (fun h => (List.mem_append.mp h).elim (List.all_eq_true.mp wg_38 w) (fun h => (List.mem_append.mp h).elim (List.all_eq_true.mp wg_39 w) (fun h => List.all_eq_true.mp wg_40 w h))))))))))))))))))))))))))))))))))))))))
theorem wm_0 : Cond.classLink RL 7 RX7 ∈ WB := wi_0 _ (List.mem_of_getElem? (i := 0) rfl)
theorem wm_1 : Cond.instantiable RX7 9 ∈ WB := wi_0 _ (List.mem_of_getElem? (i := 1) rfl)
theorem wm_2 : Cond.initialized RX7 ∈ WB := wi_0 _ (List.mem_of_getElem? (i := 2) rfl)
theorem wm_3 : Cond.classLink RL 10 RX8 ∈ WB := wi_0 _ (List.mem_of_getElem? (i := 3) rfl)
theorem wm_4 : Cond.instantiable RX8 38 ∈ WB := wi_0 _ (List.mem_of_getElem? (i := 4) rfl)
theorem wm_5 : Cond.initialized RX8 ∈ WB := wi_0 _ (List.mem_of_getElem? (i := 5) rfl)
theorem wm_6 : Cond.methodLink RL 9 yX7_init ∈ WB := wi_0 _ (List.mem_of_getElem? (i := 6) rfl)
theorem wm_7 : Cond.instanceMethod yX7_init ∈ WB := wi_0 _ (List.mem_of_getElem? (i := 7) rfl)
theorem wm_8 : Cond.code yX7_init cX7_init 1 none ∈ WB := wi_0 _ (List.mem_of_getElem? (i := 8) rfl)
theorem wm_9 : Cond.methodLink RX7 1 objectInit ∈ WB := wi_0 _ (List.mem_of_getElem? (i := 9) rfl)
theorem wm_10 : Cond.instanceMethod objectInit ∈ WB := wi_0 _ (List.mem_of_getElem? (i := 10) rfl)
theorem wm_11 : Cond.code objectInit ⟨#[0xb1]⟩ 1 none ∈ WB := wi_0 _ (List.mem_of_getElem? (i := 11) rfl)
theorem wm_12 : Cond.classLink RX7 7 RX1 ∈ WB := wi_0 _ (List.mem_of_getElem? (i := 12) rfl)
theorem wm_13 : Cond.instantiable RX1 2 ∈ WB := wi_0 _ (List.mem_of_getElem? (i := 13) rfl)
theorem wm_14 : Cond.initialized RX1 ∈ WB := wi_0 _ (List.mem_of_getElem? (i := 14) rfl)
theorem wm_15 : Cond.fieldLink RX7 10 "DryLoaf" "page" "LDryLoaf$Page;" ∈ WB := wi_0 _ (List.mem_of_getElem? (i := 15) rfl)
theorem wm_16 : Cond.classLink RX7 16 RX2 ∈ WB := wi_0 _ (List.mem_of_getElem? (i := 16) rfl)
theorem wm_17 : Cond.fieldLink RX7 18 "DryLoaf" "people" "[LDryLoaf$Person;" ∈ WB := wi_0 _ (List.mem_of_getElem? (i := 17) rfl)
theorem wm_18 : Cond.classLink RX7 22 RX4 ∈ WB := wi_0 _ (List.mem_of_getElem? (i := 18) rfl)
theorem wm_19 : Cond.instantiable RX4 7 ∈ WB := wi_0 _ (List.mem_of_getElem? (i := 19) rfl)
theorem wm_20 : Cond.initialized RX4 ∈ WB := wi_0 _ (List.mem_of_getElem? (i := 20) rfl)
theorem wm_21 : Cond.fieldLink RX7 25 "DryLoaf" "now" "LDryLoaf$Standing;" ∈ WB := wi_0 _ (List.mem_of_getElem? (i := 21) rfl)
theorem wm_22 : Cond.fieldLink RX7 29 "DryLoaf" "kept" "LDryLoaf$Standing;" ∈ WB := wi_0 _ (List.mem_of_getElem? (i := 22) rfl)
theorem wm_23 : Cond.classLink RX7 32 "[[J" ∈ WB := wi_0 _ (List.mem_of_getElem? (i := 23) rfl)
theorem wm_24 : Cond.arrayClass .long ∈ WB := wi_1 _ (List.mem_of_getElem? (i := 0) rfl)
theorem wm_25 : Cond.fieldLink RX7 34 "DryLoaf" "rows" "[[J" ∈ WB := wi_1 _ (List.mem_of_getElem? (i := 1) rfl)
theorem wm_26 : Cond.methodLink RX7 9 yX1_init ∈ WB := wi_1 _ (List.mem_of_getElem? (i := 2) rfl)
theorem wm_27 : Cond.instanceMethod yX1_init ∈ WB := wi_1 _ (List.mem_of_getElem? (i := 3) rfl)
theorem wm_28 : Cond.code yX1_init cX1_init 1 none ∈ WB := wi_1 _ (List.mem_of_getElem? (i := 4) rfl)
theorem wm_29 : Cond.methodLink RX1 3 objectInit ∈ WB := wi_1 _ (List.mem_of_getElem? (i := 5) rfl)
theorem wm_30 : Cond.arrayClass .int ∈ WB := wi_1 _ (List.mem_of_getElem? (i := 6) rfl)
theorem wm_31 : Cond.fieldLink RX1 9 "DryLoaf$Page" "codes" "[I" ∈ WB := wi_1 _ (List.mem_of_getElem? (i := 7) rfl)
theorem wm_32 : Cond.methodLink RX7 24 yX4_init ∈ WB := wi_1 _ (List.mem_of_getElem? (i := 8) rfl)
theorem wm_33 : Cond.instanceMethod yX4_init ∈ WB := wi_1 _ (List.mem_of_getElem? (i := 9) rfl)
theorem wm_34 : Cond.code yX4_init cX4_init 1 none ∈ WB := wi_1 _ (List.mem_of_getElem? (i := 10) rfl)
theorem wm_35 : Cond.methodLink RX4 3 objectInit ∈ WB := wi_1 _ (List.mem_of_getElem? (i := 11) rfl)
theorem wm_36 : Cond.fieldLink RX4 9 "DryLoaf$Standing" "butter" "[I" ∈ WB := wi_1 _ (List.mem_of_getElem? (i := 12) rfl)
theorem wm_37 : Cond.fieldLink RX4 15 "DryLoaf$Standing" "weights" "[J" ∈ WB := wi_1 _ (List.mem_of_getElem? (i := 13) rfl)
theorem wm_38 : Cond.fieldLink RX4 19 "DryLoaf$Standing" "ate" "[I" ∈ WB := wi_1 _ (List.mem_of_getElem? (i := 14) rfl)
theorem wm_39 : Cond.fieldLink RX4 22 "DryLoaf$Standing" "choked" "[I" ∈ WB := wi_1 _ (List.mem_of_getElem? (i := 15) rfl)
theorem wm_40 : Cond.fieldLink RX4 25 "DryLoaf$Standing" "butterBits" "[I" ∈ WB := wi_1 _ (List.mem_of_getElem? (i := 16) rfl)
theorem wm_41 : Cond.methodLink RL 12 yX8_init ∈ WB := wi_1 _ (List.mem_of_getElem? (i := 17) rfl)
theorem wm_42 : Cond.instanceMethod yX8_init ∈ WB := wi_1 _ (List.mem_of_getElem? (i := 18) rfl)
theorem wm_43 : Cond.code yX8_init cX8_init 1 none ∈ WB := wi_1 _ (List.mem_of_getElem? (i := 19) rfl)
theorem wm_44 : Cond.methodLink RX8 1 objectInit ∈ WB := wi_1 _ (List.mem_of_getElem? (i := 20) rfl)
theorem wm_45 : Cond.fieldLink RX8 7 "DryLoafModel" "kindOf" "[I" ∈ WB := wi_1 _ (List.mem_of_getElem? (i := 21) rfl)
theorem wm_46 : Cond.fieldLink RX8 13 "DryLoafModel" "fearOf" "[I" ∈ WB := wi_1 _ (List.mem_of_getElem? (i := 22) rfl)
theorem wm_47 : Cond.fieldLink RX8 16 "DryLoafModel" "oddsOf" "[I" ∈ WB := wi_1 _ (List.mem_of_getElem? (i := 23) rfl)
theorem wm_48 : Cond.fieldLink RX8 19 "DryLoafModel" "butterOf" "[I" ∈ WB := wi_2 _ (List.mem_of_getElem? (i := 0) rfl)
theorem wm_49 : Cond.fieldLink RX8 22 "DryLoafModel" "ateOf" "[I" ∈ WB := wi_2 _ (List.mem_of_getElem? (i := 1) rfl)
theorem wm_50 : Cond.fieldLink RX8 25 "DryLoafModel" "chokedOf" "[I" ∈ WB := wi_2 _ (List.mem_of_getElem? (i := 2) rfl)
theorem wm_51 : Cond.fieldLink RX8 28 "DryLoafModel" "weightOf" "[J" ∈ WB := wi_2 _ (List.mem_of_getElem? (i := 3) rfl)
theorem wm_52 : Cond.fieldLink RX8 32 "DryLoafModel" "heardOne" "[I" ∈ WB := wi_2 _ (List.mem_of_getElem? (i := 4) rfl)
theorem wm_53 : Cond.fieldLink RX8 35 "DryLoafModel" "heardDid" "[I" ∈ WB := wi_2 _ (List.mem_of_getElem? (i := 5) rfl)
theorem wm_54 : Cond.fieldLink RX8 38 "DryLoafModel" "heardChoked" "[I" ∈ WB := wi_2 _ (List.mem_of_getElem? (i := 6) rfl)
theorem wm_55 : Cond.fieldLink RX8 41 "DryLoafModel" "heardDry" "[I" ∈ WB := wi_2 _ (List.mem_of_getElem? (i := 7) rfl)
theorem wm_56 : Cond.arrayClass .byte ∈ WB := wi_2 _ (List.mem_of_getElem? (i := 8) rfl)
theorem wm_57 : Cond.fieldLink RX8 44 "DryLoafModel" "page" "[B" ∈ WB := wi_2 _ (List.mem_of_getElem? (i := 9) rfl)
theorem wm_58 : Cond.fieldLink RX8 48 "DryLoafModel" "thought" "[J" ∈ WB := wi_2 _ (List.mem_of_getElem? (i := 10) rfl)
theorem wm_59 : Cond.fieldLink RX8 51 "DryLoafModel" "keptButter" "[I" ∈ WB := wi_2 _ (List.mem_of_getElem? (i := 11) rfl)
theorem wm_60 : Cond.fieldLink RX8 54 "DryLoafModel" "keptAteOf" "[I" ∈ WB := wi_2 _ (List.mem_of_getElem? (i := 12) rfl)
theorem wm_61 : Cond.fieldLink RX8 57 "DryLoafModel" "keptChokedOf" "[I" ∈ WB := wi_2 _ (List.mem_of_getElem? (i := 13) rfl)
theorem wm_62 : Cond.fieldLink RX8 60 "DryLoafModel" "keptWeight" "[J" ∈ WB := wi_2 _ (List.mem_of_getElem? (i := 14) rfl)
theorem wm_63 : Cond.fieldLink RX8 63 "DryLoafModel" "keptOne" "[I" ∈ WB := wi_2 _ (List.mem_of_getElem? (i := 15) rfl)
theorem wm_64 : Cond.fieldLink RX8 66 "DryLoafModel" "keptDid" "[I" ∈ WB := wi_2 _ (List.mem_of_getElem? (i := 16) rfl)
theorem wm_65 : Cond.fieldLink RX8 69 "DryLoafModel" "keptChoked" "[I" ∈ WB := wi_2 _ (List.mem_of_getElem? (i := 17) rfl)
theorem wm_66 : Cond.fieldLink RX8 72 "DryLoafModel" "keptHeardDry" "[I" ∈ WB := wi_2 _ (List.mem_of_getElem? (i := 18) rfl)
theorem wm_67 : Cond.methodLink RL 13 yX7_letter ∈ WB := wi_2 _ (List.mem_of_getElem? (i := 19) rfl)
theorem wm_68 : Cond.instanceMethod yX7_letter ∈ WB := wi_2 _ (List.mem_of_getElem? (i := 20) rfl)
theorem wm_69 : Cond.selects RX7 yX7_letter yX7_letter ∈ WB := wi_2 _ (List.mem_of_getElem? (i := 21) rfl)
theorem wm_70 : Cond.code yX7_letter cX7_letter 2 (some .int) ∈ WB := wi_2 _ (List.mem_of_getElem? (i := 22) rfl)
theorem wm_71 : Cond.fieldLink RX7 41 "DryLoaf$Page" "size" "I" ∈ WB := wi_2 _ (List.mem_of_getElem? (i := 23) rfl)
theorem wm_72 : Cond.methodLink RX7 37 yX1_write ∈ WB := wi_3 _ (List.mem_of_getElem? (i := 0) rfl)
theorem wm_73 : Cond.instanceMethod yX1_write ∈ WB := wi_3 _ (List.mem_of_getElem? (i := 1) rfl)
theorem wm_74 : Cond.selects RX1 yX1_write yX1_write ∈ WB := wi_3 _ (List.mem_of_getElem? (i := 2) rfl)
theorem wm_75 : Cond.code yX1_write cX1_write 2 (some .boolean) ∈ WB := wi_3 _ (List.mem_of_getElem? (i := 3) rfl)
theorem wm_76 : Cond.fieldLink RX1 15 "DryLoaf$Page" "size" "I" ∈ WB := wi_3 _ (List.mem_of_getElem? (i := 4) rfl)
theorem wm_77 : Cond.methodLink RL 17 yX8_letter ∈ WB := wi_3 _ (List.mem_of_getElem? (i := 5) rfl)
theorem wm_78 : Cond.instanceMethod yX8_letter ∈ WB := wi_3 _ (List.mem_of_getElem? (i := 6) rfl)
theorem wm_79 : Cond.selects RX8 yX8_letter yX8_letter ∈ WB := wi_3 _ (List.mem_of_getElem? (i := 7) rfl)
theorem wm_80 : Cond.code yX8_letter cX8_letter 2 (some .int) ∈ WB := wi_3 _ (List.mem_of_getElem? (i := 8) rfl)
theorem wm_81 : Cond.fieldLink RX8 83 "DryLoafModel" "pageLength" "I" ∈ WB := wi_3 _ (List.mem_of_getElem? (i := 9) rfl)
theorem wm_82 : Cond.methodLink RX8 79 yX8_within ∈ WB := wi_3 _ (List.mem_of_getElem? (i := 10) rfl)
theorem wm_83 : Cond.static yX8_within ∈ WB := wi_3 _ (List.mem_of_getElem? (i := 11) rfl)
theorem wm_84 : Cond.code yX8_within cX8_within 3 (some .boolean) ∈ WB := wi_3 _ (List.mem_of_getElem? (i := 12) rfl)
theorem wm_85 : Cond.methodLink RL 18 yX7_blank ∈ WB := wi_3 _ (List.mem_of_getElem? (i := 13) rfl)
theorem wm_86 : Cond.instanceMethod yX7_blank ∈ WB := wi_3 _ (List.mem_of_getElem? (i := 14) rfl)
theorem wm_87 : Cond.selects RX7 yX7_blank yX7_blank ∈ WB := wi_3 _ (List.mem_of_getElem? (i := 15) rfl)
theorem wm_88 : Cond.code yX7_blank cX7_blank 2 (some .int) ∈ WB := wi_3 _ (List.mem_of_getElem? (i := 16) rfl)
theorem wm_89 : Cond.methodLink RL 22 yX8_blank ∈ WB := wi_3 _ (List.mem_of_getElem? (i := 17) rfl)
theorem wm_90 : Cond.instanceMethod yX8_blank ∈ WB := wi_3 _ (List.mem_of_getElem? (i := 18) rfl)
theorem wm_91 : Cond.selects RX8 yX8_blank yX8_blank ∈ WB := wi_3 _ (List.mem_of_getElem? (i := 19) rfl)
theorem wm_92 : Cond.code yX8_blank cX8_blank 2 (some .int) ∈ WB := wi_3 _ (List.mem_of_getElem? (i := 20) rfl)
theorem wm_93 : Cond.methodLink RL 23 yX7_fault ∈ WB := wi_3 _ (List.mem_of_getElem? (i := 21) rfl)
theorem wm_94 : Cond.instanceMethod yX7_fault ∈ WB := wi_3 _ (List.mem_of_getElem? (i := 22) rfl)
theorem wm_95 : Cond.selects RX7 yX7_fault yX7_fault ∈ WB := wi_3 _ (List.mem_of_getElem? (i := 23) rfl)
theorem wm_96 : Cond.code yX7_fault cX7_fault 1 (some .int) ∈ WB := wi_4 _ (List.mem_of_getElem? (i := 0) rfl)
theorem wm_97 : Cond.methodLink RX7 45 yX1_firstFault ∈ WB := wi_4 _ (List.mem_of_getElem? (i := 1) rfl)
theorem wm_98 : Cond.instanceMethod yX1_firstFault ∈ WB := wi_4 _ (List.mem_of_getElem? (i := 2) rfl)
theorem wm_99 : Cond.selects RX1 yX1_firstFault yX1_firstFault ∈ WB := wi_4 _ (List.mem_of_getElem? (i := 3) rfl)
theorem wm_100 : Cond.code yX1_firstFault cX1_firstFault 4 (some .int) ∈ WB := wi_4 _ (List.mem_of_getElem? (i := 4) rfl)
theorem wm_101 : Cond.methodLink RX1 23 yX1_fitsAccused ∈ WB := wi_4 _ (List.mem_of_getElem? (i := 5) rfl)
theorem wm_102 : Cond.instanceMethod yX1_fitsAccused ∈ WB := wi_4 _ (List.mem_of_getElem? (i := 6) rfl)
theorem wm_103 : Cond.selects RX1 yX1_fitsAccused yX1_fitsAccused ∈ WB := wi_4 _ (List.mem_of_getElem? (i := 7) rfl)
theorem wm_104 : Cond.code yX1_fitsAccused cX1_fitsAccused 2 (some .boolean) ∈ WB := wi_4 _ (List.mem_of_getElem? (i := 8) rfl)
theorem wm_105 : Cond.methodLink RX1 44 yX1_kindAt ∈ WB := wi_4 _ (List.mem_of_getElem? (i := 9) rfl)
theorem wm_106 : Cond.instanceMethod yX1_kindAt ∈ WB := wi_4 _ (List.mem_of_getElem? (i := 10) rfl)
theorem wm_107 : Cond.selects RX1 yX1_kindAt yX1_kindAt ∈ WB := wi_4 _ (List.mem_of_getElem? (i := 11) rfl)
theorem wm_108 : Cond.code yX1_kindAt cX1_kindAt 2 (some .int) ∈ WB := wi_4 _ (List.mem_of_getElem? (i := 12) rfl)
theorem wm_109 : Cond.methodLink RX1 19 yX1_codeAt ∈ WB := wi_4 _ (List.mem_of_getElem? (i := 13) rfl)
theorem wm_110 : Cond.instanceMethod yX1_codeAt ∈ WB := wi_4 _ (List.mem_of_getElem? (i := 14) rfl)
theorem wm_111 : Cond.selects RX1 yX1_codeAt yX1_codeAt ∈ WB := wi_4 _ (List.mem_of_getElem? (i := 15) rfl)
theorem wm_112 : Cond.code yX1_codeAt cX1_codeAt 2 (some .int) ∈ WB := wi_4 _ (List.mem_of_getElem? (i := 16) rfl)
theorem wm_113 : Cond.methodLink RX1 69 yJ0_indexOf_0f7a4 ∈ WB := wi_4 _ (List.mem_of_getElem? (i := 17) rfl)
theorem wm_114 : Cond.instanceMethod yJ0_indexOf_0f7a4 ∈ WB := wi_4 _ (List.mem_of_getElem? (i := 18) rfl)
theorem wm_115 : Cond.selects RJ0 yJ0_indexOf_0f7a4 yJ0_indexOf_0f7a4 ∈ WB := wi_4 _ (List.mem_of_getElem? (i := 19) rfl)
theorem wm_116 : Cond.initialized RJ0 ∈ WB := wi_4 _ (List.mem_of_getElem? (i := 20) rfl)
theorem wm_117 : Cond.code yJ0_indexOf_0f7a4 cJ0_indexOf_0f7a4 2 (some .int) ∈ WB := wi_4 _ (List.mem_of_getElem? (i := 21) rfl)
theorem wm_118 : Cond.methodLink RJ0 633 yJ0_indexOf_7cf53 ∈ WB := wi_4 _ (List.mem_of_getElem? (i := 22) rfl)
theorem wm_119 : Cond.instanceMethod yJ0_indexOf_7cf53 ∈ WB := wi_4 _ (List.mem_of_getElem? (i := 23) rfl)
theorem wm_120 : Cond.selects RJ0 yJ0_indexOf_7cf53 yJ0_indexOf_7cf53 ∈ WB := wi_5 _ (List.mem_of_getElem? (i := 0) rfl)
theorem wm_121 : Cond.code yJ0_indexOf_7cf53 cJ0_indexOf_7cf53 3 (some .int) ∈ WB := wi_5 _ (List.mem_of_getElem? (i := 1) rfl)
theorem wm_122 : Cond.fieldLink RJ0 9 "java/lang/String" "value" "[B" ∈ WB := wi_5 _ (List.mem_of_getElem? (i := 2) rfl)
theorem wm_123 : Cond.methodLink RJ0 492 yJ0_isLatin1_aae02 ∈ WB := wi_5 _ (List.mem_of_getElem? (i := 3) rfl)
theorem wm_124 : Cond.instanceMethod yJ0_isLatin1_aae02 ∈ WB := wi_5 _ (List.mem_of_getElem? (i := 4) rfl)
theorem wm_125 : Cond.selects RJ0 yJ0_isLatin1_aae02 yJ0_isLatin1_aae02 ∈ WB := wi_5 _ (List.mem_of_getElem? (i := 5) rfl)
theorem wm_126 : Cond.code yJ0_isLatin1_aae02 cJ0_isLatin1_aae02 1 (some .boolean) ∈ WB := wi_5 _ (List.mem_of_getElem? (i := 6) rfl)
theorem wm_127 : Cond.fieldLink RJ0 38 "java/lang/String" "COMPACT_STRINGS" "Z" ∈ WB := wi_5 _ (List.mem_of_getElem? (i := 7) rfl)
theorem wm_128 : Cond.fieldLink RJ0 15 "java/lang/String" "coder" "B" ∈ WB := wi_5 _ (List.mem_of_getElem? (i := 8) rfl)
theorem wm_129 : Cond.methodLink RJ0 505 yJ0_length_8abf5 ∈ WB := wi_5 _ (List.mem_of_getElem? (i := 9) rfl)
theorem wm_130 : Cond.instanceMethod yJ0_length_8abf5 ∈ WB := wi_5 _ (List.mem_of_getElem? (i := 10) rfl)
theorem wm_131 : Cond.selects RJ0 yJ0_length_8abf5 yJ0_length_8abf5 ∈ WB := wi_5 _ (List.mem_of_getElem? (i := 11) rfl)
theorem wm_132 : Cond.code yJ0_length_8abf5 cJ0_length_8abf5 1 (some .int) ∈ WB := wi_5 _ (List.mem_of_getElem? (i := 12) rfl)
theorem wm_133 : Cond.methodLink RJ0 335 yJ0_coder_7d493 ∈ WB := wi_5 _ (List.mem_of_getElem? (i := 13) rfl)
theorem wm_134 : Cond.instanceMethod yJ0_coder_7d493 ∈ WB := wi_5 _ (List.mem_of_getElem? (i := 14) rfl)
theorem wm_135 : Cond.selects RJ0 yJ0_coder_7d493 yJ0_coder_7d493 ∈ WB := wi_5 _ (List.mem_of_getElem? (i := 15) rfl)
theorem wm_136 : Cond.code yJ0_coder_7d493 cJ0_coder_7d493 1 (some .byte) ∈ WB := wi_5 _ (List.mem_of_getElem? (i := 16) rfl)
theorem wm_137 : Cond.methodLink RJ0 637 yJ1_indexOf_4cfef ∈ WB := wi_5 _ (List.mem_of_getElem? (i := 17) rfl)
theorem wm_138 : Cond.static yJ1_indexOf_4cfef ∈ WB := wi_5 _ (List.mem_of_getElem? (i := 18) rfl)
theorem wm_139 : Cond.initialized RJ1 ∈ WB := wi_5 _ (List.mem_of_getElem? (i := 19) rfl)
theorem wm_140 : Cond.code yJ1_indexOf_4cfef cJ1_indexOf_4cfef 4 (some .int) ∈ WB := wi_5 _ (List.mem_of_getElem? (i := 20) rfl)
theorem wm_141 : Cond.methodLink RJ1 92 Lib.Math.max.name ∈ WB := wi_5 _ (List.mem_of_getElem? (i := 21) rfl)
theorem wm_142 : Cond.static Lib.Math.max.name ∈ WB := wi_5 _ (List.mem_of_getElem? (i := 22) rfl)
theorem wm_143 : Cond.initialized "java/lang/Math" ∈ WB := wi_5 _ (List.mem_of_getElem? (i := 23) rfl)
theorem wm_144 : Cond.code Lib.Math.max.name Lib.Math.max.code 2 (some .int) ∈ WB := wi_6 _ (List.mem_of_getElem? (i := 0) rfl)
theorem wm_145 : Cond.methodLink RJ1 38 Lib.Math.min.name ∈ WB := wi_6 _ (List.mem_of_getElem? (i := 1) rfl)
theorem wm_146 : Cond.static Lib.Math.min.name ∈ WB := wi_6 _ (List.mem_of_getElem? (i := 2) rfl)
theorem wm_147 : Cond.code Lib.Math.min.name Lib.Math.min.code 2 (some .int) ∈ WB := wi_6 _ (List.mem_of_getElem? (i := 3) rfl)
theorem wm_148 : Cond.methodLink RJ1 88 yJ1_canEncode_9a6ad ∈ WB := wi_6 _ (List.mem_of_getElem? (i := 4) rfl)
theorem wm_149 : Cond.static yJ1_canEncode_9a6ad ∈ WB := wi_6 _ (List.mem_of_getElem? (i := 5) rfl)
theorem wm_150 : Cond.code yJ1_canEncode_9a6ad cJ1_canEncode_9a6ad 1 (some .boolean) ∈ WB := wi_6 _ (List.mem_of_getElem? (i := 6) rfl)
theorem wm_151 : Cond.methodLink RJ1 95 yJ1_indexOfChar_4cfef ∈ WB := wi_6 _ (List.mem_of_getElem? (i := 7) rfl)
theorem wm_152 : Cond.static yJ1_indexOfChar_4cfef ∈ WB := wi_6 _ (List.mem_of_getElem? (i := 8) rfl)
theorem wm_153 : Cond.code yJ1_indexOfChar_4cfef cJ1_indexOfChar_4cfef 6 (some .int) ∈ WB := wi_6 _ (List.mem_of_getElem? (i := 9) rfl)
theorem wm_154 : Cond.methodLink RJ0 640 yJ2_indexOf_4cfef ∈ WB := wi_6 _ (List.mem_of_getElem? (i := 10) rfl)
theorem wm_155 : Cond.static yJ2_indexOf_4cfef ∈ WB := wi_6 _ (List.mem_of_getElem? (i := 11) rfl)
theorem wm_156 : Cond.initialized RJ2 ∈ WB := wi_6 _ (List.mem_of_getElem? (i := 12) rfl)
theorem wm_157 : Cond.code yJ2_indexOf_4cfef cJ2_indexOf_4cfef 4 (some .int) ∈ WB := wi_6 _ (List.mem_of_getElem? (i := 13) rfl)
theorem wm_158 : Cond.methodLink RJ2 224 Lib.Math.max.name ∈ WB := wi_6 _ (List.mem_of_getElem? (i := 14) rfl)
theorem wm_159 : Cond.methodLink RJ2 183 Lib.Math.min.name ∈ WB := wi_6 _ (List.mem_of_getElem? (i := 15) rfl)
theorem wm_160 : Cond.constant RJ2 227 (65536) ∈ WB := wi_6 _ (List.mem_of_getElem? (i := 16) rfl)
theorem wm_161 : Cond.methodLink RJ2 228 yJ2_indexOfChar_4cfef ∈ WB := wi_6 _ (List.mem_of_getElem? (i := 17) rfl)
theorem wm_162 : Cond.static yJ2_indexOfChar_4cfef ∈ WB := wi_6 _ (List.mem_of_getElem? (i := 18) rfl)
theorem wm_163 : Cond.code yJ2_indexOfChar_4cfef cJ2_indexOfChar_4cfef 4 (some .int) ∈ WB := wi_6 _ (List.mem_of_getElem? (i := 19) rfl)
theorem wm_164 : Cond.methodLink RJ2 96 yJ2_checkBoundsBeginEnd_d044e ∈ WB := wi_6 _ (List.mem_of_getElem? (i := 20) rfl)
theorem wm_165 : Cond.static yJ2_checkBoundsBeginEnd_d044e ∈ WB := wi_6 _ (List.mem_of_getElem? (i := 21) rfl)
theorem wm_166 : Cond.code yJ2_checkBoundsBeginEnd_d044e cJ2_checkBoundsBeginEnd_d044e 3 none ∈ WB := wi_6 _ (List.mem_of_getElem? (i := 22) rfl)
theorem wm_167 : Cond.methodLink RJ2 48 yJ2_length_9d52b ∈ WB := wi_6 _ (List.mem_of_getElem? (i := 23) rfl)
theorem wm_168 : Cond.static yJ2_length_9d52b ∈ WB := wi_7 _ (List.mem_of_getElem? (i := 0) rfl)
theorem wm_169 : Cond.code yJ2_length_9d52b cJ2_length_9d52b 1 (some .int) ∈ WB := wi_7 _ (List.mem_of_getElem? (i := 1) rfl)
theorem wm_170 : Cond.methodLink RJ2 241 yJ0_checkBoundsBeginEnd_23922 ∈ WB := wi_7 _ (List.mem_of_getElem? (i := 2) rfl)
theorem wm_171 : Cond.static yJ0_checkBoundsBeginEnd_23922 ∈ WB := wi_7 _ (List.mem_of_getElem? (i := 3) rfl)
theorem wm_172 : Cond.code yJ0_checkBoundsBeginEnd_23922 cJ0_checkBoundsBeginEnd_23922 3 none ∈ WB := wi_7 _ (List.mem_of_getElem? (i := 4) rfl)
theorem wm_173 : Cond.fieldLink RJ0 1053 "jdk/internal/util/Preconditions" "SIOOBE_FORMATTER" "Ljava/util/function/BiFunction;" ∈ WB := wi_7 _ (List.mem_of_getElem? (i := 5) rfl)
theorem wm_174 : Cond.methodLink RJ0 1062 yJ3_checkFromToIndex_8c36e ∈ WB := wi_7 _ (List.mem_of_getElem? (i := 6) rfl)
theorem wm_175 : Cond.static yJ3_checkFromToIndex_8c36e ∈ WB := wi_7 _ (List.mem_of_getElem? (i := 7) rfl)
theorem wm_176 : Cond.initialized RJ3 ∈ WB := wi_7 _ (List.mem_of_getElem? (i := 8) rfl)
theorem wm_177 : Cond.code yJ3_checkFromToIndex_8c36e cJ3_checkFromToIndex_8c36e 4 (some .int) ∈ WB := wi_7 _ (List.mem_of_getElem? (i := 9) rfl)
theorem wm_178 : Cond.methodLink RJ2 244 yJ2_indexOfCharUnsafe_4cfef ∈ WB := wi_7 _ (List.mem_of_getElem? (i := 10) rfl)
theorem wm_179 : Cond.static yJ2_indexOfCharUnsafe_4cfef ∈ WB := wi_7 _ (List.mem_of_getElem? (i := 11) rfl)
theorem wm_180 : Cond.code yJ2_indexOfCharUnsafe_4cfef cJ2_indexOfCharUnsafe_4cfef 5 (some .int) ∈ WB := wi_7 _ (List.mem_of_getElem? (i := 12) rfl)
theorem wm_181 : Cond.methodLink RJ2 71 yJ2_getChar_3b067 ∈ WB := wi_7 _ (List.mem_of_getElem? (i := 13) rfl)
theorem wm_182 : Cond.static yJ2_getChar_3b067 ∈ WB := wi_7 _ (List.mem_of_getElem? (i := 14) rfl)
theorem wm_183 : Cond.code yJ2_getChar_3b067 cJ2_getChar_3b067 2 (some .char) ∈ WB := wi_7 _ (List.mem_of_getElem? (i := 15) rfl)
theorem wm_184 : Cond.fieldLink RJ2 44 "java/lang/StringUTF16" "$assertionsDisabled" "Z" ∈ WB := wi_7 _ (List.mem_of_getElem? (i := 16) rfl)
theorem wm_185 : Cond.fieldLink RJ2 59 "java/lang/StringUTF16" "HI_BYTE_SHIFT" "I" ∈ WB := wi_7 _ (List.mem_of_getElem? (i := 17) rfl)
theorem wm_186 : Cond.fieldLink RJ2 63 "java/lang/StringUTF16" "LO_BYTE_SHIFT" "I" ∈ WB := wi_7 _ (List.mem_of_getElem? (i := 18) rfl)
theorem wm_187 : Cond.methodLink RJ2 232 yJ2_indexOfSupplementary_4cfef ∈ WB := wi_7 _ (List.mem_of_getElem? (i := 19) rfl)
theorem wm_188 : Cond.static yJ2_indexOfSupplementary_4cfef ∈ WB := wi_7 _ (List.mem_of_getElem? (i := 20) rfl)
theorem wm_189 : Cond.code yJ2_indexOfSupplementary_4cfef cJ2_indexOfSupplementary_4cfef 7 (some .int) ∈ WB := wi_7 _ (List.mem_of_getElem? (i := 21) rfl)
theorem wm_190 : Cond.methodLink RJ2 164 yJ11_isValidCodePoint_9a6ad ∈ WB := wi_7 _ (List.mem_of_getElem? (i := 22) rfl)
theorem wm_191 : Cond.static yJ11_isValidCodePoint_9a6ad ∈ WB := wi_7 _ (List.mem_of_getElem? (i := 23) rfl)
theorem wm_192 : Cond.initialized RJ11 ∈ WB := wi_8 _ (List.mem_of_getElem? (i := 0) rfl)
theorem wm_193 : Cond.code yJ11_isValidCodePoint_9a6ad cJ11_isValidCodePoint_9a6ad 2 (some .boolean) ∈ WB := wi_8 _ (List.mem_of_getElem? (i := 1) rfl)
theorem wm_194 : Cond.methodLink RJ2 157 yJ11_highSurrogate_5068e ∈ WB := wi_8 _ (List.mem_of_getElem? (i := 2) rfl)
theorem wm_195 : Cond.static yJ11_highSurrogate_5068e ∈ WB := wi_8 _ (List.mem_of_getElem? (i := 3) rfl)
theorem wm_196 : Cond.code yJ11_highSurrogate_5068e cJ11_highSurrogate_5068e 1 (some .char) ∈ WB := wi_8 _ (List.mem_of_getElem? (i := 4) rfl)
theorem wm_197 : Cond.constant RJ11 110 (55232) ∈ WB := wi_8 _ (List.mem_of_getElem? (i := 5) rfl)
theorem wm_198 : Cond.methodLink RJ2 161 yJ11_lowSurrogate_5068e ∈ WB := wi_8 _ (List.mem_of_getElem? (i := 6) rfl)
theorem wm_199 : Cond.static yJ11_lowSurrogate_5068e ∈ WB := wi_8 _ (List.mem_of_getElem? (i := 7) rfl)
theorem wm_200 : Cond.code yJ11_lowSurrogate_5068e cJ11_lowSurrogate_5068e 1 (some .char) ∈ WB := wi_8 _ (List.mem_of_getElem? (i := 8) rfl)
theorem wm_201 : Cond.constant RJ11 76 (56320) ∈ WB := wi_8 _ (List.mem_of_getElem? (i := 9) rfl)
theorem wm_202 : Cond.methodLink RX1 27 yX1_isDigit ∈ WB := wi_8 _ (List.mem_of_getElem? (i := 10) rfl)
theorem wm_203 : Cond.instanceMethod yX1_isDigit ∈ WB := wi_8 _ (List.mem_of_getElem? (i := 11) rfl)
theorem wm_204 : Cond.selects RX1 yX1_isDigit yX1_isDigit ∈ WB := wi_8 _ (List.mem_of_getElem? (i := 12) rfl)
theorem wm_205 : Cond.code yX1_isDigit cX1_isDigit 4 (some .boolean) ∈ WB := wi_8 _ (List.mem_of_getElem? (i := 13) rfl)
theorem wm_206 : Cond.methodLink RX1 41 yX1_digitAt ∈ WB := wi_8 _ (List.mem_of_getElem? (i := 14) rfl)
theorem wm_207 : Cond.instanceMethod yX1_digitAt ∈ WB := wi_8 _ (List.mem_of_getElem? (i := 15) rfl)
theorem wm_208 : Cond.selects RX1 yX1_digitAt yX1_digitAt ∈ WB := wi_8 _ (List.mem_of_getElem? (i := 16) rfl)
theorem wm_209 : Cond.code yX1_digitAt cX1_digitAt 2 (some .int) ∈ WB := wi_8 _ (List.mem_of_getElem? (i := 17) rfl)
theorem wm_210 : Cond.methodLink RX1 64 yX1_fitsBehind ∈ WB := wi_8 _ (List.mem_of_getElem? (i := 18) rfl)
theorem wm_211 : Cond.instanceMethod yX1_fitsBehind ∈ WB := wi_8 _ (List.mem_of_getElem? (i := 19) rfl)
theorem wm_212 : Cond.selects RX1 yX1_fitsBehind yX1_fitsBehind ∈ WB := wi_8 _ (List.mem_of_getElem? (i := 20) rfl)
theorem wm_213 : Cond.code yX1_fitsBehind cX1_fitsBehind 4 (some .boolean) ∈ WB := wi_8 _ (List.mem_of_getElem? (i := 21) rfl)
theorem wm_214 : Cond.methodLink RL 26 yX8_fault ∈ WB := wi_8 _ (List.mem_of_getElem? (i := 22) rfl)
theorem wm_215 : Cond.instanceMethod yX8_fault ∈ WB := wi_8 _ (List.mem_of_getElem? (i := 23) rfl)
theorem wm_216 : Cond.selects RX8 yX8_fault yX8_fault ∈ WB := wi_9 _ (List.mem_of_getElem? (i := 0) rfl)
theorem wm_217 : Cond.code yX8_fault cX8_fault 1 (some .int) ∈ WB := wi_9 _ (List.mem_of_getElem? (i := 1) rfl)
theorem wm_218 : Cond.methodLink RX8 105 yX8_read ∈ WB := wi_9 _ (List.mem_of_getElem? (i := 2) rfl)
theorem wm_219 : Cond.instanceMethod yX8_read ∈ WB := wi_9 _ (List.mem_of_getElem? (i := 3) rfl)
theorem wm_220 : Cond.selects RX8 yX8_read yX8_read ∈ WB := wi_9 _ (List.mem_of_getElem? (i := 4) rfl)
theorem wm_221 : Cond.code yX8_read cX8_read 3 (some .int) ∈ WB := wi_9 _ (List.mem_of_getElem? (i := 5) rfl)
theorem wm_222 : Cond.fieldLink RX8 95 "DryLoafModel" "isWhole" "Z" ∈ WB := wi_9 _ (List.mem_of_getElem? (i := 6) rfl)
theorem wm_223 : Cond.fieldLink RX8 99 "DryLoafModel" "newMany" "I" ∈ WB := wi_9 _ (List.mem_of_getElem? (i := 7) rfl)
theorem wm_224 : Cond.methodLink RX8 102 yX8_readOne ∈ WB := wi_9 _ (List.mem_of_getElem? (i := 8) rfl)
theorem wm_225 : Cond.instanceMethod yX8_readOne ∈ WB := wi_9 _ (List.mem_of_getElem? (i := 9) rfl)
theorem wm_226 : Cond.selects RX8 yX8_readOne yX8_readOne ∈ WB := wi_9 _ (List.mem_of_getElem? (i := 10) rfl)
theorem wm_227 : Cond.code yX8_readOne cX8_readOne 2 (some .int) ∈ WB := wi_9 _ (List.mem_of_getElem? (i := 11) rfl)
theorem wm_228 : Cond.methodLink RX8 87 yX8_kindBy ∈ WB := wi_9 _ (List.mem_of_getElem? (i := 12) rfl)
theorem wm_229 : Cond.static yX8_kindBy ∈ WB := wi_9 _ (List.mem_of_getElem? (i := 13) rfl)
theorem wm_230 : Cond.code yX8_kindBy cX8_kindBy 1 (some .int) ∈ WB := wi_9 _ (List.mem_of_getElem? (i := 14) rfl)
theorem wm_231 : Cond.methodLink RX8 91 yX8_isFigure ∈ WB := wi_9 _ (List.mem_of_getElem? (i := 15) rfl)
theorem wm_232 : Cond.instanceMethod yX8_isFigure ∈ WB := wi_9 _ (List.mem_of_getElem? (i := 16) rfl)
theorem wm_233 : Cond.selects RX8 yX8_isFigure yX8_isFigure ∈ WB := wi_9 _ (List.mem_of_getElem? (i := 17) rfl)
theorem wm_234 : Cond.code yX8_isFigure cX8_isFigure 3 (some .boolean) ∈ WB := wi_9 _ (List.mem_of_getElem? (i := 18) rfl)
theorem wm_235 : Cond.methodLink RL 27 yX7_court ∈ WB := wi_9 _ (List.mem_of_getElem? (i := 19) rfl)
theorem wm_236 : Cond.instanceMethod yX7_court ∈ WB := wi_9 _ (List.mem_of_getElem? (i := 20) rfl)
theorem wm_237 : Cond.selects RX7 yX7_court yX7_court ∈ WB := wi_9 _ (List.mem_of_getElem? (i := 21) rfl)
theorem wm_238 : Cond.code yX7_court cX7_court 3 (some .int) ∈ WB := wi_9 _ (List.mem_of_getElem? (i := 22) rfl)
theorem wm_239 : Cond.fieldLink RX7 56 "DryLoaf" "many" "I" ∈ WB := wi_9 _ (List.mem_of_getElem? (i := 23) rfl)
theorem wm_240 : Cond.fieldLink RX7 71 "DryLoaf$Standing" "weights" "[J" ∈ WB := wi_10 _ (List.mem_of_getElem? (i := 0) rfl)
theorem wm_241 : Cond.fieldLink RX7 75 "DryLoaf$Person" "odds" "I" ∈ WB := wi_10 _ (List.mem_of_getElem? (i := 1) rfl)
theorem wm_242 : Cond.fieldLink RX7 78 "DryLoaf" "courtsRead" "I" ∈ WB := wi_10 _ (List.mem_of_getElem? (i := 2) rfl)
theorem wm_243 : Cond.methodLink RX7 49 yX1_isWhole ∈ WB := wi_10 _ (List.mem_of_getElem? (i := 3) rfl)
theorem wm_244 : Cond.instanceMethod yX1_isWhole ∈ WB := wi_10 _ (List.mem_of_getElem? (i := 4) rfl)
theorem wm_245 : Cond.selects RX1 yX1_isWhole yX1_isWhole ∈ WB := wi_10 _ (List.mem_of_getElem? (i := 5) rfl)
theorem wm_246 : Cond.code yX1_isWhole cX1_isWhole 1 (some .boolean) ∈ WB := wi_10 _ (List.mem_of_getElem? (i := 6) rfl)
theorem wm_247 : Cond.methodLink RX1 31 yX1_firstFault ∈ WB := wi_10 _ (List.mem_of_getElem? (i := 7) rfl)
theorem wm_248 : Cond.methodLink RX7 53 yX1_accusedCount ∈ WB := wi_10 _ (List.mem_of_getElem? (i := 8) rfl)
theorem wm_249 : Cond.instanceMethod yX1_accusedCount ∈ WB := wi_10 _ (List.mem_of_getElem? (i := 9) rfl)
theorem wm_250 : Cond.selects RX1 yX1_accusedCount yX1_accusedCount ∈ WB := wi_10 _ (List.mem_of_getElem? (i := 10) rfl)
theorem wm_251 : Cond.code yX1_accusedCount cX1_accusedCount 1 (some .int) ∈ WB := wi_10 _ (List.mem_of_getElem? (i := 11) rfl)
theorem wm_252 : Cond.methodLink RX1 35 Lib.Math.min.name ∈ WB := wi_10 _ (List.mem_of_getElem? (i := 12) rfl)
theorem wm_253 : Cond.methodLink RX7 59 yX1_digitAt ∈ WB := wi_10 _ (List.mem_of_getElem? (i := 13) rfl)
theorem wm_254 : Cond.methodLink RX7 63 yX4_clear ∈ WB := wi_10 _ (List.mem_of_getElem? (i := 14) rfl)
theorem wm_255 : Cond.instanceMethod yX4_clear ∈ WB := wi_10 _ (List.mem_of_getElem? (i := 15) rfl)
theorem wm_256 : Cond.selects RX4 yX4_clear yX4_clear ∈ WB := wi_10 _ (List.mem_of_getElem? (i := 16) rfl)
theorem wm_257 : Cond.code yX4_clear cX4_clear 3 none ∈ WB := wi_10 _ (List.mem_of_getElem? (i := 17) rfl)
theorem wm_258 : Cond.fieldLink RX4 31 "DryLoaf$Standing" "dry" "I" ∈ WB := wi_10 _ (List.mem_of_getElem? (i := 18) rfl)
theorem wm_259 : Cond.methodLink RX4 28 yX4_unhear ∈ WB := wi_10 _ (List.mem_of_getElem? (i := 19) rfl)
theorem wm_260 : Cond.instanceMethod yX4_unhear ∈ WB := wi_10 _ (List.mem_of_getElem? (i := 20) rfl)
theorem wm_261 : Cond.selects RX4 yX4_unhear yX4_unhear ∈ WB := wi_10 _ (List.mem_of_getElem? (i := 21) rfl)
theorem wm_262 : Cond.code yX4_unhear cX4_unhear 2 none ∈ WB := wi_10 _ (List.mem_of_getElem? (i := 22) rfl)
theorem wm_263 : Cond.fieldLink RX4 35 "DryLoaf$Standing" "heard" "I" ∈ WB := wi_10 _ (List.mem_of_getElem? (i := 23) rfl)
theorem wm_264 : Cond.methodLink RX7 67 yX1_readPerson ∈ WB := wi_11 _ (List.mem_of_getElem? (i := 0) rfl)
theorem wm_265 : Cond.instanceMethod yX1_readPerson ∈ WB := wi_11 _ (List.mem_of_getElem? (i := 1) rfl)
theorem wm_266 : Cond.selects RX1 yX1_readPerson yX1_readPerson ∈ WB := wi_11 _ (List.mem_of_getElem? (i := 2) rfl)
theorem wm_267 : Cond.code yX1_readPerson cX1_readPerson 5 (some (.object "DryLoaf$Person")) ∈ WB := wi_11 _ (List.mem_of_getElem? (i := 3) rfl)
theorem wm_268 : Cond.classLink RX1 47 RX0 ∈ WB := wi_11 _ (List.mem_of_getElem? (i := 4) rfl)
theorem wm_269 : Cond.instantiable RX0 2 ∈ WB := wi_11 _ (List.mem_of_getElem? (i := 5) rfl)
theorem wm_270 : Cond.initialized RX0 ∈ WB := wi_11 _ (List.mem_of_getElem? (i := 6) rfl)
theorem wm_271 : Cond.classLink RX1 52 RX6 ∈ WB := wi_11 _ (List.mem_of_getElem? (i := 7) rfl)
theorem wm_272 : Cond.instantiable RX6 2 ∈ WB := wi_11 _ (List.mem_of_getElem? (i := 8) rfl)
theorem wm_273 : Cond.initialized RX6 ∈ WB := wi_11 _ (List.mem_of_getElem? (i := 9) rfl)
theorem wm_274 : Cond.classLink RX1 55 RX3 ∈ WB := wi_11 _ (List.mem_of_getElem? (i := 10) rfl)
theorem wm_275 : Cond.instantiable RX3 2 ∈ WB := wi_11 _ (List.mem_of_getElem? (i := 11) rfl)
theorem wm_276 : Cond.initialized RX3 ∈ WB := wi_11 _ (List.mem_of_getElem? (i := 12) rfl)
theorem wm_277 : Cond.classLink RX1 58 RX5 ∈ WB := wi_11 _ (List.mem_of_getElem? (i := 13) rfl)
theorem wm_278 : Cond.instantiable RX5 2 ∈ WB := wi_11 _ (List.mem_of_getElem? (i := 14) rfl)
theorem wm_279 : Cond.initialized RX5 ∈ WB := wi_11 _ (List.mem_of_getElem? (i := 15) rfl)
theorem wm_280 : Cond.classLink RX1 61 RX2 ∈ WB := wi_11 _ (List.mem_of_getElem? (i := 16) rfl)
theorem wm_281 : Cond.instantiable RX2 2 ∈ WB := wi_11 _ (List.mem_of_getElem? (i := 17) rfl)
theorem wm_282 : Cond.initialized RX2 ∈ WB := wi_11 _ (List.mem_of_getElem? (i := 18) rfl)
theorem wm_283 : Cond.methodLink RX1 49 yX0_init ∈ WB := wi_11 _ (List.mem_of_getElem? (i := 19) rfl)
theorem wm_284 : Cond.instanceMethod yX0_init ∈ WB := wi_11 _ (List.mem_of_getElem? (i := 20) rfl)
theorem wm_285 : Cond.code yX0_init cX0_init 3 none ∈ WB := wi_11 _ (List.mem_of_getElem? (i := 21) rfl)
theorem wm_286 : Cond.methodLink RX0 3 yX2_init ∈ WB := wi_11 _ (List.mem_of_getElem? (i := 22) rfl)
theorem wm_287 : Cond.instanceMethod yX2_init ∈ WB := wi_11 _ (List.mem_of_getElem? (i := 23) rfl)
theorem wm_288 : Cond.code yX2_init cX2_init 3 none ∈ WB := wi_12 _ (List.mem_of_getElem? (i := 0) rfl)
theorem wm_289 : Cond.methodLink RX2 3 objectInit ∈ WB := wi_12 _ (List.mem_of_getElem? (i := 1) rfl)
theorem wm_290 : Cond.fieldLink RX2 9 "DryLoaf$Person" "fear" "I" ∈ WB := wi_12 _ (List.mem_of_getElem? (i := 2) rfl)
theorem wm_291 : Cond.fieldLink RX2 15 "DryLoaf$Person" "odds" "I" ∈ WB := wi_12 _ (List.mem_of_getElem? (i := 3) rfl)
theorem wm_292 : Cond.methodLink RX1 54 yX6_init ∈ WB := wi_12 _ (List.mem_of_getElem? (i := 4) rfl)
theorem wm_293 : Cond.instanceMethod yX6_init ∈ WB := wi_12 _ (List.mem_of_getElem? (i := 5) rfl)
theorem wm_294 : Cond.code yX6_init cX6_init 3 none ∈ WB := wi_12 _ (List.mem_of_getElem? (i := 6) rfl)
theorem wm_295 : Cond.methodLink RX6 3 yX2_init ∈ WB := wi_12 _ (List.mem_of_getElem? (i := 7) rfl)
theorem wm_296 : Cond.methodLink RX1 57 yX3_init ∈ WB := wi_12 _ (List.mem_of_getElem? (i := 8) rfl)
theorem wm_297 : Cond.instanceMethod yX3_init ∈ WB := wi_12 _ (List.mem_of_getElem? (i := 9) rfl)
theorem wm_298 : Cond.code yX3_init cX3_init 3 none ∈ WB := wi_12 _ (List.mem_of_getElem? (i := 10) rfl)
theorem wm_299 : Cond.methodLink RX3 3 yX2_init ∈ WB := wi_12 _ (List.mem_of_getElem? (i := 11) rfl)
theorem wm_300 : Cond.methodLink RX1 60 yX5_init ∈ WB := wi_12 _ (List.mem_of_getElem? (i := 12) rfl)
theorem wm_301 : Cond.instanceMethod yX5_init ∈ WB := wi_12 _ (List.mem_of_getElem? (i := 13) rfl)
theorem wm_302 : Cond.code yX5_init cX5_init 3 none ∈ WB := wi_12 _ (List.mem_of_getElem? (i := 14) rfl)
theorem wm_303 : Cond.methodLink RX5 3 yX0_init ∈ WB := wi_12 _ (List.mem_of_getElem? (i := 15) rfl)
theorem wm_304 : Cond.methodLink RX1 63 yX2_init ∈ WB := wi_12 _ (List.mem_of_getElem? (i := 16) rfl)
theorem wm_305 : Cond.methodLink RL 30 yX8_court ∈ WB := wi_12 _ (List.mem_of_getElem? (i := 17) rfl)
theorem wm_306 : Cond.instanceMethod yX8_court ∈ WB := wi_12 _ (List.mem_of_getElem? (i := 18) rfl)
theorem wm_307 : Cond.selects RX8 yX8_court yX8_court ∈ WB := wi_12 _ (List.mem_of_getElem? (i := 19) rfl)
theorem wm_308 : Cond.code yX8_court cX8_court 3 (some .int) ∈ WB := wi_12 _ (List.mem_of_getElem? (i := 20) rfl)
theorem wm_309 : Cond.fieldLink RX8 109 "DryLoafModel" "accused" "I" ∈ WB := wi_12 _ (List.mem_of_getElem? (i := 21) rfl)
theorem wm_310 : Cond.fieldLink RX8 112 "DryLoafModel" "dry" "I" ∈ WB := wi_12 _ (List.mem_of_getElem? (i := 22) rfl)
theorem wm_311 : Cond.fieldLink RX8 115 "DryLoafModel" "courts" "I" ∈ WB := wi_12 _ (List.mem_of_getElem? (i := 23) rfl)
theorem wm_312 : Cond.fieldLink RX8 118 "DryLoafModel" "ate" "I" ∈ WB := wi_13 _ (List.mem_of_getElem? (i := 0) rfl)
theorem wm_313 : Cond.fieldLink RX8 121 "DryLoafModel" "heard" "I" ∈ WB := wi_13 _ (List.mem_of_getElem? (i := 1) rfl)
theorem wm_314 : Cond.methodLink RL 31 yX7_about ∈ WB := wi_13 _ (List.mem_of_getElem? (i := 2) rfl)
theorem wm_315 : Cond.instanceMethod yX7_about ∈ WB := wi_13 _ (List.mem_of_getElem? (i := 3) rfl)
theorem wm_316 : Cond.selects RX7 yX7_about yX7_about ∈ WB := wi_13 _ (List.mem_of_getElem? (i := 4) rfl)
theorem wm_317 : Cond.code yX7_about cX7_about 4 (some .int) ∈ WB := wi_13 _ (List.mem_of_getElem? (i := 5) rfl)
theorem wm_318 : Cond.fieldLink RX7 87 "DryLoaf$Person" "fear" "I" ∈ WB := wi_13 _ (List.mem_of_getElem? (i := 6) rfl)
theorem wm_319 : Cond.fieldLink RX7 90 "DryLoaf$Standing" "butter" "[I" ∈ WB := wi_13 _ (List.mem_of_getElem? (i := 7) rfl)
theorem wm_320 : Cond.fieldLink RX7 94 "DryLoaf$Standing" "dry" "I" ∈ WB := wi_13 _ (List.mem_of_getElem? (i := 8) rfl)
theorem wm_321 : Cond.fieldLink RX7 101 "DryLoaf$Standing" "ate" "[I" ∈ WB := wi_13 _ (List.mem_of_getElem? (i := 9) rfl)
theorem wm_322 : Cond.fieldLink RX7 104 "DryLoaf$Standing" "choked" "[I" ∈ WB := wi_13 _ (List.mem_of_getElem? (i := 10) rfl)
theorem wm_323 : Cond.methodLink RX7 81 yX7_personAt ∈ WB := wi_13 _ (List.mem_of_getElem? (i := 11) rfl)
theorem wm_324 : Cond.instanceMethod yX7_personAt ∈ WB := wi_13 _ (List.mem_of_getElem? (i := 12) rfl)
theorem wm_325 : Cond.selects RX7 yX7_personAt yX7_personAt ∈ WB := wi_13 _ (List.mem_of_getElem? (i := 13) rfl)
theorem wm_326 : Cond.code yX7_personAt cX7_personAt 2 (some (.object "DryLoaf$Person")) ∈ WB := wi_13 _ (List.mem_of_getElem? (i := 14) rfl)
theorem wm_327 : Cond.methodLink RX7 84 ⟨"DryLoaf$Person", "kind", "()I"⟩ ∈ WB := wi_13 _ (List.mem_of_getElem? (i := 15) rfl)
theorem wm_328 : Cond.sameMethod "DryLoaf$Person" "DryLoaf$Person" "kind" "()I" ∈ WB := wi_13 _ (List.mem_of_getElem? (i := 16) rfl)
theorem wm_329 : Cond.instanceMethod ⟨"DryLoaf$Person", "kind", "()I"⟩ ∈ WB := wi_13 _ (List.mem_of_getElem? (i := 17) rfl)
theorem wm_330 : Cond.selects RX0 ⟨"DryLoaf$Person", "kind", "()I"⟩ yX0_kind ∈ WB := wi_13 _ (List.mem_of_getElem? (i := 18) rfl)
theorem wm_331 : Cond.instanceMethod yX0_kind ∈ WB := wi_13 _ (List.mem_of_getElem? (i := 19) rfl)
theorem wm_332 : Cond.code yX0_kind cX0_kind 1 (some .int) ∈ WB := wi_13 _ (List.mem_of_getElem? (i := 20) rfl)
theorem wm_333 : Cond.code yX2_kind cX2_kind 1 (some .int) ∈ WB := wi_13 _ (List.mem_of_getElem? (i := 21) rfl)
theorem wm_334 : Cond.selects RX2 yX2_kind yX2_kind ∈ WB := wi_14 _ (List.mem_of_getElem? (i := 0) rfl)
theorem wm_335 : Cond.selects RX3 ⟨"DryLoaf$Person", "kind", "()I"⟩ yX3_kind ∈ WB := wi_14 _ (List.mem_of_getElem? (i := 1) rfl)
theorem wm_336 : Cond.instanceMethod yX3_kind ∈ WB := wi_14 _ (List.mem_of_getElem? (i := 2) rfl)
theorem wm_337 : Cond.code yX3_kind cX3_kind 1 (some .int) ∈ WB := wi_14 _ (List.mem_of_getElem? (i := 3) rfl)
theorem wm_338 : Cond.selects RX5 ⟨"DryLoaf$Person", "kind", "()I"⟩ yX5_kind ∈ WB := wi_14 _ (List.mem_of_getElem? (i := 4) rfl)
theorem wm_339 : Cond.instanceMethod yX5_kind ∈ WB := wi_14 _ (List.mem_of_getElem? (i := 5) rfl)
theorem wm_340 : Cond.code yX5_kind cX5_kind 1 (some .int) ∈ WB := wi_14 _ (List.mem_of_getElem? (i := 6) rfl)
theorem wm_341 : Cond.selects RX6 ⟨"DryLoaf$Person", "kind", "()I"⟩ yX6_kind ∈ WB := wi_14 _ (List.mem_of_getElem? (i := 7) rfl)
theorem wm_342 : Cond.instanceMethod yX6_kind ∈ WB := wi_14 _ (List.mem_of_getElem? (i := 8) rfl)
theorem wm_343 : Cond.code yX6_kind cX6_kind 1 (some .int) ∈ WB := wi_14 _ (List.mem_of_getElem? (i := 9) rfl)
theorem wm_344 : Cond.methodLink RX7 97 ⟨"DryLoaf$Person", "tenths", "(ZII)I"⟩ ∈ WB := wi_14 _ (List.mem_of_getElem? (i := 10) rfl)
theorem wm_345 : Cond.sameMethod "DryLoaf$Person" "DryLoaf$Person" "tenths" "(ZII)I" ∈ WB := wi_14 _ (List.mem_of_getElem? (i := 11) rfl)
theorem wm_346 : Cond.selects RX0 ⟨"DryLoaf$Person", "tenths", "(ZII)I"⟩ yX2_tenths ∈ WB := wi_14 _ (List.mem_of_getElem? (i := 12) rfl)
theorem wm_347 : Cond.instanceMethod yX2_tenths ∈ WB := wi_14 _ (List.mem_of_getElem? (i := 13) rfl)
theorem wm_348 : Cond.code yX2_tenths cX2_tenths 4 (some .int) ∈ WB := wi_14 _ (List.mem_of_getElem? (i := 14) rfl)
theorem wm_349 : Cond.methodLink RX2 22 Lib.Math.min.name ∈ WB := wi_14 _ (List.mem_of_getElem? (i := 15) rfl)
theorem wm_350 : Cond.methodLink RX2 28 Lib.Math.max.name ∈ WB := wi_14 _ (List.mem_of_getElem? (i := 16) rfl)
theorem wm_351 : Cond.methodLink RX2 18 ⟨"DryLoaf$Person", "dread", "(Z)I"⟩ ∈ WB := wi_14 _ (List.mem_of_getElem? (i := 17) rfl)
theorem wm_352 : Cond.sameMethod "DryLoaf$Person" "DryLoaf$Person" "dread" "(Z)I" ∈ WB := wi_14 _ (List.mem_of_getElem? (i := 18) rfl)
theorem wm_353 : Cond.instanceMethod ⟨"DryLoaf$Person", "dread", "(Z)I"⟩ ∈ WB := wi_14 _ (List.mem_of_getElem? (i := 19) rfl)
theorem wm_354 : Cond.selects RX0 ⟨"DryLoaf$Person", "dread", "(Z)I"⟩ yX0_dread ∈ WB := wi_14 _ (List.mem_of_getElem? (i := 20) rfl)
theorem wm_355 : Cond.instanceMethod yX0_dread ∈ WB := wi_14 _ (List.mem_of_getElem? (i := 21) rfl)
theorem wm_356 : Cond.code yX0_dread cX0_dread 2 (some .int) ∈ WB := wi_14 _ (List.mem_of_getElem? (i := 22) rfl)
theorem wm_357 : Cond.fieldLink RX0 9 "DryLoaf$Hardened" "fear" "I" ∈ WB := wi_14 _ (List.mem_of_getElem? (i := 23) rfl)
theorem wm_358 : Cond.sameField "DryLoaf$Hardened" "DryLoaf$Person" "fear" "I" ∈ WB := wi_15 _ (List.mem_of_getElem? (i := 0) rfl)
theorem wm_359 : Cond.code yX2_dread cX2_dread 2 (some .int) ∈ WB := wi_15 _ (List.mem_of_getElem? (i := 1) rfl)
theorem wm_360 : Cond.selects RX2 yX2_dread yX2_dread ∈ WB := wi_15 _ (List.mem_of_getElem? (i := 4) rfl)
theorem wm_361 : Cond.selects RX3 ⟨"DryLoaf$Person", "dread", "(Z)I"⟩ yX3_dread ∈ WB := wi_15 _ (List.mem_of_getElem? (i := 5) rfl)
theorem wm_362 : Cond.instanceMethod yX3_dread ∈ WB := wi_15 _ (List.mem_of_getElem? (i := 6) rfl)
theorem wm_363 : Cond.code yX3_dread cX3_dread 2 (some .int) ∈ WB := wi_15 _ (List.mem_of_getElem? (i := 7) rfl)
theorem wm_364 : Cond.fieldLink RX3 9 "DryLoaf$Priest" "fear" "I" ∈ WB := wi_15 _ (List.mem_of_getElem? (i := 8) rfl)
theorem wm_365 : Cond.sameField "DryLoaf$Priest" "DryLoaf$Person" "fear" "I" ∈ WB := wi_15 _ (List.mem_of_getElem? (i := 9) rfl)
theorem wm_366 : Cond.selects RX5 ⟨"DryLoaf$Person", "dread", "(Z)I"⟩ yX5_dread ∈ WB := wi_15 _ (List.mem_of_getElem? (i := 10) rfl)
theorem wm_367 : Cond.instanceMethod yX5_dread ∈ WB := wi_15 _ (List.mem_of_getElem? (i := 11) rfl)
theorem wm_368 : Cond.code yX5_dread cX5_dread 2 (some .int) ∈ WB := wi_15 _ (List.mem_of_getElem? (i := 12) rfl)
theorem wm_369 : Cond.fieldLink RX5 9 "DryLoaf$Thief" "fear" "I" ∈ WB := wi_15 _ (List.mem_of_getElem? (i := 13) rfl)
theorem wm_370 : Cond.sameField "DryLoaf$Thief" "DryLoaf$Person" "fear" "I" ∈ WB := wi_15 _ (List.mem_of_getElem? (i := 14) rfl)
theorem wm_371 : Cond.selects RX6 ⟨"DryLoaf$Person", "dread", "(Z)I"⟩ yX6_dread ∈ WB := wi_15 _ (List.mem_of_getElem? (i := 15) rfl)
theorem wm_372 : Cond.instanceMethod yX6_dread ∈ WB := wi_15 _ (List.mem_of_getElem? (i := 16) rfl)
theorem wm_373 : Cond.code yX6_dread cX6_dread 2 (some .int) ∈ WB := wi_15 _ (List.mem_of_getElem? (i := 17) rfl)
theorem wm_374 : Cond.fieldLink RX6 9 "DryLoaf$Weeper" "fear" "I" ∈ WB := wi_15 _ (List.mem_of_getElem? (i := 18) rfl)
theorem wm_375 : Cond.sameField "DryLoaf$Weeper" "DryLoaf$Person" "fear" "I" ∈ WB := wi_15 _ (List.mem_of_getElem? (i := 19) rfl)
theorem wm_376 : Cond.selects RX2 yX2_tenths yX2_tenths ∈ WB := wi_15 _ (List.mem_of_getElem? (i := 21) rfl)
theorem wm_377 : Cond.selects RX3 ⟨"DryLoaf$Person", "tenths", "(ZII)I"⟩ yX2_tenths ∈ WB := wi_15 _ (List.mem_of_getElem? (i := 22) rfl)
theorem wm_378 : Cond.selects RX5 ⟨"DryLoaf$Person", "tenths", "(ZII)I"⟩ yX2_tenths ∈ WB := wi_15 _ (List.mem_of_getElem? (i := 23) rfl)
theorem wm_379 : Cond.selects RX6 ⟨"DryLoaf$Person", "tenths", "(ZII)I"⟩ yX2_tenths ∈ WB := wi_16 _ (List.mem_of_getElem? (i := 0) rfl)
theorem wm_380 : Cond.methodLink RX7 107 ⟨"DryLoaf$Person", "need", "(I)I"⟩ ∈ WB := wi_16 _ (List.mem_of_getElem? (i := 1) rfl)
theorem wm_381 : Cond.sameMethod "DryLoaf$Person" "DryLoaf$Person" "need" "(I)I" ∈ WB := wi_16 _ (List.mem_of_getElem? (i := 2) rfl)
theorem wm_382 : Cond.selects RX0 ⟨"DryLoaf$Person", "need", "(I)I"⟩ yX2_need ∈ WB := wi_16 _ (List.mem_of_getElem? (i := 3) rfl)
theorem wm_383 : Cond.instanceMethod yX2_need ∈ WB := wi_16 _ (List.mem_of_getElem? (i := 4) rfl)
theorem wm_384 : Cond.code yX2_need cX2_need 3 (some .int) ∈ WB := wi_16 _ (List.mem_of_getElem? (i := 5) rfl)
theorem wm_385 : Cond.methodLink RX2 31 ⟨"DryLoaf$Person", "tenths", "(ZII)I"⟩ ∈ WB := wi_16 _ (List.mem_of_getElem? (i := 6) rfl)
theorem wm_386 : Cond.selects RX2 yX2_need yX2_need ∈ WB := wi_16 _ (List.mem_of_getElem? (i := 9) rfl)
theorem wm_387 : Cond.selects RX3 ⟨"DryLoaf$Person", "need", "(I)I"⟩ yX2_need ∈ WB := wi_16 _ (List.mem_of_getElem? (i := 10) rfl)
theorem wm_388 : Cond.selects RX5 ⟨"DryLoaf$Person", "need", "(I)I"⟩ yX2_need ∈ WB := wi_16 _ (List.mem_of_getElem? (i := 11) rfl)
theorem wm_389 : Cond.selects RX6 ⟨"DryLoaf$Person", "need", "(I)I"⟩ yX2_need ∈ WB := wi_16 _ (List.mem_of_getElem? (i := 12) rfl)
theorem wm_390 : Cond.methodLink RL 35 yX8_about ∈ WB := wi_16 _ (List.mem_of_getElem? (i := 13) rfl)
theorem wm_391 : Cond.instanceMethod yX8_about ∈ WB := wi_16 _ (List.mem_of_getElem? (i := 14) rfl)
theorem wm_392 : Cond.selects RX8 yX8_about yX8_about ∈ WB := wi_16 _ (List.mem_of_getElem? (i := 15) rfl)
theorem wm_393 : Cond.code yX8_about cX8_about 3 (some .int) ∈ WB := wi_16 _ (List.mem_of_getElem? (i := 16) rfl)
theorem wm_394 : Cond.methodLink RX8 138 yX8_isOne ∈ WB := wi_16 _ (List.mem_of_getElem? (i := 17) rfl)
theorem wm_395 : Cond.instanceMethod yX8_isOne ∈ WB := wi_16 _ (List.mem_of_getElem? (i := 18) rfl)
theorem wm_396 : Cond.selects RX8 yX8_isOne yX8_isOne ∈ WB := wi_16 _ (List.mem_of_getElem? (i := 19) rfl)
theorem wm_397 : Cond.code yX8_isOne cX8_isOne 2 (some .boolean) ∈ WB := wi_16 _ (List.mem_of_getElem? (i := 20) rfl)
theorem wm_398 : Cond.methodLink RX8 142 yX8_oneNow ∈ WB := wi_16 _ (List.mem_of_getElem? (i := 21) rfl)
theorem wm_399 : Cond.instanceMethod yX8_oneNow ∈ WB := wi_16 _ (List.mem_of_getElem? (i := 22) rfl)
theorem wm_400 : Cond.selects RX8 yX8_oneNow yX8_oneNow ∈ WB := wi_16 _ (List.mem_of_getElem? (i := 23) rfl)
theorem wm_401 : Cond.code yX8_oneNow cX8_oneNow 3 (some .int) ∈ WB := wi_17 _ (List.mem_of_getElem? (i := 0) rfl)
theorem wm_402 : Cond.methodLink RX8 132 yX8_tenths ∈ WB := wi_17 _ (List.mem_of_getElem? (i := 1) rfl)
theorem wm_403 : Cond.instanceMethod yX8_tenths ∈ WB := wi_17 _ (List.mem_of_getElem? (i := 2) rfl)
theorem wm_404 : Cond.selects RX8 yX8_tenths yX8_tenths ∈ WB := wi_17 _ (List.mem_of_getElem? (i := 3) rfl)
theorem wm_405 : Cond.code yX8_tenths cX8_tenths 3 (some .int) ∈ WB := wi_17 _ (List.mem_of_getElem? (i := 4) rfl)
theorem wm_406 : Cond.methodLink RX8 128 yX8_tenthsBy ∈ WB := wi_17 _ (List.mem_of_getElem? (i := 5) rfl)
theorem wm_407 : Cond.instanceMethod yX8_tenthsBy ∈ WB := wi_17 _ (List.mem_of_getElem? (i := 6) rfl)
theorem wm_408 : Cond.selects RX8 yX8_tenthsBy yX8_tenthsBy ∈ WB := wi_17 _ (List.mem_of_getElem? (i := 7) rfl)
theorem wm_409 : Cond.code yX8_tenthsBy cX8_tenthsBy 6 (some .int) ∈ WB := wi_17 _ (List.mem_of_getElem? (i := 8) rfl)
theorem wm_410 : Cond.methodLink RX8 124 yX8_dreads ∈ WB := wi_17 _ (List.mem_of_getElem? (i := 9) rfl)
theorem wm_411 : Cond.instanceMethod yX8_dreads ∈ WB := wi_17 _ (List.mem_of_getElem? (i := 10) rfl)
theorem wm_412 : Cond.selects RX8 yX8_dreads yX8_dreads ∈ WB := wi_17 _ (List.mem_of_getElem? (i := 11) rfl)
theorem wm_413 : Cond.code yX8_dreads cX8_dreads 4 (some .int) ∈ WB := wi_17 _ (List.mem_of_getElem? (i := 12) rfl)
theorem wm_414 : Cond.methodLink RX8 135 yX8_needOf ∈ WB := wi_17 _ (List.mem_of_getElem? (i := 13) rfl)
theorem wm_415 : Cond.instanceMethod yX8_needOf ∈ WB := wi_17 _ (List.mem_of_getElem? (i := 14) rfl)
theorem wm_416 : Cond.selects RX8 yX8_needOf yX8_needOf ∈ WB := wi_17 _ (List.mem_of_getElem? (i := 15) rfl)
theorem wm_417 : Cond.code yX8_needOf cX8_needOf 3 (some .int) ∈ WB := wi_17 _ (List.mem_of_getElem? (i := 16) rfl)
theorem wm_418 : Cond.methodLink RL 36 yX7_as ∈ WB := wi_17 _ (List.mem_of_getElem? (i := 17) rfl)
theorem wm_419 : Cond.instanceMethod yX7_as ∈ WB := wi_17 _ (List.mem_of_getElem? (i := 18) rfl)
theorem wm_420 : Cond.selects RX7 yX7_as yX7_as ∈ WB := wi_17 _ (List.mem_of_getElem? (i := 19) rfl)
theorem wm_421 : Cond.code yX7_as cX7_as 4 (some .int) ∈ WB := wi_17 _ (List.mem_of_getElem? (i := 20) rfl)
theorem wm_422 : Cond.methodLink RX7 110 yX7_isSuch ∈ WB := wi_17 _ (List.mem_of_getElem? (i := 21) rfl)
theorem wm_423 : Cond.static yX7_isSuch ∈ WB := wi_17 _ (List.mem_of_getElem? (i := 22) rfl)
theorem wm_424 : Cond.code yX7_isSuch cX7_isSuch 2 (some .boolean) ∈ WB := wi_17 _ (List.mem_of_getElem? (i := 23) rfl)
theorem wm_425 : Cond.classLink RX7 230 "DryLoaf$Hardened" ∈ WB := wi_18 _ (List.mem_of_getElem? (i := 0) rfl)
theorem wm_426 : Cond.classLink RX7 232 "DryLoaf$Weeper" ∈ WB := wi_18 _ (List.mem_of_getElem? (i := 1) rfl)
theorem wm_427 : Cond.classLink RX7 234 "DryLoaf$Priest" ∈ WB := wi_18 _ (List.mem_of_getElem? (i := 2) rfl)
theorem wm_428 : Cond.classLink RX7 236 "DryLoaf$Thief" ∈ WB := wi_18 _ (List.mem_of_getElem? (i := 3) rfl)
theorem wm_429 : Cond.methodLink RL 39 yX8_as ∈ WB := wi_18 _ (List.mem_of_getElem? (i := 4) rfl)
theorem wm_430 : Cond.instanceMethod yX8_as ∈ WB := wi_18 _ (List.mem_of_getElem? (i := 5) rfl)
theorem wm_431 : Cond.selects RX8 yX8_as yX8_as ∈ WB := wi_18 _ (List.mem_of_getElem? (i := 6) rfl)
theorem wm_432 : Cond.code yX8_as cX8_as 4 (some .int) ∈ WB := wi_18 _ (List.mem_of_getElem? (i := 7) rfl)
theorem wm_433 : Cond.methodLink RL 40 yX7_butter ∈ WB := wi_18 _ (List.mem_of_getElem? (i := 8) rfl)
theorem wm_434 : Cond.instanceMethod yX7_butter ∈ WB := wi_18 _ (List.mem_of_getElem? (i := 9) rfl)
theorem wm_435 : Cond.selects RX7 yX7_butter yX7_butter ∈ WB := wi_18 _ (List.mem_of_getElem? (i := 10) rfl)
theorem wm_436 : Cond.code yX7_butter cX7_butter 4 (some .int) ∈ WB := wi_18 _ (List.mem_of_getElem? (i := 11) rfl)
theorem wm_437 : Cond.methodLink RL 43 yX8_butter ∈ WB := wi_18 _ (List.mem_of_getElem? (i := 12) rfl)
theorem wm_438 : Cond.instanceMethod yX8_butter ∈ WB := wi_18 _ (List.mem_of_getElem? (i := 13) rfl)
theorem wm_439 : Cond.selects RX8 yX8_butter yX8_butter ∈ WB := wi_18 _ (List.mem_of_getElem? (i := 14) rfl)
theorem wm_440 : Cond.code yX8_butter cX8_butter 4 (some .int) ∈ WB := wi_18 _ (List.mem_of_getElem? (i := 15) rfl)
theorem wm_441 : Cond.methodLink RL 44 yX7_loaf ∈ WB := wi_18 _ (List.mem_of_getElem? (i := 16) rfl)
theorem wm_442 : Cond.instanceMethod yX7_loaf ∈ WB := wi_18 _ (List.mem_of_getElem? (i := 17) rfl)
theorem wm_443 : Cond.selects RX7 yX7_loaf yX7_loaf ∈ WB := wi_18 _ (List.mem_of_getElem? (i := 18) rfl)
theorem wm_444 : Cond.code yX7_loaf cX7_loaf 3 (some .int) ∈ WB := wi_18 _ (List.mem_of_getElem? (i := 19) rfl)
theorem wm_445 : Cond.methodLink RL 47 yX8_loaf ∈ WB := wi_18 _ (List.mem_of_getElem? (i := 20) rfl)
theorem wm_446 : Cond.instanceMethod yX8_loaf ∈ WB := wi_18 _ (List.mem_of_getElem? (i := 21) rfl)
theorem wm_447 : Cond.selects RX8 yX8_loaf yX8_loaf ∈ WB := wi_18 _ (List.mem_of_getElem? (i := 22) rfl)
theorem wm_448 : Cond.code yX8_loaf cX8_loaf 3 (some .int) ∈ WB := wi_18 _ (List.mem_of_getElem? (i := 23) rfl)
theorem wm_449 : Cond.methodLink RL 48 yX7_eat ∈ WB := wi_19 _ (List.mem_of_getElem? (i := 0) rfl)
theorem wm_450 : Cond.instanceMethod yX7_eat ∈ WB := wi_19 _ (List.mem_of_getElem? (i := 1) rfl)
theorem wm_451 : Cond.selects RX7 yX7_eat yX7_eat ∈ WB := wi_19 _ (List.mem_of_getElem? (i := 2) rfl)
theorem wm_452 : Cond.code yX7_eat cX7_eat 7 (some .int) ∈ WB := wi_19 _ (List.mem_of_getElem? (i := 3) rfl)
theorem wm_453 : Cond.methodLink RX7 114 yX7_weigh ∈ WB := wi_19 _ (List.mem_of_getElem? (i := 4) rfl)
theorem wm_454 : Cond.instanceMethod yX7_weigh ∈ WB := wi_19 _ (List.mem_of_getElem? (i := 5) rfl)
theorem wm_455 : Cond.selects RX7 yX7_weigh yX7_weigh ∈ WB := wi_19 _ (List.mem_of_getElem? (i := 6) rfl)
theorem wm_456 : Cond.code yX7_weigh cX7_weigh 11 none ∈ WB := wi_19 _ (List.mem_of_getElem? (i := 7) rfl)
theorem wm_457 : Cond.methodLink RX7 118 yX7_commonDivisor ∈ WB := wi_19 _ (List.mem_of_getElem? (i := 8) rfl)
theorem wm_458 : Cond.static yX7_commonDivisor ∈ WB := wi_19 _ (List.mem_of_getElem? (i := 9) rfl)
theorem wm_459 : Cond.code yX7_commonDivisor cX7_commonDivisor 4 (some .long) ∈ WB := wi_19 _ (List.mem_of_getElem? (i := 10) rfl)
theorem wm_460 : Cond.methodLink RX7 243 yX7_commonDivisor_ ∈ WB := wi_19 _ (List.mem_of_getElem? (i := 11) rfl)
theorem wm_461 : Cond.static yX7_commonDivisor_ ∈ WB := wi_19 _ (List.mem_of_getElem? (i := 12) rfl)
theorem wm_462 : Cond.code yX7_commonDivisor_ cX7_commonDivisor_ 11 (some .long) ∈ WB := wi_19 _ (List.mem_of_getElem? (i := 13) rfl)
theorem wm_463 : Cond.methodLink RX7 122 yX7_sumOf ∈ WB := wi_19 _ (List.mem_of_getElem? (i := 14) rfl)
theorem wm_464 : Cond.static yX7_sumOf ∈ WB := wi_19 _ (List.mem_of_getElem? (i := 15) rfl)
theorem wm_465 : Cond.code yX7_sumOf cX7_sumOf 3 (some .int) ∈ WB := wi_19 _ (List.mem_of_getElem? (i := 16) rfl)
theorem wm_466 : Cond.methodLink RX7 126 yX7_heaviest ∈ WB := wi_19 _ (List.mem_of_getElem? (i := 17) rfl)
theorem wm_467 : Cond.static yX7_heaviest ∈ WB := wi_19 _ (List.mem_of_getElem? (i := 18) rfl)
theorem wm_468 : Cond.code yX7_heaviest cX7_heaviest 3 (some .int) ∈ WB := wi_19 _ (List.mem_of_getElem? (i := 19) rfl)
theorem wm_469 : Cond.methodLink RL 52 yX8_eat ∈ WB := wi_19 _ (List.mem_of_getElem? (i := 20) rfl)
theorem wm_470 : Cond.instanceMethod yX8_eat ∈ WB := wi_19 _ (List.mem_of_getElem? (i := 21) rfl)
theorem wm_471 : Cond.selects RX8 yX8_eat yX8_eat ∈ WB := wi_19 _ (List.mem_of_getElem? (i := 22) rfl)
theorem wm_472 : Cond.code yX8_eat cX8_eat 3 (some .int) ∈ WB := wi_19 _ (List.mem_of_getElem? (i := 23) rfl)
theorem wm_473 : Cond.methodLink RX8 146 yX8_think ∈ WB := wi_20 _ (List.mem_of_getElem? (i := 0) rfl)
theorem wm_474 : Cond.instanceMethod yX8_think ∈ WB := wi_20 _ (List.mem_of_getElem? (i := 1) rfl)
theorem wm_475 : Cond.selects RX8 yX8_think yX8_think ∈ WB := wi_20 _ (List.mem_of_getElem? (i := 2) rfl)
theorem wm_476 : Cond.code yX8_think cX8_think 2 none ∈ WB := wi_20 _ (List.mem_of_getElem? (i := 3) rfl)
theorem wm_477 : Cond.methodLink RX8 149 yX8_eatOn ∈ WB := wi_20 _ (List.mem_of_getElem? (i := 4) rfl)
theorem wm_478 : Cond.instanceMethod yX8_eatOn ∈ WB := wi_20 _ (List.mem_of_getElem? (i := 5) rfl)
theorem wm_479 : Cond.selects RX8 yX8_eatOn yX8_eatOn ∈ WB := wi_20 _ (List.mem_of_getElem? (i := 6) rfl)
theorem wm_480 : Cond.code yX8_eatOn cX8_eatOn 7 none ∈ WB := wi_20 _ (List.mem_of_getElem? (i := 7) rfl)
theorem wm_481 : Cond.methodLink RX8 153 yX8_greatest ∈ WB := wi_20 _ (List.mem_of_getElem? (i := 8) rfl)
theorem wm_482 : Cond.instanceMethod yX8_greatest ∈ WB := wi_20 _ (List.mem_of_getElem? (i := 9) rfl)
theorem wm_483 : Cond.selects RX8 yX8_greatest yX8_greatest ∈ WB := wi_20 _ (List.mem_of_getElem? (i := 10) rfl)
theorem wm_484 : Cond.code yX8_greatest cX8_greatest 5 (some .long) ∈ WB := wi_20 _ (List.mem_of_getElem? (i := 11) rfl)
theorem wm_485 : Cond.methodLink RX8 157 yX8_takeThought ∈ WB := wi_20 _ (List.mem_of_getElem? (i := 12) rfl)
theorem wm_486 : Cond.instanceMethod yX8_takeThought ∈ WB := wi_20 _ (List.mem_of_getElem? (i := 13) rfl)
theorem wm_487 : Cond.selects RX8 yX8_takeThought yX8_takeThought ∈ WB := wi_20 _ (List.mem_of_getElem? (i := 14) rfl)
theorem wm_488 : Cond.code yX8_takeThought cX8_takeThought 4 none ∈ WB := wi_20 _ (List.mem_of_getElem? (i := 15) rfl)
theorem wm_489 : Cond.methodLink RX8 75 yX8_divisor ∈ WB := wi_20 _ (List.mem_of_getElem? (i := 16) rfl)
theorem wm_490 : Cond.static yX8_divisor ∈ WB := wi_20 _ (List.mem_of_getElem? (i := 17) rfl)
theorem wm_491 : Cond.code yX8_divisor cX8_divisor 10 (some .long) ∈ WB := wi_20 _ (List.mem_of_getElem? (i := 18) rfl)
theorem wm_492 : Cond.methodLink RX8 160 yX8_judgedNow ∈ WB := wi_20 _ (List.mem_of_getElem? (i := 19) rfl)
theorem wm_493 : Cond.instanceMethod yX8_judgedNow ∈ WB := wi_20 _ (List.mem_of_getElem? (i := 20) rfl)
theorem wm_494 : Cond.selects RX8 yX8_judgedNow yX8_judgedNow ∈ WB := wi_20 _ (List.mem_of_getElem? (i := 21) rfl)
theorem wm_495 : Cond.code yX8_judgedNow cX8_judgedNow 3 (some .int) ∈ WB := wi_20 _ (List.mem_of_getElem? (i := 22) rfl)
theorem wm_496 : Cond.methodLink RL 53 yX7_belief ∈ WB := wi_20 _ (List.mem_of_getElem? (i := 23) rfl)
theorem wm_497 : Cond.instanceMethod yX7_belief ∈ WB := wi_21 _ (List.mem_of_getElem? (i := 0) rfl)
theorem wm_498 : Cond.selects RX7 yX7_belief yX7_belief ∈ WB := wi_21 _ (List.mem_of_getElem? (i := 1) rfl)
theorem wm_499 : Cond.code yX7_belief cX7_belief 3 (some .long) ∈ WB := wi_21 _ (List.mem_of_getElem? (i := 2) rfl)
theorem wm_500 : Cond.constantLong RX7 130 (-101) ∈ WB := wi_21 _ (List.mem_of_getElem? (i := 3) rfl)
theorem wm_501 : Cond.constantLong RX7 132 (-102) ∈ WB := wi_21 _ (List.mem_of_getElem? (i := 4) rfl)
theorem wm_502 : Cond.methodLink RX7 134 yX7_weightOfAll ∈ WB := wi_21 _ (List.mem_of_getElem? (i := 5) rfl)
theorem wm_503 : Cond.instanceMethod yX7_weightOfAll ∈ WB := wi_21 _ (List.mem_of_getElem? (i := 6) rfl)
theorem wm_504 : Cond.selects RX7 yX7_weightOfAll yX7_weightOfAll ∈ WB := wi_21 _ (List.mem_of_getElem? (i := 7) rfl)
theorem wm_505 : Cond.code yX7_weightOfAll cX7_weightOfAll 4 (some .long) ∈ WB := wi_21 _ (List.mem_of_getElem? (i := 8) rfl)
theorem wm_506 : Cond.methodLink RX7 138 yX7_inLowestTerms ∈ WB := wi_21 _ (List.mem_of_getElem? (i := 9) rfl)
theorem wm_507 : Cond.static yX7_inLowestTerms ∈ WB := wi_21 _ (List.mem_of_getElem? (i := 10) rfl)
theorem wm_508 : Cond.code yX7_inLowestTerms cX7_inLowestTerms 7 (some .long) ∈ WB := wi_21 _ (List.mem_of_getElem? (i := 11) rfl)
theorem wm_509 : Cond.methodLink RL 57 yX8_belief ∈ WB := wi_21 _ (List.mem_of_getElem? (i := 12) rfl)
theorem wm_510 : Cond.instanceMethod yX8_belief ∈ WB := wi_21 _ (List.mem_of_getElem? (i := 13) rfl)
theorem wm_511 : Cond.selects RX8 yX8_belief yX8_belief ∈ WB := wi_21 _ (List.mem_of_getElem? (i := 14) rfl)
theorem wm_512 : Cond.code yX8_belief cX8_belief 3 (some .long) ∈ WB := wi_21 _ (List.mem_of_getElem? (i := 15) rfl)
theorem wm_513 : Cond.constantLong RX8 163 (-101) ∈ WB := wi_21 _ (List.mem_of_getElem? (i := 16) rfl)
theorem wm_514 : Cond.constantLong RX8 173 (-102) ∈ WB := wi_21 _ (List.mem_of_getElem? (i := 17) rfl)
theorem wm_515 : Cond.methodLink RX8 165 yX8_weightAll ∈ WB := wi_21 _ (List.mem_of_getElem? (i := 18) rfl)
theorem wm_516 : Cond.instanceMethod yX8_weightAll ∈ WB := wi_21 _ (List.mem_of_getElem? (i := 19) rfl)
theorem wm_517 : Cond.selects RX8 yX8_weightAll yX8_weightAll ∈ WB := wi_21 _ (List.mem_of_getElem? (i := 20) rfl)
theorem wm_518 : Cond.code yX8_weightAll cX8_weightAll 4 (some .long) ∈ WB := wi_21 _ (List.mem_of_getElem? (i := 21) rfl)
theorem wm_519 : Cond.methodLink RX8 169 yX8_lowest ∈ WB := wi_21 _ (List.mem_of_getElem? (i := 22) rfl)
theorem wm_520 : Cond.static yX8_lowest ∈ WB := wi_21 _ (List.mem_of_getElem? (i := 23) rfl)
theorem wm_521 : Cond.code yX8_lowest cX8_lowest 7 (some .long) ∈ WB := wi_22 _ (List.mem_of_getElem? (i := 0) rfl)
theorem wm_522 : Cond.methodLink RL 58 yX7_judged ∈ WB := wi_22 _ (List.mem_of_getElem? (i := 1) rfl)
theorem wm_523 : Cond.instanceMethod yX7_judged ∈ WB := wi_22 _ (List.mem_of_getElem? (i := 2) rfl)
theorem wm_524 : Cond.selects RX7 yX7_judged yX7_judged ∈ WB := wi_22 _ (List.mem_of_getElem? (i := 3) rfl)
theorem wm_525 : Cond.code yX7_judged cX7_judged 1 (some .int) ∈ WB := wi_22 _ (List.mem_of_getElem? (i := 4) rfl)
theorem wm_526 : Cond.methodLink RL 61 yX8_judged ∈ WB := wi_22 _ (List.mem_of_getElem? (i := 5) rfl)
theorem wm_527 : Cond.instanceMethod yX8_judged ∈ WB := wi_22 _ (List.mem_of_getElem? (i := 6) rfl)
theorem wm_528 : Cond.selects RX8 yX8_judged yX8_judged ∈ WB := wi_22 _ (List.mem_of_getElem? (i := 7) rfl)
theorem wm_529 : Cond.code yX8_judged cX8_judged 1 (some .int) ∈ WB := wi_22 _ (List.mem_of_getElem? (i := 8) rfl)
theorem wm_530 : Cond.methodLink RL 62 yX7_right ∈ WB := wi_22 _ (List.mem_of_getElem? (i := 9) rfl)
theorem wm_531 : Cond.instanceMethod yX7_right ∈ WB := wi_22 _ (List.mem_of_getElem? (i := 10) rfl)
theorem wm_532 : Cond.selects RX7 yX7_right yX7_right ∈ WB := wi_22 _ (List.mem_of_getElem? (i := 11) rfl)
theorem wm_533 : Cond.code yX7_right cX7_right 6 (some .long) ∈ WB := wi_22 _ (List.mem_of_getElem? (i := 12) rfl)
theorem wm_534 : Cond.fieldLink RX7 142 "DryLoaf" "rightsDone" "I" ∈ WB := wi_22 _ (List.mem_of_getElem? (i := 13) rfl)
theorem wm_535 : Cond.constantLong RX7 145 (-103) ∈ WB := wi_22 _ (List.mem_of_getElem? (i := 14) rfl)
theorem wm_536 : Cond.methodLink RX7 147 arraycopyName ∈ WB := wi_22 _ (List.mem_of_getElem? (i := 15) rfl)
theorem wm_537 : Cond.native arraycopyName ∈ WB := wi_22 _ (List.mem_of_getElem? (i := 16) rfl)
theorem wm_538 : Cond.static arraycopyName ∈ WB := wi_22 _ (List.mem_of_getElem? (i := 17) rfl)
theorem wm_539 : Cond.initialized "java/lang/System" ∈ WB := wi_22 _ (List.mem_of_getElem? (i := 18) rfl)
theorem wm_540 : Cond.constantLong RX7 156 (10) ∈ WB := wi_22 _ (List.mem_of_getElem? (i := 19) rfl)
theorem wm_541 : Cond.methodLink RX7 153 yX7_bestEater ∈ WB := wi_22 _ (List.mem_of_getElem? (i := 20) rfl)
theorem wm_542 : Cond.instanceMethod yX7_bestEater ∈ WB := wi_22 _ (List.mem_of_getElem? (i := 21) rfl)
theorem wm_543 : Cond.selects RX7 yX7_bestEater yX7_bestEater ∈ WB := wi_22 _ (List.mem_of_getElem? (i := 22) rfl)
theorem wm_544 : Cond.code yX7_bestEater cX7_bestEater 8 (some .int) ∈ WB := wi_22 _ (List.mem_of_getElem? (i := 23) rfl)
theorem wm_545 : Cond.constantLong RX7 162 (-1) ∈ WB := wi_23 _ (List.mem_of_getElem? (i := 0) rfl)
theorem wm_546 : Cond.methodLink RX7 164 yX7_rightIfEats ∈ WB := wi_23 _ (List.mem_of_getElem? (i := 1) rfl)
theorem wm_547 : Cond.instanceMethod yX7_rightIfEats ∈ WB := wi_23 _ (List.mem_of_getElem? (i := 2) rfl)
theorem wm_548 : Cond.selects RX7 yX7_rightIfEats yX7_rightIfEats ∈ WB := wi_23 _ (List.mem_of_getElem? (i := 3) rfl)
theorem wm_549 : Cond.code yX7_rightIfEats cX7_rightIfEats 6 (some .long) ∈ WB := wi_23 _ (List.mem_of_getElem? (i := 4) rfl)
theorem wm_550 : Cond.methodLink RX7 158 yX7_rightAtBest ∈ WB := wi_23 _ (List.mem_of_getElem? (i := 5) rfl)
theorem wm_551 : Cond.instanceMethod yX7_rightAtBest ∈ WB := wi_23 _ (List.mem_of_getElem? (i := 6) rfl)
theorem wm_552 : Cond.selects RX7 yX7_rightAtBest yX7_rightAtBest ∈ WB := wi_23 _ (List.mem_of_getElem? (i := 7) rfl)
theorem wm_553 : Cond.code yX7_rightAtBest cX7_rightAtBest 5 (some .long) ∈ WB := wi_23 _ (List.mem_of_getElem? (i := 8) rfl)
theorem wm_554 : Cond.methodLink RX7 238 Lib.MathLoose.max_long.x ∈ WB := wi_23 _ (List.mem_of_getElem? (i := 9) rfl)
theorem wm_555 : Cond.static Lib.MathLoose.max_long.x ∈ WB := wi_23 _ (List.mem_of_getElem? (i := 10) rfl)
theorem wm_556 : Cond.code Lib.MathLoose.max_long.x Lib.MathLoose.max_long.code 4 (some .long) ∈ WB := wi_23 _ (List.mem_of_getElem? (i := 11) rfl)
theorem wm_557 : Cond.methodLink RL 65 yX8_right ∈ WB := wi_23 _ (List.mem_of_getElem? (i := 12) rfl)
theorem wm_558 : Cond.instanceMethod yX8_right ∈ WB := wi_23 _ (List.mem_of_getElem? (i := 13) rfl)
theorem wm_559 : Cond.selects RX8 yX8_right yX8_right ∈ WB := wi_23 _ (List.mem_of_getElem? (i := 14) rfl)
theorem wm_560 : Cond.code yX8_right cX8_right 8 (some .long) ∈ WB := wi_23 _ (List.mem_of_getElem? (i := 15) rfl)
theorem wm_561 : Cond.fieldLink RX8 190 "DryLoafModel" "asks" "I" ∈ WB := wi_23 _ (List.mem_of_getElem? (i := 16) rfl)
theorem wm_562 : Cond.constantLong RX8 193 (-103) ∈ WB := wi_23 _ (List.mem_of_getElem? (i := 17) rfl)
theorem wm_563 : Cond.constantLong RX8 198 (10) ∈ WB := wi_23 _ (List.mem_of_getElem? (i := 18) rfl)
theorem wm_564 : Cond.fieldLink RX8 183 "DryLoafModel" "bestFirst" "I" ∈ WB := wi_23 _ (List.mem_of_getElem? (i := 19) rfl)
theorem wm_565 : Cond.methodLink RX8 195 yX8_layRight ∈ WB := wi_23 _ (List.mem_of_getElem? (i := 20) rfl)
theorem wm_566 : Cond.instanceMethod yX8_layRight ∈ WB := wi_23 _ (List.mem_of_getElem? (i := 21) rfl)
theorem wm_567 : Cond.selects RX8 yX8_layRight yX8_layRight ∈ WB := wi_23 _ (List.mem_of_getElem? (i := 22) rfl)
theorem wm_568 : Cond.code yX8_layRight cX8_layRight 7 (some .long) ∈ WB := wi_23 _ (List.mem_of_getElem? (i := 23) rfl)
theorem wm_569 : Cond.constantLong RX8 175 (-1) ∈ WB := wi_24 _ (List.mem_of_getElem? (i := 0) rfl)
theorem wm_570 : Cond.methodLink RX8 186 yX8_restOf ∈ WB := wi_24 _ (List.mem_of_getElem? (i := 1) rfl)
theorem wm_571 : Cond.instanceMethod yX8_restOf ∈ WB := wi_24 _ (List.mem_of_getElem? (i := 2) rfl)
theorem wm_572 : Cond.selects RX8 yX8_restOf yX8_restOf ∈ WB := wi_24 _ (List.mem_of_getElem? (i := 3) rfl)
theorem wm_573 : Cond.code yX8_restOf cX8_restOf 3 (some .long) ∈ WB := wi_24 _ (List.mem_of_getElem? (i := 4) rfl)
theorem wm_574 : Cond.methodLink RX8 177 yX8_bestOne ∈ WB := wi_24 _ (List.mem_of_getElem? (i := 5) rfl)
theorem wm_575 : Cond.instanceMethod yX8_bestOne ∈ WB := wi_24 _ (List.mem_of_getElem? (i := 6) rfl)
theorem wm_576 : Cond.selects RX8 yX8_bestOne yX8_bestOne ∈ WB := wi_24 _ (List.mem_of_getElem? (i := 7) rfl)
theorem wm_577 : Cond.code yX8_bestOne cX8_bestOne 7 (some .long) ∈ WB := wi_24 _ (List.mem_of_getElem? (i := 8) rfl)
theorem wm_578 : Cond.methodLink RX8 180 yX8_bestTwo ∈ WB := wi_24 _ (List.mem_of_getElem? (i := 9) rfl)
theorem wm_579 : Cond.instanceMethod yX8_bestTwo ∈ WB := wi_24 _ (List.mem_of_getElem? (i := 10) rfl)
theorem wm_580 : Cond.selects RX8 yX8_bestTwo yX8_bestTwo ∈ WB := wi_24 _ (List.mem_of_getElem? (i := 11) rfl)
theorem wm_581 : Cond.code yX8_bestTwo cX8_bestTwo 7 (some .long) ∈ WB := wi_24 _ (List.mem_of_getElem? (i := 12) rfl)
theorem wm_582 : Cond.methodLink RL 66 yX7_driest ∈ WB := wi_24 _ (List.mem_of_getElem? (i := 13) rfl)
theorem wm_583 : Cond.instanceMethod yX7_driest ∈ WB := wi_24 _ (List.mem_of_getElem? (i := 14) rfl)
theorem wm_584 : Cond.selects RX7 yX7_driest yX7_driest ∈ WB := wi_24 _ (List.mem_of_getElem? (i := 15) rfl)
theorem wm_585 : Cond.code yX7_driest cX7_driest 9 (some .long) ∈ WB := wi_24 _ (List.mem_of_getElem? (i := 16) rfl)
theorem wm_586 : Cond.methodLink RL 69 yX8_driest ∈ WB := wi_24 _ (List.mem_of_getElem? (i := 17) rfl)
theorem wm_587 : Cond.instanceMethod yX8_driest ∈ WB := wi_24 _ (List.mem_of_getElem? (i := 18) rfl)
theorem wm_588 : Cond.selects RX8 yX8_driest yX8_driest ∈ WB := wi_24 _ (List.mem_of_getElem? (i := 19) rfl)
theorem wm_589 : Cond.code yX8_driest cX8_driest 3 (some .long) ∈ WB := wi_24 _ (List.mem_of_getElem? (i := 20) rfl)
theorem wm_590 : Cond.methodLink RX8 203 yX8_driestNow ∈ WB := wi_24 _ (List.mem_of_getElem? (i := 21) rfl)
theorem wm_591 : Cond.instanceMethod yX8_driestNow ∈ WB := wi_24 _ (List.mem_of_getElem? (i := 22) rfl)
theorem wm_592 : Cond.selects RX8 yX8_driestNow yX8_driestNow ∈ WB := wi_24 _ (List.mem_of_getElem? (i := 23) rfl)
theorem wm_593 : Cond.code yX8_driestNow cX8_driestNow 9 (some .long) ∈ WB := wi_25 _ (List.mem_of_getElem? (i := 0) rfl)
theorem wm_594 : Cond.methodLink RX8 200 yX8_rightBy ∈ WB := wi_25 _ (List.mem_of_getElem? (i := 1) rfl)
theorem wm_595 : Cond.instanceMethod yX8_rightBy ∈ WB := wi_25 _ (List.mem_of_getElem? (i := 2) rfl)
theorem wm_596 : Cond.selects RX8 yX8_rightBy yX8_rightBy ∈ WB := wi_25 _ (List.mem_of_getElem? (i := 3) rfl)
theorem wm_597 : Cond.code yX8_rightBy cX8_rightBy 5 (some .long) ∈ WB := wi_25 _ (List.mem_of_getElem? (i := 4) rfl)
theorem wm_598 : Cond.methodLink RL 70 yX7_hear ∈ WB := wi_25 _ (List.mem_of_getElem? (i := 5) rfl)
theorem wm_599 : Cond.instanceMethod yX7_hear ∈ WB := wi_25 _ (List.mem_of_getElem? (i := 6) rfl)
theorem wm_600 : Cond.selects RX7 yX7_hear yX7_hear ∈ WB := wi_25 _ (List.mem_of_getElem? (i := 7) rfl)
theorem wm_601 : Cond.code yX7_hear cX7_hear 5 (some .int) ∈ WB := wi_25 _ (List.mem_of_getElem? (i := 8) rfl)
theorem wm_602 : Cond.fieldLink RX7 168 "DryLoaf$Standing" "heard" "I" ∈ WB := wi_25 _ (List.mem_of_getElem? (i := 9) rfl)
theorem wm_603 : Cond.fieldLink RX7 171 "DryLoaf$Standing" "butterBits" "[I" ∈ WB := wi_25 _ (List.mem_of_getElem? (i := 10) rfl)
theorem wm_604 : Cond.methodLink RX7 174 ⟨"DryLoaf$Person", "butterBits", "(ZZI)I"⟩ ∈ WB := wi_25 _ (List.mem_of_getElem? (i := 11) rfl)
theorem wm_605 : Cond.sameMethod "DryLoaf$Person" "DryLoaf$Person" "butterBits" "(ZZI)I" ∈ WB := wi_25 _ (List.mem_of_getElem? (i := 12) rfl)
theorem wm_606 : Cond.selects RX0 ⟨"DryLoaf$Person", "butterBits", "(ZZI)I"⟩ yX2_butterBits ∈ WB := wi_25 _ (List.mem_of_getElem? (i := 13) rfl)
theorem wm_607 : Cond.instanceMethod yX2_butterBits ∈ WB := wi_25 _ (List.mem_of_getElem? (i := 14) rfl)
theorem wm_608 : Cond.code yX2_butterBits cX2_butterBits 7 (some .int) ∈ WB := wi_25 _ (List.mem_of_getElem? (i := 15) rfl)
theorem wm_609 : Cond.selects RX2 yX2_butterBits yX2_butterBits ∈ WB := wi_25 _ (List.mem_of_getElem? (i := 17) rfl)
theorem wm_610 : Cond.selects RX3 ⟨"DryLoaf$Person", "butterBits", "(ZZI)I"⟩ yX2_butterBits ∈ WB := wi_25 _ (List.mem_of_getElem? (i := 18) rfl)
theorem wm_611 : Cond.selects RX5 ⟨"DryLoaf$Person", "butterBits", "(ZZI)I"⟩ yX2_butterBits ∈ WB := wi_25 _ (List.mem_of_getElem? (i := 19) rfl)
theorem wm_612 : Cond.selects RX6 ⟨"DryLoaf$Person", "butterBits", "(ZZI)I"⟩ yX2_butterBits ∈ WB := wi_25 _ (List.mem_of_getElem? (i := 20) rfl)
theorem wm_613 : Cond.methodLink RL 74 yX8_hear ∈ WB := wi_25 _ (List.mem_of_getElem? (i := 21) rfl)
theorem wm_614 : Cond.instanceMethod yX8_hear ∈ WB := wi_25 _ (List.mem_of_getElem? (i := 22) rfl)
theorem wm_615 : Cond.selects RX8 yX8_hear yX8_hear ∈ WB := wi_25 _ (List.mem_of_getElem? (i := 23) rfl)
theorem wm_616 : Cond.code yX8_hear cX8_hear 4 (some .int) ∈ WB := wi_26 _ (List.mem_of_getElem? (i := 0) rfl)
theorem wm_617 : Cond.methodLink RL 75 yX7_forget ∈ WB := wi_26 _ (List.mem_of_getElem? (i := 1) rfl)
theorem wm_618 : Cond.instanceMethod yX7_forget ∈ WB := wi_26 _ (List.mem_of_getElem? (i := 2) rfl)
theorem wm_619 : Cond.selects RX7 yX7_forget yX7_forget ∈ WB := wi_26 _ (List.mem_of_getElem? (i := 3) rfl)
theorem wm_620 : Cond.code yX7_forget cX7_forget 2 (some .int) ∈ WB := wi_26 _ (List.mem_of_getElem? (i := 4) rfl)
theorem wm_621 : Cond.methodLink RX7 177 yX4_unhear ∈ WB := wi_26 _ (List.mem_of_getElem? (i := 5) rfl)
theorem wm_622 : Cond.methodLink RL 78 yX8_forget ∈ WB := wi_26 _ (List.mem_of_getElem? (i := 6) rfl)
theorem wm_623 : Cond.instanceMethod yX8_forget ∈ WB := wi_26 _ (List.mem_of_getElem? (i := 7) rfl)
theorem wm_624 : Cond.selects RX8 yX8_forget yX8_forget ∈ WB := wi_26 _ (List.mem_of_getElem? (i := 8) rfl)
theorem wm_625 : Cond.code yX8_forget cX8_forget 2 (some .int) ∈ WB := wi_26 _ (List.mem_of_getElem? (i := 9) rfl)
theorem wm_626 : Cond.methodLink RL 79 yX7_buttered ∈ WB := wi_26 _ (List.mem_of_getElem? (i := 10) rfl)
theorem wm_627 : Cond.instanceMethod yX7_buttered ∈ WB := wi_26 _ (List.mem_of_getElem? (i := 11) rfl)
theorem wm_628 : Cond.selects RX7 yX7_buttered yX7_buttered ∈ WB := wi_26 _ (List.mem_of_getElem? (i := 12) rfl)
theorem wm_629 : Cond.code yX7_buttered cX7_buttered 2 (some .int) ∈ WB := wi_26 _ (List.mem_of_getElem? (i := 13) rfl)
theorem wm_630 : Cond.methodLink RL 82 yX8_buttered ∈ WB := wi_26 _ (List.mem_of_getElem? (i := 14) rfl)
theorem wm_631 : Cond.instanceMethod yX8_buttered ∈ WB := wi_26 _ (List.mem_of_getElem? (i := 15) rfl)
theorem wm_632 : Cond.selects RX8 yX8_buttered yX8_buttered ∈ WB := wi_26 _ (List.mem_of_getElem? (i := 16) rfl)
theorem wm_633 : Cond.code yX8_buttered cX8_buttered 2 (some .int) ∈ WB := wi_26 _ (List.mem_of_getElem? (i := 17) rfl)
theorem wm_634 : Cond.methodLink RX8 209 yX8_butteredNow ∈ WB := wi_26 _ (List.mem_of_getElem? (i := 18) rfl)
theorem wm_635 : Cond.instanceMethod yX8_butteredNow ∈ WB := wi_26 _ (List.mem_of_getElem? (i := 19) rfl)
theorem wm_636 : Cond.selects RX8 yX8_butteredNow yX8_butteredNow ∈ WB := wi_26 _ (List.mem_of_getElem? (i := 20) rfl)
theorem wm_637 : Cond.code yX8_butteredNow cX8_butteredNow 4 (some .int) ∈ WB := wi_26 _ (List.mem_of_getElem? (i := 21) rfl)
theorem wm_638 : Cond.methodLink RX8 206 yX8_couldHave ∈ WB := wi_26 _ (List.mem_of_getElem? (i := 22) rfl)
theorem wm_639 : Cond.instanceMethod yX8_couldHave ∈ WB := wi_26 _ (List.mem_of_getElem? (i := 23) rfl)
theorem wm_640 : Cond.selects RX8 yX8_couldHave yX8_couldHave ∈ WB := wi_27 _ (List.mem_of_getElem? (i := 0) rfl)
theorem wm_641 : Cond.code yX8_couldHave cX8_couldHave 6 (some .boolean) ∈ WB := wi_27 _ (List.mem_of_getElem? (i := 1) rfl)
theorem wm_642 : Cond.methodLink RL 83 yX7_sessions ∈ WB := wi_27 _ (List.mem_of_getElem? (i := 2) rfl)
theorem wm_643 : Cond.instanceMethod yX7_sessions ∈ WB := wi_27 _ (List.mem_of_getElem? (i := 3) rfl)
theorem wm_644 : Cond.selects RX7 yX7_sessions yX7_sessions ∈ WB := wi_27 _ (List.mem_of_getElem? (i := 4) rfl)
theorem wm_645 : Cond.code yX7_sessions cX7_sessions 12 (some .int) ∈ WB := wi_27 _ (List.mem_of_getElem? (i := 5) rfl)
theorem wm_646 : Cond.methodLink RX7 180 yX7_nextSeed ∈ WB := wi_27 _ (List.mem_of_getElem? (i := 6) rfl)
theorem wm_647 : Cond.static yX7_nextSeed ∈ WB := wi_27 _ (List.mem_of_getElem? (i := 7) rfl)
theorem wm_648 : Cond.code yX7_nextSeed cX7_nextSeed 2 (some .long) ∈ WB := wi_27 _ (List.mem_of_getElem? (i := 8) rfl)
theorem wm_649 : Cond.constantLong RX7 245 (1103515245) ∈ WB := wi_27 _ (List.mem_of_getElem? (i := 9) rfl)
theorem wm_650 : Cond.constantLong RX7 247 (12345) ∈ WB := wi_27 _ (List.mem_of_getElem? (i := 10) rfl)
theorem wm_651 : Cond.constantLong RX7 249 (2147483648) ∈ WB := wi_27 _ (List.mem_of_getElem? (i := 11) rfl)
theorem wm_652 : Cond.methodLink RX7 184 yX7_draw ∈ WB := wi_27 _ (List.mem_of_getElem? (i := 12) rfl)
theorem wm_653 : Cond.static yX7_draw ∈ WB := wi_27 _ (List.mem_of_getElem? (i := 13) rfl)
theorem wm_654 : Cond.code yX7_draw cX7_draw 3 (some .int) ∈ WB := wi_27 _ (List.mem_of_getElem? (i := 14) rfl)
theorem wm_655 : Cond.constantLong RX7 251 (65536) ∈ WB := wi_27 _ (List.mem_of_getElem? (i := 15) rfl)
theorem wm_656 : Cond.methodLink RX7 188 yX7_about ∈ WB := wi_27 _ (List.mem_of_getElem? (i := 16) rfl)
theorem wm_657 : Cond.methodLink RL 87 yX8_sessions ∈ WB := wi_27 _ (List.mem_of_getElem? (i := 17) rfl)
theorem wm_658 : Cond.instanceMethod yX8_sessions ∈ WB := wi_27 _ (List.mem_of_getElem? (i := 18) rfl)
theorem wm_659 : Cond.selects RX8 yX8_sessions yX8_sessions ∈ WB := wi_27 _ (List.mem_of_getElem? (i := 19) rfl)
theorem wm_660 : Cond.code yX8_sessions cX8_sessions 5 (some .int) ∈ WB := wi_27 _ (List.mem_of_getElem? (i := 20) rfl)
theorem wm_661 : Cond.methodLink RX8 227 yX8_sessionsNow ∈ WB := wi_27 _ (List.mem_of_getElem? (i := 21) rfl)
theorem wm_662 : Cond.instanceMethod yX8_sessionsNow ∈ WB := wi_27 _ (List.mem_of_getElem? (i := 22) rfl)
theorem wm_663 : Cond.selects RX8 yX8_sessionsNow yX8_sessionsNow ∈ WB := wi_27 _ (List.mem_of_getElem? (i := 23) rfl)
theorem wm_664 : Cond.code yX8_sessionsNow cX8_sessionsNow 10 (some .int) ∈ WB := wi_28 _ (List.mem_of_getElem? (i := 0) rfl)
theorem wm_665 : Cond.fieldLink RX8 214 "DryLoafModel" "seedNow" "J" ∈ WB := wi_28 _ (List.mem_of_getElem? (i := 1) rfl)
theorem wm_666 : Cond.methodLink RX8 224 yX8_draw ∈ WB := wi_28 _ (List.mem_of_getElem? (i := 2) rfl)
theorem wm_667 : Cond.instanceMethod yX8_draw ∈ WB := wi_28 _ (List.mem_of_getElem? (i := 3) rfl)
theorem wm_668 : Cond.selects RX8 yX8_draw yX8_draw ∈ WB := wi_28 _ (List.mem_of_getElem? (i := 4) rfl)
theorem wm_669 : Cond.code yX8_draw cX8_draw 2 (some .int) ∈ WB := wi_28 _ (List.mem_of_getElem? (i := 5) rfl)
theorem wm_670 : Cond.constantLong RX8 212 (1103515245) ∈ WB := wi_28 _ (List.mem_of_getElem? (i := 6) rfl)
theorem wm_671 : Cond.constantLong RX8 218 (12345) ∈ WB := wi_28 _ (List.mem_of_getElem? (i := 7) rfl)
theorem wm_672 : Cond.constantLong RX8 220 (2147483647) ∈ WB := wi_28 _ (List.mem_of_getElem? (i := 8) rfl)
theorem wm_673 : Cond.constantLong RX8 222 (65536) ∈ WB := wi_28 _ (List.mem_of_getElem? (i := 9) rfl)
theorem wm_674 : Cond.methodLink RL 88 yX7_image ∈ WB := wi_28 _ (List.mem_of_getElem? (i := 10) rfl)
theorem wm_675 : Cond.instanceMethod yX7_image ∈ WB := wi_28 _ (List.mem_of_getElem? (i := 11) rfl)
theorem wm_676 : Cond.selects RX7 yX7_image yX7_image ∈ WB := wi_28 _ (List.mem_of_getElem? (i := 12) rfl)
theorem wm_677 : Cond.code yX7_image cX7_image 1 (some .int) ∈ WB := wi_28 _ (List.mem_of_getElem? (i := 13) rfl)
theorem wm_678 : Cond.fieldLink RX7 196 "DryLoaf" "keptCourt" "I" ∈ WB := wi_28 _ (List.mem_of_getElem? (i := 14) rfl)
theorem wm_679 : Cond.methodLink RX7 192 yX4_copyFrom ∈ WB := wi_28 _ (List.mem_of_getElem? (i := 15) rfl)
theorem wm_680 : Cond.instanceMethod yX4_copyFrom ∈ WB := wi_28 _ (List.mem_of_getElem? (i := 16) rfl)
theorem wm_681 : Cond.selects RX4 yX4_copyFrom yX4_copyFrom ∈ WB := wi_28 _ (List.mem_of_getElem? (i := 17) rfl)
theorem wm_682 : Cond.code yX4_copyFrom cX4_copyFrom 3 none ∈ WB := wi_28 _ (List.mem_of_getElem? (i := 18) rfl)
theorem wm_683 : Cond.methodLink RL 91 yX8_image ∈ WB := wi_28 _ (List.mem_of_getElem? (i := 19) rfl)
theorem wm_684 : Cond.instanceMethod yX8_image ∈ WB := wi_28 _ (List.mem_of_getElem? (i := 20) rfl)
theorem wm_685 : Cond.selects RX8 yX8_image yX8_image ∈ WB := wi_28 _ (List.mem_of_getElem? (i := 21) rfl)
theorem wm_686 : Cond.code yX8_image cX8_image 2 (some .int) ∈ WB := wi_28 _ (List.mem_of_getElem? (i := 22) rfl)
theorem wm_687 : Cond.fieldLink RX8 231 "DryLoafModel" "isKept" "Z" ∈ WB := wi_28 _ (List.mem_of_getElem? (i := 23) rfl)
theorem wm_688 : Cond.fieldLink RX8 234 "DryLoafModel" "keptCourt" "I" ∈ WB := wi_29 _ (List.mem_of_getElem? (i := 0) rfl)
theorem wm_689 : Cond.fieldLink RX8 237 "DryLoafModel" "keptDry" "I" ∈ WB := wi_29 _ (List.mem_of_getElem? (i := 1) rfl)
theorem wm_690 : Cond.fieldLink RX8 240 "DryLoafModel" "keptAte" "I" ∈ WB := wi_29 _ (List.mem_of_getElem? (i := 2) rfl)
theorem wm_691 : Cond.fieldLink RX8 243 "DryLoafModel" "keptHeard" "I" ∈ WB := wi_29 _ (List.mem_of_getElem? (i := 3) rfl)
theorem wm_692 : Cond.methodLink RL 92 yX7_restore ∈ WB := wi_29 _ (List.mem_of_getElem? (i := 4) rfl)
theorem wm_693 : Cond.instanceMethod yX7_restore ∈ WB := wi_29 _ (List.mem_of_getElem? (i := 5) rfl)
theorem wm_694 : Cond.selects RX7 yX7_restore yX7_restore ∈ WB := wi_29 _ (List.mem_of_getElem? (i := 6) rfl)
theorem wm_695 : Cond.code yX7_restore cX7_restore 1 (some .int) ∈ WB := wi_29 _ (List.mem_of_getElem? (i := 7) rfl)
theorem wm_696 : Cond.methodLink RL 95 yX8_restore ∈ WB := wi_29 _ (List.mem_of_getElem? (i := 8) rfl)
theorem wm_697 : Cond.instanceMethod yX8_restore ∈ WB := wi_29 _ (List.mem_of_getElem? (i := 9) rfl)
theorem wm_698 : Cond.selects RX8 yX8_restore yX8_restore ∈ WB := wi_29 _ (List.mem_of_getElem? (i := 10) rfl)
theorem wm_699 : Cond.code yX8_restore cX8_restore 2 (some .int) ∈ WB := wi_29 _ (List.mem_of_getElem? (i := 11) rfl)
theorem wm_700 : Cond.methodLink RL 96 yX7_count ∈ WB := wi_29 _ (List.mem_of_getElem? (i := 12) rfl)
theorem wm_701 : Cond.instanceMethod yX7_count ∈ WB := wi_29 _ (List.mem_of_getElem? (i := 13) rfl)
theorem wm_702 : Cond.selects RX7 yX7_count yX7_count ∈ WB := wi_29 _ (List.mem_of_getElem? (i := 14) rfl)
theorem wm_703 : Cond.code yX7_count cX7_count 2 (some .int) ∈ WB := wi_29 _ (List.mem_of_getElem? (i := 15) rfl)
theorem wm_704 : Cond.methodLink RL 99 yX8_count ∈ WB := wi_29 _ (List.mem_of_getElem? (i := 16) rfl)
theorem wm_705 : Cond.instanceMethod yX8_count ∈ WB := wi_29 _ (List.mem_of_getElem? (i := 17) rfl)
theorem wm_706 : Cond.selects RX8 yX8_count yX8_count ∈ WB := wi_29 _ (List.mem_of_getElem? (i := 18) rfl)
theorem wm_707 : Cond.code yX8_count cX8_count 2 (some .int) ∈ WB := wi_29 _ (List.mem_of_getElem? (i := 19) rfl)
theorem wm_708 : Cond.methodLink RX8 249 yX8_howMany ∈ WB := wi_29 _ (List.mem_of_getElem? (i := 20) rfl)
theorem wm_709 : Cond.instanceMethod yX8_howMany ∈ WB := wi_29 _ (List.mem_of_getElem? (i := 21) rfl)
theorem wm_710 : Cond.selects RX8 yX8_howMany yX8_howMany ∈ WB := wi_29 _ (List.mem_of_getElem? (i := 22) rfl)
theorem wm_711 : Cond.code yX8_howMany cX8_howMany 2 (some .int) ∈ WB := wi_29 _ (List.mem_of_getElem? (i := 23) rfl)
theorem wm_712 : Cond.methodLink RX8 246 yX8_sum ∈ WB := wi_30 _ (List.mem_of_getElem? (i := 0) rfl)
theorem wm_713 : Cond.instanceMethod yX8_sum ∈ WB := wi_30 _ (List.mem_of_getElem? (i := 1) rfl)
theorem wm_714 : Cond.selects RX8 yX8_sum yX8_sum ∈ WB := wi_30 _ (List.mem_of_getElem? (i := 2) rfl)
theorem wm_715 : Cond.code yX8_sum cX8_sum 4 (some .int) ∈ WB := wi_30 _ (List.mem_of_getElem? (i := 3) rfl)
theorem wm_716 : Cond.methodLink RL 100 yX7_digest ∈ WB := wi_30 _ (List.mem_of_getElem? (i := 4) rfl)
theorem wm_717 : Cond.instanceMethod yX7_digest ∈ WB := wi_30 _ (List.mem_of_getElem? (i := 5) rfl)
theorem wm_718 : Cond.selects RX7 yX7_digest yX7_digest ∈ WB := wi_30 _ (List.mem_of_getElem? (i := 6) rfl)
theorem wm_719 : Cond.code yX7_digest cX7_digest 4 (some .long) ∈ WB := wi_30 _ (List.mem_of_getElem? (i := 7) rfl)
theorem wm_720 : Cond.constantLong RX7 199 (919) ∈ WB := wi_30 _ (List.mem_of_getElem? (i := 8) rfl)
theorem wm_721 : Cond.methodLink RX7 201 yX7_foldAccused ∈ WB := wi_30 _ (List.mem_of_getElem? (i := 9) rfl)
theorem wm_722 : Cond.instanceMethod yX7_foldAccused ∈ WB := wi_30 _ (List.mem_of_getElem? (i := 10) rfl)
theorem wm_723 : Cond.selects RX7 yX7_foldAccused yX7_foldAccused ∈ WB := wi_30 _ (List.mem_of_getElem? (i := 11) rfl)
theorem wm_724 : Cond.code yX7_foldAccused cX7_foldAccused 7 (some .long) ∈ WB := wi_30 _ (List.mem_of_getElem? (i := 12) rfl)
theorem wm_725 : Cond.methodLink RX7 208 yX7_fold ∈ WB := wi_30 _ (List.mem_of_getElem? (i := 13) rfl)
theorem wm_726 : Cond.static yX7_fold ∈ WB := wi_30 _ (List.mem_of_getElem? (i := 14) rfl)
theorem wm_727 : Cond.code yX7_fold cX7_fold 4 (some .long) ∈ WB := wi_30 _ (List.mem_of_getElem? (i := 15) rfl)
theorem wm_728 : Cond.constantLong RX7 228 (31) ∈ WB := wi_30 _ (List.mem_of_getElem? (i := 16) rfl)
theorem wm_729 : Cond.methodLink RX7 218 yX7_belief ∈ WB := wi_30 _ (List.mem_of_getElem? (i := 17) rfl)
theorem wm_730 : Cond.methodLink RX7 222 yX7_driest ∈ WB := wi_30 _ (List.mem_of_getElem? (i := 18) rfl)
theorem wm_731 : Cond.methodLink RX7 225 yX7_buttered ∈ WB := wi_30 _ (List.mem_of_getElem? (i := 19) rfl)
theorem wm_732 : Cond.methodLink RX7 205 yX7_judged ∈ WB := wi_30 _ (List.mem_of_getElem? (i := 20) rfl)
theorem wm_733 : Cond.methodLink RX7 212 yX1_codeAt ∈ WB := wi_30 _ (List.mem_of_getElem? (i := 21) rfl)
theorem wm_734 : Cond.methodLink RX7 215 yX7_count ∈ WB := wi_30 _ (List.mem_of_getElem? (i := 22) rfl)
theorem wm_735 : Cond.methodLink RL 104 yX8_digest ∈ WB := wi_30 _ (List.mem_of_getElem? (i := 23) rfl)
theorem wm_736 : Cond.instanceMethod yX8_digest ∈ WB := wi_31 _ (List.mem_of_getElem? (i := 0) rfl)
theorem wm_737 : Cond.selects RX8 yX8_digest yX8_digest ∈ WB := wi_31 _ (List.mem_of_getElem? (i := 1) rfl)
theorem wm_738 : Cond.code yX8_digest cX8_digest 2 (some .long) ∈ WB := wi_31 _ (List.mem_of_getElem? (i := 2) rfl)
theorem wm_739 : Cond.constantLong RX8 261 (919) ∈ WB := wi_31 _ (List.mem_of_getElem? (i := 3) rfl)
theorem wm_740 : Cond.fieldLink RX8 254 "DryLoafModel" "h" "J" ∈ WB := wi_31 _ (List.mem_of_getElem? (i := 4) rfl)
theorem wm_741 : Cond.methodLink RX8 263 yX8_mixOne ∈ WB := wi_31 _ (List.mem_of_getElem? (i := 5) rfl)
theorem wm_742 : Cond.instanceMethod yX8_mixOne ∈ WB := wi_31 _ (List.mem_of_getElem? (i := 6) rfl)
theorem wm_743 : Cond.selects RX8 yX8_mixOne yX8_mixOne ∈ WB := wi_31 _ (List.mem_of_getElem? (i := 7) rfl)
theorem wm_744 : Cond.code yX8_mixOne cX8_mixOne 3 none ∈ WB := wi_31 _ (List.mem_of_getElem? (i := 8) rfl)
theorem wm_745 : Cond.methodLink RX8 257 yX8_mix ∈ WB := wi_31 _ (List.mem_of_getElem? (i := 9) rfl)
theorem wm_746 : Cond.instanceMethod yX8_mix ∈ WB := wi_31 _ (List.mem_of_getElem? (i := 10) rfl)
theorem wm_747 : Cond.selects RX8 yX8_mix yX8_mix ∈ WB := wi_31 _ (List.mem_of_getElem? (i := 11) rfl)
theorem wm_748 : Cond.code yX8_mix cX8_mix 3 none ∈ WB := wi_31 _ (List.mem_of_getElem? (i := 12) rfl)
theorem wm_749 : Cond.constantLong RX8 252 (31) ∈ WB := wi_31 _ (List.mem_of_getElem? (i := 13) rfl)
/-- every method speaks by its own code and the one list of words -/
theorem WB_in {y z : MethodName} {cy cz : ByteArray} {my mz : Nat} {ry rz : Option FieldType} (h : Cond.code y cy my ry ∈ WB) : GoodIn (.code z cz mz rz :: WB) (.code y cy my ry :: WB) := fun w hw => by
  rcases List.mem_cons.mp hw with e | hw
  · rw [e]
    exact ⟨List.mem_cons_of_mem _ h, good_of_word (WB_good _ h)⟩
  · exact ⟨List.mem_cons_of_mem _ hw, good_of_word (WB_good _ hw)⟩
theorem WB_inL {y : MethodName} {cy : ByteArray} {my : Nat} {ry : Option FieldType} (h : Cond.code y cy my ry ∈ WB) : GoodIn WB (.code y cy my ry :: WB) := fun w hw => by
  rcases List.mem_cons.mp hw with e | hw
  · rw [e]
    exact ⟨h, good_of_word (WB_good _ h)⟩
  · exact ⟨hw, good_of_word (WB_good _ hw)⟩
abbrev vwCl : List vw_C := [(RX0, TX0, 2), (RX1, TX1, 2), (RX2, TX2, 2), (RX3, TX3, 2), (RX4, TX4, 7), (RX5, TX5, 2), (RX6, TX6, 2), (RX7, TX7, 9), (RX8, TX8, 38)]

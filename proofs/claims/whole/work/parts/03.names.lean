/-! ===== BEGIN printed: names, fields, word lists, decode rows ===== -/
def RX0 : String := "SteamBends$Kind"
def TX0 : u_T := fun k => match k with
  | 0 => ("SteamBends$Kind", "rows", "LSteamBends$Pairs;", true)
  | 1 => ("SteamBends$Kind", "readings", "LSteamBends$Pairs;", true)
  | 2 => ("SteamBends$Kind", "spring", "D", false)
  | _ => ("SteamBends$Kind", "step", "D", false)
def tyX0 : Nat → FieldType := fun k => match k with
  | 0 => .object "SteamBends$Pairs"
  | 1 => .object "SteamBends$Pairs"
  | 2 => .double
  | _ => .double
abbrev wsX00 : List Cond := u_ws RX0 TX0 4
theorem nmX0 : ∀ a, a < 4 → ∀ b, b < 4 → a ≠ b → (TX0 a).2.1 ≠ (TX0 b).2.1 := by decide +kernel
theorem tyX0_ok : ∀ k, k < 4 → parseFieldDescriptor (TX0 k).2.2.1 = some (tyX0 k) := by decide +kernel
abbrev cX0_init : ByteArray := prog_2_method_1_code
def yX0_init : MethodName := ⟨RX0, "<init>", "()V"⟩
abbrev cX0_isAboveRows : ByteArray := prog_2_method_2_code
def yX0_isAboveRows : MethodName := ⟨RX0, "isAboveRows", "(D)Z"⟩
abbrev cX0_leastRadius : ByteArray := prog_2_method_3_code
def yX0_leastRadius : MethodName := ⟨RX0, "leastRadius", "(D)D"⟩
abbrev cX0_radiusBetween : ByteArray := prog_2_method_4_code
def yX0_radiusBetween : MethodName := ⟨RX0, "radiusBetween", "(IID)D"⟩
abbrev cX0_leastStrips : ByteArray := prog_2_method_5_code
def yX0_leastStrips : MethodName := ⟨RX0, "leastStrips", "(DD)I"⟩
abbrev cX0_residue : ByteArray := prog_2_method_6_code
def yX0_residue : MethodName := ⟨RX0, "residue", "(D)D"⟩
abbrev cX0_fitsBetter : ByteArray := prog_2_method_7_code
def yX0_fitsBetter : MethodName := ⟨RX0, "fitsBetter", "()Z"⟩
abbrev cX0_formFor : ByteArray := prog_2_method_8_code
def yX0_formFor : MethodName := ⟨RX0, "formFor", "(D)D"⟩
def RX1 : String := "SteamBends$Pairs"
def TX1 : u_T := fun k => match k with
  | 0 => ("SteamBends$Pairs", "firsts", "[D", true)
  | 1 => ("SteamBends$Pairs", "seconds", "[D", true)
  | _ => ("SteamBends$Pairs", "count", "I", false)
def tyX1 : Nat → FieldType := fun k => match k with
  | 0 => .array .double
  | 1 => .array .double
  | _ => .int
abbrev wsX10 : List Cond := u_ws RX1 TX1 3
theorem nmX1 : ∀ a, a < 3 → ∀ b, b < 3 → a ≠ b → (TX1 a).2.1 ≠ (TX1 b).2.1 := by decide +kernel
theorem tyX1_ok : ∀ k, k < 3 → parseFieldDescriptor (TX1 k).2.2.1 = some (tyX1 k) := by decide +kernel
abbrev cX1_init : ByteArray := prog_3_method_1_code
def yX1_init : MethodName := ⟨RX1, "<init>", "(I)V"⟩
abbrev cX1_add : ByteArray := prog_3_method_2_code
def yX1_add : MethodName := ⟨RX1, "add", "(DD)I"⟩
abbrev cX1_removeAll : ByteArray := prog_3_method_3_code
def yX1_removeAll : MethodName := ⟨RX1, "removeAll", "()V"⟩
abbrev cX1_first : ByteArray := prog_3_method_4_code
def yX1_first : MethodName := ⟨RX1, "first", "(I)D"⟩
abbrev cX1_second : ByteArray := prog_3_method_5_code
def yX1_second : MethodName := ⟨RX1, "second", "(I)D"⟩
abbrev cX1_isPlace : ByteArray := prog_3_method_6_code
def yX1_isPlace : MethodName := ⟨RX1, "isPlace", "(I)Z"⟩
def RX2 : String := "SteamBends$Shape"
def TX2 : u_T := fun k => match k with
  | _ => ("SteamBends$Shape", "pieces", "LSteamBends$Pairs;", true)
def tyX2 : Nat → FieldType := fun k => match k with
  | _ => .object "SteamBends$Pairs"
abbrev wsX20 : List Cond := u_ws RX2 TX2 1
theorem nmX2 : ∀ a, a < 1 → ∀ b, b < 1 → a ≠ b → (TX2 a).2.1 ≠ (TX2 b).2.1 := by decide +kernel
theorem tyX2_ok : ∀ k, k < 1 → parseFieldDescriptor (TX2 k).2.2.1 = some (tyX2 k) := by decide +kernel
abbrev cX2_init : ByteArray := prog_4_method_1_code
def yX2_init : MethodName := ⟨RX2, "<init>", "()V"⟩
abbrev cX2_isBendable : ByteArray := prog_4_method_2_code
def yX2_isBendable : MethodName := ⟨RX2, "isBendable", "(D)Z"⟩
abbrev cX2_sumOfLengths : ByteArray := prog_4_method_3_code
def yX2_sumOfLengths : MethodName := ⟨RX2, "sumOfLengths", "(ZD)D"⟩
abbrev cX2_lengthOf : ByteArray := prog_4_method_4_code
def yX2_lengthOf : MethodName := ⟨RX2, "lengthOf", "(IZD)D"⟩
def RX3 : String := "SteamBends"
def TX3 : u_T := fun k => match k with
  | 0 => ("SteamBends", "kinds", "[LSteamBends$Kind;", true)
  | 1 => ("SteamBends", "shape", "LSteamBends$Shape;", true)
  | 2 => ("SteamBends", "kerfCount", "I", false)
  | _ => ("SteamBends", "kerfRest", "D", false)
def tyX3 : Nat → FieldType := fun k => match k with
  | 0 => .array (.object "SteamBends$Kind")
  | 1 => .object "SteamBends$Shape"
  | 2 => .int
  | _ => .double
abbrev wsX30 : List Cond := u_ws RX3 TX3 4
theorem nmX3 : ∀ a, a < 4 → ∀ b, b < 4 → a ≠ b → (TX3 a).2.1 ≠ (TX3 b).2.1 := by decide +kernel
theorem tyX3_ok : ∀ k, k < 4 → parseFieldDescriptor (TX3 k).2.2.1 = some (tyX3 k) := by decide +kernel
abbrev cX3_init : ByteArray := prog_1_method_1_code
def yX3_init : MethodName := ⟨RX3, "<init>", "()V"⟩
abbrev cX3_table : ByteArray := prog_1_method_2_code
def yX3_table : MethodName := ⟨RX3, "table", "(IDD)I"⟩
abbrev cX3_radius : ByteArray := prog_1_method_3_code
def yX3_radius : MethodName := ⟨RX3, "radius", "(ID)D"⟩
abbrev cX3_strips : ByteArray := prog_1_method_4_code
def yX3_strips : MethodName := ⟨RX3, "strips", "(IDD)I"⟩
abbrev cX3_read : ByteArray := prog_1_method_5_code
def yX3_read : MethodName := ⟨RX3, "read", "(IDD)I"⟩
abbrev cX3_fit : ByteArray := prog_1_method_6_code
def yX3_fit : MethodName := ⟨RX3, "fit", "(II)I"⟩
abbrev cX3_back : ByteArray := prog_1_method_7_code
def yX3_back : MethodName := ⟨RX3, "back", "(II)D"⟩
abbrev cX3_form : ByteArray := prog_1_method_8_code
def yX3_form : MethodName := ⟨RX3, "form", "(ID)D"⟩
abbrev cX3_minutes : ByteArray := prog_1_method_9_code
def yX3_minutes : MethodName := ⟨RX3, "minutes", "(D)D"⟩
abbrev cX3_piece : ByteArray := prog_1_method_10_code
def yX3_piece : MethodName := ⟨RX3, "piece", "(DD)I"⟩
abbrev cX3_clear : ByteArray := prog_1_method_11_code
def yX3_clear : MethodName := ⟨RX3, "clear", "()V"⟩
abbrev cX3_length : ByteArray := prog_1_method_12_code
def yX3_length : MethodName := ⟨RX3, "length", "(ZD)D"⟩
abbrev cX3_kerfs : ByteArray := prog_1_method_13_code
def yX3_kerfs : MethodName := ⟨RX3, "kerfs", "(DDDD)I"⟩
abbrev cX3_kerfAt : ByteArray := prog_1_method_14_code
def yX3_kerfAt : MethodName := ⟨RX3, "kerfAt", "(ID)D"⟩
abbrev cX3_rest : ByteArray := prog_1_method_15_code
def yX3_rest : MethodName := ⟨RX3, "rest", "()D"⟩
abbrev cX3_broken : ByteArray := prog_1_method_16_code
def yX3_broken : MethodName := ⟨RX3, "broken", "(III)J"⟩
abbrev cX3_relaxed : ByteArray := prog_1_method_17_code
def yX3_relaxed : MethodName := ⟨RX3, "relaxed", "(II)D"⟩
abbrev cX3_kindOf : ByteArray := prog_1_method_18_code
def yX3_kindOf : MethodName := ⟨RX3, "kindOf", "(I)LSteamBends$Kind;"⟩
abbrev cX3_isWithin : ByteArray := prog_1_method_19_code
def yX3_isWithin : MethodName := ⟨RX3, "isWithin", "(DDD)Z"⟩
abbrev cX3_isNone : ByteArray := prog_1_method_20_code
def yX3_isNone : MethodName := ⟨RX3, "isNone", "(D)Z"⟩
abbrev cX3_leastKerfs : ByteArray := prog_1_method_21_code
def yX3_leastKerfs : MethodName := ⟨RX3, "leastKerfs", "(DD)I"⟩
abbrev cX3_commonDivisor : ByteArray := prog_1_method_22_code
def yX3_commonDivisor : MethodName := ⟨RX3, "commonDivisor", "(II)I"⟩
def RX4 : String := "SteamBendsModel"
def TX4 : u_T := fun k => match k with
  | 0 => ("SteamBendsModel", "code", "I", false)
  | 1 => ("SteamBendsModel", "rows", "[I", true)
  | 2 => ("SteamBendsModel", "thicks", "[D", true)
  | 3 => ("SteamBendsModel", "radii", "[D", true)
  | 4 => ("SteamBendsModel", "readings", "[I", true)
  | 5 => ("SteamBendsModel", "bents", "[D", true)
  | 6 => ("SteamBendsModel", "kepts", "[D", true)
  | 7 => ("SteamBendsModel", "springs", "[D", true)
  | 8 => ("SteamBendsModel", "steps", "[D", true)
  | 9 => ("SteamBendsModel", "pieces", "I", false)
  | 10 => ("SteamBendsModel", "lengths", "[D", true)
  | 11 => ("SteamBendsModel", "bends", "[D", true)
  | 12 => ("SteamBendsModel", "cuts", "I", false)
  | 13 => ("SteamBendsModel", "over", "D", false)
  | _ => ("SteamBendsModel", "isFound", "Z", false)
def tyX4 : Nat → FieldType := fun k => match k with
  | 0 => .int
  | 1 => .array .int
  | 2 => .array .double
  | 3 => .array .double
  | 4 => .array .int
  | 5 => .array .double
  | 6 => .array .double
  | 7 => .array .double
  | 8 => .array .double
  | 9 => .int
  | 10 => .array .double
  | 11 => .array .double
  | 12 => .int
  | 13 => .double
  | _ => .boolean
abbrev wsX40 : List Cond := u_ws RX4 TX4 15
theorem nmX4 : ∀ a, a < 15 → ∀ b, b < 15 → a ≠ b → (TX4 a).2.1 ≠ (TX4 b).2.1 := by decide +kernel
theorem tyX4_ok : ∀ k, k < 15 → parseFieldDescriptor (TX4 k).2.2.1 = some (tyX4 k) := by decide +kernel
abbrev cX4_init : ByteArray := prog_6_method_1_code
def yX4_init : MethodName := ⟨RX4, "<init>", "()V"⟩
abbrev cX4_thrown : ByteArray := prog_6_method_2_code
def yX4_thrown : MethodName := ⟨RX4, "thrown", "()I"⟩
abbrev cX4_isIn : ByteArray := prog_6_method_3_code
def yX4_isIn : MethodName := ⟨RX4, "isIn", "(DDD)Z"⟩
abbrev cX4_isKind : ByteArray := prog_6_method_4_code
def yX4_isKind : MethodName := ⟨RX4, "isKind", "(I)Z"⟩
abbrev cX4_table : ByteArray := prog_6_method_5_code
def yX4_table : MethodName := ⟨RX4, "table", "(IDD)I"⟩
abbrev cX4_radiusAt : ByteArray := prog_6_method_6_code
def yX4_radiusAt : MethodName := ⟨RX4, "radiusAt", "(ID)D"⟩
abbrev cX4_radius : ByteArray := prog_6_method_7_code
def yX4_radius : MethodName := ⟨RX4, "radius", "(ID)D"⟩
abbrev cX4_strips : ByteArray := prog_6_method_8_code
def yX4_strips : MethodName := ⟨RX4, "strips", "(IDD)I"⟩
abbrev cX4_read : ByteArray := prog_6_method_9_code
def yX4_read : MethodName := ⟨RX4, "read", "(IDD)I"⟩
abbrev cX4_residue : ByteArray := prog_6_method_10_code
def yX4_residue : MethodName := ⟨RX4, "residue", "(ID)D"⟩
abbrev cX4_improves : ByteArray := prog_6_method_11_code
def yX4_improves : MethodName := ⟨RX4, "improves", "(I)Z"⟩
abbrev cX4_fit : ByteArray := prog_6_method_12_code
def yX4_fit : MethodName := ⟨RX4, "fit", "(II)I"⟩
abbrev cX4_back : ByteArray := prog_6_method_13_code
def yX4_back : MethodName := ⟨RX4, "back", "(II)D"⟩
abbrev cX4_form : ByteArray := prog_6_method_14_code
def yX4_form : MethodName := ⟨RX4, "form", "(ID)D"⟩
abbrev cX4_minutes : ByteArray := prog_6_method_15_code
def yX4_minutes : MethodName := ⟨RX4, "minutes", "(D)D"⟩
abbrev cX4_piece : ByteArray := prog_6_method_16_code
def yX4_piece : MethodName := ⟨RX4, "piece", "(DD)I"⟩
abbrev cX4_clear : ByteArray := prog_6_method_17_code
def yX4_clear : MethodName := ⟨RX4, "clear", "()V"⟩
abbrev cX4_length : ByteArray := prog_6_method_18_code
def yX4_length : MethodName := ⟨RX4, "length", "(ZD)D"⟩
abbrev cX4_kerfs : ByteArray := prog_6_method_19_code
def yX4_kerfs : MethodName := ⟨RX4, "kerfs", "(DDDD)I"⟩
abbrev cX4_kerfAt : ByteArray := prog_6_method_20_code
def yX4_kerfAt : MethodName := ⟨RX4, "kerfAt", "(ID)D"⟩
abbrev cX4_rest : ByteArray := prog_6_method_21_code
def yX4_rest : MethodName := ⟨RX4, "rest", "()D"⟩
abbrev cX4_common : ByteArray := prog_6_method_22_code
def yX4_common : MethodName := ⟨RX4, "common", "(II)I"⟩
abbrev cX4_broken : ByteArray := prog_6_method_23_code
def yX4_broken : MethodName := ⟨RX4, "broken", "(III)J"⟩
abbrev cX4_relaxed : ByteArray := prog_6_method_24_code
def yX4_relaxed : MethodName := ⟨RX4, "relaxed", "(II)D"⟩
def RJ9 : String := "java/lang/Math"
def TJ9 : u_T := fun k => match k with
  | _ => ("", "", "", false)
def tyJ9 : Nat → FieldType := fun k => match k with
  | _ => .int
abbrev wsJ90 : List Cond := u_ws RJ9 TJ9 0
theorem nmJ9 : ∀ a, a < 0 → ∀ b, b < 0 → a ≠ b → (TJ9 a).2.1 ≠ (TJ9 b).2.1 := by decide +kernel
theorem tyJ9_ok : ∀ k, k < 0 → parseFieldDescriptor (TJ9 k).2.2.1 = some (tyJ9 k) := by decide +kernel
abbrev cJ9_max_7cf53 : ByteArray := prog_11_method_65_code
def yJ9_max_7cf53 : MethodName := ⟨RJ9, "max", "(II)I"⟩
def RJ0 : String := "java/lang/String"
def TJ0 : u_T := fun k => match k with
  | _ => ("", "", "", false)
def tyJ0 : Nat → FieldType := fun k => match k with
  | _ => .int
abbrev wsJ00 : List Cond := u_ws RJ0 TJ0 0
theorem nmJ0 : ∀ a, a < 0 → ∀ b, b < 0 → a ≠ b → (TJ0 a).2.1 ≠ (TJ0 b).2.1 := by decide +kernel
theorem tyJ0_ok : ∀ k, k < 0 → parseFieldDescriptor (TJ0 k).2.2.1 = some (tyJ0 k) := by decide +kernel
def RL : String := "SteamBendsLaw"
abbrev cL_table : ByteArray := method_3_code
def yL_table : MethodName := ⟨RL, "table", "(LSteamBends;IDD[J)I"⟩
abbrev cL_radius : ByteArray := method_4_code
def yL_radius : MethodName := ⟨RL, "radius", "(LSteamBends;ID[D)I"⟩
abbrev cL_strips : ByteArray := method_5_code
def yL_strips : MethodName := ⟨RL, "strips", "(LSteamBends;IDD[J)I"⟩
abbrev cL_read : ByteArray := method_6_code
def yL_read : MethodName := ⟨RL, "read", "(LSteamBends;IDD[J)I"⟩
abbrev cL_fit : ByteArray := method_7_code
def yL_fit : MethodName := ⟨RL, "fit", "(LSteamBends;II[J)I"⟩
abbrev cL_back : ByteArray := method_8_code
def yL_back : MethodName := ⟨RL, "back", "(LSteamBends;II[D)I"⟩
abbrev cL_form : ByteArray := method_9_code
def yL_form : MethodName := ⟨RL, "form", "(LSteamBends;ID[D)I"⟩
abbrev cL_minutes : ByteArray := method_10_code
def yL_minutes : MethodName := ⟨RL, "minutes", "(LSteamBends;D[D)I"⟩
abbrev cL_piece : ByteArray := method_11_code
def yL_piece : MethodName := ⟨RL, "piece", "(LSteamBends;DD[J)I"⟩
abbrev cL_length : ByteArray := method_12_code
def yL_length : MethodName := ⟨RL, "length", "(LSteamBends;ZD[D)I"⟩
abbrev cL_kerfs : ByteArray := method_13_code
def yL_kerfs : MethodName := ⟨RL, "kerfs", "(LSteamBends;DDDD[J)I"⟩
abbrev cL_kerfAt : ByteArray := method_14_code
def yL_kerfAt : MethodName := ⟨RL, "kerfAt", "(LSteamBends;ID[D)I"⟩
abbrev cL_rest : ByteArray := method_15_code
def yL_rest : MethodName := ⟨RL, "rest", "(LSteamBends;[D)I"⟩
abbrev cL_broken : ByteArray := method_16_code
def yL_broken : MethodName := ⟨RL, "broken", "(LSteamBends;III[J)I"⟩
abbrev cL_relaxed : ByteArray := method_17_code
def yL_relaxed : MethodName := ⟨RL, "relaxed", "(LSteamBends;II[D)I"⟩
abbrev cL_law : ByteArray := code
def yL_law : MethodName := ⟨RL, "law", "([I)Z"⟩
def wsX1_init : List Cond := .code yX1_init cX1_init 3 none :: ([.methodLink RX1 3 objectInit, .instanceMethod objectInit, .code objectInit ⟨#[0xb1]⟩ 1 none, .fieldLink RX1 9 "SteamBends$Pairs" "count" "I", .methodLink RX1 15 Lib.Math.max.name, .static Lib.Math.max.name, .initialized "java/lang/Math", .code Lib.Math.max.name Lib.Math.max.code 2 (some .int), .arrayClass .double, .fieldLink RX1 21 "SteamBends$Pairs" "firsts" "[D", .fieldLink RX1 25 "SteamBends$Pairs" "seconds" "[D"] ++ wsX10)
def wsX0_init : List Cond := .code yX0_init cX0_init 1 none :: ([.methodLink RX0 3 objectInit, .instanceMethod objectInit, .code objectInit ⟨#[0xb1]⟩ 1 none, .classLink RX0 9 RX1, .instantiable RX1 3, .initialized RX1, .fieldLink RX0 14 "SteamBends$Kind" "rows" "LSteamBends$Pairs;", .fieldLink RX0 20 "SteamBends$Kind" "readings" "LSteamBends$Pairs;", .constantDouble RX0 23 (4598175219545276416), .fieldLink RX0 25 "SteamBends$Kind" "spring" "D", .fieldLink RX0 29 "SteamBends$Kind" "step" "D", .methodLink RX0 11 yX1_init, .instanceMethod yX1_init, .code yX1_init cX1_init 3 none, .methodLink RX1 3 objectInit, .fieldLink RX1 9 "SteamBends$Pairs" "count" "I", .methodLink RX1 15 Lib.Math.max.name, .static Lib.Math.max.name, .initialized "java/lang/Math", .code Lib.Math.max.name Lib.Math.max.code 2 (some .int), .arrayClass .double, .fieldLink RX1 21 "SteamBends$Pairs" "firsts" "[D", .fieldLink RX1 25 "SteamBends$Pairs" "seconds" "[D"] ++ wsX10 ++ wsX00)
def wsX1_isPlace : List Cond := .code yX1_isPlace cX1_isPlace 2 (some .boolean) :: ([.fieldLink RX1 21 "SteamBends$Pairs" "firsts" "[D", .fieldLink RX1 25 "SteamBends$Pairs" "seconds" "[D"] ++ wsX10)
def wsX1_first : List Cond := .code yX1_first cX1_first 2 (some .double) :: ([.fieldLink RX1 21 "SteamBends$Pairs" "firsts" "[D", .methodLink RX1 28 yX1_isPlace, .instanceMethod yX1_isPlace, .selects RX1 yX1_isPlace yX1_isPlace, .initialized RX1, .code yX1_isPlace cX1_isPlace 2 (some .boolean), .fieldLink RX1 25 "SteamBends$Pairs" "seconds" "[D"] ++ wsX10)
def wsX0_isAboveRows : List Cond := .code yX0_isAboveRows cX0_isAboveRows 3 (some .boolean) :: ([.fieldLink RX0 14 "SteamBends$Kind" "rows" "LSteamBends$Pairs;", .methodLink RX0 36 yX1_first, .instanceMethod yX1_first, .selects RX1 yX1_first yX1_first, .initialized RX1, .code yX1_first cX1_first 2 (some .double), .fieldLink RX1 21 "SteamBends$Pairs" "firsts" "[D", .methodLink RX1 28 yX1_isPlace, .instanceMethod yX1_isPlace, .selects RX1 yX1_isPlace yX1_isPlace, .code yX1_isPlace cX1_isPlace 2 (some .boolean), .fieldLink RX1 25 "SteamBends$Pairs" "seconds" "[D"] ++ wsX00 ++ wsX10)
def wsX1_second : List Cond := .code yX1_second cX1_second 2 (some .double) :: ([.fieldLink RX1 25 "SteamBends$Pairs" "seconds" "[D", .methodLink RX1 28 yX1_isPlace, .instanceMethod yX1_isPlace, .selects RX1 yX1_isPlace yX1_isPlace, .initialized RX1, .code yX1_isPlace cX1_isPlace 2 (some .boolean), .fieldLink RX1 21 "SteamBends$Pairs" "firsts" "[D"] ++ wsX10)
def wsX0_radiusBetween : List Cond := .code yX0_radiusBetween cX0_radiusBetween 13 (some .double) :: ([.fieldLink RX0 14 "SteamBends$Kind" "rows" "LSteamBends$Pairs;", .methodLink RX0 36 yX1_first, .instanceMethod yX1_first, .selects RX1 yX1_first yX1_first, .initialized RX1, .code yX1_first cX1_first 2 (some .double), .fieldLink RX1 21 "SteamBends$Pairs" "firsts" "[D", .methodLink RX1 28 yX1_isPlace, .instanceMethod yX1_isPlace, .selects RX1 yX1_isPlace yX1_isPlace, .code yX1_isPlace cX1_isPlace 2 (some .boolean), .fieldLink RX1 25 "SteamBends$Pairs" "seconds" "[D", .methodLink RX0 40 yX1_second, .instanceMethod yX1_second, .selects RX1 yX1_second yX1_second, .code yX1_second cX1_second 2 (some .double)] ++ wsX00 ++ wsX10)
def wsX0_leastRadius : List Cond := .code yX0_leastRadius cX0_leastRadius 4 (some .double) :: ([.fieldLink RX0 14 "SteamBends$Kind" "rows" "LSteamBends$Pairs;", .constantDouble RX0 43 (13830554455654793216), .methodLink RX0 36 yX1_first, .instanceMethod yX1_first, .selects RX1 yX1_first yX1_first, .initialized RX1, .code yX1_first cX1_first 2 (some .double), .fieldLink RX1 21 "SteamBends$Pairs" "firsts" "[D", .methodLink RX1 28 yX1_isPlace, .instanceMethod yX1_isPlace, .selects RX1 yX1_isPlace yX1_isPlace, .code yX1_isPlace cX1_isPlace 2 (some .boolean), .fieldLink RX1 25 "SteamBends$Pairs" "seconds" "[D", .methodLink RX0 40 yX1_second, .instanceMethod yX1_second, .selects RX1 yX1_second yX1_second, .code yX1_second cX1_second 2 (some .double), .methodLink RX0 45 yX0_radiusBetween, .instanceMethod yX0_radiusBetween, .selects RX0 yX0_radiusBetween yX0_radiusBetween, .initialized RX0, .code yX0_radiusBetween cX0_radiusBetween 13 (some .double)] ++ wsX00 ++ wsX10)
def wsX3_isNone : List Cond := .code yX3_isNone cX3_isNone 2 (some .boolean) :: ([])
def wsX0_leastStrips_r1 : List Cond := [Cond.methodLink RX0 49 yX0_leastRadius, Cond.instanceMethod yX0_leastRadius, Cond.selects RX0 yX0_leastRadius yX0_leastRadius, Cond.initialized RX0, Cond.code yX0_leastRadius cX0_leastRadius 4 (some .double), Cond.fieldLink RX0 14 "SteamBends$Kind" "rows" "LSteamBends$Pairs;", Cond.constantDouble RX0 43 (13830554455654793216), Cond.methodLink RX0 36 yX1_first, Cond.instanceMethod yX1_first, Cond.selects RX1 yX1_first yX1_first, Cond.initialized RX1, Cond.code yX1_first cX1_first 2 (some .double), Cond.fieldLink RX1 21 "SteamBends$Pairs" "firsts" "[D", Cond.methodLink RX1 28 yX1_isPlace, Cond.instanceMethod yX1_isPlace, Cond.selects RX1 yX1_isPlace yX1_isPlace, Cond.code yX1_isPlace cX1_isPlace 2 (some .boolean), Cond.fieldLink RX1 25 "SteamBends$Pairs" "seconds" "[D", Cond.methodLink RX0 40 yX1_second, Cond.instanceMethod yX1_second, Cond.selects RX1 yX1_second yX1_second, Cond.code yX1_second cX1_second 2 (some .double), Cond.methodLink RX0 45 yX0_radiusBetween, Cond.instanceMethod yX0_radiusBetween]
def wsX0_leastStrips_r2 : List Cond := [Cond.selects RX0 yX0_radiusBetween yX0_radiusBetween, Cond.code yX0_radiusBetween cX0_radiusBetween 13 (some .double), Cond.static yX3_isNone, Cond.initialized RX3, Cond.code yX3_isNone cX3_isNone 2 (some .boolean)]
def wsX0_leastStrips : List Cond := .code yX0_leastStrips cX0_leastStrips 8 (some .int) :: ((wsX0_leastStrips_r1 ++ wsX0_leastStrips_r2) ++ wsX00 ++ wsX10)
def wsX0_residue : List Cond := .code yX0_residue cX0_residue 8 (some .double) :: ([.fieldLink RX0 20 "SteamBends$Kind" "readings" "LSteamBends$Pairs;", .methodLink RX0 40 yX1_second, .instanceMethod yX1_second, .selects RX1 yX1_second yX1_second, .initialized RX1, .code yX1_second cX1_second 2 (some .double), .fieldLink RX1 25 "SteamBends$Pairs" "seconds" "[D", .methodLink RX1 28 yX1_isPlace, .instanceMethod yX1_isPlace, .selects RX1 yX1_isPlace yX1_isPlace, .code yX1_isPlace cX1_isPlace 2 (some .boolean), .fieldLink RX1 21 "SteamBends$Pairs" "firsts" "[D", .methodLink RX0 36 yX1_first, .instanceMethod yX1_first, .selects RX1 yX1_first yX1_first, .code yX1_first cX1_first 2 (some .double)] ++ wsX00 ++ wsX10)
def wsX0_fitsBetter : List Cond := .code yX0_fitsBetter cX0_fitsBetter 7 (some .boolean) :: ([.fieldLink RX0 25 "SteamBends$Kind" "spring" "D", .fieldLink RX0 29 "SteamBends$Kind" "step" "D", .constantDouble RX0 60 (4611686018427387904), .methodLink RX0 57 yX0_residue, .instanceMethod yX0_residue, .selects RX0 yX0_residue yX0_residue, .initialized RX0, .code yX0_residue cX0_residue 8 (some .double), .fieldLink RX0 20 "SteamBends$Kind" "readings" "LSteamBends$Pairs;", .methodLink RX0 40 yX1_second, .instanceMethod yX1_second, .selects RX1 yX1_second yX1_second, .initialized RX1, .code yX1_second cX1_second 2 (some .double), .fieldLink RX1 25 "SteamBends$Pairs" "seconds" "[D", .methodLink RX1 28 yX1_isPlace, .instanceMethod yX1_isPlace, .selects RX1 yX1_isPlace yX1_isPlace, .code yX1_isPlace cX1_isPlace 2 (some .boolean), .fieldLink RX1 21 "SteamBends$Pairs" "firsts" "[D", .methodLink RX0 36 yX1_first, .instanceMethod yX1_first, .selects RX1 yX1_first yX1_first, .code yX1_first cX1_first 2 (some .double)] ++ wsX00 ++ wsX10)
def wsX0_formFor : List Cond := .code yX0_formFor cX0_formFor 10 (some .double) :: ([.constantDouble RX0 60 (4611686018427387904), .fieldLink RX0 25 "SteamBends$Kind" "spring" "D"] ++ wsX00)
def wsX1_add : List Cond := .code yX1_add cX1_add 5 (some .int) :: ([.fieldLink RX1 9 "SteamBends$Pairs" "count" "I", .fieldLink RX1 21 "SteamBends$Pairs" "firsts" "[D", .fieldLink RX1 25 "SteamBends$Pairs" "seconds" "[D", .methodLink RX1 28 yX1_isPlace, .instanceMethod yX1_isPlace, .selects RX1 yX1_isPlace yX1_isPlace, .initialized RX1, .code yX1_isPlace cX1_isPlace 2 (some .boolean)] ++ wsX10)
def wsX1_removeAll : List Cond := .code yX1_removeAll cX1_removeAll 1 none :: ([.fieldLink RX1 9 "SteamBends$Pairs" "count" "I"] ++ wsX10)
def wsX2_init : List Cond := .code yX2_init cX2_init 1 none :: ([.methodLink RX2 3 objectInit, .instanceMethod objectInit, .code objectInit ⟨#[0xb1]⟩ 1 none, .classLink RX2 9 RX1, .instantiable RX1 3, .initialized RX1, .fieldLink RX2 14 "SteamBends$Shape" "pieces" "LSteamBends$Pairs;", .methodLink RX2 11 yX1_init, .instanceMethod yX1_init, .code yX1_init cX1_init 3 none, .methodLink RX1 3 objectInit, .fieldLink RX1 9 "SteamBends$Pairs" "count" "I", .methodLink RX1 15 Lib.Math.max.name, .static Lib.Math.max.name, .initialized "java/lang/Math", .code Lib.Math.max.name Lib.Math.max.code 2 (some .int), .arrayClass .double, .fieldLink RX1 21 "SteamBends$Pairs" "firsts" "[D", .fieldLink RX1 25 "SteamBends$Pairs" "seconds" "[D"] ++ wsX10 ++ wsX20)
def wsX2_isBendable : List Cond := .code yX2_isBendable cX2_isBendable 6 (some .boolean) :: ([.fieldLink RX2 14 "SteamBends$Shape" "pieces" "LSteamBends$Pairs;", .constantDouble RX2 28 (4611686018427387904), .methodLink RX2 24 yX1_second, .instanceMethod yX1_second, .selects RX1 yX1_second yX1_second, .initialized RX1, .code yX1_second cX1_second 2 (some .double), .fieldLink RX1 25 "SteamBends$Pairs" "seconds" "[D", .methodLink RX1 28 yX1_isPlace, .instanceMethod yX1_isPlace, .selects RX1 yX1_isPlace yX1_isPlace, .code yX1_isPlace cX1_isPlace 2 (some .boolean), .fieldLink RX1 21 "SteamBends$Pairs" "firsts" "[D"] ++ wsX20 ++ wsX10)
def wsX2_lengthOf : List Cond := .code yX2_lengthOf cX2_lengthOf 11 (some .double) :: ([.fieldLink RX2 14 "SteamBends$Shape" "pieces" "LSteamBends$Pairs;", .constantDouble RX2 28 (4611686018427387904), .methodLink RX2 34 yX1_first, .instanceMethod yX1_first, .selects RX1 yX1_first yX1_first, .initialized RX1, .code yX1_first cX1_first 2 (some .double), .fieldLink RX1 21 "SteamBends$Pairs" "firsts" "[D", .methodLink RX1 28 yX1_isPlace, .instanceMethod yX1_isPlace, .selects RX1 yX1_isPlace yX1_isPlace, .code yX1_isPlace cX1_isPlace 2 (some .boolean), .fieldLink RX1 25 "SteamBends$Pairs" "seconds" "[D", .methodLink RX2 24 yX1_second, .instanceMethod yX1_second, .selects RX1 yX1_second yX1_second, .code yX1_second cX1_second 2 (some .double)] ++ wsX20 ++ wsX10)
def wsX2_sumOfLengths : List Cond := .code yX2_sumOfLengths cX2_sumOfLengths 7 (some .double) :: ([.fieldLink RX2 14 "SteamBends$Shape" "pieces" "LSteamBends$Pairs;", .methodLink RX2 30 yX2_lengthOf, .instanceMethod yX2_lengthOf, .selects RX2 yX2_lengthOf yX2_lengthOf, .initialized RX2, .code yX2_lengthOf cX2_lengthOf 11 (some .double), .constantDouble RX2 28 (4611686018427387904), .methodLink RX2 34 yX1_first, .instanceMethod yX1_first, .selects RX1 yX1_first yX1_first, .initialized RX1, .code yX1_first cX1_first 2 (some .double), .fieldLink RX1 21 "SteamBends$Pairs" "firsts" "[D", .methodLink RX1 28 yX1_isPlace, .instanceMethod yX1_isPlace, .selects RX1 yX1_isPlace yX1_isPlace, .code yX1_isPlace cX1_isPlace 2 (some .boolean), .fieldLink RX1 25 "SteamBends$Pairs" "seconds" "[D", .methodLink RX2 24 yX1_second, .instanceMethod yX1_second, .selects RX1 yX1_second yX1_second, .code yX1_second cX1_second 2 (some .double)] ++ wsX20 ++ wsX10)
def wsX3_init_r1 : List Cond := [Cond.methodLink RX3 1 objectInit, Cond.instanceMethod objectInit, Cond.code objectInit ⟨#[0xb1]⟩ 1 none, Cond.classLink RX3 9 RX0, Cond.fieldLink RX3 11 "SteamBends" "kinds" "[LSteamBends$Kind;", Cond.classLink RX3 15 RX2, Cond.instantiable RX2 1, Cond.initialized RX2, Cond.fieldLink RX3 18 "SteamBends" "shape" "LSteamBends$Shape;", Cond.fieldLink RX3 22 "SteamBends" "kerfCount" "I", Cond.fieldLink RX3 26 "SteamBends" "kerfRest" "D", Cond.instantiable RX0 4, Cond.initialized RX0, Cond.instanceMethod yX2_init, Cond.code yX2_init cX2_init 1 none, Cond.methodLink RX2 3 objectInit, Cond.classLink RX2 9 RX1, Cond.instantiable RX1 3, Cond.initialized RX1, Cond.fieldLink RX2 14 "SteamBends$Shape" "pieces" "LSteamBends$Pairs;", Cond.methodLink RX2 11 yX1_init, Cond.instanceMethod yX1_init, Cond.code yX1_init cX1_init 3 none, Cond.methodLink RX1 3 objectInit]
def wsX3_init_r2 : List Cond := [Cond.fieldLink RX1 9 "SteamBends$Pairs" "count" "I", Cond.methodLink RX1 15 Lib.Math.max.name, Cond.static Lib.Math.max.name, Cond.initialized "java/lang/Math", Cond.code Lib.Math.max.name Lib.Math.max.code 2 (some .int), Cond.arrayClass .double, Cond.fieldLink RX1 21 "SteamBends$Pairs" "firsts" "[D", Cond.fieldLink RX1 25 "SteamBends$Pairs" "seconds" "[D", Cond.instanceMethod yX0_init, Cond.code yX0_init cX0_init 1 none, Cond.methodLink RX0 3 objectInit, Cond.classLink RX0 9 RX1, Cond.fieldLink RX0 14 "SteamBends$Kind" "rows" "LSteamBends$Pairs;", Cond.fieldLink RX0 20 "SteamBends$Kind" "readings" "LSteamBends$Pairs;", Cond.constantDouble RX0 23 (4598175219545276416), Cond.fieldLink RX0 25 "SteamBends$Kind" "spring" "D", Cond.fieldLink RX0 29 "SteamBends$Kind" "step" "D", Cond.methodLink RX0 11 yX1_init]
def wsX3_init : List Cond := .code yX3_init cX3_init 2 none :: ((wsX3_init_r1 ++ wsX3_init_r2) ++ wsX30 ++ wsX20 ++ wsX00 ++ wsX10)
def wsX3_kindOf : List Cond := .code yX3_kindOf cX3_kindOf 3 (some (.object "SteamBends$Kind")) :: ([.classLink RX3 111 "java/lang/IndexOutOfBoundsException", .initialized "java/lang/IndexOutOfBoundsException", .fieldLink RX3 11 "SteamBends" "kinds" "[LSteamBends$Kind;"] ++ wsX30 ++ (vx_atS RX3 115 "java/lang/IndexOutOfBoundsException" ["java/lang/RuntimeException", "java/lang/Exception"]).filter goodWord)
def wsX3_isWithin : List Cond := .code yX3_isWithin cX3_isWithin 6 (some .boolean) :: ([])
def wsX3_table_r1 : List Cond := [Cond.classLink RX3 49 "java/lang/IllegalArgumentException", Cond.initialized "java/lang/IllegalArgumentException", Cond.classLink RX3 66 "java/lang/IllegalStateException", Cond.initialized "java/lang/IllegalStateException", Cond.constantDouble RX3 35 (4593671619917905920), Cond.constantDouble RX3 37 (4652007308841189376), Cond.constantDouble RX3 43 (4666723172467343360), Cond.methodLink RX3 31 yX3_kindOf, Cond.instanceMethod yX3_kindOf, Cond.selects RX3 yX3_kindOf yX3_kindOf, Cond.initialized RX3, Cond.code yX3_kindOf cX3_kindOf 3 (some (.object "SteamBends$Kind")), Cond.classLink RX3 111 "java/lang/IndexOutOfBoundsException", Cond.initialized "java/lang/IndexOutOfBoundsException", Cond.fieldLink RX3 11 "SteamBends" "kinds" "[LSteamBends$Kind;", Cond.methodLink RX3 39 yX3_isWithin, Cond.static yX3_isWithin, Cond.code yX3_isWithin cX3_isWithin 6 (some .boolean), Cond.methodLink RX3 45 yX0_isAboveRows, Cond.instanceMethod yX0_isAboveRows, Cond.selects RX0 yX0_isAboveRows yX0_isAboveRows, Cond.initialized RX0, Cond.code yX0_isAboveRows cX0_isAboveRows 3 (some .boolean), Cond.fieldLink RX0 14 "SteamBends$Kind" "rows" "LSteamBends$Pairs;"]
def wsX3_table_r2 : List Cond := [Cond.methodLink RX0 36 yX1_first, Cond.instanceMethod yX1_first, Cond.selects RX1 yX1_first yX1_first, Cond.initialized RX1, Cond.code yX1_first cX1_first 2 (some .double), Cond.fieldLink RX1 21 "SteamBends$Pairs" "firsts" "[D", Cond.methodLink RX1 28 yX1_isPlace, Cond.instanceMethod yX1_isPlace, Cond.selects RX1 yX1_isPlace yX1_isPlace, Cond.code yX1_isPlace cX1_isPlace 2 (some .boolean), Cond.fieldLink RX1 25 "SteamBends$Pairs" "seconds" "[D", Cond.methodLink RX3 60 yX1_add, Cond.instanceMethod yX1_add, Cond.selects RX1 yX1_add yX1_add, Cond.code yX1_add cX1_add 5 (some .int), Cond.fieldLink RX1 9 "SteamBends$Pairs" "count" "I"]
def wsX3_table : List Cond := .code yX3_table cX3_table 8 (some .int) :: ((wsX3_table_r1 ++ wsX3_table_r2) ++ wsX00 ++ wsX30 ++ wsX10 ++ (vx_atS RX3 53 "java/lang/IllegalArgumentException" ["java/lang/RuntimeException", "java/lang/Exception"]).filter goodWord ++ (vx_atS RX3 70 "java/lang/IllegalStateException" ["java/lang/RuntimeException", "java/lang/Exception"]).filter goodWord ++ (vx_atS RX3 115 "java/lang/IndexOutOfBoundsException" ["java/lang/RuntimeException", "java/lang/Exception"]).filter goodWord)
def wsX3_radius_r1 : List Cond := [Cond.classLink RX3 49 "java/lang/IllegalArgumentException", Cond.initialized "java/lang/IllegalArgumentException", Cond.classLink RX3 66 "java/lang/IllegalStateException", Cond.initialized "java/lang/IllegalStateException", Cond.constantDouble RX3 37 (4652007308841189376), Cond.methodLink RX3 31 yX3_kindOf, Cond.instanceMethod yX3_kindOf, Cond.selects RX3 yX3_kindOf yX3_kindOf, Cond.initialized RX3, Cond.code yX3_kindOf cX3_kindOf 3 (some (.object "SteamBends$Kind")), Cond.classLink RX3 111 "java/lang/IndexOutOfBoundsException", Cond.initialized "java/lang/IndexOutOfBoundsException", Cond.fieldLink RX3 11 "SteamBends" "kinds" "[LSteamBends$Kind;", Cond.methodLink RX3 39 yX3_isWithin, Cond.static yX3_isWithin, Cond.code yX3_isWithin cX3_isWithin 6 (some .boolean), Cond.methodLink RX3 73 yX0_leastRadius, Cond.instanceMethod yX0_leastRadius, Cond.selects RX0 yX0_leastRadius yX0_leastRadius, Cond.initialized RX0, Cond.code yX0_leastRadius cX0_leastRadius 4 (some .double), Cond.fieldLink RX0 14 "SteamBends$Kind" "rows" "LSteamBends$Pairs;", Cond.constantDouble RX0 43 (13830554455654793216), Cond.methodLink RX0 36 yX1_first]
def wsX3_radius_r2 : List Cond := [Cond.instanceMethod yX1_first, Cond.selects RX1 yX1_first yX1_first, Cond.initialized RX1, Cond.code yX1_first cX1_first 2 (some .double), Cond.fieldLink RX1 21 "SteamBends$Pairs" "firsts" "[D", Cond.methodLink RX1 28 yX1_isPlace, Cond.instanceMethod yX1_isPlace, Cond.selects RX1 yX1_isPlace yX1_isPlace, Cond.code yX1_isPlace cX1_isPlace 2 (some .boolean), Cond.fieldLink RX1 25 "SteamBends$Pairs" "seconds" "[D", Cond.methodLink RX0 40 yX1_second, Cond.instanceMethod yX1_second, Cond.selects RX1 yX1_second yX1_second, Cond.code yX1_second cX1_second 2 (some .double), Cond.methodLink RX0 45 yX0_radiusBetween, Cond.instanceMethod yX0_radiusBetween, Cond.selects RX0 yX0_radiusBetween yX0_radiusBetween, Cond.code yX0_radiusBetween cX0_radiusBetween 13 (some .double), Cond.methodLink RX3 77 yX3_isNone, Cond.static yX3_isNone, Cond.code yX3_isNone cX3_isNone 2 (some .boolean)]
def wsX3_radius : List Cond := .code yX3_radius cX3_radius 7 (some .double) :: ((wsX3_radius_r1 ++ wsX3_radius_r2) ++ wsX30 ++ wsX00 ++ wsX10 ++ (vx_atS RX3 53 "java/lang/IllegalArgumentException" ["java/lang/RuntimeException", "java/lang/Exception"]).filter goodWord ++ (vx_atS RX3 70 "java/lang/IllegalStateException" ["java/lang/RuntimeException", "java/lang/Exception"]).filter goodWord ++ (vx_atS RX3 115 "java/lang/IndexOutOfBoundsException" ["java/lang/RuntimeException", "java/lang/Exception"]).filter goodWord)
def wsX3_strips_r1 : List Cond := [Cond.classLink RX3 49 "java/lang/IllegalArgumentException", Cond.initialized "java/lang/IllegalArgumentException", Cond.constantDouble RX3 35 (4593671619917905920), Cond.constantDouble RX3 43 (4666723172467343360), Cond.methodLink RX3 31 yX3_kindOf, Cond.instanceMethod yX3_kindOf, Cond.selects RX3 yX3_kindOf yX3_kindOf, Cond.initialized RX3, Cond.code yX3_kindOf cX3_kindOf 3 (some (.object "SteamBends$Kind")), Cond.classLink RX3 111 "java/lang/IndexOutOfBoundsException", Cond.initialized "java/lang/IndexOutOfBoundsException", Cond.fieldLink RX3 11 "SteamBends" "kinds" "[LSteamBends$Kind;", Cond.methodLink RX3 39 yX3_isWithin, Cond.static yX3_isWithin, Cond.code yX3_isWithin cX3_isWithin 6 (some .boolean), Cond.methodLink RX3 84 yX0_leastStrips, Cond.instanceMethod yX0_leastStrips, Cond.selects RX0 yX0_leastStrips yX0_leastStrips, Cond.initialized RX0, Cond.code yX0_leastStrips cX0_leastStrips 8 (some .int), Cond.methodLink RX0 49 yX0_leastRadius, Cond.instanceMethod yX0_leastRadius, Cond.selects RX0 yX0_leastRadius yX0_leastRadius, Cond.code yX0_leastRadius cX0_leastRadius 4 (some .double)]
def wsX3_strips_r2 : List Cond := [Cond.fieldLink RX0 14 "SteamBends$Kind" "rows" "LSteamBends$Pairs;", Cond.constantDouble RX0 43 (13830554455654793216), Cond.methodLink RX0 36 yX1_first, Cond.instanceMethod yX1_first, Cond.selects RX1 yX1_first yX1_first, Cond.initialized RX1, Cond.code yX1_first cX1_first 2 (some .double), Cond.fieldLink RX1 21 "SteamBends$Pairs" "firsts" "[D", Cond.methodLink RX1 28 yX1_isPlace, Cond.instanceMethod yX1_isPlace, Cond.selects RX1 yX1_isPlace yX1_isPlace, Cond.code yX1_isPlace cX1_isPlace 2 (some .boolean), Cond.fieldLink RX1 25 "SteamBends$Pairs" "seconds" "[D", Cond.methodLink RX0 40 yX1_second, Cond.instanceMethod yX1_second, Cond.selects RX1 yX1_second yX1_second, Cond.code yX1_second cX1_second 2 (some .double), Cond.methodLink RX0 45 yX0_radiusBetween, Cond.instanceMethod yX0_radiusBetween, Cond.selects RX0 yX0_radiusBetween yX0_radiusBetween, Cond.code yX0_radiusBetween cX0_radiusBetween 13 (some .double), Cond.static yX3_isNone, Cond.code yX3_isNone cX3_isNone 2 (some .boolean)]
def wsX3_strips : List Cond := .code yX3_strips cX3_strips 7 (some .int) :: ((wsX3_strips_r1 ++ wsX3_strips_r2) ++ wsX30 ++ wsX00 ++ wsX10 ++ (vx_atS RX3 53 "java/lang/IllegalArgumentException" ["java/lang/RuntimeException", "java/lang/Exception"]).filter goodWord ++ (vx_atS RX3 115 "java/lang/IndexOutOfBoundsException" ["java/lang/RuntimeException", "java/lang/Exception"]).filter goodWord)
def wsX3_read_r1 : List Cond := [Cond.classLink RX3 49 "java/lang/IllegalArgumentException", Cond.initialized "java/lang/IllegalArgumentException", Cond.classLink RX3 66 "java/lang/IllegalStateException", Cond.initialized "java/lang/IllegalStateException", Cond.constantDouble RX3 35 (4593671619917905920), Cond.constantDouble RX3 43 (4666723172467343360), Cond.constantDouble RX3 87 (4681608360884174848), Cond.methodLink RX3 31 yX3_kindOf, Cond.instanceMethod yX3_kindOf, Cond.selects RX3 yX3_kindOf yX3_kindOf, Cond.initialized RX3, Cond.code yX3_kindOf cX3_kindOf 3 (some (.object "SteamBends$Kind")), Cond.classLink RX3 111 "java/lang/IndexOutOfBoundsException", Cond.initialized "java/lang/IndexOutOfBoundsException", Cond.fieldLink RX3 11 "SteamBends" "kinds" "[LSteamBends$Kind;", Cond.methodLink RX3 39 yX3_isWithin, Cond.static yX3_isWithin, Cond.code yX3_isWithin cX3_isWithin 6 (some .boolean), Cond.methodLink RX3 60 yX1_add, Cond.instanceMethod yX1_add, Cond.selects RX1 yX1_add yX1_add, Cond.initialized RX1, Cond.code yX1_add cX1_add 5 (some .int), Cond.fieldLink RX1 9 "SteamBends$Pairs" "count" "I"]
def wsX3_read_r2 : List Cond := [Cond.fieldLink RX1 21 "SteamBends$Pairs" "firsts" "[D", Cond.fieldLink RX1 25 "SteamBends$Pairs" "seconds" "[D", Cond.methodLink RX1 28 yX1_isPlace, Cond.instanceMethod yX1_isPlace, Cond.selects RX1 yX1_isPlace yX1_isPlace, Cond.code yX1_isPlace cX1_isPlace 2 (some .boolean)]
def wsX3_read : List Cond := .code yX3_read cX3_read 8 (some .int) :: ((wsX3_read_r1 ++ wsX3_read_r2) ++ wsX00 ++ wsX30 ++ wsX10 ++ (vx_atS RX3 53 "java/lang/IllegalArgumentException" ["java/lang/RuntimeException", "java/lang/Exception"]).filter goodWord ++ (vx_atS RX3 70 "java/lang/IllegalStateException" ["java/lang/RuntimeException", "java/lang/Exception"]).filter goodWord ++ (vx_atS RX3 115 "java/lang/IndexOutOfBoundsException" ["java/lang/RuntimeException", "java/lang/Exception"]).filter goodWord)
def wsX3_fit_r1 : List Cond := [Cond.classLink RX3 49 "java/lang/IllegalArgumentException", Cond.initialized "java/lang/IllegalArgumentException", Cond.methodLink RX3 31 yX3_kindOf, Cond.instanceMethod yX3_kindOf, Cond.selects RX3 yX3_kindOf yX3_kindOf, Cond.initialized RX3, Cond.code yX3_kindOf cX3_kindOf 3 (some (.object "SteamBends$Kind")), Cond.classLink RX3 111 "java/lang/IndexOutOfBoundsException", Cond.initialized "java/lang/IndexOutOfBoundsException", Cond.fieldLink RX3 11 "SteamBends" "kinds" "[LSteamBends$Kind;", Cond.methodLink RX3 98 yX0_fitsBetter, Cond.instanceMethod yX0_fitsBetter, Cond.selects RX0 yX0_fitsBetter yX0_fitsBetter, Cond.initialized RX0, Cond.code yX0_fitsBetter cX0_fitsBetter 7 (some .boolean), Cond.fieldLink RX0 25 "SteamBends$Kind" "spring" "D", Cond.fieldLink RX0 29 "SteamBends$Kind" "step" "D", Cond.constantDouble RX0 60 (4611686018427387904), Cond.methodLink RX0 57 yX0_residue, Cond.instanceMethod yX0_residue, Cond.selects RX0 yX0_residue yX0_residue, Cond.code yX0_residue cX0_residue 8 (some .double), Cond.fieldLink RX0 20 "SteamBends$Kind" "readings" "LSteamBends$Pairs;", Cond.methodLink RX0 40 yX1_second]
def wsX3_fit_r2 : List Cond := [Cond.instanceMethod yX1_second, Cond.selects RX1 yX1_second yX1_second, Cond.initialized RX1, Cond.code yX1_second cX1_second 2 (some .double), Cond.fieldLink RX1 25 "SteamBends$Pairs" "seconds" "[D", Cond.methodLink RX1 28 yX1_isPlace, Cond.instanceMethod yX1_isPlace, Cond.selects RX1 yX1_isPlace yX1_isPlace, Cond.code yX1_isPlace cX1_isPlace 2 (some .boolean), Cond.fieldLink RX1 21 "SteamBends$Pairs" "firsts" "[D", Cond.methodLink RX0 36 yX1_first, Cond.instanceMethod yX1_first, Cond.selects RX1 yX1_first yX1_first, Cond.code yX1_first cX1_first 2 (some .double)]
def wsX3_fit : List Cond := .code yX3_fit cX3_fit 6 (some .int) :: ((wsX3_fit_r1 ++ wsX3_fit_r2) ++ wsX30 ++ wsX00 ++ wsX10 ++ (vx_atS RX3 53 "java/lang/IllegalArgumentException" ["java/lang/RuntimeException", "java/lang/Exception"]).filter goodWord ++ (vx_atS RX3 115 "java/lang/IndexOutOfBoundsException" ["java/lang/RuntimeException", "java/lang/Exception"]).filter goodWord)
def wsX3_back_r1 : List Cond := [Cond.classLink RX3 111 "java/lang/IndexOutOfBoundsException", Cond.initialized "java/lang/IndexOutOfBoundsException", Cond.methodLink RX3 31 yX3_kindOf, Cond.instanceMethod yX3_kindOf, Cond.selects RX3 yX3_kindOf yX3_kindOf, Cond.initialized RX3, Cond.code yX3_kindOf cX3_kindOf 3 (some (.object "SteamBends$Kind")), Cond.fieldLink RX3 11 "SteamBends" "kinds" "[LSteamBends$Kind;", Cond.methodLink RX3 108 yX0_residue, Cond.instanceMethod yX0_residue, Cond.selects RX0 yX0_residue yX0_residue, Cond.initialized RX0, Cond.code yX0_residue cX0_residue 8 (some .double), Cond.fieldLink RX0 20 "SteamBends$Kind" "readings" "LSteamBends$Pairs;", Cond.methodLink RX0 40 yX1_second, Cond.instanceMethod yX1_second, Cond.selects RX1 yX1_second yX1_second, Cond.initialized RX1, Cond.code yX1_second cX1_second 2 (some .double), Cond.fieldLink RX1 25 "SteamBends$Pairs" "seconds" "[D", Cond.methodLink RX1 28 yX1_isPlace, Cond.instanceMethod yX1_isPlace, Cond.selects RX1 yX1_isPlace yX1_isPlace, Cond.code yX1_isPlace cX1_isPlace 2 (some .boolean)]
def wsX3_back_r2 : List Cond := [Cond.fieldLink RX1 21 "SteamBends$Pairs" "firsts" "[D", Cond.methodLink RX0 36 yX1_first, Cond.instanceMethod yX1_first, Cond.selects RX1 yX1_first yX1_first, Cond.code yX1_first cX1_first 2 (some .double)]
def wsX3_back : List Cond := .code yX3_back cX3_back 4 (some .double) :: ((wsX3_back_r1 ++ wsX3_back_r2) ++ wsX00 ++ wsX30 ++ wsX10 ++ (vx_atS RX3 115 "java/lang/IndexOutOfBoundsException" ["java/lang/RuntimeException", "java/lang/Exception"]).filter goodWord)
def wsX3_form : List Cond := .code yX3_form cX3_form 5 (some .double) :: ([.classLink RX3 49 "java/lang/IllegalArgumentException", .initialized "java/lang/IllegalArgumentException", .constantDouble RX3 35 (4593671619917905920), .constantDouble RX3 87 (4681608360884174848), .methodLink RX3 31 yX3_kindOf, .instanceMethod yX3_kindOf, .selects RX3 yX3_kindOf yX3_kindOf, .initialized RX3, .code yX3_kindOf cX3_kindOf 3 (some (.object "SteamBends$Kind")), .classLink RX3 111 "java/lang/IndexOutOfBoundsException", .initialized "java/lang/IndexOutOfBoundsException", .fieldLink RX3 11 "SteamBends" "kinds" "[LSteamBends$Kind;", .methodLink RX3 39 yX3_isWithin, .static yX3_isWithin, .code yX3_isWithin cX3_isWithin 6 (some .boolean), .methodLink RX3 118 yX0_formFor, .instanceMethod yX0_formFor, .selects RX0 yX0_formFor yX0_formFor, .initialized RX0, .code yX0_formFor cX0_formFor 10 (some .double), .constantDouble RX0 60 (4611686018427387904), .fieldLink RX0 25 "SteamBends$Kind" "spring" "D"] ++ wsX30 ++ wsX00 ++ (vx_atS RX3 53 "java/lang/IllegalArgumentException" ["java/lang/RuntimeException", "java/lang/Exception"]).filter goodWord ++ (vx_atS RX3 115 "java/lang/IndexOutOfBoundsException" ["java/lang/RuntimeException", "java/lang/Exception"]).filter goodWord)
def wsX3_minutes : List Cond := .code yX3_minutes cX3_minutes 5 (some .double) :: ([.classLink RX3 49 "java/lang/IllegalArgumentException", .initialized "java/lang/IllegalArgumentException", .constantDouble RX3 37 (4652007308841189376), .constantDouble RX3 121 (4612811918334230528), .constantDouble RX3 123 (4632233691727265792), .constantDouble RX3 125 (4626322717216342016), .methodLink RX3 39 yX3_isWithin, .static yX3_isWithin, .initialized RX3, .code yX3_isWithin cX3_isWithin 6 (some .boolean)] ++ (vx_atS RX3 53 "java/lang/IllegalArgumentException" ["java/lang/RuntimeException", "java/lang/Exception"]).filter goodWord)
def wsX3_piece : List Cond := .code yX3_piece cX3_piece 6 (some .int) :: ([.classLink RX3 49 "java/lang/IllegalArgumentException", .initialized "java/lang/IllegalArgumentException", .classLink RX3 66 "java/lang/IllegalStateException", .initialized "java/lang/IllegalStateException", .constantDouble RX3 43 (4666723172467343360), .fieldLink RX3 18 "SteamBends" "shape" "LSteamBends$Shape;", .methodLink RX3 39 yX3_isWithin, .static yX3_isWithin, .initialized RX3, .code yX3_isWithin cX3_isWithin 6 (some .boolean), .methodLink RX3 60 yX1_add, .instanceMethod yX1_add, .selects RX1 yX1_add yX1_add, .initialized RX1, .code yX1_add cX1_add 5 (some .int), .fieldLink RX1 9 "SteamBends$Pairs" "count" "I", .fieldLink RX1 21 "SteamBends$Pairs" "firsts" "[D", .fieldLink RX1 25 "SteamBends$Pairs" "seconds" "[D", .methodLink RX1 28 yX1_isPlace, .instanceMethod yX1_isPlace, .selects RX1 yX1_isPlace yX1_isPlace, .code yX1_isPlace cX1_isPlace 2 (some .boolean)] ++ wsX30 ++ wsX20 ++ wsX10 ++ (vx_atS RX3 53 "java/lang/IllegalArgumentException" ["java/lang/RuntimeException", "java/lang/Exception"]).filter goodWord ++ (vx_atS RX3 70 "java/lang/IllegalStateException" ["java/lang/RuntimeException", "java/lang/Exception"]).filter goodWord)
def wsX3_clear : List Cond := .code yX3_clear cX3_clear 1 none :: ([.fieldLink RX3 18 "SteamBends" "shape" "LSteamBends$Shape;", .methodLink RX3 134 yX1_removeAll, .instanceMethod yX1_removeAll, .selects RX1 yX1_removeAll yX1_removeAll, .initialized RX1, .code yX1_removeAll cX1_removeAll 1 none, .fieldLink RX1 9 "SteamBends$Pairs" "count" "I"] ++ wsX30 ++ wsX20 ++ wsX10)
def wsX3_length_r1 : List Cond := [Cond.classLink RX3 49 "java/lang/IllegalArgumentException", Cond.initialized "java/lang/IllegalArgumentException", Cond.constantDouble RX3 37 (4652007308841189376), Cond.fieldLink RX3 18 "SteamBends" "shape" "LSteamBends$Shape;", Cond.methodLink RX3 39 yX3_isWithin, Cond.static yX3_isWithin, Cond.initialized RX3, Cond.code yX3_isWithin cX3_isWithin 6 (some .boolean), Cond.methodLink RX3 137 yX2_isBendable, Cond.instanceMethod yX2_isBendable, Cond.selects RX2 yX2_isBendable yX2_isBendable, Cond.initialized RX2, Cond.code yX2_isBendable cX2_isBendable 6 (some .boolean), Cond.fieldLink RX2 14 "SteamBends$Shape" "pieces" "LSteamBends$Pairs;", Cond.constantDouble RX2 28 (4611686018427387904), Cond.methodLink RX2 24 yX1_second, Cond.instanceMethod yX1_second, Cond.selects RX1 yX1_second yX1_second, Cond.initialized RX1, Cond.code yX1_second cX1_second 2 (some .double), Cond.fieldLink RX1 25 "SteamBends$Pairs" "seconds" "[D", Cond.methodLink RX1 28 yX1_isPlace, Cond.instanceMethod yX1_isPlace, Cond.selects RX1 yX1_isPlace yX1_isPlace]
def wsX3_length_r2 : List Cond := [Cond.code yX1_isPlace cX1_isPlace 2 (some .boolean), Cond.fieldLink RX1 21 "SteamBends$Pairs" "firsts" "[D", Cond.methodLink RX3 142 yX2_sumOfLengths, Cond.instanceMethod yX2_sumOfLengths, Cond.selects RX2 yX2_sumOfLengths yX2_sumOfLengths, Cond.code yX2_sumOfLengths cX2_sumOfLengths 7 (some .double), Cond.methodLink RX2 30 yX2_lengthOf, Cond.instanceMethod yX2_lengthOf, Cond.selects RX2 yX2_lengthOf yX2_lengthOf, Cond.code yX2_lengthOf cX2_lengthOf 11 (some .double), Cond.methodLink RX2 34 yX1_first, Cond.instanceMethod yX1_first, Cond.selects RX1 yX1_first yX1_first, Cond.code yX1_first cX1_first 2 (some .double)]
def wsX3_length : List Cond := .code yX3_length cX3_length 4 (some .double) :: ((wsX3_length_r1 ++ wsX3_length_r2) ++ wsX30 ++ wsX20 ++ wsX10 ++ (vx_atS RX3 53 "java/lang/IllegalArgumentException" ["java/lang/RuntimeException", "java/lang/Exception"]).filter goodWord)
def wsX3_leastKerfs : List Cond := .code yX3_leastKerfs cX3_leastKerfs 6 (some .int) :: ([.constant RX3 178 (32768)])
def wsX3_kerfs : List Cond := .code yX3_kerfs cX3_kerfs 11 (some .int) :: ([.classLink RX3 49 "java/lang/IllegalArgumentException", .initialized "java/lang/IllegalArgumentException", .constantDouble RX3 146 (4645040803167600640), .constantDouble RX3 37 (4652007308841189376), .constantDouble RX3 35 (4593671619917905920), .constantDouble RX3 148 (4636737291354636288), .constantDouble RX3 152 (4633260481411531256), .fieldLink RX3 22 "SteamBends" "kerfCount" "I", .fieldLink RX3 26 "SteamBends" "kerfRest" "D", .methodLink RX3 39 yX3_isWithin, .static yX3_isWithin, .initialized RX3, .code yX3_isWithin cX3_isWithin 6 (some .boolean), .methodLink RX3 154 yX3_leastKerfs, .static yX3_leastKerfs, .code yX3_leastKerfs cX3_leastKerfs 6 (some .int), .constant RX3 178 (32768)] ++ wsX30 ++ (vx_atS RX3 53 "java/lang/IllegalArgumentException" ["java/lang/RuntimeException", "java/lang/Exception"]).filter goodWord)
def wsX3_kerfAt : List Cond := .code yX3_kerfAt cX3_kerfAt 4 (some .double) :: ([.classLink RX3 66 "java/lang/IllegalStateException", .initialized "java/lang/IllegalStateException", .classLink RX3 111 "java/lang/IndexOutOfBoundsException", .initialized "java/lang/IndexOutOfBoundsException", .classLink RX3 49 "java/lang/IllegalArgumentException", .initialized "java/lang/IllegalArgumentException", .fieldLink RX3 22 "SteamBends" "kerfCount" "I", .constantDouble RX3 43 (4666723172467343360), .methodLink RX3 39 yX3_isWithin, .static yX3_isWithin, .initialized RX3, .code yX3_isWithin cX3_isWithin 6 (some .boolean)] ++ wsX30 ++ (vx_atS RX3 70 "java/lang/IllegalStateException" ["java/lang/RuntimeException", "java/lang/Exception"]).filter goodWord ++ (vx_atS RX3 115 "java/lang/IndexOutOfBoundsException" ["java/lang/RuntimeException", "java/lang/Exception"]).filter goodWord ++ (vx_atS RX3 53 "java/lang/IllegalArgumentException" ["java/lang/RuntimeException", "java/lang/Exception"]).filter goodWord)
def wsX3_rest : List Cond := .code yX3_rest cX3_rest 1 (some .double) :: ([.classLink RX3 66 "java/lang/IllegalStateException", .initialized "java/lang/IllegalStateException", .fieldLink RX3 22 "SteamBends" "kerfCount" "I", .fieldLink RX3 26 "SteamBends" "kerfRest" "D"] ++ wsX30 ++ (vx_atS RX3 70 "java/lang/IllegalStateException" ["java/lang/RuntimeException", "java/lang/Exception"]).filter goodWord)
def wsX3_commonDivisor : List Cond := .code yX3_commonDivisor cX3_commonDivisor 6 (some .int) :: ([])
def wsX3_broken : List Cond := .code yX3_broken cX3_broken 8 (some .long) :: ([.classLink RX3 111 "java/lang/IndexOutOfBoundsException", .initialized "java/lang/IndexOutOfBoundsException", .classLink RX3 49 "java/lang/IllegalArgumentException", .initialized "java/lang/IllegalArgumentException", .constant RX3 165 (1000000), .methodLink RX3 168 yX3_commonDivisor, .static yX3_commonDivisor, .initialized RX3, .code yX3_commonDivisor cX3_commonDivisor 6 (some .int)] ++ (vx_atS RX3 115 "java/lang/IndexOutOfBoundsException" ["java/lang/RuntimeException", "java/lang/Exception"]).filter goodWord ++ (vx_atS RX3 53 "java/lang/IllegalArgumentException" ["java/lang/RuntimeException", "java/lang/Exception"]).filter goodWord)
def wsX3_relaxed : List Cond := .code yX3_relaxed cX3_relaxed 4 (some .double) :: ([.classLink RX3 49 "java/lang/IllegalArgumentException", .initialized "java/lang/IllegalArgumentException", .constantDouble RX3 174 (4620693217682128896), .methodLink RX3 31 yX3_kindOf, .instanceMethod yX3_kindOf, .selects RX3 yX3_kindOf yX3_kindOf, .initialized RX3, .code yX3_kindOf cX3_kindOf 3 (some (.object "SteamBends$Kind")), .classLink RX3 111 "java/lang/IndexOutOfBoundsException", .initialized "java/lang/IndexOutOfBoundsException", .fieldLink RX3 11 "SteamBends" "kinds" "[LSteamBends$Kind;"] ++ wsX00 ++ wsX30 ++ (vx_atS RX3 53 "java/lang/IllegalArgumentException" ["java/lang/RuntimeException", "java/lang/Exception"]).filter goodWord ++ (vx_atS RX3 115 "java/lang/IndexOutOfBoundsException" ["java/lang/RuntimeException", "java/lang/Exception"]).filter goodWord)
def wsX4_init : List Cond := .code yX4_init cX4_init 2 none :: ([.methodLink RX4 1 objectInit, .instanceMethod objectInit, .code objectInit ⟨#[0xb1]⟩ 1 none, .arrayClass .int, .fieldLink RX4 7 "SteamBendsModel" "rows" "[I", .arrayClass .double, .fieldLink RX4 13 "SteamBendsModel" "thicks" "[D", .fieldLink RX4 17 "SteamBendsModel" "radii" "[D", .fieldLink RX4 20 "SteamBendsModel" "readings" "[I", .fieldLink RX4 23 "SteamBendsModel" "bents" "[D", .fieldLink RX4 26 "SteamBendsModel" "kepts" "[D", .fieldLink RX4 29 "SteamBendsModel" "springs" "[D", .fieldLink RX4 32 "SteamBendsModel" "steps" "[D", .fieldLink RX4 35 "SteamBendsModel" "lengths" "[D", .fieldLink RX4 38 "SteamBendsModel" "bends" "[D", .constantDouble RX4 41 (4598175219545276416)] ++ wsX40)
def wsX4_thrown : List Cond := .code yX4_thrown cX4_thrown 1 (some .int) :: ([.fieldLink RX4 43 "SteamBendsModel" "code" "I"] ++ wsX40)
def wsX4_isIn : List Cond := .code yX4_isIn cX4_isIn 6 (some .boolean) :: ([])
def wsX4_isKind : List Cond := .code yX4_isKind cX4_isKind 1 (some .boolean) :: ([])
def wsX4_table : List Cond := .code yX4_table cX4_table 8 (some .int) :: ([.fieldLink RX4 43 "SteamBendsModel" "code" "I", .fieldLink RX4 7 "SteamBendsModel" "rows" "[I", .constantDouble RX4 51 (4593671619917905920), .constantDouble RX4 53 (4652007308841189376), .constantDouble RX4 59 (4666723172467343360), .fieldLink RX4 13 "SteamBendsModel" "thicks" "[D", .fieldLink RX4 17 "SteamBendsModel" "radii" "[D", .methodLink RX4 47 yX4_isKind, .static yX4_isKind, .initialized RX4, .code yX4_isKind cX4_isKind 1 (some .boolean), .methodLink RX4 55 yX4_isIn, .static yX4_isIn, .code yX4_isIn cX4_isIn 6 (some .boolean)] ++ wsX40)
def wsX4_radiusAt : List Cond := .code yX4_radiusAt cX4_radiusAt 7 (some .double) :: ([.fieldLink RX4 61 "SteamBendsModel" "isFound" "Z", .fieldLink RX4 7 "SteamBendsModel" "rows" "[I", .fieldLink RX4 13 "SteamBendsModel" "thicks" "[D", .fieldLink RX4 17 "SteamBendsModel" "radii" "[D"] ++ wsX40)
def wsX4_radius : List Cond := .code yX4_radius cX4_radius 6 (some .double) :: ([.constantDouble RX4 53 (4652007308841189376), .fieldLink RX4 43 "SteamBendsModel" "code" "I", .fieldLink RX4 61 "SteamBendsModel" "isFound" "Z", .methodLink RX4 47 yX4_isKind, .static yX4_isKind, .initialized RX4, .code yX4_isKind cX4_isKind 1 (some .boolean), .methodLink RX4 55 yX4_isIn, .static yX4_isIn, .code yX4_isIn cX4_isIn 6 (some .boolean), .methodLink RX4 65 yX4_radiusAt, .instanceMethod yX4_radiusAt, .selects RX4 yX4_radiusAt yX4_radiusAt, .code yX4_radiusAt cX4_radiusAt 7 (some .double), .fieldLink RX4 7 "SteamBendsModel" "rows" "[I", .fieldLink RX4 13 "SteamBendsModel" "thicks" "[D", .fieldLink RX4 17 "SteamBendsModel" "radii" "[D"] ++ wsX40)
def wsX4_strips : List Cond := .code yX4_strips cX4_strips 9 (some .int) :: ([.constantDouble RX4 51 (4593671619917905920), .constantDouble RX4 59 (4666723172467343360), .fieldLink RX4 43 "SteamBendsModel" "code" "I", .fieldLink RX4 61 "SteamBendsModel" "isFound" "Z", .methodLink RX4 47 yX4_isKind, .static yX4_isKind, .initialized RX4, .code yX4_isKind cX4_isKind 1 (some .boolean), .methodLink RX4 55 yX4_isIn, .static yX4_isIn, .code yX4_isIn cX4_isIn 6 (some .boolean), .methodLink RX4 65 yX4_radiusAt, .instanceMethod yX4_radiusAt, .selects RX4 yX4_radiusAt yX4_radiusAt, .code yX4_radiusAt cX4_radiusAt 7 (some .double), .fieldLink RX4 7 "SteamBendsModel" "rows" "[I", .fieldLink RX4 13 "SteamBendsModel" "thicks" "[D", .fieldLink RX4 17 "SteamBendsModel" "radii" "[D"] ++ wsX40)
def wsX4_read : List Cond := .code yX4_read cX4_read 7 (some .int) :: ([.constantDouble RX4 51 (4593671619917905920), .constantDouble RX4 59 (4666723172467343360), .constantDouble RX4 69 (4681608360884174848), .fieldLink RX4 20 "SteamBendsModel" "readings" "[I", .fieldLink RX4 43 "SteamBendsModel" "code" "I", .fieldLink RX4 23 "SteamBendsModel" "bents" "[D", .fieldLink RX4 26 "SteamBendsModel" "kepts" "[D", .methodLink RX4 47 yX4_isKind, .static yX4_isKind, .initialized RX4, .code yX4_isKind cX4_isKind 1 (some .boolean), .methodLink RX4 55 yX4_isIn, .static yX4_isIn, .code yX4_isIn cX4_isIn 6 (some .boolean)] ++ wsX40)
def wsX4_residue : List Cond := .code yX4_residue cX4_residue 9 (some .double) :: ([.fieldLink RX4 20 "SteamBendsModel" "readings" "[I", .fieldLink RX4 26 "SteamBendsModel" "kepts" "[D", .fieldLink RX4 23 "SteamBendsModel" "bents" "[D"] ++ wsX40)
def wsX4_improves : List Cond := .code yX4_improves cX4_improves 8 (some .boolean) :: ([.fieldLink RX4 29 "SteamBendsModel" "springs" "[D", .fieldLink RX4 32 "SteamBendsModel" "steps" "[D", .constantDouble RX4 74 (4611686018427387904), .methodLink RX4 71 yX4_residue, .instanceMethod yX4_residue, .selects RX4 yX4_residue yX4_residue, .initialized RX4, .code yX4_residue cX4_residue 9 (some .double), .fieldLink RX4 20 "SteamBendsModel" "readings" "[I", .fieldLink RX4 26 "SteamBendsModel" "kepts" "[D", .fieldLink RX4 23 "SteamBendsModel" "bents" "[D"] ++ wsX40)
def wsX4_fit : List Cond := .code yX4_fit cX4_fit 5 (some .int) :: ([.fieldLink RX4 43 "SteamBendsModel" "code" "I", .methodLink RX4 47 yX4_isKind, .static yX4_isKind, .initialized RX4, .code yX4_isKind cX4_isKind 1 (some .boolean), .methodLink RX4 76 yX4_improves, .instanceMethod yX4_improves, .selects RX4 yX4_improves yX4_improves, .code yX4_improves cX4_improves 8 (some .boolean), .fieldLink RX4 29 "SteamBendsModel" "springs" "[D", .fieldLink RX4 32 "SteamBendsModel" "steps" "[D", .constantDouble RX4 74 (4611686018427387904), .methodLink RX4 71 yX4_residue, .instanceMethod yX4_residue, .selects RX4 yX4_residue yX4_residue, .code yX4_residue cX4_residue 9 (some .double), .fieldLink RX4 20 "SteamBendsModel" "readings" "[I", .fieldLink RX4 26 "SteamBendsModel" "kepts" "[D", .fieldLink RX4 23 "SteamBendsModel" "bents" "[D"] ++ wsX40)
def wsX4_back : List Cond := .code yX4_back cX4_back 3 (some .double) :: ([.fieldLink RX4 43 "SteamBendsModel" "code" "I", .fieldLink RX4 29 "SteamBendsModel" "springs" "[D", .fieldLink RX4 32 "SteamBendsModel" "steps" "[D", .methodLink RX4 47 yX4_isKind, .static yX4_isKind, .initialized RX4, .code yX4_isKind cX4_isKind 1 (some .boolean), .methodLink RX4 71 yX4_residue, .instanceMethod yX4_residue, .selects RX4 yX4_residue yX4_residue, .code yX4_residue cX4_residue 9 (some .double), .fieldLink RX4 20 "SteamBendsModel" "readings" "[I", .fieldLink RX4 26 "SteamBendsModel" "kepts" "[D", .fieldLink RX4 23 "SteamBendsModel" "bents" "[D"] ++ wsX40)
def wsX4_form : List Cond := .code yX4_form cX4_form 12 (some .double) :: ([.constantDouble RX4 51 (4593671619917905920), .constantDouble RX4 69 (4681608360884174848), .fieldLink RX4 43 "SteamBendsModel" "code" "I", .constantDouble RX4 74 (4611686018427387904), .fieldLink RX4 29 "SteamBendsModel" "springs" "[D", .methodLink RX4 47 yX4_isKind, .static yX4_isKind, .initialized RX4, .code yX4_isKind cX4_isKind 1 (some .boolean), .methodLink RX4 55 yX4_isIn, .static yX4_isIn, .code yX4_isIn cX4_isIn 6 (some .boolean)] ++ wsX40)
def wsX4_minutes : List Cond := .code yX4_minutes cX4_minutes 3 (some .double) :: ([.constantDouble RX4 53 (4652007308841189376), .fieldLink RX4 43 "SteamBendsModel" "code" "I", .constantDouble RX4 79 (4632233691727265792), .constantDouble RX4 81 (4612811918334230528), .constantDouble RX4 83 (4626322717216342016), .methodLink RX4 55 yX4_isIn, .static yX4_isIn, .initialized RX4, .code yX4_isIn cX4_isIn 6 (some .boolean)] ++ wsX40)
def wsX4_piece : List Cond := .code yX4_piece cX4_piece 5 (some .int) :: ([.constantDouble RX4 59 (4666723172467343360), .fieldLink RX4 85 "SteamBendsModel" "pieces" "I", .fieldLink RX4 43 "SteamBendsModel" "code" "I", .fieldLink RX4 35 "SteamBendsModel" "lengths" "[D", .fieldLink RX4 38 "SteamBendsModel" "bends" "[D", .methodLink RX4 55 yX4_isIn, .static yX4_isIn, .initialized RX4, .code yX4_isIn cX4_isIn 6 (some .boolean)] ++ wsX40)
def wsX4_clear : List Cond := .code yX4_clear cX4_clear 1 none :: ([.fieldLink RX4 43 "SteamBendsModel" "code" "I", .fieldLink RX4 85 "SteamBendsModel" "pieces" "I"] ++ wsX40)
def wsX4_length : List Cond := .code yX4_length cX4_length 12 (some .double) :: ([.constantDouble RX4 53 (4652007308841189376), .fieldLink RX4 85 "SteamBendsModel" "pieces" "I", .fieldLink RX4 38 "SteamBendsModel" "bends" "[D", .constantDouble RX4 74 (4611686018427387904), .fieldLink RX4 43 "SteamBendsModel" "code" "I", .fieldLink RX4 35 "SteamBendsModel" "lengths" "[D", .methodLink RX4 55 yX4_isIn, .static yX4_isIn, .initialized RX4, .code yX4_isIn cX4_isIn 6 (some .boolean)] ++ wsX40)
def wsX4_kerfs : List Cond := .code yX4_kerfs cX4_kerfs 13 (some .int) :: ([.constantDouble RX4 88 (4645040803167600640), .constantDouble RX4 53 (4652007308841189376), .constantDouble RX4 51 (4593671619917905920), .constantDouble RX4 90 (4636737291354636288), .fieldLink RX4 43 "SteamBendsModel" "code" "I", .constantDouble RX4 92 (4633260481411531256), .fieldLink RX4 94 "SteamBendsModel" "cuts" "I", .fieldLink RX4 97 "SteamBendsModel" "over" "D", .methodLink RX4 55 yX4_isIn, .static yX4_isIn, .initialized RX4, .code yX4_isIn cX4_isIn 6 (some .boolean)] ++ wsX40)
def wsX4_kerfAt : List Cond := .code yX4_kerfAt cX4_kerfAt 4 (some .double) :: ([.fieldLink RX4 94 "SteamBendsModel" "cuts" "I", .constantDouble RX4 59 (4666723172467343360), .fieldLink RX4 43 "SteamBendsModel" "code" "I", .methodLink RX4 55 yX4_isIn, .static yX4_isIn, .initialized RX4, .code yX4_isIn cX4_isIn 6 (some .boolean)] ++ wsX40)
def wsX4_rest : List Cond := .code yX4_rest cX4_rest 1 (some .double) :: ([.fieldLink RX4 94 "SteamBendsModel" "cuts" "I", .fieldLink RX4 43 "SteamBendsModel" "code" "I", .fieldLink RX4 97 "SteamBendsModel" "over" "D"] ++ wsX40)
def wsX4_common : List Cond := .code yX4_common cX4_common 5 (some .int) :: ([])
def wsX4_broken : List Cond := .code yX4_broken cX4_broken 5 (some .long) :: ([.constant RX4 101 (1000000), .fieldLink RX4 43 "SteamBendsModel" "code" "I", .methodLink RX4 102 yX4_common, .static yX4_common, .initialized RX4, .code yX4_common cX4_common 5 (some .int)] ++ wsX40)
def wsX4_relaxed : List Cond := .code yX4_relaxed cX4_relaxed 3 (some .double) :: ([.fieldLink RX4 43 "SteamBendsModel" "code" "I", .fieldLink RX4 29 "SteamBendsModel" "springs" "[D", .constantDouble RX4 106 (4620693217682128896), .methodLink RX4 47 yX4_isKind, .static yX4_isKind, .initialized RX4, .code yX4_isKind cX4_isKind 1 (some .boolean)] ++ wsX40)
def wsJ9_max_7cf53 : List Cond := .code yJ9_max_7cf53 cJ9_max_7cf53 2 (some .int) :: ([])
def wsL_table_r1 : List Cond := [Cond.classLink RL 13 "java/lang/IndexOutOfBoundsException", Cond.classLink RL 15 "java/lang/IllegalArgumentException", Cond.classLink RL 17 "java/lang/IllegalStateException", Cond.methodLink RL 7 yX3_table, Cond.instanceMethod yX3_table, Cond.selects RX3 yX3_table yX3_table, Cond.initialized RX3, Cond.code yX3_table cX3_table 8 (some .int), Cond.classLink RX3 49 "java/lang/IllegalArgumentException", Cond.initialized "java/lang/IllegalArgumentException", Cond.classLink RX3 66 "java/lang/IllegalStateException", Cond.initialized "java/lang/IllegalStateException", Cond.constantDouble RX3 35 (4593671619917905920), Cond.constantDouble RX3 37 (4652007308841189376), Cond.constantDouble RX3 43 (4666723172467343360), Cond.methodLink RX3 31 yX3_kindOf, Cond.instanceMethod yX3_kindOf, Cond.selects RX3 yX3_kindOf yX3_kindOf, Cond.code yX3_kindOf cX3_kindOf 3 (some (.object "SteamBends$Kind")), Cond.classLink RX3 111 "java/lang/IndexOutOfBoundsException", Cond.initialized "java/lang/IndexOutOfBoundsException", Cond.fieldLink RX3 11 "SteamBends" "kinds" "[LSteamBends$Kind;", Cond.methodLink RX3 39 yX3_isWithin, Cond.static yX3_isWithin]
def wsL_table_r2 : List Cond := [Cond.code yX3_isWithin cX3_isWithin 6 (some .boolean), Cond.methodLink RX3 45 yX0_isAboveRows, Cond.instanceMethod yX0_isAboveRows, Cond.selects RX0 yX0_isAboveRows yX0_isAboveRows, Cond.initialized RX0, Cond.code yX0_isAboveRows cX0_isAboveRows 3 (some .boolean), Cond.fieldLink RX0 14 "SteamBends$Kind" "rows" "LSteamBends$Pairs;", Cond.methodLink RX0 36 yX1_first, Cond.instanceMethod yX1_first, Cond.selects RX1 yX1_first yX1_first, Cond.initialized RX1, Cond.code yX1_first cX1_first 2 (some .double), Cond.fieldLink RX1 21 "SteamBends$Pairs" "firsts" "[D", Cond.methodLink RX1 28 yX1_isPlace, Cond.instanceMethod yX1_isPlace, Cond.selects RX1 yX1_isPlace yX1_isPlace, Cond.code yX1_isPlace cX1_isPlace 2 (some .boolean), Cond.fieldLink RX1 25 "SteamBends$Pairs" "seconds" "[D", Cond.methodLink RX3 60 yX1_add, Cond.instanceMethod yX1_add, Cond.selects RX1 yX1_add yX1_add, Cond.code yX1_add cX1_add 5 (some .int), Cond.fieldLink RX1 9 "SteamBends$Pairs" "count" "I"]
def wsL_table : List Cond := .codeWith yL_table cL_table 8 (some .int) [(0, 13, 16, 13), (0, 13, 20, 15), (0, 13, 24, 17)] :: ((wsL_table_r1 ++ wsL_table_r2) ++ wsX00 ++ wsX30 ++ wsX10 ++ (vx_atS RX3 53 "java/lang/IllegalArgumentException" ["java/lang/RuntimeException", "java/lang/Exception"]).filter goodWord ++ (vx_atS RX3 70 "java/lang/IllegalStateException" ["java/lang/RuntimeException", "java/lang/Exception"]).filter goodWord ++ (vx_atS RX3 115 "java/lang/IndexOutOfBoundsException" ["java/lang/RuntimeException", "java/lang/Exception"]).filter goodWord)
def wsL_radius_r1 : List Cond := [Cond.classLink RL 13 "java/lang/IndexOutOfBoundsException", Cond.classLink RL 15 "java/lang/IllegalArgumentException", Cond.classLink RL 17 "java/lang/IllegalStateException", Cond.methodLink RL 19 yX3_radius, Cond.instanceMethod yX3_radius, Cond.selects RX3 yX3_radius yX3_radius, Cond.initialized RX3, Cond.code yX3_radius cX3_radius 7 (some .double), Cond.classLink RX3 49 "java/lang/IllegalArgumentException", Cond.initialized "java/lang/IllegalArgumentException", Cond.classLink RX3 66 "java/lang/IllegalStateException", Cond.initialized "java/lang/IllegalStateException", Cond.constantDouble RX3 37 (4652007308841189376), Cond.methodLink RX3 31 yX3_kindOf, Cond.instanceMethod yX3_kindOf, Cond.selects RX3 yX3_kindOf yX3_kindOf, Cond.code yX3_kindOf cX3_kindOf 3 (some (.object "SteamBends$Kind")), Cond.classLink RX3 111 "java/lang/IndexOutOfBoundsException", Cond.initialized "java/lang/IndexOutOfBoundsException", Cond.fieldLink RX3 11 "SteamBends" "kinds" "[LSteamBends$Kind;", Cond.methodLink RX3 39 yX3_isWithin, Cond.static yX3_isWithin, Cond.code yX3_isWithin cX3_isWithin 6 (some .boolean), Cond.methodLink RX3 73 yX0_leastRadius]
def wsL_radius_r2 : List Cond := [Cond.instanceMethod yX0_leastRadius, Cond.selects RX0 yX0_leastRadius yX0_leastRadius, Cond.initialized RX0, Cond.code yX0_leastRadius cX0_leastRadius 4 (some .double), Cond.fieldLink RX0 14 "SteamBends$Kind" "rows" "LSteamBends$Pairs;", Cond.constantDouble RX0 43 (13830554455654793216), Cond.methodLink RX0 36 yX1_first, Cond.instanceMethod yX1_first, Cond.selects RX1 yX1_first yX1_first, Cond.initialized RX1, Cond.code yX1_first cX1_first 2 (some .double), Cond.fieldLink RX1 21 "SteamBends$Pairs" "firsts" "[D", Cond.methodLink RX1 28 yX1_isPlace, Cond.instanceMethod yX1_isPlace, Cond.selects RX1 yX1_isPlace yX1_isPlace, Cond.code yX1_isPlace cX1_isPlace 2 (some .boolean), Cond.fieldLink RX1 25 "SteamBends$Pairs" "seconds" "[D", Cond.methodLink RX0 40 yX1_second, Cond.instanceMethod yX1_second, Cond.selects RX1 yX1_second yX1_second, Cond.code yX1_second cX1_second 2 (some .double), Cond.methodLink RX0 45 yX0_radiusBetween, Cond.instanceMethod yX0_radiusBetween, Cond.selects RX0 yX0_radiusBetween yX0_radiusBetween]
def wsL_radius_r3 : List Cond := [Cond.code yX0_radiusBetween cX0_radiusBetween 13 (some .double), Cond.methodLink RX3 77 yX3_isNone, Cond.static yX3_isNone, Cond.code yX3_isNone cX3_isNone 2 (some .boolean)]
def wsL_radius : List Cond := .codeWith yL_radius cL_radius 6 (some .int) [(0, 10, 13, 13), (0, 10, 17, 15), (0, 10, 21, 17)] :: ((wsL_radius_r1 ++ (wsL_radius_r2 ++ wsL_radius_r3)) ++ wsX30 ++ wsX00 ++ wsX10 ++ (vx_atS RX3 53 "java/lang/IllegalArgumentException" ["java/lang/RuntimeException", "java/lang/Exception"]).filter goodWord ++ (vx_atS RX3 70 "java/lang/IllegalStateException" ["java/lang/RuntimeException", "java/lang/Exception"]).filter goodWord ++ (vx_atS RX3 115 "java/lang/IndexOutOfBoundsException" ["java/lang/RuntimeException", "java/lang/Exception"]).filter goodWord)
def wsL_strips_r1 : List Cond := [Cond.classLink RL 13 "java/lang/IndexOutOfBoundsException", Cond.classLink RL 15 "java/lang/IllegalArgumentException", Cond.methodLink RL 23 yX3_strips, Cond.instanceMethod yX3_strips, Cond.selects RX3 yX3_strips yX3_strips, Cond.initialized RX3, Cond.code yX3_strips cX3_strips 7 (some .int), Cond.classLink RX3 49 "java/lang/IllegalArgumentException", Cond.initialized "java/lang/IllegalArgumentException", Cond.constantDouble RX3 35 (4593671619917905920), Cond.constantDouble RX3 43 (4666723172467343360), Cond.methodLink RX3 31 yX3_kindOf, Cond.instanceMethod yX3_kindOf, Cond.selects RX3 yX3_kindOf yX3_kindOf, Cond.code yX3_kindOf cX3_kindOf 3 (some (.object "SteamBends$Kind")), Cond.classLink RX3 111 "java/lang/IndexOutOfBoundsException", Cond.initialized "java/lang/IndexOutOfBoundsException", Cond.fieldLink RX3 11 "SteamBends" "kinds" "[LSteamBends$Kind;", Cond.methodLink RX3 39 yX3_isWithin, Cond.static yX3_isWithin, Cond.code yX3_isWithin cX3_isWithin 6 (some .boolean), Cond.methodLink RX3 84 yX0_leastStrips, Cond.instanceMethod yX0_leastStrips, Cond.selects RX0 yX0_leastStrips yX0_leastStrips]
def wsL_strips_r2 : List Cond := [Cond.initialized RX0, Cond.code yX0_leastStrips cX0_leastStrips 8 (some .int), Cond.methodLink RX0 49 yX0_leastRadius, Cond.instanceMethod yX0_leastRadius, Cond.selects RX0 yX0_leastRadius yX0_leastRadius, Cond.code yX0_leastRadius cX0_leastRadius 4 (some .double), Cond.fieldLink RX0 14 "SteamBends$Kind" "rows" "LSteamBends$Pairs;", Cond.constantDouble RX0 43 (13830554455654793216), Cond.methodLink RX0 36 yX1_first, Cond.instanceMethod yX1_first, Cond.selects RX1 yX1_first yX1_first, Cond.initialized RX1, Cond.code yX1_first cX1_first 2 (some .double), Cond.fieldLink RX1 21 "SteamBends$Pairs" "firsts" "[D", Cond.methodLink RX1 28 yX1_isPlace, Cond.instanceMethod yX1_isPlace, Cond.selects RX1 yX1_isPlace yX1_isPlace, Cond.code yX1_isPlace cX1_isPlace 2 (some .boolean), Cond.fieldLink RX1 25 "SteamBends$Pairs" "seconds" "[D", Cond.methodLink RX0 40 yX1_second, Cond.instanceMethod yX1_second, Cond.selects RX1 yX1_second yX1_second, Cond.code yX1_second cX1_second 2 (some .double), Cond.methodLink RX0 45 yX0_radiusBetween]
def wsL_strips_r3 : List Cond := [Cond.instanceMethod yX0_radiusBetween, Cond.selects RX0 yX0_radiusBetween yX0_radiusBetween, Cond.code yX0_radiusBetween cX0_radiusBetween 13 (some .double), Cond.static yX3_isNone, Cond.code yX3_isNone cX3_isNone 2 (some .boolean)]
def wsL_strips : List Cond := .codeWith yL_strips cL_strips 8 (some .int) [(0, 13, 16, 13), (0, 13, 20, 15)] :: ((wsL_strips_r1 ++ (wsL_strips_r2 ++ wsL_strips_r3)) ++ wsX30 ++ wsX00 ++ wsX10 ++ (vx_atS RX3 53 "java/lang/IllegalArgumentException" ["java/lang/RuntimeException", "java/lang/Exception"]).filter goodWord ++ (vx_atS RX3 115 "java/lang/IndexOutOfBoundsException" ["java/lang/RuntimeException", "java/lang/Exception"]).filter goodWord)
def wsL_read_r1 : List Cond := [Cond.classLink RL 13 "java/lang/IndexOutOfBoundsException", Cond.classLink RL 15 "java/lang/IllegalArgumentException", Cond.classLink RL 17 "java/lang/IllegalStateException", Cond.methodLink RL 26 yX3_read, Cond.instanceMethod yX3_read, Cond.selects RX3 yX3_read yX3_read, Cond.initialized RX3, Cond.code yX3_read cX3_read 8 (some .int), Cond.classLink RX3 49 "java/lang/IllegalArgumentException", Cond.initialized "java/lang/IllegalArgumentException", Cond.classLink RX3 66 "java/lang/IllegalStateException", Cond.initialized "java/lang/IllegalStateException", Cond.constantDouble RX3 35 (4593671619917905920), Cond.constantDouble RX3 43 (4666723172467343360), Cond.constantDouble RX3 87 (4681608360884174848), Cond.methodLink RX3 31 yX3_kindOf, Cond.instanceMethod yX3_kindOf, Cond.selects RX3 yX3_kindOf yX3_kindOf, Cond.code yX3_kindOf cX3_kindOf 3 (some (.object "SteamBends$Kind")), Cond.classLink RX3 111 "java/lang/IndexOutOfBoundsException", Cond.initialized "java/lang/IndexOutOfBoundsException", Cond.fieldLink RX3 11 "SteamBends" "kinds" "[LSteamBends$Kind;", Cond.methodLink RX3 39 yX3_isWithin, Cond.static yX3_isWithin]
def wsL_read_r2 : List Cond := [Cond.code yX3_isWithin cX3_isWithin 6 (some .boolean), Cond.methodLink RX3 60 yX1_add, Cond.instanceMethod yX1_add, Cond.selects RX1 yX1_add yX1_add, Cond.initialized RX1, Cond.code yX1_add cX1_add 5 (some .int), Cond.fieldLink RX1 9 "SteamBends$Pairs" "count" "I", Cond.fieldLink RX1 21 "SteamBends$Pairs" "firsts" "[D", Cond.fieldLink RX1 25 "SteamBends$Pairs" "seconds" "[D", Cond.methodLink RX1 28 yX1_isPlace, Cond.instanceMethod yX1_isPlace, Cond.selects RX1 yX1_isPlace yX1_isPlace, Cond.code yX1_isPlace cX1_isPlace 2 (some .boolean)]
def wsL_read : List Cond := .codeWith yL_read cL_read 8 (some .int) [(0, 13, 16, 13), (0, 13, 20, 15), (0, 13, 24, 17)] :: ((wsL_read_r1 ++ wsL_read_r2) ++ wsX00 ++ wsX30 ++ wsX10 ++ (vx_atS RX3 53 "java/lang/IllegalArgumentException" ["java/lang/RuntimeException", "java/lang/Exception"]).filter goodWord ++ (vx_atS RX3 70 "java/lang/IllegalStateException" ["java/lang/RuntimeException", "java/lang/Exception"]).filter goodWord ++ (vx_atS RX3 115 "java/lang/IndexOutOfBoundsException" ["java/lang/RuntimeException", "java/lang/Exception"]).filter goodWord)
def wsL_fit_r1 : List Cond := [Cond.classLink RL 13 "java/lang/IndexOutOfBoundsException", Cond.classLink RL 15 "java/lang/IllegalArgumentException", Cond.methodLink RL 29 yX3_fit, Cond.instanceMethod yX3_fit, Cond.selects RX3 yX3_fit yX3_fit, Cond.initialized RX3, Cond.code yX3_fit cX3_fit 6 (some .int), Cond.classLink RX3 49 "java/lang/IllegalArgumentException", Cond.initialized "java/lang/IllegalArgumentException", Cond.methodLink RX3 31 yX3_kindOf, Cond.instanceMethod yX3_kindOf, Cond.selects RX3 yX3_kindOf yX3_kindOf, Cond.code yX3_kindOf cX3_kindOf 3 (some (.object "SteamBends$Kind")), Cond.classLink RX3 111 "java/lang/IndexOutOfBoundsException", Cond.initialized "java/lang/IndexOutOfBoundsException", Cond.fieldLink RX3 11 "SteamBends" "kinds" "[LSteamBends$Kind;", Cond.methodLink RX3 98 yX0_fitsBetter, Cond.instanceMethod yX0_fitsBetter, Cond.selects RX0 yX0_fitsBetter yX0_fitsBetter, Cond.initialized RX0, Cond.code yX0_fitsBetter cX0_fitsBetter 7 (some .boolean), Cond.fieldLink RX0 25 "SteamBends$Kind" "spring" "D", Cond.fieldLink RX0 29 "SteamBends$Kind" "step" "D", Cond.constantDouble RX0 60 (4611686018427387904)]
def wsL_fit_r2 : List Cond := [Cond.methodLink RX0 57 yX0_residue, Cond.instanceMethod yX0_residue, Cond.selects RX0 yX0_residue yX0_residue, Cond.code yX0_residue cX0_residue 8 (some .double), Cond.fieldLink RX0 20 "SteamBends$Kind" "readings" "LSteamBends$Pairs;", Cond.methodLink RX0 40 yX1_second, Cond.instanceMethod yX1_second, Cond.selects RX1 yX1_second yX1_second, Cond.initialized RX1, Cond.code yX1_second cX1_second 2 (some .double), Cond.fieldLink RX1 25 "SteamBends$Pairs" "seconds" "[D", Cond.methodLink RX1 28 yX1_isPlace, Cond.instanceMethod yX1_isPlace, Cond.selects RX1 yX1_isPlace yX1_isPlace, Cond.code yX1_isPlace cX1_isPlace 2 (some .boolean), Cond.fieldLink RX1 21 "SteamBends$Pairs" "firsts" "[D", Cond.methodLink RX0 36 yX1_first, Cond.instanceMethod yX1_first, Cond.selects RX1 yX1_first yX1_first, Cond.code yX1_first cX1_first 2 (some .double)]
def wsL_fit : List Cond := .codeWith yL_fit cL_fit 5 (some .int) [(0, 10, 13, 13), (0, 10, 17, 15)] :: ((wsL_fit_r1 ++ wsL_fit_r2) ++ wsX30 ++ wsX00 ++ wsX10 ++ (vx_atS RX3 53 "java/lang/IllegalArgumentException" ["java/lang/RuntimeException", "java/lang/Exception"]).filter goodWord ++ (vx_atS RX3 115 "java/lang/IndexOutOfBoundsException" ["java/lang/RuntimeException", "java/lang/Exception"]).filter goodWord)
def wsL_back_r1 : List Cond := [Cond.classLink RL 13 "java/lang/IndexOutOfBoundsException", Cond.methodLink RL 33 yX3_back, Cond.instanceMethod yX3_back, Cond.selects RX3 yX3_back yX3_back, Cond.initialized RX3, Cond.code yX3_back cX3_back 4 (some .double), Cond.classLink RX3 111 "java/lang/IndexOutOfBoundsException", Cond.initialized "java/lang/IndexOutOfBoundsException", Cond.methodLink RX3 31 yX3_kindOf, Cond.instanceMethod yX3_kindOf, Cond.selects RX3 yX3_kindOf yX3_kindOf, Cond.code yX3_kindOf cX3_kindOf 3 (some (.object "SteamBends$Kind")), Cond.fieldLink RX3 11 "SteamBends" "kinds" "[LSteamBends$Kind;", Cond.methodLink RX3 108 yX0_residue, Cond.instanceMethod yX0_residue, Cond.selects RX0 yX0_residue yX0_residue, Cond.initialized RX0, Cond.code yX0_residue cX0_residue 8 (some .double), Cond.fieldLink RX0 20 "SteamBends$Kind" "readings" "LSteamBends$Pairs;", Cond.methodLink RX0 40 yX1_second, Cond.instanceMethod yX1_second, Cond.selects RX1 yX1_second yX1_second, Cond.initialized RX1, Cond.code yX1_second cX1_second 2 (some .double)]
def wsL_back_r2 : List Cond := [Cond.fieldLink RX1 25 "SteamBends$Pairs" "seconds" "[D", Cond.methodLink RX1 28 yX1_isPlace, Cond.instanceMethod yX1_isPlace, Cond.selects RX1 yX1_isPlace yX1_isPlace, Cond.code yX1_isPlace cX1_isPlace 2 (some .boolean), Cond.fieldLink RX1 21 "SteamBends$Pairs" "firsts" "[D", Cond.methodLink RX0 36 yX1_first, Cond.instanceMethod yX1_first, Cond.selects RX1 yX1_first yX1_first, Cond.code yX1_first cX1_first 2 (some .double)]
def wsL_back : List Cond := .codeWith yL_back cL_back 5 (some .int) [(0, 9, 12, 13)] :: ((wsL_back_r1 ++ wsL_back_r2) ++ wsX00 ++ wsX30 ++ wsX10 ++ (vx_atS RX3 115 "java/lang/IndexOutOfBoundsException" ["java/lang/RuntimeException", "java/lang/Exception"]).filter goodWord)
def wsL_form_r1 : List Cond := [Cond.classLink RL 13 "java/lang/IndexOutOfBoundsException", Cond.classLink RL 15 "java/lang/IllegalArgumentException", Cond.methodLink RL 37 yX3_form, Cond.instanceMethod yX3_form, Cond.selects RX3 yX3_form yX3_form, Cond.initialized RX3, Cond.code yX3_form cX3_form 5 (some .double), Cond.classLink RX3 49 "java/lang/IllegalArgumentException", Cond.initialized "java/lang/IllegalArgumentException", Cond.constantDouble RX3 35 (4593671619917905920), Cond.constantDouble RX3 87 (4681608360884174848), Cond.methodLink RX3 31 yX3_kindOf, Cond.instanceMethod yX3_kindOf, Cond.selects RX3 yX3_kindOf yX3_kindOf, Cond.code yX3_kindOf cX3_kindOf 3 (some (.object "SteamBends$Kind")), Cond.classLink RX3 111 "java/lang/IndexOutOfBoundsException", Cond.initialized "java/lang/IndexOutOfBoundsException", Cond.fieldLink RX3 11 "SteamBends" "kinds" "[LSteamBends$Kind;", Cond.methodLink RX3 39 yX3_isWithin, Cond.static yX3_isWithin, Cond.code yX3_isWithin cX3_isWithin 6 (some .boolean), Cond.methodLink RX3 118 yX0_formFor, Cond.instanceMethod yX0_formFor, Cond.selects RX0 yX0_formFor yX0_formFor]
def wsL_form_r2 : List Cond := [Cond.initialized RX0, Cond.code yX0_formFor cX0_formFor 10 (some .double), Cond.constantDouble RX0 60 (4611686018427387904), Cond.fieldLink RX0 25 "SteamBends$Kind" "spring" "D"]
def wsL_form : List Cond := .codeWith yL_form cL_form 6 (some .int) [(0, 10, 13, 13), (0, 10, 17, 15)] :: ((wsL_form_r1 ++ wsL_form_r2) ++ wsX30 ++ wsX00 ++ (vx_atS RX3 53 "java/lang/IllegalArgumentException" ["java/lang/RuntimeException", "java/lang/Exception"]).filter goodWord ++ (vx_atS RX3 115 "java/lang/IndexOutOfBoundsException" ["java/lang/RuntimeException", "java/lang/Exception"]).filter goodWord)
def wsL_minutes : List Cond := .codeWith yL_minutes cL_minutes 5 (some .int) [(0, 8, 11, 15)] :: ([.classLink RL 15 "java/lang/IllegalArgumentException", .methodLink RL 40 yX3_minutes, .instanceMethod yX3_minutes, .selects RX3 yX3_minutes yX3_minutes, .initialized RX3, .code yX3_minutes cX3_minutes 5 (some .double), .classLink RX3 49 "java/lang/IllegalArgumentException", .initialized "java/lang/IllegalArgumentException", .constantDouble RX3 37 (4652007308841189376), .constantDouble RX3 121 (4612811918334230528), .constantDouble RX3 123 (4632233691727265792), .constantDouble RX3 125 (4626322717216342016), .methodLink RX3 39 yX3_isWithin, .static yX3_isWithin, .code yX3_isWithin cX3_isWithin 6 (some .boolean)] ++ (vx_atS RX3 53 "java/lang/IllegalArgumentException" ["java/lang/RuntimeException", "java/lang/Exception"]).filter goodWord)
def wsL_piece_r1 : List Cond := [Cond.classLink RL 15 "java/lang/IllegalArgumentException", Cond.classLink RL 17 "java/lang/IllegalStateException", Cond.methodLink RL 44 yX3_piece, Cond.instanceMethod yX3_piece, Cond.selects RX3 yX3_piece yX3_piece, Cond.initialized RX3, Cond.code yX3_piece cX3_piece 6 (some .int), Cond.classLink RX3 49 "java/lang/IllegalArgumentException", Cond.initialized "java/lang/IllegalArgumentException", Cond.classLink RX3 66 "java/lang/IllegalStateException", Cond.initialized "java/lang/IllegalStateException", Cond.constantDouble RX3 43 (4666723172467343360), Cond.fieldLink RX3 18 "SteamBends" "shape" "LSteamBends$Shape;", Cond.methodLink RX3 39 yX3_isWithin, Cond.static yX3_isWithin, Cond.code yX3_isWithin cX3_isWithin 6 (some .boolean), Cond.methodLink RX3 60 yX1_add, Cond.instanceMethod yX1_add, Cond.selects RX1 yX1_add yX1_add, Cond.initialized RX1, Cond.code yX1_add cX1_add 5 (some .int), Cond.fieldLink RX1 9 "SteamBends$Pairs" "count" "I", Cond.fieldLink RX1 21 "SteamBends$Pairs" "firsts" "[D", Cond.fieldLink RX1 25 "SteamBends$Pairs" "seconds" "[D"]
def wsL_piece_r2 : List Cond := [Cond.methodLink RX1 28 yX1_isPlace, Cond.instanceMethod yX1_isPlace, Cond.selects RX1 yX1_isPlace yX1_isPlace, Cond.code yX1_isPlace cX1_isPlace 2 (some .boolean)]
def wsL_piece : List Cond := .codeWith yL_piece cL_piece 7 (some .int) [(0, 11, 14, 15), (0, 11, 18, 17)] :: ((wsL_piece_r1 ++ wsL_piece_r2) ++ wsX30 ++ wsX20 ++ wsX10 ++ (vx_atS RX3 53 "java/lang/IllegalArgumentException" ["java/lang/RuntimeException", "java/lang/Exception"]).filter goodWord ++ (vx_atS RX3 70 "java/lang/IllegalStateException" ["java/lang/RuntimeException", "java/lang/Exception"]).filter goodWord)
def wsL_length_r1 : List Cond := [Cond.classLink RL 15 "java/lang/IllegalArgumentException", Cond.methodLink RL 48 yX3_length, Cond.instanceMethod yX3_length, Cond.selects RX3 yX3_length yX3_length, Cond.initialized RX3, Cond.code yX3_length cX3_length 4 (some .double), Cond.classLink RX3 49 "java/lang/IllegalArgumentException", Cond.initialized "java/lang/IllegalArgumentException", Cond.constantDouble RX3 37 (4652007308841189376), Cond.fieldLink RX3 18 "SteamBends" "shape" "LSteamBends$Shape;", Cond.methodLink RX3 39 yX3_isWithin, Cond.static yX3_isWithin, Cond.code yX3_isWithin cX3_isWithin 6 (some .boolean), Cond.methodLink RX3 137 yX2_isBendable, Cond.instanceMethod yX2_isBendable, Cond.selects RX2 yX2_isBendable yX2_isBendable, Cond.initialized RX2, Cond.code yX2_isBendable cX2_isBendable 6 (some .boolean), Cond.fieldLink RX2 14 "SteamBends$Shape" "pieces" "LSteamBends$Pairs;", Cond.constantDouble RX2 28 (4611686018427387904), Cond.methodLink RX2 24 yX1_second, Cond.instanceMethod yX1_second, Cond.selects RX1 yX1_second yX1_second, Cond.initialized RX1]
def wsL_length_r2 : List Cond := [Cond.code yX1_second cX1_second 2 (some .double), Cond.fieldLink RX1 25 "SteamBends$Pairs" "seconds" "[D", Cond.methodLink RX1 28 yX1_isPlace, Cond.instanceMethod yX1_isPlace, Cond.selects RX1 yX1_isPlace yX1_isPlace, Cond.code yX1_isPlace cX1_isPlace 2 (some .boolean), Cond.fieldLink RX1 21 "SteamBends$Pairs" "firsts" "[D", Cond.methodLink RX3 142 yX2_sumOfLengths, Cond.instanceMethod yX2_sumOfLengths, Cond.selects RX2 yX2_sumOfLengths yX2_sumOfLengths, Cond.code yX2_sumOfLengths cX2_sumOfLengths 7 (some .double), Cond.methodLink RX2 30 yX2_lengthOf, Cond.instanceMethod yX2_lengthOf, Cond.selects RX2 yX2_lengthOf yX2_lengthOf, Cond.code yX2_lengthOf cX2_lengthOf 11 (some .double), Cond.methodLink RX2 34 yX1_first, Cond.instanceMethod yX1_first, Cond.selects RX1 yX1_first yX1_first, Cond.code yX1_first cX1_first 2 (some .double)]
def wsL_length : List Cond := .codeWith yL_length cL_length 6 (some .int) [(0, 10, 13, 15)] :: ((wsL_length_r1 ++ wsL_length_r2) ++ wsX30 ++ wsX20 ++ wsX10 ++ (vx_atS RX3 53 "java/lang/IllegalArgumentException" ["java/lang/RuntimeException", "java/lang/Exception"]).filter goodWord)
def wsL_kerfs : List Cond := .codeWith yL_kerfs cL_kerfs 11 (some .int) [(0, 15, 18, 15)] :: ([.classLink RL 15 "java/lang/IllegalArgumentException", .methodLink RL 52 yX3_kerfs, .instanceMethod yX3_kerfs, .selects RX3 yX3_kerfs yX3_kerfs, .initialized RX3, .code yX3_kerfs cX3_kerfs 11 (some .int), .classLink RX3 49 "java/lang/IllegalArgumentException", .initialized "java/lang/IllegalArgumentException", .constantDouble RX3 146 (4645040803167600640), .constantDouble RX3 37 (4652007308841189376), .constantDouble RX3 35 (4593671619917905920), .constantDouble RX3 148 (4636737291354636288), .constantDouble RX3 152 (4633260481411531256), .fieldLink RX3 22 "SteamBends" "kerfCount" "I", .fieldLink RX3 26 "SteamBends" "kerfRest" "D", .methodLink RX3 39 yX3_isWithin, .static yX3_isWithin, .code yX3_isWithin cX3_isWithin 6 (some .boolean), .methodLink RX3 154 yX3_leastKerfs, .static yX3_leastKerfs, .code yX3_leastKerfs cX3_leastKerfs 6 (some .int), .constant RX3 178 (32768)] ++ wsX30 ++ (vx_atS RX3 53 "java/lang/IllegalArgumentException" ["java/lang/RuntimeException", "java/lang/Exception"]).filter goodWord)
def wsL_kerfAt : List Cond := .codeWith yL_kerfAt cL_kerfAt 6 (some .int) [(0, 10, 13, 17), (0, 10, 17, 13), (0, 10, 21, 15)] :: ([.classLink RL 17 "java/lang/IllegalStateException", .classLink RL 13 "java/lang/IndexOutOfBoundsException", .classLink RL 15 "java/lang/IllegalArgumentException", .methodLink RL 56 yX3_kerfAt, .instanceMethod yX3_kerfAt, .selects RX3 yX3_kerfAt yX3_kerfAt, .initialized RX3, .code yX3_kerfAt cX3_kerfAt 4 (some .double), .classLink RX3 66 "java/lang/IllegalStateException", .initialized "java/lang/IllegalStateException", .classLink RX3 111 "java/lang/IndexOutOfBoundsException", .initialized "java/lang/IndexOutOfBoundsException", .classLink RX3 49 "java/lang/IllegalArgumentException", .initialized "java/lang/IllegalArgumentException", .fieldLink RX3 22 "SteamBends" "kerfCount" "I", .constantDouble RX3 43 (4666723172467343360), .methodLink RX3 39 yX3_isWithin, .static yX3_isWithin, .code yX3_isWithin cX3_isWithin 6 (some .boolean)] ++ wsX30 ++ (vx_atS RX3 70 "java/lang/IllegalStateException" ["java/lang/RuntimeException", "java/lang/Exception"]).filter goodWord ++ (vx_atS RX3 115 "java/lang/IndexOutOfBoundsException" ["java/lang/RuntimeException", "java/lang/Exception"]).filter goodWord ++ (vx_atS RX3 53 "java/lang/IllegalArgumentException" ["java/lang/RuntimeException", "java/lang/Exception"]).filter goodWord)
def wsL_rest : List Cond := .codeWith yL_rest cL_rest 3 (some .int) [(0, 7, 10, 17)] :: ([.classLink RL 17 "java/lang/IllegalStateException", .methodLink RL 59 yX3_rest, .instanceMethod yX3_rest, .selects RX3 yX3_rest yX3_rest, .initialized RX3, .code yX3_rest cX3_rest 1 (some .double), .classLink RX3 66 "java/lang/IllegalStateException", .initialized "java/lang/IllegalStateException", .fieldLink RX3 22 "SteamBends" "kerfCount" "I", .fieldLink RX3 26 "SteamBends" "kerfRest" "D"] ++ wsX30 ++ (vx_atS RX3 70 "java/lang/IllegalStateException" ["java/lang/RuntimeException", "java/lang/Exception"]).filter goodWord)
def wsL_broken : List Cond := .codeWith yL_broken cL_broken 6 (some .int) [(0, 11, 14, 13), (0, 11, 18, 15)] :: ([.classLink RL 13 "java/lang/IndexOutOfBoundsException", .classLink RL 15 "java/lang/IllegalArgumentException", .methodLink RL 63 yX3_broken, .instanceMethod yX3_broken, .selects RX3 yX3_broken yX3_broken, .initialized RX3, .code yX3_broken cX3_broken 8 (some .long), .classLink RX3 111 "java/lang/IndexOutOfBoundsException", .initialized "java/lang/IndexOutOfBoundsException", .classLink RX3 49 "java/lang/IllegalArgumentException", .initialized "java/lang/IllegalArgumentException", .constant RX3 165 (1000000), .methodLink RX3 168 yX3_commonDivisor, .static yX3_commonDivisor, .code yX3_commonDivisor cX3_commonDivisor 6 (some .int)] ++ (vx_atS RX3 115 "java/lang/IndexOutOfBoundsException" ["java/lang/RuntimeException", "java/lang/Exception"]).filter goodWord ++ (vx_atS RX3 53 "java/lang/IllegalArgumentException" ["java/lang/RuntimeException", "java/lang/Exception"]).filter goodWord)
def wsL_relaxed : List Cond := .codeWith yL_relaxed cL_relaxed 5 (some .int) [(0, 9, 12, 13), (0, 9, 16, 15)] :: ([.classLink RL 13 "java/lang/IndexOutOfBoundsException", .classLink RL 15 "java/lang/IllegalArgumentException", .methodLink RL 67 yX3_relaxed, .instanceMethod yX3_relaxed, .selects RX3 yX3_relaxed yX3_relaxed, .initialized RX3, .code yX3_relaxed cX3_relaxed 4 (some .double), .classLink RX3 49 "java/lang/IllegalArgumentException", .initialized "java/lang/IllegalArgumentException", .constantDouble RX3 174 (4620693217682128896), .methodLink RX3 31 yX3_kindOf, .instanceMethod yX3_kindOf, .selects RX3 yX3_kindOf yX3_kindOf, .code yX3_kindOf cX3_kindOf 3 (some (.object "SteamBends$Kind")), .classLink RX3 111 "java/lang/IndexOutOfBoundsException", .initialized "java/lang/IndexOutOfBoundsException", .fieldLink RX3 11 "SteamBends" "kinds" "[LSteamBends$Kind;"] ++ wsX00 ++ wsX30 ++ (vx_atS RX3 53 "java/lang/IllegalArgumentException" ["java/lang/RuntimeException", "java/lang/Exception"]).filter goodWord ++ (vx_atS RX3 115 "java/lang/IndexOutOfBoundsException" ["java/lang/RuntimeException", "java/lang/Exception"]).filter goodWord)
def wsL_law0_r1 : List Cond := [Cond.classLink RL 8 RX3, Cond.instantiable RX3 4, Cond.initialized RX3, Cond.classLink RL 71 RX4, Cond.instantiable RX4 15, Cond.initialized RX4, Cond.arrayClass .long, Cond.arrayClass .double, Cond.constantDouble RL 74 (4593671619917905920), Cond.methodLink RL 70 yX3_init, Cond.instanceMethod yX3_init, Cond.code yX3_init cX3_init 2 none, Cond.methodLink RX3 1 objectInit, Cond.instanceMethod objectInit, Cond.code objectInit ⟨#[0xb1]⟩ 1 none, Cond.classLink RX3 9 RX0, Cond.fieldLink RX3 11 "SteamBends" "kinds" "[LSteamBends$Kind;", Cond.classLink RX3 15 RX2, Cond.instantiable RX2 1, Cond.initialized RX2, Cond.fieldLink RX3 18 "SteamBends" "shape" "LSteamBends$Shape;", Cond.fieldLink RX3 22 "SteamBends" "kerfCount" "I", Cond.fieldLink RX3 26 "SteamBends" "kerfRest" "D", Cond.instantiable RX0 4]
def wsL_law0_r2 : List Cond := [Cond.initialized RX0, Cond.instanceMethod yX2_init, Cond.code yX2_init cX2_init 1 none, Cond.methodLink RX2 3 objectInit, Cond.classLink RX2 9 RX1, Cond.instantiable RX1 3, Cond.initialized RX1, Cond.fieldLink RX2 14 "SteamBends$Shape" "pieces" "LSteamBends$Pairs;", Cond.methodLink RX2 11 yX1_init, Cond.instanceMethod yX1_init, Cond.code yX1_init cX1_init 3 none, Cond.methodLink RX1 3 objectInit, Cond.fieldLink RX1 9 "SteamBends$Pairs" "count" "I", Cond.methodLink RX1 15 Lib.Math.max.name, Cond.static Lib.Math.max.name, Cond.initialized "java/lang/Math", Cond.code Lib.Math.max.name Lib.Math.max.code 2 (some .int), Cond.fieldLink RX1 21 "SteamBends$Pairs" "firsts" "[D", Cond.fieldLink RX1 25 "SteamBends$Pairs" "seconds" "[D", Cond.instanceMethod yX0_init, Cond.code yX0_init cX0_init 1 none, Cond.methodLink RX0 3 objectInit, Cond.classLink RX0 9 RX1, Cond.fieldLink RX0 14 "SteamBends$Kind" "rows" "LSteamBends$Pairs;"]
def wsL_law0_r3 : List Cond := [Cond.fieldLink RX0 20 "SteamBends$Kind" "readings" "LSteamBends$Pairs;", Cond.constantDouble RX0 23 (4598175219545276416), Cond.fieldLink RX0 25 "SteamBends$Kind" "spring" "D", Cond.fieldLink RX0 29 "SteamBends$Kind" "step" "D", Cond.methodLink RX0 11 yX1_init, Cond.methodLink RL 73 yX4_init, Cond.instanceMethod yX4_init, Cond.code yX4_init cX4_init 2 none, Cond.methodLink RX4 1 objectInit, Cond.arrayClass .int, Cond.fieldLink RX4 7 "SteamBendsModel" "rows" "[I", Cond.fieldLink RX4 13 "SteamBendsModel" "thicks" "[D", Cond.fieldLink RX4 17 "SteamBendsModel" "radii" "[D", Cond.fieldLink RX4 20 "SteamBendsModel" "readings" "[I", Cond.fieldLink RX4 23 "SteamBendsModel" "bents" "[D", Cond.fieldLink RX4 26 "SteamBendsModel" "kepts" "[D", Cond.fieldLink RX4 29 "SteamBendsModel" "springs" "[D", Cond.fieldLink RX4 32 "SteamBendsModel" "steps" "[D", Cond.fieldLink RX4 35 "SteamBendsModel" "lengths" "[D", Cond.fieldLink RX4 38 "SteamBendsModel" "bends" "[D", Cond.constantDouble RX4 41 (4598175219545276416), Cond.methodLink RL 76 yL_table, Cond.static yL_table, Cond.initialized RL]
def wsL_law0_r4 : List Cond := [Cond.codeWith yL_table cL_table 8 (some .int) [(0, 13, 16, 13), (0, 13, 20, 15), (0, 13, 24, 17)], Cond.classLink RL 13 "java/lang/IndexOutOfBoundsException", Cond.classLink RL 15 "java/lang/IllegalArgumentException", Cond.classLink RL 17 "java/lang/IllegalStateException", Cond.methodLink RL 7 yX3_table, Cond.instanceMethod yX3_table, Cond.selects RX3 yX3_table yX3_table, Cond.code yX3_table cX3_table 8 (some .int), Cond.classLink RX3 49 "java/lang/IllegalArgumentException", Cond.initialized "java/lang/IllegalArgumentException", Cond.classLink RX3 66 "java/lang/IllegalStateException", Cond.initialized "java/lang/IllegalStateException", Cond.constantDouble RX3 35 (4593671619917905920), Cond.constantDouble RX3 37 (4652007308841189376), Cond.constantDouble RX3 43 (4666723172467343360), Cond.methodLink RX3 31 yX3_kindOf, Cond.instanceMethod yX3_kindOf, Cond.selects RX3 yX3_kindOf yX3_kindOf, Cond.code yX3_kindOf cX3_kindOf 3 (some (.object "SteamBends$Kind")), Cond.classLink RX3 111 "java/lang/IndexOutOfBoundsException", Cond.initialized "java/lang/IndexOutOfBoundsException", Cond.methodLink RX3 39 yX3_isWithin, Cond.static yX3_isWithin, Cond.code yX3_isWithin cX3_isWithin 6 (some .boolean)]
def wsL_law0_r5 : List Cond := [Cond.methodLink RX3 45 yX0_isAboveRows, Cond.instanceMethod yX0_isAboveRows, Cond.selects RX0 yX0_isAboveRows yX0_isAboveRows, Cond.code yX0_isAboveRows cX0_isAboveRows 3 (some .boolean), Cond.methodLink RX0 36 yX1_first, Cond.instanceMethod yX1_first, Cond.selects RX1 yX1_first yX1_first, Cond.code yX1_first cX1_first 2 (some .double), Cond.methodLink RX1 28 yX1_isPlace, Cond.instanceMethod yX1_isPlace, Cond.selects RX1 yX1_isPlace yX1_isPlace, Cond.code yX1_isPlace cX1_isPlace 2 (some .boolean), Cond.methodLink RX3 60 yX1_add, Cond.instanceMethod yX1_add, Cond.selects RX1 yX1_add yX1_add, Cond.code yX1_add cX1_add 5 (some .int), Cond.methodLink RL 81 yX4_table, Cond.instanceMethod yX4_table, Cond.selects RX4 yX4_table yX4_table, Cond.code yX4_table cX4_table 8 (some .int), Cond.fieldLink RX4 43 "SteamBendsModel" "code" "I", Cond.constantDouble RX4 51 (4593671619917905920), Cond.constantDouble RX4 53 (4652007308841189376), Cond.constantDouble RX4 59 (4666723172467343360)]
def wsL_law0_r6 : List Cond := [Cond.methodLink RX4 47 yX4_isKind, Cond.static yX4_isKind, Cond.code yX4_isKind cX4_isKind 1 (some .boolean), Cond.methodLink RX4 55 yX4_isIn, Cond.static yX4_isIn, Cond.code yX4_isIn cX4_isIn 6 (some .boolean), Cond.methodLink RL 82 yX4_thrown, Cond.instanceMethod yX4_thrown, Cond.selects RX4 yX4_thrown yX4_thrown, Cond.code yX4_thrown cX4_thrown 1 (some .int), Cond.methodLink RL 86 yL_radius, Cond.static yL_radius, Cond.codeWith yL_radius cL_radius 6 (some .int) [(0, 10, 13, 13), (0, 10, 17, 15), (0, 10, 21, 17)], Cond.methodLink RL 19 yX3_radius, Cond.instanceMethod yX3_radius, Cond.selects RX3 yX3_radius yX3_radius, Cond.code yX3_radius cX3_radius 7 (some .double), Cond.methodLink RX3 73 yX0_leastRadius, Cond.instanceMethod yX0_leastRadius, Cond.selects RX0 yX0_leastRadius yX0_leastRadius, Cond.code yX0_leastRadius cX0_leastRadius 4 (some .double), Cond.constantDouble RX0 43 (13830554455654793216), Cond.methodLink RX0 40 yX1_second, Cond.instanceMethod yX1_second]
def wsL_law0_r7 : List Cond := [Cond.selects RX1 yX1_second yX1_second, Cond.code yX1_second cX1_second 2 (some .double), Cond.methodLink RX0 45 yX0_radiusBetween, Cond.instanceMethod yX0_radiusBetween, Cond.selects RX0 yX0_radiusBetween yX0_radiusBetween, Cond.code yX0_radiusBetween cX0_radiusBetween 13 (some .double), Cond.methodLink RX3 77 yX3_isNone, Cond.static yX3_isNone, Cond.code yX3_isNone cX3_isNone 2 (some .boolean), Cond.methodLink RL 89 yX4_radius, Cond.instanceMethod yX4_radius, Cond.selects RX4 yX4_radius yX4_radius, Cond.code yX4_radius cX4_radius 6 (some .double), Cond.fieldLink RX4 61 "SteamBendsModel" "isFound" "Z", Cond.methodLink RX4 65 yX4_radiusAt, Cond.instanceMethod yX4_radiusAt, Cond.selects RX4 yX4_radiusAt yX4_radiusAt, Cond.code yX4_radiusAt cX4_radiusAt 7 (some .double), Cond.methodLink RL 90 yL_strips, Cond.static yL_strips, Cond.codeWith yL_strips cL_strips 8 (some .int) [(0, 13, 16, 13), (0, 13, 20, 15)], Cond.methodLink RL 23 yX3_strips, Cond.instanceMethod yX3_strips, Cond.selects RX3 yX3_strips yX3_strips]
def wsL_law0_r8 : List Cond := [Cond.code yX3_strips cX3_strips 7 (some .int), Cond.methodLink RX3 84 yX0_leastStrips, Cond.instanceMethod yX0_leastStrips, Cond.selects RX0 yX0_leastStrips yX0_leastStrips, Cond.code yX0_leastStrips cX0_leastStrips 8 (some .int), Cond.methodLink RX0 49 yX0_leastRadius, Cond.methodLink RL 92 yX4_strips, Cond.instanceMethod yX4_strips, Cond.selects RX4 yX4_strips yX4_strips, Cond.code yX4_strips cX4_strips 9 (some .int), Cond.methodLink RL 93 yL_read, Cond.static yL_read, Cond.codeWith yL_read cL_read 8 (some .int) [(0, 13, 16, 13), (0, 13, 20, 15), (0, 13, 24, 17)], Cond.methodLink RL 26 yX3_read, Cond.instanceMethod yX3_read, Cond.selects RX3 yX3_read yX3_read, Cond.code yX3_read cX3_read 8 (some .int), Cond.constantDouble RX3 87 (4681608360884174848), Cond.methodLink RL 95 yX4_read, Cond.instanceMethod yX4_read, Cond.selects RX4 yX4_read yX4_read, Cond.code yX4_read cX4_read 7 (some .int), Cond.constantDouble RX4 69 (4681608360884174848), Cond.methodLink RL 96 yL_fit]
def wsL_law0_r9 : List Cond := [Cond.static yL_fit, Cond.codeWith yL_fit cL_fit 5 (some .int) [(0, 10, 13, 13), (0, 10, 17, 15)], Cond.methodLink RL 29 yX3_fit, Cond.instanceMethod yX3_fit, Cond.selects RX3 yX3_fit yX3_fit, Cond.code yX3_fit cX3_fit 6 (some .int), Cond.methodLink RX3 98 yX0_fitsBetter, Cond.instanceMethod yX0_fitsBetter, Cond.selects RX0 yX0_fitsBetter yX0_fitsBetter, Cond.code yX0_fitsBetter cX0_fitsBetter 7 (some .boolean), Cond.constantDouble RX0 60 (4611686018427387904), Cond.methodLink RX0 57 yX0_residue, Cond.instanceMethod yX0_residue, Cond.selects RX0 yX0_residue yX0_residue, Cond.code yX0_residue cX0_residue 8 (some .double), Cond.methodLink RL 99 yX4_fit, Cond.instanceMethod yX4_fit, Cond.selects RX4 yX4_fit yX4_fit, Cond.code yX4_fit cX4_fit 5 (some .int), Cond.methodLink RX4 76 yX4_improves, Cond.instanceMethod yX4_improves, Cond.selects RX4 yX4_improves yX4_improves, Cond.code yX4_improves cX4_improves 8 (some .boolean), Cond.constantDouble RX4 74 (4611686018427387904)]
def wsL_law0_r10 : List Cond := [Cond.methodLink RX4 71 yX4_residue, Cond.instanceMethod yX4_residue, Cond.selects RX4 yX4_residue yX4_residue, Cond.code yX4_residue cX4_residue 9 (some .double), Cond.methodLink RL 100 yL_back, Cond.static yL_back, Cond.codeWith yL_back cL_back 5 (some .int) [(0, 9, 12, 13)], Cond.methodLink RL 33 yX3_back, Cond.instanceMethod yX3_back, Cond.selects RX3 yX3_back yX3_back, Cond.code yX3_back cX3_back 4 (some .double), Cond.methodLink RX3 108 yX0_residue, Cond.methodLink RL 103 yX4_back, Cond.instanceMethod yX4_back, Cond.selects RX4 yX4_back yX4_back, Cond.code yX4_back cX4_back 3 (some .double), Cond.methodLink RL 104 yL_form, Cond.static yL_form, Cond.codeWith yL_form cL_form 6 (some .int) [(0, 10, 13, 13), (0, 10, 17, 15)], Cond.methodLink RL 37 yX3_form, Cond.instanceMethod yX3_form, Cond.selects RX3 yX3_form yX3_form, Cond.code yX3_form cX3_form 5 (some .double), Cond.methodLink RX3 118 yX0_formFor]
def wsL_law0_r11 : List Cond := [Cond.instanceMethod yX0_formFor, Cond.selects RX0 yX0_formFor yX0_formFor, Cond.code yX0_formFor cX0_formFor 10 (some .double), Cond.methodLink RL 106 yX4_form, Cond.instanceMethod yX4_form, Cond.selects RX4 yX4_form yX4_form, Cond.code yX4_form cX4_form 12 (some .double), Cond.methodLink RL 107 yL_minutes, Cond.static yL_minutes, Cond.codeWith yL_minutes cL_minutes 5 (some .int) [(0, 8, 11, 15)], Cond.methodLink RL 40 yX3_minutes, Cond.instanceMethod yX3_minutes, Cond.selects RX3 yX3_minutes yX3_minutes, Cond.code yX3_minutes cX3_minutes 5 (some .double), Cond.constantDouble RX3 121 (4612811918334230528), Cond.constantDouble RX3 123 (4632233691727265792), Cond.constantDouble RX3 125 (4626322717216342016), Cond.methodLink RL 110 yX4_minutes, Cond.instanceMethod yX4_minutes, Cond.selects RX4 yX4_minutes yX4_minutes, Cond.code yX4_minutes cX4_minutes 3 (some .double), Cond.constantDouble RX4 79 (4632233691727265792), Cond.constantDouble RX4 81 (4612811918334230528), Cond.constantDouble RX4 83 (4626322717216342016)]
def wsL_law0_r12 : List Cond := [Cond.methodLink RL 111 yL_piece, Cond.static yL_piece, Cond.codeWith yL_piece cL_piece 7 (some .int) [(0, 11, 14, 15), (0, 11, 18, 17)], Cond.methodLink RL 44 yX3_piece, Cond.instanceMethod yX3_piece, Cond.selects RX3 yX3_piece yX3_piece, Cond.code yX3_piece cX3_piece 6 (some .int), Cond.methodLink RL 114 yX4_piece, Cond.instanceMethod yX4_piece, Cond.selects RX4 yX4_piece yX4_piece, Cond.code yX4_piece cX4_piece 5 (some .int), Cond.fieldLink RX4 85 "SteamBendsModel" "pieces" "I", Cond.methodLink RL 115 yX3_clear, Cond.instanceMethod yX3_clear, Cond.selects RX3 yX3_clear yX3_clear, Cond.code yX3_clear cX3_clear 1 none, Cond.methodLink RX3 134 yX1_removeAll, Cond.instanceMethod yX1_removeAll, Cond.selects RX1 yX1_removeAll yX1_removeAll, Cond.code yX1_removeAll cX1_removeAll 1 none, Cond.methodLink RL 118 yX4_clear, Cond.instanceMethod yX4_clear, Cond.selects RX4 yX4_clear yX4_clear, Cond.code yX4_clear cX4_clear 1 none]
def wsL_law0_r13 : List Cond := [Cond.methodLink RL 119 yL_length, Cond.static yL_length, Cond.codeWith yL_length cL_length 6 (some .int) [(0, 10, 13, 15)], Cond.methodLink RL 48 yX3_length, Cond.instanceMethod yX3_length, Cond.selects RX3 yX3_length yX3_length, Cond.code yX3_length cX3_length 4 (some .double), Cond.methodLink RX3 137 yX2_isBendable, Cond.instanceMethod yX2_isBendable, Cond.selects RX2 yX2_isBendable yX2_isBendable, Cond.code yX2_isBendable cX2_isBendable 6 (some .boolean), Cond.constantDouble RX2 28 (4611686018427387904), Cond.methodLink RX2 24 yX1_second, Cond.methodLink RX3 142 yX2_sumOfLengths, Cond.instanceMethod yX2_sumOfLengths, Cond.selects RX2 yX2_sumOfLengths yX2_sumOfLengths, Cond.code yX2_sumOfLengths cX2_sumOfLengths 7 (some .double), Cond.methodLink RX2 30 yX2_lengthOf, Cond.instanceMethod yX2_lengthOf, Cond.selects RX2 yX2_lengthOf yX2_lengthOf, Cond.code yX2_lengthOf cX2_lengthOf 11 (some .double), Cond.methodLink RX2 34 yX1_first, Cond.methodLink RL 122 yX4_length, Cond.instanceMethod yX4_length]
def wsL_law0_r14 : List Cond := [Cond.selects RX4 yX4_length yX4_length, Cond.code yX4_length cX4_length 12 (some .double), Cond.methodLink RL 123 yL_kerfs, Cond.static yL_kerfs, Cond.codeWith yL_kerfs cL_kerfs 11 (some .int) [(0, 15, 18, 15)], Cond.methodLink RL 52 yX3_kerfs, Cond.instanceMethod yX3_kerfs, Cond.selects RX3 yX3_kerfs yX3_kerfs, Cond.code yX3_kerfs cX3_kerfs 11 (some .int), Cond.constantDouble RX3 146 (4645040803167600640), Cond.constantDouble RX3 148 (4636737291354636288), Cond.constantDouble RX3 152 (4633260481411531256), Cond.methodLink RX3 154 yX3_leastKerfs, Cond.static yX3_leastKerfs, Cond.code yX3_leastKerfs cX3_leastKerfs 6 (some .int), Cond.constant RX3 178 (32768), Cond.methodLink RL 126 yX4_kerfs, Cond.instanceMethod yX4_kerfs, Cond.selects RX4 yX4_kerfs yX4_kerfs, Cond.code yX4_kerfs cX4_kerfs 13 (some .int), Cond.constantDouble RX4 88 (4645040803167600640), Cond.constantDouble RX4 90 (4636737291354636288), Cond.constantDouble RX4 92 (4633260481411531256), Cond.fieldLink RX4 94 "SteamBendsModel" "cuts" "I"]
def wsL_law0_r15 : List Cond := [Cond.fieldLink RX4 97 "SteamBendsModel" "over" "D", Cond.methodLink RL 127 yL_kerfAt, Cond.static yL_kerfAt, Cond.codeWith yL_kerfAt cL_kerfAt 6 (some .int) [(0, 10, 13, 17), (0, 10, 17, 13), (0, 10, 21, 15)], Cond.methodLink RL 56 yX3_kerfAt, Cond.instanceMethod yX3_kerfAt, Cond.selects RX3 yX3_kerfAt yX3_kerfAt, Cond.code yX3_kerfAt cX3_kerfAt 4 (some .double), Cond.methodLink RL 129 yX4_kerfAt, Cond.instanceMethod yX4_kerfAt, Cond.selects RX4 yX4_kerfAt yX4_kerfAt, Cond.code yX4_kerfAt cX4_kerfAt 4 (some .double), Cond.methodLink RL 130 yL_rest, Cond.static yL_rest, Cond.codeWith yL_rest cL_rest 3 (some .int) [(0, 7, 10, 17)], Cond.methodLink RL 59 yX3_rest, Cond.instanceMethod yX3_rest, Cond.selects RX3 yX3_rest yX3_rest, Cond.code yX3_rest cX3_rest 1 (some .double), Cond.methodLink RL 133 yX4_rest, Cond.instanceMethod yX4_rest, Cond.selects RX4 yX4_rest yX4_rest, Cond.code yX4_rest cX4_rest 1 (some .double), Cond.methodLink RL 134 yL_broken]
def wsL_law0_r16 : List Cond := [Cond.static yL_broken, Cond.codeWith yL_broken cL_broken 6 (some .int) [(0, 11, 14, 13), (0, 11, 18, 15)], Cond.methodLink RL 63 yX3_broken, Cond.instanceMethod yX3_broken, Cond.selects RX3 yX3_broken yX3_broken, Cond.code yX3_broken cX3_broken 8 (some .long), Cond.constant RX3 165 (1000000), Cond.methodLink RX3 168 yX3_commonDivisor, Cond.static yX3_commonDivisor, Cond.code yX3_commonDivisor cX3_commonDivisor 6 (some .int), Cond.methodLink RL 137 yX4_broken, Cond.instanceMethod yX4_broken, Cond.selects RX4 yX4_broken yX4_broken, Cond.code yX4_broken cX4_broken 5 (some .long), Cond.constant RX4 101 (1000000), Cond.methodLink RX4 102 yX4_common, Cond.static yX4_common, Cond.code yX4_common cX4_common 5 (some .int), Cond.methodLink RL 138 yL_relaxed, Cond.static yL_relaxed, Cond.codeWith yL_relaxed cL_relaxed 5 (some .int) [(0, 9, 12, 13), (0, 9, 16, 15)], Cond.methodLink RL 67 yX3_relaxed, Cond.instanceMethod yX3_relaxed, Cond.selects RX3 yX3_relaxed yX3_relaxed]
def wsL_law0_r17 : List Cond := [Cond.code yX3_relaxed cX3_relaxed 4 (some .double), Cond.constantDouble RX3 174 (4620693217682128896), Cond.methodLink RL 140 yX4_relaxed, Cond.instanceMethod yX4_relaxed, Cond.selects RX4 yX4_relaxed yX4_relaxed, Cond.code yX4_relaxed cX4_relaxed 3 (some .double), Cond.constantDouble RX4 106 (4620693217682128896)]
def wsL_law0 : List Cond := (wsL_law0_r1 ++ (wsL_law0_r2 ++ (wsL_law0_r3 ++ (wsL_law0_r4 ++ (wsL_law0_r5 ++ (wsL_law0_r6 ++ (wsL_law0_r7 ++ (wsL_law0_r8 ++ (wsL_law0_r9 ++ (wsL_law0_r10 ++ (wsL_law0_r11 ++ (wsL_law0_r12 ++ (wsL_law0_r13 ++ (wsL_law0_r14 ++ (wsL_law0_r15 ++ (wsL_law0_r16 ++ wsL_law0_r17)))))))))))))))) ++ wsX30 ++ wsX40 ++ wsX20 ++ wsX00 ++ wsX10 ++ ([] : List Cond)
def wsL_law : List Cond := wsL_law0 ++ (vx_atS RX3 53 "java/lang/IllegalArgumentException" ["java/lang/RuntimeException", "java/lang/Exception"]).filter goodWord ++ (vx_atS RX3 70 "java/lang/IllegalStateException" ["java/lang/RuntimeException", "java/lang/Exception"]).filter goodWord ++ (vx_atS RX3 115 "java/lang/IndexOutOfBoundsException" ["java/lang/RuntimeException", "java/lang/Exception"]).filter goodWord
theorem mem_r {big : List Cond} (ws : List Cond) (ps : List Nat) (hp : ws = ps.filterMap (fun i => big[i]?)) : ∀ w ∈ ws, w ∈ big := by
  intro w hw
  rw [hp] at hw
  obtain ⟨i, -, hi⟩ := List.mem_filterMap.mp hw
  first | exact List.mem_of_getElem? hi | exact List.getElem?_mem hi
set_option maxRecDepth 20000 in
theorem wsL_in_r1 : ∀ w ∈ wsL_law0_r1, w ∈ lw_tbl := mem_r _ [21, 22, 9, 429, 430, 14, 586, 58, 585, 23, 24, 25, 26, 27, 28, 29, 89, 31, 32, 10, 90, 91, 92, 64] (by decide +kernel)
set_option maxRecDepth 20000 in
theorem wsL_in_r2 : ∀ w ∈ wsL_law0_r2, w ∈ lw_tbl := mem_r _ [13, 34, 35, 36, 37, 38, 11, 59, 39, 40, 41, 42, 48, 43, 44, 12, 45, 46, 47, 66, 67, 68, 69, 72] (by decide +kernel)
set_option maxRecDepth 20000 in
theorem wsL_in_r3 : ∀ w ∈ wsL_law0_r3, w ∈ lw_tbl := mem_r _ [74, 71, 76, 78, 70, 431, 432, 433, 434, 482, 437, 438, 439, 440, 441, 442, 443, 444, 446, 447, 435, 110, 111, 8] (by decide +kernel)
set_option maxRecDepth 20000 in
theorem wsL_in_r4 : ∀ w ∈ wsL_law0_r4, w ∈ lw_tbl := mem_r _ [112, 113, 114, 115, 116, 117, 118, 119, 210, 19, 230, 20, 192, 193, 197, 120, 122, 0, 123, 124, 18, 194, 195, 196] (by decide +kernel)
set_option maxRecDepth 20000 in
theorem wsL_in_r5 : ∀ w ∈ wsL_law0_r5, w ∈ lw_tbl := mem_r _ [198, 199, 200, 201, 202, 203, 204, 205, 206, 208, 2, 209, 226, 227, 228, 229, 487, 488, 489, 490, 436, 494, 495, 499] (by decide +kernel)
set_option maxRecDepth 20000 in
theorem wsL_in_r6 : ∀ w ∈ wsL_law0_r6, w ∈ lw_tbl := mem_r _ [491, 492, 493, 496, 497, 498, 483, 484, 485, 486, 246, 247, 248, 249, 250, 251, 252, 254, 255, 256, 257, 262, 258, 259] (by decide +kernel)
set_option maxRecDepth 20000 in
theorem wsL_in_r7 : ∀ w ∈ wsL_law0_r7, w ∈ lw_tbl := mem_r _ [260, 261, 263, 265, 3, 266, 267, 268, 269, 500, 501, 502, 503, 450, 504, 506, 5, 507, 271, 272, 273, 274, 275, 276] (by decide +kernel)
set_option maxRecDepth 20000 in
theorem wsL_in_r8 : ∀ w ∈ wsL_law0_r8, w ∈ lw_tbl := mem_r _ [277, 279, 280, 281, 282, 283, 508, 509, 510, 511, 285, 286, 287, 288, 289, 290, 291, 292, 512, 513, 514, 515, 516, 295] (by decide +kernel)
set_option maxRecDepth 20000 in
theorem wsL_in_r9 : ∀ w ∈ wsL_law0_r9, w ∈ lw_tbl := mem_r _ [296, 297, 298, 299, 300, 301, 303, 304, 305, 306, 311, 307, 308, 309, 310, 517, 518, 519, 520, 521, 523, 6, 524, 529] (by decide +kernel)
set_option maxRecDepth 20000 in
theorem wsL_in_r10 : ∀ w ∈ wsL_law0_r10, w ∈ lw_tbl := mem_r _ [525, 527, 7, 528, 312, 313, 314, 315, 316, 317, 318, 319, 530, 531, 532, 533, 321, 322, 323, 324, 325, 326, 327, 329] (by decide +kernel)
set_option maxRecDepth 20000 in
theorem wsL_in_r11 : ∀ w ∈ wsL_law0_r11, w ∈ lw_tbl := mem_r _ [330, 331, 332, 534, 535, 536, 537, 333, 334, 335, 336, 337, 338, 339, 340, 341, 342, 538, 539, 540, 541, 542, 543, 544] (by decide +kernel)
set_option maxRecDepth 20000 in
theorem wsL_in_r12 : ∀ w ∈ wsL_law0_r12, w ∈ lw_tbl := mem_r _ [343, 344, 345, 346, 347, 348, 349, 545, 546, 547, 548, 445, 102, 103, 104, 105, 106, 107, 108, 109, 549, 550, 551, 552] (by decide +kernel)
set_option maxRecDepth 20000 in
theorem wsL_in_r13 : ∀ w ∈ wsL_law0_r13, w ∈ lw_tbl := mem_r _ [352, 353, 354, 355, 356, 357, 358, 359, 360, 361, 362, 364, 363, 366, 367, 368, 369, 370, 372, 4, 373, 374, 553, 554] (by decide +kernel)
set_option maxRecDepth 20000 in
theorem wsL_in_r14 : ∀ w ∈ wsL_law0_r14, w ∈ lw_tbl := mem_r _ [555, 556, 375, 376, 377, 378, 379, 380, 381, 382, 383, 385, 386, 387, 388, 389, 557, 558, 559, 560, 561, 562, 563, 448] (by decide +kernel)
set_option maxRecDepth 20000 in
theorem wsL_in_r15 : ∀ w ∈ wsL_law0_r15, w ∈ lw_tbl := mem_r _ [449, 390, 391, 392, 393, 394, 395, 396, 564, 565, 566, 567, 400, 401, 402, 403, 404, 405, 406, 568, 569, 570, 571, 407] (by decide +kernel)
set_option maxRecDepth 20000 in
theorem wsL_in_r16 : ∀ w ∈ wsL_law0_r16, w ∈ lw_tbl := mem_r _ [408, 409, 410, 411, 412, 413, 415, 417, 418, 419, 572, 573, 574, 575, 576, 577, 578, 579, 420, 421, 422, 423, 424, 425] (by decide +kernel)
set_option maxRecDepth 20000 in
theorem wsL_in_r17 : ∀ w ∈ wsL_law0_r17, w ∈ lw_tbl := mem_r _ [426, 428, 580, 581, 582, 583, 584] (by decide +kernel)
set_option maxRecDepth 20000 in
theorem wsL_in_X3 : ∀ w ∈ wsX30, w ∈ lw_tbl := by decide +kernel
set_option maxRecDepth 20000 in
theorem wsL_in_X4 : ∀ w ∈ wsX40, w ∈ lw_tbl := by decide +kernel
set_option maxRecDepth 20000 in
theorem wsL_in_X2 : ∀ w ∈ wsX20, w ∈ lw_tbl := by decide +kernel
set_option maxRecDepth 20000 in
theorem wsL_in_X0 : ∀ w ∈ wsX00, w ∈ lw_tbl := by decide +kernel
set_option maxRecDepth 20000 in
theorem wsL_in_X1 : ∀ w ∈ wsX10, w ∈ lw_tbl := by decide +kernel
theorem mem_a {big a b : List Cond} (ha : ∀ w ∈ a, w ∈ big) (hb : ∀ w ∈ b, w ∈ big) : ∀ w ∈ a ++ b, w ∈ big := fun w h => (List.mem_append.mp h).elim (ha w) (hb w)
theorem wsL_law_in0 : ∀ w ∈ wsL_law0, w ∈ lw_tbl := mem_a (mem_a (mem_a (mem_a (mem_a (mem_a (mem_a wsL_in_r1 (mem_a wsL_in_r2 (mem_a wsL_in_r3 (mem_a wsL_in_r4 (mem_a wsL_in_r5 (mem_a wsL_in_r6 (mem_a wsL_in_r7 (mem_a wsL_in_r8 (mem_a wsL_in_r9 (mem_a wsL_in_r10 (mem_a wsL_in_r11 (mem_a wsL_in_r12 (mem_a wsL_in_r13 (mem_a wsL_in_r14 (mem_a wsL_in_r15 (mem_a wsL_in_r16 wsL_in_r17)))))))))))))))) wsL_in_X3) wsL_in_X4) wsL_in_X2) wsL_in_X0) wsL_in_X1) (fun w h => absurd h List.not_mem_nil)
theorem wsL_law_x0 : ∀ w ∈ (vx_atS RX3 53 "java/lang/IllegalArgumentException" ["java/lang/RuntimeException", "java/lang/Exception"]).filter goodWord, w ∈ lw_tbl := by decide +kernel
theorem wsL_law_x1 : ∀ w ∈ (vx_atS RX3 70 "java/lang/IllegalStateException" ["java/lang/RuntimeException", "java/lang/Exception"]).filter goodWord, w ∈ lw_tbl := by decide +kernel
theorem wsL_law_x2 : ∀ w ∈ (vx_atS RX3 115 "java/lang/IndexOutOfBoundsException" ["java/lang/RuntimeException", "java/lang/Exception"]).filter goodWord, w ∈ lw_tbl := by decide +kernel
theorem wsL_law_in : ∀ w ∈ wsL_law, w ∈ lw_tbl := fun w h => (List.mem_append.mp h).elim (fun h => (List.mem_append.mp h).elim (fun h => (List.mem_append.mp h).elim (fun h => wsL_law_in0 w h) (fun h => wsL_law_x0 w h)) (fun h => wsL_law_x1 w h)) (fun h => wsL_law_x2 w h)
theorem inlX0 : ∀ w ∈ wsX00, w ∈ wsL_law := fun _ h => List.mem_append_left _ (List.mem_append_left _ (List.mem_append_left _ (List.mem_append_left _ (List.mem_append_left _ (List.mem_append_right _ h)))))
theorem inX0 : ∀ w ∈ wsX00, w ∈ lw_tbl := fun w h => wsL_law_in w (inlX0 w h)
theorem inlX1 : ∀ w ∈ wsX10, w ∈ wsL_law := fun _ h => List.mem_append_left _ (List.mem_append_left _ (List.mem_append_left _ (List.mem_append_left _ (List.mem_append_right _ h))))
theorem inX1 : ∀ w ∈ wsX10, w ∈ lw_tbl := fun w h => wsL_law_in w (inlX1 w h)
theorem inlX2 : ∀ w ∈ wsX20, w ∈ wsL_law := fun _ h => List.mem_append_left _ (List.mem_append_left _ (List.mem_append_left _ (List.mem_append_left _ (List.mem_append_left _ (List.mem_append_left _ (List.mem_append_right _ h))))))
theorem inX2 : ∀ w ∈ wsX20, w ∈ lw_tbl := fun w h => wsL_law_in w (inlX2 w h)
theorem inlX3 : ∀ w ∈ wsX30, w ∈ wsL_law := fun _ h => List.mem_append_left _ (List.mem_append_left _ (List.mem_append_left _ (List.mem_append_left _ (List.mem_append_left _ (List.mem_append_left _ (List.mem_append_left _ (List.mem_append_left _ (List.mem_append_right _ h))))))))
theorem inX3 : ∀ w ∈ wsX30, w ∈ lw_tbl := fun w h => wsL_law_in w (inlX3 w h)
theorem inlX4 : ∀ w ∈ wsX40, w ∈ wsL_law := fun _ h => List.mem_append_left _ (List.mem_append_left _ (List.mem_append_left _ (List.mem_append_left _ (List.mem_append_left _ (List.mem_append_left _ (List.mem_append_left _ (List.mem_append_right _ h)))))))
theorem inX4 : ∀ w ∈ wsX40, w ∈ lw_tbl := fun w h => wsL_law_in w (inlX4 w h)
theorem inJ9 : ∀ w ∈ wsJ90, w ∈ lw_tbl := by decide +kernel
theorem inJ0 : ∀ w ∈ wsJ00, w ∈ lw_tbl := by decide +kernel
set_option maxRecDepth 20000 in
theorem ggX0_init_X1_init : GoodIn wsX0_init wsX1_init := goodIn_r _ [14, 15, 2, 3, 16, 17, 18, 19, 20, 21, 22, 23, 24, 25, 26] (by decide +kernel) (by decide +kernel)
set_option maxRecDepth 20000 in
theorem gX0_init_X1_init : GoodIn wsX0_init (wsX1_init) := ggX0_init_X1_init
set_option maxRecDepth 20000 in
theorem ggX0_isAboveRows_X1_first : GoodIn wsX0_isAboveRows wsX1_first := goodIn_r _ [6, 7, 8, 9, 10, 5, 11, 12, 17, 18, 19] (by decide +kernel) (by decide +kernel)
set_option maxRecDepth 20000 in
theorem gX0_isAboveRows_X1_first : GoodIn wsX0_isAboveRows (wsV RX0 36 RX1 yX1_first wsX1_first) := goodIn_app (goodIn_of _ (by decide +kernel)) ggX0_isAboveRows_X1_first
set_option maxRecDepth 20000 in
theorem ggX0_leastRadius_X1_first : GoodIn wsX0_leastRadius wsX1_first := goodIn_r _ [7, 8, 9, 10, 11, 6, 12, 13, 27, 28, 29] (by decide +kernel) (by decide +kernel)
set_option maxRecDepth 20000 in
theorem gX0_leastRadius_X1_first : GoodIn wsX0_leastRadius (wsV RX0 36 RX1 yX1_first wsX1_first) := goodIn_app (goodIn_of _ (by decide +kernel)) ggX0_leastRadius_X1_first
set_option maxRecDepth 20000 in
theorem ggX0_leastRadius_X1_second : GoodIn wsX0_leastRadius wsX1_second := goodIn_r _ [17, 13, 9, 10, 11, 6, 12, 8, 27, 28, 29] (by decide +kernel) (by decide +kernel)
set_option maxRecDepth 20000 in
theorem gX0_leastRadius_X1_second : GoodIn wsX0_leastRadius (wsV RX0 40 RX1 yX1_second wsX1_second) := goodIn_app (goodIn_of _ (by decide +kernel)) ggX0_leastRadius_X1_second
set_option maxRecDepth 20000 in
theorem ggX0_leastRadius_X0_radiusBetween : GoodIn wsX0_leastRadius wsX0_radiusBetween := goodIn_r _ [22, 1, 3, 4, 5, 6, 7, 8, 9, 10, 11, 12, 13, 14, 15, 16, 17, 23, 24, 25, 26, 27, 28, 29] (by decide +kernel) (by decide +kernel)
set_option maxRecDepth 20000 in
theorem gX0_leastRadius_X0_radiusBetween : GoodIn wsX0_leastRadius (wsV RX0 45 RX0 yX0_radiusBetween wsX0_radiusBetween) := goodIn_app (goodIn_of _ (by decide +kernel)) ggX0_leastRadius_X0_radiusBetween
set_option maxRecDepth 20000 in
theorem ggX0_radiusBetween_X1_first : GoodIn wsX0_radiusBetween wsX1_first := goodIn_r _ [6, 7, 8, 9, 10, 5, 11, 12, 21, 22, 23] (by decide +kernel) (by decide +kernel)
set_option maxRecDepth 20000 in
theorem gX0_radiusBetween_X1_first : GoodIn wsX0_radiusBetween (wsV RX0 36 RX1 yX1_first wsX1_first) := goodIn_app (goodIn_of _ (by decide +kernel)) ggX0_radiusBetween_X1_first
set_option maxRecDepth 20000 in
theorem ggX0_radiusBetween_X1_second : GoodIn wsX0_radiusBetween wsX1_second := goodIn_r _ [16, 12, 8, 9, 10, 5, 11, 7, 21, 22, 23] (by decide +kernel) (by decide +kernel)
set_option maxRecDepth 20000 in
theorem gX0_radiusBetween_X1_second : GoodIn wsX0_radiusBetween (wsV RX0 40 RX1 yX1_second wsX1_second) := goodIn_app (goodIn_of _ (by decide +kernel)) ggX0_radiusBetween_X1_second
set_option maxRecDepth 20000 in
theorem ggX0_leastStrips_X0_leastRadius : GoodIn wsX0_leastStrips wsX0_leastRadius := goodIn_r _ [5, 6, 7, 8, 9, 10, 11, 12, 13, 14, 15, 16, 17, 18, 19, 20, 21, 22, 23, 24, 25, 4, 26, 30, 31, 32, 33, 34, 35, 36] (by decide +kernel) (by decide +kernel)
set_option maxRecDepth 20000 in
theorem gX0_leastStrips_X0_leastRadius : GoodIn wsX0_leastStrips (wsV RX0 49 RX0 yX0_leastRadius wsX0_leastRadius) := goodIn_app (goodIn_of _ (by decide +kernel)) ggX0_leastStrips_X0_leastRadius
set_option maxRecDepth 20000 in
theorem ggX0_leastStrips_X3_isNone : GoodIn wsX0_leastStrips wsX3_isNone := goodIn_r _ [29] (by decide +kernel) (by decide +kernel)
set_option maxRecDepth 20000 in
theorem gX0_leastStrips_X3_isNone_n53 : GoodIn wsX0_leastStrips (wsX3_isNone) := ggX0_leastStrips_X3_isNone
set_option maxRecDepth 20000 in
theorem ggX0_residue_X1_second : GoodIn wsX0_residue wsX1_second := goodIn_r _ [6, 7, 8, 9, 10, 5, 11, 12, 21, 22, 23] (by decide +kernel) (by decide +kernel)
set_option maxRecDepth 20000 in
theorem gX0_residue_X1_second : GoodIn wsX0_residue (wsV RX0 40 RX1 yX1_second wsX1_second) := goodIn_app (goodIn_of _ (by decide +kernel)) ggX0_residue_X1_second
set_option maxRecDepth 20000 in
theorem ggX0_residue_X1_first : GoodIn wsX0_residue wsX1_first := goodIn_r _ [16, 12, 8, 9, 10, 5, 11, 7, 21, 22, 23] (by decide +kernel) (by decide +kernel)
set_option maxRecDepth 20000 in
theorem gX0_residue_X1_first : GoodIn wsX0_residue (wsV RX0 36 RX1 yX1_first wsX1_first) := goodIn_app (goodIn_of _ (by decide +kernel)) ggX0_residue_X1_first
set_option maxRecDepth 20000 in
theorem ggX0_fitsBetter_X0_residue : GoodIn wsX0_fitsBetter wsX0_residue := goodIn_r _ [8, 9, 10, 11, 12, 13, 14, 15, 16, 17, 18, 19, 20, 21, 22, 23, 24, 25, 26, 27, 28, 29, 30, 31] (by decide +kernel) (by decide +kernel)
set_option maxRecDepth 20000 in
theorem gX0_fitsBetter_X0_residue : GoodIn wsX0_fitsBetter (wsV RX0 57 RX0 yX0_residue wsX0_residue) := goodIn_app (goodIn_of _ (by decide +kernel)) ggX0_fitsBetter_X0_residue
set_option maxRecDepth 20000 in
theorem ggX1_add_X1_isPlace : GoodIn wsX1_add wsX1_isPlace := goodIn_r _ [8, 2, 3, 9, 10, 11] (by decide +kernel) (by decide +kernel)
set_option maxRecDepth 20000 in
theorem gX1_add_X1_isPlace : GoodIn wsX1_add (wsV RX1 28 RX1 yX1_isPlace wsX1_isPlace) := goodIn_app (goodIn_of _ (by decide +kernel)) ggX1_add_X1_isPlace
set_option maxRecDepth 20000 in
theorem ggX1_first_X1_isPlace : GoodIn wsX1_first wsX1_isPlace := goodIn_r _ [6, 1, 7, 8, 9, 10] (by decide +kernel) (by decide +kernel)
set_option maxRecDepth 20000 in
theorem gX1_first_X1_isPlace : GoodIn wsX1_first (wsV RX1 28 RX1 yX1_isPlace wsX1_isPlace) := goodIn_app (goodIn_of _ (by decide +kernel)) ggX1_first_X1_isPlace
set_option maxRecDepth 20000 in
theorem ggX1_second_X1_isPlace : GoodIn wsX1_second wsX1_isPlace := goodIn_r _ [6, 7, 1, 8, 9, 10] (by decide +kernel) (by decide +kernel)
set_option maxRecDepth 20000 in
theorem gX1_second_X1_isPlace : GoodIn wsX1_second (wsV RX1 28 RX1 yX1_isPlace wsX1_isPlace) := goodIn_app (goodIn_of _ (by decide +kernel)) ggX1_second_X1_isPlace
set_option maxRecDepth 20000 in
theorem ggX2_init_X1_init : GoodIn wsX2_init wsX1_init := goodIn_r _ [10, 11, 2, 3, 12, 13, 14, 15, 16, 17, 18, 19, 20, 21, 22] (by decide +kernel) (by decide +kernel)
set_option maxRecDepth 20000 in
theorem gX2_init_X1_init : GoodIn wsX2_init (wsX1_init) := ggX2_init_X1_init
set_option maxRecDepth 20000 in
theorem ggX2_isBendable_X1_second : GoodIn wsX2_isBendable wsX1_second := goodIn_r _ [7, 8, 9, 10, 11, 6, 12, 13, 15, 16, 17] (by decide +kernel) (by decide +kernel)
set_option maxRecDepth 20000 in
theorem gX2_isBendable_X1_second : GoodIn wsX2_isBendable (wsV RX2 24 RX1 yX1_second wsX1_second) := goodIn_app (goodIn_of _ (by decide +kernel)) ggX2_isBendable_X1_second
set_option maxRecDepth 20000 in
theorem ggX2_sumOfLengths_X2_lengthOf : GoodIn wsX2_sumOfLengths wsX2_lengthOf := goodIn_r _ [6, 1, 7, 8, 9, 10, 11, 12, 13, 14, 15, 16, 17, 18, 19, 20, 21, 22, 23, 24, 25, 26] (by decide +kernel) (by decide +kernel)
set_option maxRecDepth 20000 in
theorem gX2_sumOfLengths_X2_lengthOf : GoodIn wsX2_sumOfLengths (wsV RX2 30 RX2 yX2_lengthOf wsX2_lengthOf) := goodIn_app (goodIn_of _ (by decide +kernel)) ggX2_sumOfLengths_X2_lengthOf
set_option maxRecDepth 20000 in
theorem ggX2_lengthOf_X1_first : GoodIn wsX2_lengthOf wsX1_first := goodIn_r _ [7, 8, 9, 10, 11, 6, 12, 13, 19, 20, 21] (by decide +kernel) (by decide +kernel)
set_option maxRecDepth 20000 in
theorem gX2_lengthOf_X1_first : GoodIn wsX2_lengthOf (wsV RX2 34 RX1 yX1_first wsX1_first) := goodIn_app (goodIn_of _ (by decide +kernel)) ggX2_lengthOf_X1_first
set_option maxRecDepth 20000 in
theorem ggX2_lengthOf_X1_second : GoodIn wsX2_lengthOf wsX1_second := goodIn_r _ [17, 13, 9, 10, 11, 6, 12, 8, 19, 20, 21] (by decide +kernel) (by decide +kernel)
set_option maxRecDepth 20000 in
theorem gX2_lengthOf_X1_second : GoodIn wsX2_lengthOf (wsV RX2 24 RX1 yX1_second wsX1_second) := goodIn_app (goodIn_of _ (by decide +kernel)) ggX2_lengthOf_X1_second
set_option maxRecDepth 20000 in
theorem ggX3_init_X2_init : GoodIn wsX3_init wsX2_init := goodIn_r _ [15, 16, 2, 3, 17, 18, 19, 20, 21, 22, 23, 24, 25, 26, 27, 28, 29, 30, 31, 32, 52, 53, 54, 47] (by decide +kernel) (by decide +kernel)
set_option maxRecDepth 20000 in
theorem gX3_init_X2_init_n17 : GoodIn wsX3_init (wsX2_init) := ggX3_init_X2_init
set_option maxRecDepth 20000 in
theorem ggX3_init_X0_init : GoodIn wsX3_init wsX0_init := goodIn_r _ [34, 35, 2, 3, 36, 18, 19, 37, 38, 39, 40, 41, 42, 22, 23, 24, 25, 26, 27, 28, 29, 30, 31, 32, 52, 53, 54, 48, 49, 50, 51] (by decide +kernel) (by decide +kernel)
set_option maxRecDepth 20000 in
theorem gX3_init_X0_init_n30 : GoodIn wsX3_init (wsX0_init) := ggX3_init_X0_init
set_option maxRecDepth 20000 in
theorem ggX3_table_X3_kindOf : GoodIn wsX3_table wsX3_kindOf := goodIn_ca (goodIn_r _ [12, 13, 14, 15, 45, 46, 47, 48] (by decide +kernel) (by decide +kernel)) (goodIn_sub (fun _ h => List.mem_cons_of_mem _ (List.mem_append_right _ h)) (by decide +kernel))
set_option maxRecDepth 20000 in
theorem gX3_table_X3_kindOf : GoodIn wsX3_table (wsV RX3 31 RX3 yX3_kindOf wsX3_kindOf) := goodIn_app (goodIn_of _ (by decide +kernel)) ggX3_table_X3_kindOf
set_option maxRecDepth 20000 in
theorem ggX3_table_X3_isWithin : GoodIn wsX3_table wsX3_isWithin := goodIn_r _ [18] (by decide +kernel) (by decide +kernel)
set_option maxRecDepth 20000 in
theorem gX3_table_X3_isWithin : GoodIn wsX3_table (va_wsS RX3 39 yX3_isWithin wsX3_isWithin) := goodIn_app (goodIn_of _ (by decide +kernel)) ggX3_table_X3_isWithin
set_option maxRecDepth 20000 in
theorem ggX3_table_X0_isAboveRows : GoodIn wsX3_table wsX0_isAboveRows := goodIn_r _ [23, 24, 25, 26, 27, 28, 29, 30, 31, 32, 33, 34, 35, 41, 42, 43, 44, 49, 50, 51] (by decide +kernel) (by decide +kernel)
set_option maxRecDepth 20000 in
theorem gX3_table_X0_isAboveRows : GoodIn wsX3_table (wsV RX3 45 RX0 yX0_isAboveRows wsX0_isAboveRows) := goodIn_app (goodIn_of _ (by decide +kernel)) ggX3_table_X0_isAboveRows
set_option maxRecDepth 20000 in
theorem ggX3_table_X1_add : GoodIn wsX3_table wsX1_add := goodIn_r _ [39, 40, 30, 35, 31, 32, 33, 28, 34, 49, 50, 51] (by decide +kernel) (by decide +kernel)
set_option maxRecDepth 20000 in
theorem gX3_table_X1_add : GoodIn wsX3_table (wsV RX3 60 RX1 yX1_add wsX1_add) := goodIn_app (goodIn_of _ (by decide +kernel)) ggX3_table_X1_add
set_option maxRecDepth 20000 in
theorem ggX3_radius_X3_kindOf : GoodIn wsX3_radius wsX3_kindOf := goodIn_ca (goodIn_r _ [10, 11, 12, 13, 46, 47, 48, 49] (by decide +kernel) (by decide +kernel)) (goodIn_sub (fun _ h => List.mem_cons_of_mem _ (List.mem_append_right _ h)) (by decide +kernel))
set_option maxRecDepth 20000 in
theorem gX3_radius_X3_kindOf : GoodIn wsX3_radius (wsV RX3 31 RX3 yX3_kindOf wsX3_kindOf) := goodIn_app (goodIn_of _ (by decide +kernel)) ggX3_radius_X3_kindOf
set_option maxRecDepth 20000 in
theorem ggX3_radius_X3_isWithin : GoodIn wsX3_radius wsX3_isWithin := goodIn_r _ [16] (by decide +kernel) (by decide +kernel)
set_option maxRecDepth 20000 in
theorem gX3_radius_X3_isWithin : GoodIn wsX3_radius (va_wsS RX3 39 yX3_isWithin wsX3_isWithin) := goodIn_app (goodIn_of _ (by decide +kernel)) ggX3_radius_X3_isWithin
set_option maxRecDepth 20000 in
theorem ggX3_radius_X0_leastRadius : GoodIn wsX3_radius wsX0_leastRadius := goodIn_r _ [21, 22, 23, 24, 25, 26, 27, 28, 29, 30, 31, 32, 33, 34, 35, 36, 37, 38, 39, 40, 41, 20, 42, 50, 51, 52, 53, 54, 55, 56] (by decide +kernel) (by decide +kernel)
set_option maxRecDepth 20000 in
theorem gX3_radius_X0_leastRadius : GoodIn wsX3_radius (wsV RX3 73 RX0 yX0_leastRadius wsX0_leastRadius) := goodIn_app (goodIn_of _ (by decide +kernel)) ggX3_radius_X0_leastRadius
set_option maxRecDepth 20000 in
theorem ggX3_radius_X3_isNone : GoodIn wsX3_radius wsX3_isNone := goodIn_r _ [45] (by decide +kernel) (by decide +kernel)
set_option maxRecDepth 20000 in
theorem gX3_radius_X3_isNone : GoodIn wsX3_radius (va_wsS RX3 77 yX3_isNone wsX3_isNone) := goodIn_app (goodIn_of _ (by decide +kernel)) ggX3_radius_X3_isNone
set_option maxRecDepth 20000 in
theorem ggX3_strips_X3_kindOf : GoodIn wsX3_strips wsX3_kindOf := goodIn_ca (goodIn_r _ [9, 10, 11, 12, 48, 49, 50, 51] (by decide +kernel) (by decide +kernel)) (goodIn_sub (fun _ h => List.mem_cons_of_mem _ (List.mem_append_right _ h)) (by decide +kernel))
set_option maxRecDepth 20000 in
theorem gX3_strips_X3_kindOf : GoodIn wsX3_strips (wsV RX3 31 RX3 yX3_kindOf wsX3_kindOf) := goodIn_app (goodIn_of _ (by decide +kernel)) ggX3_strips_X3_kindOf
set_option maxRecDepth 20000 in
theorem ggX3_strips_X3_isWithin : GoodIn wsX3_strips wsX3_isWithin := goodIn_r _ [15] (by decide +kernel) (by decide +kernel)
set_option maxRecDepth 20000 in
theorem gX3_strips_X3_isWithin : GoodIn wsX3_strips (va_wsS RX3 39 yX3_isWithin wsX3_isWithin) := goodIn_app (goodIn_of _ (by decide +kernel)) ggX3_strips_X3_isWithin
set_option maxRecDepth 20000 in
theorem ggX3_strips_X0_leastStrips : GoodIn wsX3_strips wsX0_leastStrips := goodIn_r _ [20, 21, 22, 23, 19, 24, 25, 26, 27, 28, 29, 30, 31, 32, 33, 34, 35, 36, 37, 38, 39, 40, 41, 42, 43, 44, 45, 46, 8, 47, 52, 53, 54, 55, 56, 57, 58] (by decide +kernel) (by decide +kernel)
set_option maxRecDepth 20000 in
theorem gX3_strips_X0_leastStrips : GoodIn wsX3_strips (wsV RX3 84 RX0 yX0_leastStrips wsX0_leastStrips) := goodIn_app (goodIn_of _ (by decide +kernel)) ggX3_strips_X0_leastStrips
set_option maxRecDepth 20000 in
theorem ggX3_read_X3_kindOf : GoodIn wsX3_read wsX3_kindOf := goodIn_ca (goodIn_r _ [12, 13, 14, 15, 35, 36, 37, 38] (by decide +kernel) (by decide +kernel)) (goodIn_sub (fun _ h => List.mem_cons_of_mem _ (List.mem_append_right _ h)) (by decide +kernel))
set_option maxRecDepth 20000 in
theorem gX3_read_X3_kindOf : GoodIn wsX3_read (wsV RX3 31 RX3 yX3_kindOf wsX3_kindOf) := goodIn_app (goodIn_of _ (by decide +kernel)) ggX3_read_X3_kindOf
set_option maxRecDepth 20000 in
theorem ggX3_read_X3_isWithin : GoodIn wsX3_read wsX3_isWithin := goodIn_r _ [18] (by decide +kernel) (by decide +kernel)
set_option maxRecDepth 20000 in
theorem gX3_read_X3_isWithin : GoodIn wsX3_read (va_wsS RX3 39 yX3_isWithin wsX3_isWithin) := goodIn_app (goodIn_of _ (by decide +kernel)) ggX3_read_X3_isWithin
set_option maxRecDepth 20000 in
theorem ggX3_read_X1_add : GoodIn wsX3_read wsX1_add := goodIn_r _ [23, 24, 25, 26, 27, 28, 29, 22, 30, 39, 40, 41] (by decide +kernel) (by decide +kernel)
set_option maxRecDepth 20000 in
theorem gX3_read_X1_add : GoodIn wsX3_read (wsV RX3 60 RX1 yX1_add wsX1_add) := goodIn_app (goodIn_of _ (by decide +kernel)) ggX3_read_X1_add
set_option maxRecDepth 20000 in
theorem ggX3_fit_X3_kindOf : GoodIn wsX3_fit wsX3_kindOf := goodIn_ca (goodIn_r _ [7, 8, 9, 10, 39, 40, 41, 42] (by decide +kernel) (by decide +kernel)) (goodIn_sub (fun _ h => List.mem_cons_of_mem _ (List.mem_append_right _ h)) (by decide +kernel))
set_option maxRecDepth 20000 in
theorem gX3_fit_X3_kindOf : GoodIn wsX3_fit (wsV RX3 31 RX3 yX3_kindOf wsX3_kindOf) := goodIn_app (goodIn_of _ (by decide +kernel)) ggX3_fit_X3_kindOf
set_option maxRecDepth 20000 in
theorem ggX3_fit_X0_fitsBetter : GoodIn wsX3_fit wsX0_fitsBetter := goodIn_r _ [15, 16, 17, 18, 19, 20, 21, 14, 22, 23, 24, 25, 26, 27, 28, 29, 30, 31, 32, 33, 34, 35, 36, 37, 38, 43, 44, 45, 46, 47, 48, 49] (by decide +kernel) (by decide +kernel)
set_option maxRecDepth 20000 in
theorem gX3_fit_X0_fitsBetter : GoodIn wsX3_fit (wsV RX3 98 RX0 yX0_fitsBetter wsX0_fitsBetter) := goodIn_app (goodIn_of _ (by decide +kernel)) ggX3_fit_X0_fitsBetter
set_option maxRecDepth 20000 in
theorem ggX3_back_X3_kindOf : GoodIn wsX3_back wsX3_kindOf := goodIn_ca (goodIn_r _ [7, 1, 2, 8, 34, 35, 36, 37] (by decide +kernel) (by decide +kernel)) (goodIn_sub (fun _ h => List.mem_cons_of_mem _ (List.mem_append_right _ h)) (by decide +kernel))
set_option maxRecDepth 20000 in
theorem gX3_back_X3_kindOf : GoodIn wsX3_back (wsV RX3 31 RX3 yX3_kindOf wsX3_kindOf) := goodIn_app (goodIn_of _ (by decide +kernel)) ggX3_back_X3_kindOf
set_option maxRecDepth 20000 in
theorem ggX3_back_X0_residue : GoodIn wsX3_back wsX0_residue := goodIn_r _ [13, 14, 15, 16, 17, 18, 19, 20, 21, 22, 23, 24, 25, 26, 27, 28, 29, 30, 31, 32, 33, 38, 39, 40] (by decide +kernel) (by decide +kernel)
set_option maxRecDepth 20000 in
theorem gX3_back_X0_residue : GoodIn wsX3_back (wsV RX3 108 RX0 yX0_residue wsX0_residue) := goodIn_app (goodIn_of _ (by decide +kernel)) ggX3_back_X0_residue
set_option maxRecDepth 20000 in
theorem ggX3_form_X3_kindOf : GoodIn wsX3_form wsX3_kindOf := goodIn_ca (goodIn_r _ [9, 10, 11, 12, 23, 24, 25, 26] (by decide +kernel) (by decide +kernel)) (goodIn_sub (fun _ h => List.mem_cons_of_mem _ (List.mem_append_right _ h)) (by decide +kernel))
set_option maxRecDepth 20000 in
theorem gX3_form_X3_kindOf : GoodIn wsX3_form (wsV RX3 31 RX3 yX3_kindOf wsX3_kindOf) := goodIn_app (goodIn_of _ (by decide +kernel)) ggX3_form_X3_kindOf
set_option maxRecDepth 20000 in
theorem ggX3_form_X3_isWithin : GoodIn wsX3_form wsX3_isWithin := goodIn_r _ [15] (by decide +kernel) (by decide +kernel)
set_option maxRecDepth 20000 in
theorem gX3_form_X3_isWithin : GoodIn wsX3_form (va_wsS RX3 39 yX3_isWithin wsX3_isWithin) := goodIn_app (goodIn_of _ (by decide +kernel)) ggX3_form_X3_isWithin
set_option maxRecDepth 20000 in
theorem ggX3_form_X0_formFor : GoodIn wsX3_form wsX0_formFor := goodIn_r _ [20, 21, 22, 27, 28, 29, 30] (by decide +kernel) (by decide +kernel)
set_option maxRecDepth 20000 in
theorem gX3_form_X0_formFor : GoodIn wsX3_form (wsV RX3 118 RX0 yX0_formFor wsX0_formFor) := goodIn_app (goodIn_of _ (by decide +kernel)) ggX3_form_X0_formFor
set_option maxRecDepth 20000 in
theorem ggX3_minutes_X3_isWithin : GoodIn wsX3_minutes wsX3_isWithin := goodIn_r _ [10] (by decide +kernel) (by decide +kernel)
set_option maxRecDepth 20000 in
theorem gX3_minutes_X3_isWithin : GoodIn wsX3_minutes (va_wsS RX3 39 yX3_isWithin wsX3_isWithin) := goodIn_app (goodIn_of _ (by decide +kernel)) ggX3_minutes_X3_isWithin
set_option maxRecDepth 20000 in
theorem ggX3_piece_X3_isWithin : GoodIn wsX3_piece wsX3_isWithin := goodIn_r _ [10] (by decide +kernel) (by decide +kernel)
set_option maxRecDepth 20000 in
theorem gX3_piece_X3_isWithin : GoodIn wsX3_piece (va_wsS RX3 39 yX3_isWithin wsX3_isWithin) := goodIn_app (goodIn_of _ (by decide +kernel)) ggX3_piece_X3_isWithin
set_option maxRecDepth 20000 in
theorem ggX3_piece_X1_add : GoodIn wsX3_piece wsX1_add := goodIn_r _ [15, 16, 17, 18, 19, 20, 21, 14, 22, 28, 29, 30] (by decide +kernel) (by decide +kernel)
set_option maxRecDepth 20000 in
theorem gX3_piece_X1_add : GoodIn wsX3_piece (wsV RX3 60 RX1 yX1_add wsX1_add) := goodIn_app (goodIn_of _ (by decide +kernel)) ggX3_piece_X1_add
set_option maxRecDepth 20000 in
theorem ggX3_clear_X1_removeAll : GoodIn wsX3_clear wsX1_removeAll := goodIn_r _ [6, 7, 13, 14, 15] (by decide +kernel) (by decide +kernel)
set_option maxRecDepth 20000 in
theorem gX3_clear_X1_removeAll : GoodIn wsX3_clear (wsV RX3 134 RX1 yX1_removeAll wsX1_removeAll) := goodIn_app (goodIn_of _ (by decide +kernel)) ggX3_clear_X1_removeAll
set_option maxRecDepth 20000 in
theorem ggX3_length_X3_isWithin : GoodIn wsX3_length wsX3_isWithin := goodIn_r _ [8] (by decide +kernel) (by decide +kernel)
set_option maxRecDepth 20000 in
theorem gX3_length_X3_isWithin : GoodIn wsX3_length (va_wsS RX3 39 yX3_isWithin wsX3_isWithin) := goodIn_app (goodIn_of _ (by decide +kernel)) ggX3_length_X3_isWithin
set_option maxRecDepth 20000 in
theorem ggX3_length_X2_isBendable : GoodIn wsX3_length wsX2_isBendable := goodIn_r _ [13, 14, 15, 16, 17, 18, 19, 20, 21, 22, 23, 24, 25, 26, 43, 44, 45, 46] (by decide +kernel) (by decide +kernel)
set_option maxRecDepth 20000 in
theorem gX3_length_X2_isBendable : GoodIn wsX3_length (wsV RX3 137 RX2 yX2_isBendable wsX2_isBendable) := goodIn_app (goodIn_of _ (by decide +kernel)) ggX3_length_X2_isBendable
set_option maxRecDepth 20000 in
theorem ggX3_length_X2_sumOfLengths : GoodIn wsX3_length wsX2_sumOfLengths := goodIn_r _ [30, 14, 31, 32, 33, 12, 34, 15, 35, 36, 37, 19, 38, 26, 22, 23, 24, 25, 21, 16, 17, 18, 20, 43, 44, 45, 46] (by decide +kernel) (by decide +kernel)
set_option maxRecDepth 20000 in
theorem gX3_length_X2_sumOfLengths : GoodIn wsX3_length (wsV RX3 142 RX2 yX2_sumOfLengths wsX2_sumOfLengths) := goodIn_app (goodIn_of _ (by decide +kernel)) ggX3_length_X2_sumOfLengths
set_option maxRecDepth 20000 in
theorem ggX3_kerfs_X3_isWithin : GoodIn wsX3_kerfs wsX3_isWithin := goodIn_r _ [13] (by decide +kernel) (by decide +kernel)
set_option maxRecDepth 20000 in
theorem gX3_kerfs_X3_isWithin : GoodIn wsX3_kerfs (va_wsS RX3 39 yX3_isWithin wsX3_isWithin) := goodIn_app (goodIn_of _ (by decide +kernel)) ggX3_kerfs_X3_isWithin
set_option maxRecDepth 20000 in
theorem ggX3_kerfs_X3_leastKerfs : GoodIn wsX3_kerfs wsX3_leastKerfs := goodIn_r _ [16, 17] (by decide +kernel) (by decide +kernel)
set_option maxRecDepth 20000 in
theorem gX3_kerfs_X3_leastKerfs : GoodIn wsX3_kerfs (va_wsS RX3 154 yX3_leastKerfs wsX3_leastKerfs) := goodIn_app (goodIn_of _ (by decide +kernel)) ggX3_kerfs_X3_leastKerfs
set_option maxRecDepth 20000 in
theorem ggX3_kerfAt_X3_isWithin : GoodIn wsX3_kerfAt wsX3_isWithin := goodIn_r _ [12] (by decide +kernel) (by decide +kernel)
set_option maxRecDepth 20000 in
theorem gX3_kerfAt_X3_isWithin : GoodIn wsX3_kerfAt (va_wsS RX3 39 yX3_isWithin wsX3_isWithin) := goodIn_app (goodIn_of _ (by decide +kernel)) ggX3_kerfAt_X3_isWithin
set_option maxRecDepth 20000 in
theorem ggX3_broken_X3_commonDivisor : GoodIn wsX3_broken wsX3_commonDivisor := goodIn_r _ [9] (by decide +kernel) (by decide +kernel)
set_option maxRecDepth 20000 in
theorem gX3_broken_X3_commonDivisor : GoodIn wsX3_broken (va_wsS RX3 168 yX3_commonDivisor wsX3_commonDivisor) := goodIn_app (goodIn_of _ (by decide +kernel)) ggX3_broken_X3_commonDivisor
set_option maxRecDepth 20000 in
theorem ggX3_relaxed_X3_kindOf : GoodIn wsX3_relaxed wsX3_kindOf := goodIn_ca (goodIn_r _ [8, 9, 10, 11, 16, 17, 18, 19] (by decide +kernel) (by decide +kernel)) (goodIn_sub (fun _ h => List.mem_cons_of_mem _ (List.mem_append_right _ h)) (by decide +kernel))
set_option maxRecDepth 20000 in
theorem gX3_relaxed_X3_kindOf : GoodIn wsX3_relaxed (wsV RX3 31 RX3 yX3_kindOf wsX3_kindOf) := goodIn_app (goodIn_of _ (by decide +kernel)) ggX3_relaxed_X3_kindOf
set_option maxRecDepth 20000 in
theorem ggX4_table_X4_isKind : GoodIn wsX4_table wsX4_isKind := goodIn_r _ [11] (by decide +kernel) (by decide +kernel)
set_option maxRecDepth 20000 in
theorem gX4_table_X4_isKind : GoodIn wsX4_table (va_wsS RX4 47 yX4_isKind wsX4_isKind) := goodIn_app (goodIn_of _ (by decide +kernel)) ggX4_table_X4_isKind
set_option maxRecDepth 20000 in
theorem ggX4_table_X4_isIn : GoodIn wsX4_table wsX4_isIn := goodIn_r _ [14] (by decide +kernel) (by decide +kernel)
set_option maxRecDepth 20000 in
theorem gX4_table_X4_isIn : GoodIn wsX4_table (va_wsS RX4 55 yX4_isIn wsX4_isIn) := goodIn_app (goodIn_of _ (by decide +kernel)) ggX4_table_X4_isIn
set_option maxRecDepth 20000 in
theorem ggX4_radius_X4_isKind : GoodIn wsX4_radius wsX4_isKind := goodIn_r _ [7] (by decide +kernel) (by decide +kernel)
set_option maxRecDepth 20000 in
theorem gX4_radius_X4_isKind : GoodIn wsX4_radius (va_wsS RX4 47 yX4_isKind wsX4_isKind) := goodIn_app (goodIn_of _ (by decide +kernel)) ggX4_radius_X4_isKind
set_option maxRecDepth 20000 in
theorem ggX4_radius_X4_isIn : GoodIn wsX4_radius wsX4_isIn := goodIn_r _ [10] (by decide +kernel) (by decide +kernel)
set_option maxRecDepth 20000 in
theorem gX4_radius_X4_isIn : GoodIn wsX4_radius (va_wsS RX4 55 yX4_isIn wsX4_isIn) := goodIn_app (goodIn_of _ (by decide +kernel)) ggX4_radius_X4_isIn
set_option maxRecDepth 20000 in
theorem ggX4_radius_X4_radiusAt : GoodIn wsX4_radius wsX4_radiusAt := goodIn_r _ [14, 3, 15, 16, 17, 18, 19, 20, 21, 22, 23, 24, 25, 26, 27, 28, 29, 30, 31, 32] (by decide +kernel) (by decide +kernel)
set_option maxRecDepth 20000 in
theorem gX4_radius_X4_radiusAt : GoodIn wsX4_radius (wsV RX4 65 RX4 yX4_radiusAt wsX4_radiusAt) := goodIn_app (goodIn_of _ (by decide +kernel)) ggX4_radius_X4_radiusAt
set_option maxRecDepth 20000 in
theorem ggX4_strips_X4_isKind : GoodIn wsX4_strips wsX4_isKind := goodIn_r _ [8] (by decide +kernel) (by decide +kernel)
set_option maxRecDepth 20000 in
theorem gX4_strips_X4_isKind : GoodIn wsX4_strips (va_wsS RX4 47 yX4_isKind wsX4_isKind) := goodIn_app (goodIn_of _ (by decide +kernel)) ggX4_strips_X4_isKind
set_option maxRecDepth 20000 in
theorem ggX4_strips_X4_isIn : GoodIn wsX4_strips wsX4_isIn := goodIn_r _ [11] (by decide +kernel) (by decide +kernel)
set_option maxRecDepth 20000 in
theorem gX4_strips_X4_isIn : GoodIn wsX4_strips (va_wsS RX4 55 yX4_isIn wsX4_isIn) := goodIn_app (goodIn_of _ (by decide +kernel)) ggX4_strips_X4_isIn
set_option maxRecDepth 20000 in
theorem ggX4_strips_X4_radiusAt : GoodIn wsX4_strips wsX4_radiusAt := goodIn_r _ [15, 4, 16, 17, 18, 19, 20, 21, 22, 23, 24, 25, 26, 27, 28, 29, 30, 31, 32, 33] (by decide +kernel) (by decide +kernel)
set_option maxRecDepth 20000 in
theorem gX4_strips_X4_radiusAt : GoodIn wsX4_strips (wsV RX4 65 RX4 yX4_radiusAt wsX4_radiusAt) := goodIn_app (goodIn_of _ (by decide +kernel)) ggX4_strips_X4_radiusAt
set_option maxRecDepth 20000 in
theorem ggX4_read_X4_isKind : GoodIn wsX4_read wsX4_isKind := goodIn_r _ [11] (by decide +kernel) (by decide +kernel)
set_option maxRecDepth 20000 in
theorem gX4_read_X4_isKind : GoodIn wsX4_read (va_wsS RX4 47 yX4_isKind wsX4_isKind) := goodIn_app (goodIn_of _ (by decide +kernel)) ggX4_read_X4_isKind
set_option maxRecDepth 20000 in
theorem ggX4_read_X4_isIn : GoodIn wsX4_read wsX4_isIn := goodIn_r _ [14] (by decide +kernel) (by decide +kernel)
set_option maxRecDepth 20000 in
theorem gX4_read_X4_isIn : GoodIn wsX4_read (va_wsS RX4 55 yX4_isIn wsX4_isIn) := goodIn_app (goodIn_of _ (by decide +kernel)) ggX4_read_X4_isIn
set_option maxRecDepth 20000 in
theorem ggX4_improves_X4_residue : GoodIn wsX4_improves wsX4_residue := goodIn_r _ [8, 9, 10, 11, 12, 13, 14, 15, 16, 17, 18, 19, 20, 21, 22, 23, 24, 25, 26] (by decide +kernel) (by decide +kernel)
set_option maxRecDepth 20000 in
theorem gX4_improves_X4_residue : GoodIn wsX4_improves (wsV RX4 71 RX4 yX4_residue wsX4_residue) := goodIn_app (goodIn_of _ (by decide +kernel)) ggX4_improves_X4_residue
set_option maxRecDepth 20000 in
theorem ggX4_fit_X4_isKind : GoodIn wsX4_fit wsX4_isKind := goodIn_r _ [5] (by decide +kernel) (by decide +kernel)
set_option maxRecDepth 20000 in
theorem gX4_fit_X4_isKind : GoodIn wsX4_fit (va_wsS RX4 47 yX4_isKind wsX4_isKind) := goodIn_app (goodIn_of _ (by decide +kernel)) ggX4_fit_X4_isKind
set_option maxRecDepth 20000 in
theorem ggX4_fit_X4_improves : GoodIn wsX4_fit wsX4_improves := goodIn_r _ [9, 10, 11, 12, 13, 14, 15, 4, 16, 17, 18, 19, 20, 21, 22, 23, 24, 25, 26, 27, 28, 29, 30, 31, 32, 33, 34] (by decide +kernel) (by decide +kernel)
set_option maxRecDepth 20000 in
theorem gX4_fit_X4_improves : GoodIn wsX4_fit (wsV RX4 76 RX4 yX4_improves wsX4_improves) := goodIn_app (goodIn_of _ (by decide +kernel)) ggX4_fit_X4_improves
set_option maxRecDepth 20000 in
theorem ggX4_back_X4_isKind : GoodIn wsX4_back wsX4_isKind := goodIn_r _ [7] (by decide +kernel) (by decide +kernel)
set_option maxRecDepth 20000 in
theorem gX4_back_X4_isKind : GoodIn wsX4_back (va_wsS RX4 47 yX4_isKind wsX4_isKind) := goodIn_app (goodIn_of _ (by decide +kernel)) ggX4_back_X4_isKind
set_option maxRecDepth 20000 in
theorem ggX4_back_X4_residue : GoodIn wsX4_back wsX4_residue := goodIn_r _ [11, 12, 13, 14, 15, 16, 17, 18, 19, 20, 21, 22, 23, 24, 25, 26, 27, 28, 29] (by decide +kernel) (by decide +kernel)
set_option maxRecDepth 20000 in
theorem gX4_back_X4_residue : GoodIn wsX4_back (wsV RX4 71 RX4 yX4_residue wsX4_residue) := goodIn_app (goodIn_of _ (by decide +kernel)) ggX4_back_X4_residue
set_option maxRecDepth 20000 in
theorem ggX4_form_X4_isKind : GoodIn wsX4_form wsX4_isKind := goodIn_r _ [9] (by decide +kernel) (by decide +kernel)
set_option maxRecDepth 20000 in
theorem gX4_form_X4_isKind : GoodIn wsX4_form (va_wsS RX4 47 yX4_isKind wsX4_isKind) := goodIn_app (goodIn_of _ (by decide +kernel)) ggX4_form_X4_isKind
set_option maxRecDepth 20000 in
theorem ggX4_form_X4_isIn : GoodIn wsX4_form wsX4_isIn := goodIn_r _ [12] (by decide +kernel) (by decide +kernel)
set_option maxRecDepth 20000 in
theorem gX4_form_X4_isIn : GoodIn wsX4_form (va_wsS RX4 55 yX4_isIn wsX4_isIn) := goodIn_app (goodIn_of _ (by decide +kernel)) ggX4_form_X4_isIn
set_option maxRecDepth 20000 in
theorem ggX4_minutes_X4_isIn : GoodIn wsX4_minutes wsX4_isIn := goodIn_r _ [9] (by decide +kernel) (by decide +kernel)
set_option maxRecDepth 20000 in
theorem gX4_minutes_X4_isIn : GoodIn wsX4_minutes (va_wsS RX4 55 yX4_isIn wsX4_isIn) := goodIn_app (goodIn_of _ (by decide +kernel)) ggX4_minutes_X4_isIn
set_option maxRecDepth 20000 in
theorem ggX4_piece_X4_isIn : GoodIn wsX4_piece wsX4_isIn := goodIn_r _ [9] (by decide +kernel) (by decide +kernel)
set_option maxRecDepth 20000 in
theorem gX4_piece_X4_isIn : GoodIn wsX4_piece (va_wsS RX4 55 yX4_isIn wsX4_isIn) := goodIn_app (goodIn_of _ (by decide +kernel)) ggX4_piece_X4_isIn
set_option maxRecDepth 20000 in
theorem ggX4_length_X4_isIn : GoodIn wsX4_length wsX4_isIn := goodIn_r _ [10] (by decide +kernel) (by decide +kernel)
set_option maxRecDepth 20000 in
theorem gX4_length_X4_isIn : GoodIn wsX4_length (va_wsS RX4 55 yX4_isIn wsX4_isIn) := goodIn_app (goodIn_of _ (by decide +kernel)) ggX4_length_X4_isIn
set_option maxRecDepth 20000 in
theorem ggX4_kerfs_X4_isIn : GoodIn wsX4_kerfs wsX4_isIn := goodIn_r _ [12] (by decide +kernel) (by decide +kernel)
set_option maxRecDepth 20000 in
theorem gX4_kerfs_X4_isIn : GoodIn wsX4_kerfs (va_wsS RX4 55 yX4_isIn wsX4_isIn) := goodIn_app (goodIn_of _ (by decide +kernel)) ggX4_kerfs_X4_isIn
set_option maxRecDepth 20000 in
theorem ggX4_kerfAt_X4_isIn : GoodIn wsX4_kerfAt wsX4_isIn := goodIn_r _ [7] (by decide +kernel) (by decide +kernel)
set_option maxRecDepth 20000 in
theorem gX4_kerfAt_X4_isIn : GoodIn wsX4_kerfAt (va_wsS RX4 55 yX4_isIn wsX4_isIn) := goodIn_app (goodIn_of _ (by decide +kernel)) ggX4_kerfAt_X4_isIn
set_option maxRecDepth 20000 in
theorem ggX4_broken_X4_common : GoodIn wsX4_broken wsX4_common := goodIn_r _ [6] (by decide +kernel) (by decide +kernel)
set_option maxRecDepth 20000 in
theorem gX4_broken_X4_common : GoodIn wsX4_broken (va_wsS RX4 102 yX4_common wsX4_common) := goodIn_app (goodIn_of _ (by decide +kernel)) ggX4_broken_X4_common
set_option maxRecDepth 20000 in
theorem ggX4_relaxed_X4_isKind : GoodIn wsX4_relaxed wsX4_isKind := goodIn_r _ [7] (by decide +kernel) (by decide +kernel)
set_option maxRecDepth 20000 in
theorem gX4_relaxed_X4_isKind : GoodIn wsX4_relaxed (va_wsS RX4 47 yX4_isKind wsX4_isKind) := goodIn_app (goodIn_of _ (by decide +kernel)) ggX4_relaxed_X4_isKind
set_option maxRecDepth 20000 in
theorem ggL_table_X3_table : GoodIn wsL_table wsX3_table := goodIn_ca (goodIn_ca (goodIn_ca (goodIn_r _ [8, 9, 10, 11, 12, 13, 14, 15, 16, 17, 18, 7, 19, 20, 21, 22, 23, 24, 25, 26, 27, 28, 29, 30, 31, 32, 33, 34, 35, 36, 37, 38, 39, 40, 41, 42, 43, 44, 45, 46, 47, 48, 49, 50, 51, 52, 53, 54, 55, 56, 57, 58] (by decide +kernel) (by decide +kernel)) (goodIn_sub (fun _ h => List.mem_cons_of_mem _ (List.mem_append_left _ (List.mem_append_left _ (List.mem_append_right _ h)))) (by decide +kernel))) (goodIn_sub (fun _ h => List.mem_cons_of_mem _ (List.mem_append_left _ (List.mem_append_right _ h))) (by decide +kernel))) (goodIn_sub (fun _ h => List.mem_cons_of_mem _ (List.mem_append_right _ h)) (by decide +kernel))
set_option maxRecDepth 20000 in
theorem gL_table_X3_table : GoodIn wsL_table (wsV RL 7 RX3 yX3_table wsX3_table) := goodIn_app (goodIn_of _ (by decide +kernel)) ggL_table_X3_table
set_option maxRecDepth 20000 in
theorem ggL_radius_X3_radius : GoodIn wsL_radius wsX3_radius := goodIn_ca (goodIn_ca (goodIn_ca (goodIn_r _ [8, 9, 10, 11, 12, 13, 14, 15, 16, 7, 17, 18, 19, 20, 21, 22, 23, 24, 25, 26, 27, 28, 29, 30, 31, 32, 33, 34, 35, 36, 37, 38, 39, 40, 41, 42, 43, 44, 45, 46, 47, 48, 49, 50, 51, 52, 53, 54, 55, 56, 57, 58, 59, 60, 61, 62, 63] (by decide +kernel) (by decide +kernel)) (goodIn_sub (fun _ h => List.mem_cons_of_mem _ (List.mem_append_left _ (List.mem_append_left _ (List.mem_append_right _ h)))) (by decide +kernel))) (goodIn_sub (fun _ h => List.mem_cons_of_mem _ (List.mem_append_left _ (List.mem_append_right _ h))) (by decide +kernel))) (goodIn_sub (fun _ h => List.mem_cons_of_mem _ (List.mem_append_right _ h)) (by decide +kernel))
set_option maxRecDepth 20000 in
theorem gL_radius_X3_radius : GoodIn wsL_radius (wsV RL 19 RX3 yX3_radius wsX3_radius) := goodIn_app (goodIn_of _ (by decide +kernel)) ggL_radius_X3_radius
set_option maxRecDepth 20000 in
theorem ggL_strips_X3_strips : GoodIn wsL_strips wsX3_strips := goodIn_ca (goodIn_ca (goodIn_r _ [7, 8, 9, 10, 11, 12, 13, 14, 6, 15, 16, 17, 18, 19, 20, 21, 22, 23, 24, 25, 26, 27, 28, 29, 30, 31, 32, 33, 34, 35, 36, 37, 38, 39, 40, 41, 42, 43, 44, 45, 46, 47, 48, 49, 50, 51, 52, 53, 54, 55, 56, 57, 58, 59, 60, 61, 62, 63, 64] (by decide +kernel) (by decide +kernel)) (goodIn_sub (fun _ h => List.mem_cons_of_mem _ (List.mem_append_left _ (List.mem_append_right _ h))) (by decide +kernel))) (goodIn_sub (fun _ h => List.mem_cons_of_mem _ (List.mem_append_right _ h)) (by decide +kernel))
set_option maxRecDepth 20000 in
theorem gL_strips_X3_strips : GoodIn wsL_strips (wsV RL 23 RX3 yX3_strips wsX3_strips) := goodIn_app (goodIn_of _ (by decide +kernel)) ggL_strips_X3_strips
set_option maxRecDepth 20000 in
theorem ggL_read_X3_read : GoodIn wsL_read wsX3_read := goodIn_ca (goodIn_ca (goodIn_ca (goodIn_r _ [8, 9, 10, 11, 12, 13, 14, 15, 16, 17, 18, 7, 19, 20, 21, 22, 23, 24, 25, 26, 27, 28, 29, 30, 31, 32, 33, 34, 35, 36, 37, 38, 39, 40, 41, 42, 43, 44, 45, 46, 47, 48] (by decide +kernel) (by decide +kernel)) (goodIn_sub (fun _ h => List.mem_cons_of_mem _ (List.mem_append_left _ (List.mem_append_left _ (List.mem_append_right _ h)))) (by decide +kernel))) (goodIn_sub (fun _ h => List.mem_cons_of_mem _ (List.mem_append_left _ (List.mem_append_right _ h))) (by decide +kernel))) (goodIn_sub (fun _ h => List.mem_cons_of_mem _ (List.mem_append_right _ h)) (by decide +kernel))
set_option maxRecDepth 20000 in
theorem gL_read_X3_read : GoodIn wsL_read (wsV RL 26 RX3 yX3_read wsX3_read) := goodIn_app (goodIn_of _ (by decide +kernel)) ggL_read_X3_read
set_option maxRecDepth 20000 in
theorem ggL_fit_X3_fit : GoodIn wsL_fit wsX3_fit := goodIn_ca (goodIn_ca (goodIn_r _ [7, 8, 9, 10, 11, 12, 6, 13, 14, 15, 16, 17, 18, 19, 20, 21, 22, 23, 24, 25, 26, 27, 28, 29, 30, 31, 32, 33, 34, 35, 36, 37, 38, 39, 40, 41, 42, 43, 44, 45, 46, 47, 48, 49, 50, 51, 52, 53, 54, 55] (by decide +kernel) (by decide +kernel)) (goodIn_sub (fun _ h => List.mem_cons_of_mem _ (List.mem_append_left _ (List.mem_append_right _ h))) (by decide +kernel))) (goodIn_sub (fun _ h => List.mem_cons_of_mem _ (List.mem_append_right _ h)) (by decide +kernel))
set_option maxRecDepth 20000 in
theorem gL_fit_X3_fit : GoodIn wsL_fit (wsV RL 29 RX3 yX3_fit wsX3_fit) := goodIn_app (goodIn_of _ (by decide +kernel)) ggL_fit_X3_fit
set_option maxRecDepth 20000 in
theorem ggL_back_X3_back : GoodIn wsL_back wsX3_back := goodIn_ca (goodIn_r _ [6, 7, 8, 9, 10, 11, 5, 12, 13, 14, 15, 16, 17, 18, 19, 20, 21, 22, 23, 24, 25, 26, 27, 28, 29, 30, 31, 32, 33, 34, 35, 36, 37, 38, 39, 40, 41, 42, 43, 44, 45] (by decide +kernel) (by decide +kernel)) (goodIn_sub (fun _ h => List.mem_cons_of_mem _ (List.mem_append_right _ h)) (by decide +kernel))
set_option maxRecDepth 20000 in
theorem gL_back_X3_back : GoodIn wsL_back (wsV RL 33 RX3 yX3_back wsX3_back) := goodIn_app (goodIn_of _ (by decide +kernel)) ggL_back_X3_back
set_option maxRecDepth 20000 in
theorem ggL_form_X3_form : GoodIn wsL_form wsX3_form := goodIn_ca (goodIn_ca (goodIn_r _ [7, 8, 9, 10, 11, 12, 13, 14, 6, 15, 16, 17, 18, 19, 20, 21, 22, 23, 24, 25, 26, 27, 28, 29, 30, 31, 32, 33, 34, 35, 36] (by decide +kernel) (by decide +kernel)) (goodIn_sub (fun _ h => List.mem_cons_of_mem _ (List.mem_append_left _ (List.mem_append_right _ h))) (by decide +kernel))) (goodIn_sub (fun _ h => List.mem_cons_of_mem _ (List.mem_append_right _ h)) (by decide +kernel))
set_option maxRecDepth 20000 in
theorem gL_form_X3_form : GoodIn wsL_form (wsV RL 37 RX3 yX3_form wsX3_form) := goodIn_app (goodIn_of _ (by decide +kernel)) ggL_form_X3_form
set_option maxRecDepth 20000 in
theorem ggL_minutes_X3_minutes : GoodIn wsL_minutes wsX3_minutes := goodIn_ca (goodIn_r _ [6, 7, 8, 9, 10, 11, 12, 13, 14, 5, 15] (by decide +kernel) (by decide +kernel)) (goodIn_sub (fun _ h => List.mem_cons_of_mem _ (List.mem_append_right _ h)) (by decide +kernel))
set_option maxRecDepth 20000 in
theorem gL_minutes_X3_minutes : GoodIn wsL_minutes (wsV RL 40 RX3 yX3_minutes wsX3_minutes) := goodIn_app (goodIn_of _ (by decide +kernel)) ggL_minutes_X3_minutes
set_option maxRecDepth 20000 in
theorem ggL_piece_X3_piece : GoodIn wsL_piece wsX3_piece := goodIn_ca (goodIn_ca (goodIn_r _ [7, 8, 9, 10, 11, 12, 13, 14, 15, 6, 16, 17, 18, 19, 20, 21, 22, 23, 24, 25, 26, 27, 28, 29, 30, 31, 32, 33, 34, 35, 36] (by decide +kernel) (by decide +kernel)) (goodIn_sub (fun _ h => List.mem_cons_of_mem _ (List.mem_append_left _ (List.mem_append_right _ h))) (by decide +kernel))) (goodIn_sub (fun _ h => List.mem_cons_of_mem _ (List.mem_append_right _ h)) (by decide +kernel))
set_option maxRecDepth 20000 in
theorem gL_piece_X3_piece : GoodIn wsL_piece (wsV RL 44 RX3 yX3_piece wsX3_piece) := goodIn_app (goodIn_of _ (by decide +kernel)) ggL_piece_X3_piece
set_option maxRecDepth 20000 in
theorem ggL_length_X3_length : GoodIn wsL_length wsX3_length := goodIn_ca (goodIn_r _ [6, 7, 8, 9, 10, 11, 12, 5, 13, 14, 15, 16, 17, 18, 19, 20, 21, 22, 23, 24, 25, 26, 27, 28, 29, 30, 31, 32, 33, 34, 35, 36, 37, 38, 39, 40, 41, 42, 43, 44, 45, 46, 47, 48, 49, 50, 51] (by decide +kernel) (by decide +kernel)) (goodIn_sub (fun _ h => List.mem_cons_of_mem _ (List.mem_append_right _ h)) (by decide +kernel))
set_option maxRecDepth 20000 in
theorem gL_length_X3_length : GoodIn wsL_length (wsV RL 48 RX3 yX3_length wsX3_length) := goodIn_app (goodIn_of _ (by decide +kernel)) ggL_length_X3_length
set_option maxRecDepth 20000 in
theorem ggL_kerfs_X3_kerfs : GoodIn wsL_kerfs wsX3_kerfs := goodIn_ca (goodIn_r _ [6, 7, 8, 9, 10, 11, 12, 13, 14, 15, 16, 17, 5, 18, 19, 20, 21, 22, 23, 24, 25, 26] (by decide +kernel) (by decide +kernel)) (goodIn_sub (fun _ h => List.mem_cons_of_mem _ (List.mem_append_right _ h)) (by decide +kernel))
set_option maxRecDepth 20000 in
theorem gL_kerfs_X3_kerfs : GoodIn wsL_kerfs (wsV RL 52 RX3 yX3_kerfs wsX3_kerfs) := goodIn_app (goodIn_of _ (by decide +kernel)) ggL_kerfs_X3_kerfs
set_option maxRecDepth 20000 in
theorem ggL_kerfAt_X3_kerfAt : GoodIn wsL_kerfAt wsX3_kerfAt := goodIn_ca (goodIn_ca (goodIn_ca (goodIn_r _ [8, 9, 10, 11, 12, 13, 14, 15, 16, 17, 18, 7, 19, 20, 21, 22, 23] (by decide +kernel) (by decide +kernel)) (goodIn_sub (fun _ h => List.mem_cons_of_mem _ (List.mem_append_left _ (List.mem_append_left _ (List.mem_append_right _ h)))) (by decide +kernel))) (goodIn_sub (fun _ h => List.mem_cons_of_mem _ (List.mem_append_left _ (List.mem_append_right _ h))) (by decide +kernel))) (goodIn_sub (fun _ h => List.mem_cons_of_mem _ (List.mem_append_right _ h)) (by decide +kernel))
set_option maxRecDepth 20000 in
theorem gL_kerfAt_X3_kerfAt : GoodIn wsL_kerfAt (wsV RL 56 RX3 yX3_kerfAt wsX3_kerfAt) := goodIn_app (goodIn_of _ (by decide +kernel)) ggL_kerfAt_X3_kerfAt
set_option maxRecDepth 20000 in
theorem ggL_rest_X3_rest : GoodIn wsL_rest wsX3_rest := goodIn_ca (goodIn_r _ [6, 7, 8, 9, 10, 11, 12, 13, 14] (by decide +kernel) (by decide +kernel)) (goodIn_sub (fun _ h => List.mem_cons_of_mem _ (List.mem_append_right _ h)) (by decide +kernel))
set_option maxRecDepth 20000 in
theorem gL_rest_X3_rest : GoodIn wsL_rest (wsV RL 59 RX3 yX3_rest wsX3_rest) := goodIn_app (goodIn_of _ (by decide +kernel)) ggL_rest_X3_rest
set_option maxRecDepth 20000 in
theorem ggL_broken_X3_broken : GoodIn wsL_broken wsX3_broken := goodIn_ca (goodIn_ca (goodIn_r _ [7, 8, 9, 10, 11, 12, 13, 14, 6, 15] (by decide +kernel) (by decide +kernel)) (goodIn_sub (fun _ h => List.mem_cons_of_mem _ (List.mem_append_left _ (List.mem_append_right _ h))) (by decide +kernel))) (goodIn_sub (fun _ h => List.mem_cons_of_mem _ (List.mem_append_right _ h)) (by decide +kernel))
set_option maxRecDepth 20000 in
theorem gL_broken_X3_broken : GoodIn wsL_broken (wsV RL 63 RX3 yX3_broken wsX3_broken) := goodIn_app (goodIn_of _ (by decide +kernel)) ggL_broken_X3_broken
set_option maxRecDepth 20000 in
theorem ggL_relaxed_X3_relaxed : GoodIn wsL_relaxed wsX3_relaxed := goodIn_ca (goodIn_ca (goodIn_r _ [7, 8, 9, 10, 11, 12, 13, 6, 14, 15, 16, 17, 18, 19, 20, 21, 22, 23, 24, 25] (by decide +kernel) (by decide +kernel)) (goodIn_sub (fun _ h => List.mem_cons_of_mem _ (List.mem_append_left _ (List.mem_append_right _ h))) (by decide +kernel))) (goodIn_sub (fun _ h => List.mem_cons_of_mem _ (List.mem_append_right _ h)) (by decide +kernel))
set_option maxRecDepth 20000 in
theorem gL_relaxed_X3_relaxed : GoodIn wsL_relaxed (wsV RL 67 RX3 yX3_relaxed wsX3_relaxed) := goodIn_app (goodIn_of _ (by decide +kernel)) ggL_relaxed_X3_relaxed
set_option maxRecDepth 20000 in
theorem ggL_law_X3_init : GoodIn wsL_law wsX3_init := goodIn_r _ [11, 12, 13, 14, 15, 16, 17, 18, 19, 20, 21, 22, 23, 24, 25, 26, 27, 28, 29, 30, 31, 32, 33, 34, 35, 36, 37, 38, 39, 40, 7, 41, 42, 43, 44, 45, 46, 47, 48, 49, 50, 51, 52, 391, 392, 393, 394, 410, 411, 412, 413, 414, 415, 416, 417] (by decide +kernel) (by decide +kernel)
set_option maxRecDepth 20000 in
theorem gL_law_X3_init : GoodIn wsL_law (wsX3_init) := ggL_law_X3_init
set_option maxRecDepth 20000 in
theorem ggL_law_X4_init : GoodIn wsL_law wsX4_init := goodIn_r _ [55, 56, 13, 14, 57, 58, 7, 59, 60, 61, 62, 63, 64, 65, 66, 67, 68, 395, 396, 397, 398, 399, 400, 401, 402, 403, 404, 405, 406, 407, 408, 409] (by decide +kernel) (by decide +kernel)
set_option maxRecDepth 20000 in
theorem gL_law_X4_init : GoodIn wsL_law (wsX4_init) := ggL_law_X4_init
set_option maxRecDepth 20000 in
theorem ggL_law_L_table : GoodIn wsL_law wsL_table := goodIn_ca (goodIn_ca (goodIn_ca (goodIn_r _ [72, 73, 74, 75, 76, 77, 78, 2, 79, 80, 81, 82, 83, 84, 85, 86, 87, 88, 89, 90, 91, 92, 16, 93, 94, 95, 96, 97, 98, 24, 99, 47, 100, 101, 102, 30, 103, 41, 104, 105, 106, 107, 42, 108, 109, 110, 111, 36, 411, 412, 413, 414, 391, 392, 393, 394, 415, 416, 417] (by decide +kernel) (by decide +kernel)) (goodIn_sub (fun _ h => List.mem_append_left _ (List.mem_append_left _ (List.mem_append_right _ h))) (by decide +kernel))) (goodIn_sub (fun _ h => List.mem_append_left _ (List.mem_append_right _ h)) (by decide +kernel))) (goodIn_sub (fun _ h => List.mem_append_right _ h) (by decide +kernel))
set_option maxRecDepth 20000 in
theorem gL_law_L_table : GoodIn wsL_law (va_wsS RL 76 yL_table wsL_table) := goodIn_app (goodIn_of _ (by decide +kernel)) ggL_law_L_table
set_option maxRecDepth 20000 in
theorem ggL_law_X4_table : GoodIn wsL_law wsX4_table := goodIn_r _ [115, 116, 58, 117, 118, 119, 59, 60, 120, 121, 5, 122, 123, 124, 125, 395, 396, 397, 398, 399, 400, 401, 402, 403, 404, 405, 406, 407, 408, 409] (by decide +kernel) (by decide +kernel)
set_option maxRecDepth 20000 in
theorem gL_law_X4_table : GoodIn wsL_law (wsV RL 81 RX4 yX4_table wsX4_table) := goodIn_app (goodIn_of _ (by decide +kernel)) ggL_law_X4_table
set_option maxRecDepth 20000 in
theorem ggL_law_X4_thrown : GoodIn wsL_law wsX4_thrown := goodIn_r _ [129, 116, 395, 396, 397, 398, 399, 400, 401, 402, 403, 404, 405, 406, 407, 408, 409] (by decide +kernel) (by decide +kernel)
set_option maxRecDepth 20000 in
theorem gL_law_X4_thrown : GoodIn wsL_law (wsV RL 82 RX4 yX4_thrown wsX4_thrown) := goodIn_app (goodIn_of _ (by decide +kernel)) ggL_law_X4_thrown
set_option maxRecDepth 20000 in
theorem ggL_law_L_radius : GoodIn wsL_law wsL_radius := goodIn_ca (goodIn_ca (goodIn_ca (goodIn_r _ [132, 73, 74, 75, 133, 134, 135, 2, 136, 80, 81, 82, 83, 85, 87, 88, 89, 90, 91, 92, 16, 93, 94, 95, 137, 138, 139, 24, 140, 47, 141, 100, 101, 102, 30, 103, 41, 104, 105, 106, 107, 42, 142, 143, 144, 145, 146, 147, 148, 149, 150, 151, 152, 391, 392, 393, 394, 411, 412, 413, 414, 415, 416, 417] (by decide +kernel) (by decide +kernel)) (goodIn_sub (fun _ h => List.mem_append_left _ (List.mem_append_left _ (List.mem_append_right _ h))) (by decide +kernel))) (goodIn_sub (fun _ h => List.mem_append_left _ (List.mem_append_right _ h)) (by decide +kernel))) (goodIn_sub (fun _ h => List.mem_append_right _ h) (by decide +kernel))
set_option maxRecDepth 20000 in
theorem gL_law_L_radius : GoodIn wsL_law (va_wsS RL 86 yL_radius wsL_radius) := goodIn_app (goodIn_of _ (by decide +kernel)) ggL_law_L_radius
set_option maxRecDepth 20000 in
theorem ggL_law_X4_radius : GoodIn wsL_law wsX4_radius := goodIn_r _ [156, 118, 116, 157, 120, 121, 5, 122, 123, 124, 125, 158, 159, 160, 161, 58, 59, 60, 395, 396, 397, 398, 399, 400, 401, 402, 403, 404, 405, 406, 407, 408, 409] (by decide +kernel) (by decide +kernel)
set_option maxRecDepth 20000 in
theorem gL_law_X4_radius : GoodIn wsL_law (wsV RL 89 RX4 yX4_radius wsX4_radius) := goodIn_app (goodIn_of _ (by decide +kernel)) ggL_law_X4_radius
set_option maxRecDepth 20000 in
theorem ggL_law_L_strips : GoodIn wsL_law wsL_strips := goodIn_ca (goodIn_ca (goodIn_r _ [164, 73, 74, 165, 166, 167, 2, 168, 80, 81, 84, 86, 87, 88, 89, 90, 91, 92, 16, 93, 94, 95, 169, 170, 171, 24, 172, 173, 138, 139, 140, 47, 141, 100, 101, 102, 30, 103, 41, 104, 105, 106, 107, 42, 142, 143, 144, 145, 146, 147, 148, 149, 151, 152, 391, 392, 393, 394, 411, 412, 413, 414, 415, 416, 417] (by decide +kernel) (by decide +kernel)) (goodIn_sub (fun _ h => List.mem_append_left _ (List.mem_append_left _ (List.mem_append_right _ h))) (by decide +kernel))) (goodIn_sub (fun _ h => List.mem_append_right _ h) (by decide +kernel))
set_option maxRecDepth 20000 in
theorem gL_law_L_strips : GoodIn wsL_law (va_wsS RL 90 yL_strips wsL_strips) := goodIn_app (goodIn_of _ (by decide +kernel)) ggL_law_L_strips
set_option maxRecDepth 20000 in
theorem ggL_law_X4_strips : GoodIn wsL_law wsX4_strips := goodIn_r _ [177, 117, 119, 116, 157, 120, 121, 5, 122, 123, 124, 125, 158, 159, 160, 161, 58, 59, 60, 395, 396, 397, 398, 399, 400, 401, 402, 403, 404, 405, 406, 407, 408, 409] (by decide +kernel) (by decide +kernel)
set_option maxRecDepth 20000 in
theorem gL_law_X4_strips : GoodIn wsL_law (wsV RL 92 RX4 yX4_strips wsX4_strips) := goodIn_app (goodIn_of _ (by decide +kernel)) ggL_law_X4_strips
set_option maxRecDepth 20000 in
theorem ggL_law_L_read : GoodIn wsL_law wsL_read := goodIn_ca (goodIn_ca (goodIn_ca (goodIn_r _ [180, 73, 74, 75, 181, 182, 183, 2, 184, 80, 81, 82, 83, 84, 86, 185, 87, 88, 89, 90, 91, 92, 16, 93, 94, 95, 108, 109, 110, 30, 111, 36, 41, 42, 104, 105, 106, 107, 411, 412, 413, 414, 391, 392, 393, 394, 415, 416, 417] (by decide +kernel) (by decide +kernel)) (goodIn_sub (fun _ h => List.mem_append_left _ (List.mem_append_left _ (List.mem_append_right _ h))) (by decide +kernel))) (goodIn_sub (fun _ h => List.mem_append_left _ (List.mem_append_right _ h)) (by decide +kernel))) (goodIn_sub (fun _ h => List.mem_append_right _ h) (by decide +kernel))
set_option maxRecDepth 20000 in
theorem gL_law_L_read : GoodIn wsL_law (va_wsS RL 93 yL_read wsL_read) := goodIn_app (goodIn_of _ (by decide +kernel)) ggL_law_L_read
set_option maxRecDepth 20000 in
theorem ggL_law_X4_read : GoodIn wsL_law wsX4_read := goodIn_r _ [189, 117, 119, 190, 61, 116, 62, 63, 120, 121, 5, 122, 123, 124, 125, 395, 396, 397, 398, 399, 400, 401, 402, 403, 404, 405, 406, 407, 408, 409] (by decide +kernel) (by decide +kernel)
set_option maxRecDepth 20000 in
theorem gL_law_X4_read : GoodIn wsL_law (wsV RL 95 RX4 yX4_read wsX4_read) := goodIn_app (goodIn_of _ (by decide +kernel)) ggL_law_X4_read
set_option maxRecDepth 20000 in
theorem ggL_law_L_fit : GoodIn wsL_law wsL_fit := goodIn_ca (goodIn_ca (goodIn_r _ [193, 73, 74, 194, 195, 196, 2, 197, 80, 81, 87, 88, 89, 90, 91, 92, 16, 198, 199, 200, 24, 201, 50, 51, 202, 203, 204, 205, 206, 48, 142, 143, 144, 30, 145, 42, 104, 105, 106, 107, 41, 100, 101, 102, 103, 391, 392, 393, 394, 411, 412, 413, 414, 415, 416, 417] (by decide +kernel) (by decide +kernel)) (goodIn_sub (fun _ h => List.mem_append_left _ (List.mem_append_left _ (List.mem_append_right _ h))) (by decide +kernel))) (goodIn_sub (fun _ h => List.mem_append_right _ h) (by decide +kernel))
set_option maxRecDepth 20000 in
theorem gL_law_L_fit : GoodIn wsL_law (va_wsS RL 96 yL_fit wsL_fit) := goodIn_app (goodIn_of _ (by decide +kernel)) ggL_law_L_fit
set_option maxRecDepth 20000 in
theorem ggL_law_X4_fit : GoodIn wsL_law wsX4_fit := goodIn_r _ [210, 116, 120, 121, 5, 122, 211, 212, 213, 214, 64, 65, 215, 216, 217, 218, 219, 61, 63, 62, 395, 396, 397, 398, 399, 400, 401, 402, 403, 404, 405, 406, 407, 408, 409] (by decide +kernel) (by decide +kernel)
set_option maxRecDepth 20000 in
theorem gL_law_X4_fit : GoodIn wsL_law (wsV RL 99 RX4 yX4_fit wsX4_fit) := goodIn_app (goodIn_of _ (by decide +kernel)) ggL_law_X4_fit
set_option maxRecDepth 20000 in
theorem ggL_law_L_back : GoodIn wsL_law wsL_back := goodIn_ca (goodIn_r _ [222, 73, 223, 224, 225, 2, 226, 91, 92, 87, 88, 89, 90, 16, 227, 204, 205, 24, 206, 48, 142, 143, 144, 30, 145, 42, 104, 105, 106, 107, 41, 100, 101, 102, 103, 411, 412, 413, 414, 391, 392, 393, 394, 415, 416, 417] (by decide +kernel) (by decide +kernel)) (goodIn_sub (fun _ h => List.mem_append_right _ h) (by decide +kernel))
set_option maxRecDepth 20000 in
theorem gL_law_L_back : GoodIn wsL_law (va_wsS RL 100 yL_back wsL_back) := goodIn_app (goodIn_of _ (by decide +kernel)) ggL_law_L_back
set_option maxRecDepth 20000 in
theorem ggL_law_X4_back : GoodIn wsL_law wsX4_back := goodIn_r _ [231, 116, 64, 65, 120, 121, 5, 122, 216, 217, 218, 219, 61, 63, 62, 395, 396, 397, 398, 399, 400, 401, 402, 403, 404, 405, 406, 407, 408, 409] (by decide +kernel) (by decide +kernel)
set_option maxRecDepth 20000 in
theorem gL_law_X4_back : GoodIn wsL_law (wsV RL 103 RX4 yX4_back wsX4_back) := goodIn_app (goodIn_of _ (by decide +kernel)) ggL_law_X4_back
set_option maxRecDepth 20000 in
theorem ggL_law_L_form : GoodIn wsL_law wsL_form := goodIn_ca (goodIn_ca (goodIn_r _ [234, 73, 74, 235, 236, 237, 2, 238, 80, 81, 84, 185, 87, 88, 89, 90, 91, 92, 16, 93, 94, 95, 239, 240, 241, 24, 242, 202, 50, 391, 392, 393, 394, 411, 412, 413, 414] (by decide +kernel) (by decide +kernel)) (goodIn_sub (fun _ h => List.mem_append_left _ (List.mem_append_left _ (List.mem_append_right _ h))) (by decide +kernel))) (goodIn_sub (fun _ h => List.mem_append_right _ h) (by decide +kernel))
set_option maxRecDepth 20000 in
theorem gL_law_L_form : GoodIn wsL_law (va_wsS RL 104 yL_form wsL_form) := goodIn_app (goodIn_of _ (by decide +kernel)) ggL_law_L_form
set_option maxRecDepth 20000 in
theorem ggL_law_X4_form : GoodIn wsL_law wsX4_form := goodIn_r _ [246, 117, 190, 116, 215, 64, 120, 121, 5, 122, 123, 124, 125, 395, 396, 397, 398, 399, 400, 401, 402, 403, 404, 405, 406, 407, 408, 409] (by decide +kernel) (by decide +kernel)
set_option maxRecDepth 20000 in
theorem gL_law_X4_form : GoodIn wsL_law (wsV RL 106 RX4 yX4_form wsX4_form) := goodIn_app (goodIn_of _ (by decide +kernel)) ggL_law_X4_form
set_option maxRecDepth 20000 in
theorem ggL_law_L_minutes : GoodIn wsL_law wsL_minutes := goodIn_ca (goodIn_r _ [249, 74, 250, 251, 252, 2, 253, 80, 81, 85, 254, 255, 256, 93, 94, 95] (by decide +kernel) (by decide +kernel)) (goodIn_sub (fun _ h => List.mem_append_left _ (List.mem_append_left _ (List.mem_append_right _ h))) (by decide +kernel))
set_option maxRecDepth 20000 in
theorem gL_law_L_minutes : GoodIn wsL_law (va_wsS RL 107 yL_minutes wsL_minutes) := goodIn_app (goodIn_of _ (by decide +kernel)) ggL_law_L_minutes
set_option maxRecDepth 20000 in
theorem ggL_law_X4_minutes : GoodIn wsL_law wsX4_minutes := goodIn_r _ [260, 118, 116, 261, 262, 263, 123, 124, 5, 125, 395, 396, 397, 398, 399, 400, 401, 402, 403, 404, 405, 406, 407, 408, 409] (by decide +kernel) (by decide +kernel)
set_option maxRecDepth 20000 in
theorem gL_law_X4_minutes : GoodIn wsL_law (wsV RL 110 RX4 yX4_minutes wsX4_minutes) := goodIn_app (goodIn_of _ (by decide +kernel)) ggL_law_X4_minutes
set_option maxRecDepth 20000 in
theorem ggL_law_L_piece : GoodIn wsL_law wsL_piece := goodIn_ca (goodIn_ca (goodIn_r _ [266, 74, 75, 267, 268, 269, 2, 270, 80, 81, 82, 83, 86, 20, 93, 94, 95, 108, 109, 110, 30, 111, 36, 41, 42, 104, 105, 106, 107, 391, 392, 393, 394, 410, 415, 416, 417] (by decide +kernel) (by decide +kernel)) (goodIn_sub (fun _ h => List.mem_append_left _ (List.mem_append_left _ (List.mem_append_right _ h))) (by decide +kernel))) (goodIn_sub (fun _ h => List.mem_append_left _ (List.mem_append_right _ h)) (by decide +kernel))
set_option maxRecDepth 20000 in
theorem gL_law_L_piece : GoodIn wsL_law (va_wsS RL 111 yL_piece wsL_piece) := goodIn_app (goodIn_of _ (by decide +kernel)) ggL_law_L_piece
set_option maxRecDepth 20000 in
theorem ggL_law_X4_piece : GoodIn wsL_law wsX4_piece := goodIn_r _ [274, 119, 275, 116, 66, 67, 123, 124, 5, 125, 395, 396, 397, 398, 399, 400, 401, 402, 403, 404, 405, 406, 407, 408, 409] (by decide +kernel) (by decide +kernel)
set_option maxRecDepth 20000 in
theorem gL_law_X4_piece : GoodIn wsL_law (wsV RL 114 RX4 yX4_piece wsX4_piece) := goodIn_app (goodIn_of _ (by decide +kernel)) ggL_law_X4_piece
set_option maxRecDepth 20000 in
theorem ggL_law_X3_clear : GoodIn wsL_law wsX3_clear := goodIn_r _ [279, 20, 280, 281, 282, 30, 283, 36, 391, 392, 393, 394, 410, 415, 416, 417] (by decide +kernel) (by decide +kernel)
set_option maxRecDepth 20000 in
theorem gL_law_X3_clear : GoodIn wsL_law (wsV RL 115 RX3 yX3_clear wsX3_clear) := goodIn_app (goodIn_of _ (by decide +kernel)) ggL_law_X3_clear
set_option maxRecDepth 20000 in
theorem ggL_law_X4_clear : GoodIn wsL_law wsX4_clear := goodIn_r _ [287, 116, 275, 395, 396, 397, 398, 399, 400, 401, 402, 403, 404, 405, 406, 407, 408, 409] (by decide +kernel) (by decide +kernel)
set_option maxRecDepth 20000 in
theorem gL_law_X4_clear : GoodIn wsL_law (wsV RL 118 RX4 yX4_clear wsX4_clear) := goodIn_app (goodIn_of _ (by decide +kernel)) ggL_law_X4_clear
set_option maxRecDepth 20000 in
theorem ggL_law_L_length : GoodIn wsL_law wsL_length := goodIn_ca (goodIn_r _ [290, 74, 291, 292, 293, 2, 294, 80, 81, 85, 20, 93, 94, 95, 295, 296, 297, 19, 298, 31, 299, 300, 143, 144, 30, 145, 42, 104, 105, 106, 107, 41, 301, 302, 303, 304, 305, 306, 307, 308, 309, 101, 102, 103, 391, 392, 393, 394, 410, 415, 416, 417] (by decide +kernel) (by decide +kernel)) (goodIn_sub (fun _ h => List.mem_append_left _ (List.mem_append_left _ (List.mem_append_right _ h))) (by decide +kernel))
set_option maxRecDepth 20000 in
theorem gL_law_L_length : GoodIn wsL_law (va_wsS RL 119 yL_length wsL_length) := goodIn_app (goodIn_of _ (by decide +kernel)) ggL_law_L_length
set_option maxRecDepth 20000 in
theorem ggL_law_X4_length : GoodIn wsL_law wsX4_length := goodIn_r _ [313, 118, 275, 67, 215, 116, 66, 123, 124, 5, 125, 395, 396, 397, 398, 399, 400, 401, 402, 403, 404, 405, 406, 407, 408, 409] (by decide +kernel) (by decide +kernel)
set_option maxRecDepth 20000 in
theorem gL_law_X4_length : GoodIn wsL_law (wsV RL 122 RX4 yX4_length wsX4_length) := goodIn_app (goodIn_of _ (by decide +kernel)) ggL_law_X4_length
set_option maxRecDepth 20000 in
theorem ggL_law_L_kerfs : GoodIn wsL_law wsL_kerfs := goodIn_ca (goodIn_r _ [316, 74, 317, 318, 319, 2, 320, 80, 81, 321, 85, 84, 322, 323, 21, 22, 93, 94, 95, 324, 325, 326, 327, 391, 392, 393, 394] (by decide +kernel) (by decide +kernel)) (goodIn_sub (fun _ h => List.mem_append_left _ (List.mem_append_left _ (List.mem_append_right _ h))) (by decide +kernel))
set_option maxRecDepth 20000 in
theorem gL_law_L_kerfs : GoodIn wsL_law (va_wsS RL 123 yL_kerfs wsL_kerfs) := goodIn_app (goodIn_of _ (by decide +kernel)) ggL_law_L_kerfs
set_option maxRecDepth 20000 in
theorem ggL_law_X4_kerfs : GoodIn wsL_law wsX4_kerfs := goodIn_r _ [331, 332, 118, 117, 333, 116, 334, 335, 336, 123, 124, 5, 125, 395, 396, 397, 398, 399, 400, 401, 402, 403, 404, 405, 406, 407, 408, 409] (by decide +kernel) (by decide +kernel)
set_option maxRecDepth 20000 in
theorem gL_law_X4_kerfs : GoodIn wsL_law (wsV RL 126 RX4 yX4_kerfs wsX4_kerfs) := goodIn_app (goodIn_of _ (by decide +kernel)) ggL_law_X4_kerfs
set_option maxRecDepth 20000 in
theorem ggL_law_L_kerfAt : GoodIn wsL_law wsL_kerfAt := goodIn_ca (goodIn_ca (goodIn_ca (goodIn_r _ [339, 75, 73, 74, 340, 341, 342, 2, 343, 82, 83, 91, 92, 80, 81, 21, 86, 93, 94, 95, 391, 392, 393, 394] (by decide +kernel) (by decide +kernel)) (goodIn_sub (fun _ h => List.mem_append_left _ (List.mem_append_right _ h)) (by decide +kernel))) (goodIn_sub (fun _ h => List.mem_append_right _ h) (by decide +kernel))) (goodIn_sub (fun _ h => List.mem_append_left _ (List.mem_append_left _ (List.mem_append_right _ h))) (by decide +kernel))
set_option maxRecDepth 20000 in
theorem gL_law_L_kerfAt : GoodIn wsL_law (va_wsS RL 127 yL_kerfAt wsL_kerfAt) := goodIn_app (goodIn_of _ (by decide +kernel)) ggL_law_L_kerfAt
set_option maxRecDepth 20000 in
theorem ggL_law_X4_kerfAt : GoodIn wsL_law wsX4_kerfAt := goodIn_r _ [347, 335, 119, 116, 123, 124, 5, 125, 395, 396, 397, 398, 399, 400, 401, 402, 403, 404, 405, 406, 407, 408, 409] (by decide +kernel) (by decide +kernel)
set_option maxRecDepth 20000 in
theorem gL_law_X4_kerfAt : GoodIn wsL_law (wsV RL 129 RX4 yX4_kerfAt wsX4_kerfAt) := goodIn_app (goodIn_of _ (by decide +kernel)) ggL_law_X4_kerfAt
set_option maxRecDepth 20000 in
theorem ggL_law_L_rest : GoodIn wsL_law wsL_rest := goodIn_ca (goodIn_r _ [350, 75, 351, 352, 353, 2, 354, 82, 83, 21, 22, 391, 392, 393, 394] (by decide +kernel) (by decide +kernel)) (goodIn_sub (fun _ h => List.mem_append_left _ (List.mem_append_right _ h)) (by decide +kernel))
set_option maxRecDepth 20000 in
theorem gL_law_L_rest : GoodIn wsL_law (va_wsS RL 130 yL_rest wsL_rest) := goodIn_app (goodIn_of _ (by decide +kernel)) ggL_law_L_rest
set_option maxRecDepth 20000 in
theorem ggL_law_X4_rest : GoodIn wsL_law wsX4_rest := goodIn_r _ [358, 335, 116, 336, 395, 396, 397, 398, 399, 400, 401, 402, 403, 404, 405, 406, 407, 408, 409] (by decide +kernel) (by decide +kernel)
set_option maxRecDepth 20000 in
theorem gL_law_X4_rest : GoodIn wsL_law (wsV RL 133 RX4 yX4_rest wsX4_rest) := goodIn_app (goodIn_of _ (by decide +kernel)) ggL_law_X4_rest
set_option maxRecDepth 20000 in
theorem ggL_law_L_broken : GoodIn wsL_law wsL_broken := goodIn_ca (goodIn_ca (goodIn_r _ [361, 73, 74, 362, 363, 364, 2, 365, 91, 92, 80, 81, 366, 367, 368, 369] (by decide +kernel) (by decide +kernel)) (goodIn_sub (fun _ h => List.mem_append_right _ h) (by decide +kernel))) (goodIn_sub (fun _ h => List.mem_append_left _ (List.mem_append_left _ (List.mem_append_right _ h))) (by decide +kernel))
set_option maxRecDepth 20000 in
theorem gL_law_L_broken : GoodIn wsL_law (va_wsS RL 134 yL_broken wsL_broken) := goodIn_app (goodIn_of _ (by decide +kernel)) ggL_law_L_broken
set_option maxRecDepth 20000 in
theorem ggL_law_X4_broken : GoodIn wsL_law wsX4_broken := goodIn_r _ [373, 374, 116, 375, 376, 5, 377, 395, 396, 397, 398, 399, 400, 401, 402, 403, 404, 405, 406, 407, 408, 409] (by decide +kernel) (by decide +kernel)
set_option maxRecDepth 20000 in
theorem gL_law_X4_broken : GoodIn wsL_law (wsV RL 137 RX4 yX4_broken wsX4_broken) := goodIn_app (goodIn_of _ (by decide +kernel)) ggL_law_X4_broken
set_option maxRecDepth 20000 in
theorem ggL_law_L_relaxed : GoodIn wsL_law wsL_relaxed := goodIn_ca (goodIn_ca (goodIn_r _ [380, 73, 74, 381, 382, 383, 2, 384, 80, 81, 385, 87, 88, 89, 90, 91, 92, 16, 411, 412, 413, 414, 391, 392, 393, 394] (by decide +kernel) (by decide +kernel)) (goodIn_sub (fun _ h => List.mem_append_left _ (List.mem_append_left _ (List.mem_append_right _ h))) (by decide +kernel))) (goodIn_sub (fun _ h => List.mem_append_right _ h) (by decide +kernel))
set_option maxRecDepth 20000 in
theorem gL_law_L_relaxed : GoodIn wsL_law (va_wsS RL 138 yL_relaxed wsL_relaxed) := goodIn_app (goodIn_of _ (by decide +kernel)) ggL_law_L_relaxed
set_option maxRecDepth 20000 in
theorem ggL_law_X4_relaxed : GoodIn wsL_law wsX4_relaxed := goodIn_r _ [389, 116, 64, 390, 120, 121, 5, 122, 395, 396, 397, 398, 399, 400, 401, 402, 403, 404, 405, 406, 407, 408, 409] (by decide +kernel) (by decide +kernel)
set_option maxRecDepth 20000 in
theorem gL_law_X4_relaxed : GoodIn wsL_law (wsV RL 140 RX4 yX4_relaxed wsX4_relaxed) := goodIn_app (goodIn_of _ (by decide +kernel)) ggL_law_X4_relaxed
/-! ===== END printed: names ===== -/


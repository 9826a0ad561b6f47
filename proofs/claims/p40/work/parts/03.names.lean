def RX0 : String := "WeatherTea$1"
def TX0 : u_T := fun k => match k with
  | _ => ("", "", "", false)
def tyX0 : Nat → FieldType := fun k => match k with
  | _ => .int
abbrev wsX00 : List Cond := u_ws RX0 TX0 0
theorem nmX0 : ∀ a, a < 0 → ∀ b, b < 0 → a ≠ b → (TX0 a).2.1 ≠ (TX0 b).2.1 := by decide +kernel
theorem tyX0_ok : ∀ k, k < 0 → parseFieldDescriptor (TX0 k).2.2.1 = some (tyX0 k) := by decide +kernel
def RX1 : String := "WeatherTea$Checker"
def TX1 : u_T := fun k => match k with
  | _ => ("", "", "", false)
def tyX1 : Nat → FieldType := fun k => match k with
  | _ => .int
abbrev wsX10 : List Cond := u_ws RX1 TX1 0
theorem nmX1 : ∀ a, a < 0 → ∀ b, b < 0 → a ≠ b → (TX1 a).2.1 ≠ (TX1 b).2.1 := by decide +kernel
theorem tyX1_ok : ∀ k, k < 0 → parseFieldDescriptor (TX1 k).2.2.1 = some (tyX1 k) := by decide +kernel
abbrev cX1_check : ByteArray := prog_3_method_2_code
def yX1_check : MethodName := ⟨RX1, "check", "(LWeatherTea$Tokens;LWeatherTea$Plan;)V"⟩
abbrev cX1_beginsOrder : ByteArray := prog_3_method_3_code
def yX1_beginsOrder : MethodName := ⟨RX1, "beginsOrder", "(LWeatherTea$Kind;)Z"⟩
abbrev cX1_checkBehind : ByteArray := prog_3_method_4_code
def yX1_checkBehind : MethodName := ⟨RX1, "checkBehind", "(LWeatherTea$Tokens;ILWeatherTea$Plan;)V"⟩
abbrev cX1_checkNamed : ByteArray := prog_3_method_5_code
def yX1_checkNamed : MethodName := ⟨RX1, "checkNamed", "(LWeatherTea$Tokens;II)V"⟩
abbrev cX1_checkFront : ByteArray := prog_3_method_6_code
def yX1_checkFront : MethodName := ⟨RX1, "checkFront", "(LWeatherTea$Tokens;ILWeatherTea$Fronts;)V"⟩
abbrev cX1_checkGuest : ByteArray := prog_3_method_7_code
def yX1_checkGuest : MethodName := ⟨RX1, "checkGuest", "(LWeatherTea$Tokens;ILWeatherTea$Guests;)V"⟩
abbrev cX1_numberIn : ByteArray := prog_3_method_8_code
def yX1_numberIn : MethodName := ⟨RX1, "numberIn", "(LWeatherTea$Tokens;III)I"⟩
def RX2 : String := "WeatherTea$Fronts"
def TX2 : u_T := fun k => match k with
  | 0 => ("WeatherTea$Fronts", "names", "[J", true)
  | 1 => ("WeatherTea$Fronts", "warm", "[Z", true)
  | 2 => ("WeatherTea$Fronts", "force", "[I", true)
  | 3 => ("WeatherTea$Fronts", "from", "[I", true)
  | 4 => ("WeatherTea$Fronts", "hours", "[I", true)
  | _ => ("WeatherTea$Fronts", "count", "I", false)
def tyX2 : Nat → FieldType := fun k => match k with
  | 0 => .array .long
  | 1 => .array .boolean
  | 2 => .array .int
  | 3 => .array .int
  | 4 => .array .int
  | _ => .int
abbrev wsX20 : List Cond := u_ws RX2 TX2 6
theorem nmX2 : ∀ a, a < 6 → ∀ b, b < 6 → a ≠ b → (TX2 a).2.1 ≠ (TX2 b).2.1 := by decide +kernel
theorem tyX2_ok : ∀ k, k < 6 → parseFieldDescriptor (TX2 k).2.2.1 = some (tyX2 k) := by decide +kernel
abbrev cX2_init : ByteArray := prog_4_method_1_code
def yX2_init : MethodName := ⟨RX2, "<init>", "()V"⟩
abbrev cX2_has : ByteArray := prog_4_method_2_code
def yX2_has : MethodName := ⟨RX2, "has", "(I)Z"⟩
abbrev cX2_find : ByteArray := prog_4_method_3_code
def yX2_find : MethodName := ⟨RX2, "find", "(J)I"⟩
abbrev cX2_add : ByteArray := prog_4_method_4_code
def yX2_add : MethodName := ⟨RX2, "add", "(JZIII)V"⟩
def RX3 : String := "WeatherTea$Grammar"
def TX3 : u_T := fun k => match k with
  | _ => ("", "", "", false)
def tyX3 : Nat → FieldType := fun k => match k with
  | _ => .int
abbrev wsX30 : List Cond := u_ws RX3 TX3 0
theorem nmX3 : ∀ a, a < 0 → ∀ b, b < 0 → a ≠ b → (TX3 a).2.1 ≠ (TX3 b).2.1 := by decide +kernel
theorem tyX3_ok : ∀ k, k < 0 → parseFieldDescriptor (TX3 k).2.2.1 = some (tyX3 k) := by decide +kernel
abbrev cX3_read : ByteArray := prog_5_method_2_code
def yX3_read : MethodName := ⟨RX3, "read", "(LWeatherTea$Tokens;LWeatherTea$Orders;)V"⟩
abbrev cX3_line : ByteArray := prog_5_method_3_code
def yX3_line : MethodName := ⟨RX3, "line", "(LWeatherTea$Tokens;LWeatherTea$Orders;)Z"⟩
abbrev cX3_order : ByteArray := prog_5_method_4_code
def yX3_order : MethodName := ⟨RX3, "order", "(LWeatherTea$Tokens;LWeatherTea$Orders;)Z"⟩
abbrev cX3_test : ByteArray := prog_5_method_5_code
def yX3_test : MethodName := ⟨RX3, "test", "(LWeatherTea$Tokens;LWeatherTea$Orders;I)Z"⟩
abbrev cX3_both : ByteArray := prog_5_method_6_code
def yX3_both : MethodName := ⟨RX3, "both", "(LWeatherTea$Tokens;LWeatherTea$Orders;I)Z"⟩
abbrev cX3_single : ByteArray := prog_5_method_7_code
def yX3_single : MethodName := ⟨RX3, "single", "(LWeatherTea$Tokens;LWeatherTea$Orders;I)Z"⟩
abbrev cX3_comparison : ByteArray := prog_5_method_8_code
def yX3_comparison : MethodName := ⟨RX3, "comparison", "(LWeatherTea$Tokens;LWeatherTea$Orders;I)Z"⟩
abbrev cX3_sum : ByteArray := prog_5_method_9_code
def yX3_sum : MethodName := ⟨RX3, "sum", "(LWeatherTea$Tokens;LWeatherTea$Orders;I)Z"⟩
abbrev cX3_product : ByteArray := prog_5_method_10_code
def yX3_product : MethodName := ⟨RX3, "product", "(LWeatherTea$Tokens;LWeatherTea$Orders;I)Z"⟩
abbrev cX3_value : ByteArray := prog_5_method_11_code
def yX3_value : MethodName := ⟨RX3, "value", "(LWeatherTea$Tokens;LWeatherTea$Orders;I)Z"⟩
def RX4 : String := "WeatherTea$Guests"
def TX4 : u_T := fun k => match k with
  | 0 => ("WeatherTea$Guests", "names", "[J", true)
  | 1 => ("WeatherTea$Guests", "from", "[I", true)
  | 2 => ("WeatherTea$Guests", "weakest", "[I", true)
  | 3 => ("WeatherTea$Guests", "strongest", "[I", true)
  | 4 => ("WeatherTea$Guests", "nerve", "[I", true)
  | _ => ("WeatherTea$Guests", "count", "I", false)
def tyX4 : Nat → FieldType := fun k => match k with
  | 0 => .array .long
  | 1 => .array .int
  | 2 => .array .int
  | 3 => .array .int
  | 4 => .array .int
  | _ => .int
abbrev wsX40 : List Cond := u_ws RX4 TX4 6
theorem nmX4 : ∀ a, a < 6 → ∀ b, b < 6 → a ≠ b → (TX4 a).2.1 ≠ (TX4 b).2.1 := by decide +kernel
theorem tyX4_ok : ∀ k, k < 6 → parseFieldDescriptor (TX4 k).2.2.1 = some (tyX4 k) := by decide +kernel
abbrev cX4_init : ByteArray := prog_6_method_1_code
def yX4_init : MethodName := ⟨RX4, "<init>", "()V"⟩
abbrev cX4_has : ByteArray := prog_6_method_2_code
def yX4_has : MethodName := ⟨RX4, "has", "(I)Z"⟩
abbrev cX4_find : ByteArray := prog_6_method_3_code
def yX4_find : MethodName := ⟨RX4, "find", "(J)I"⟩
abbrev cX4_add : ByteArray := prog_6_method_4_code
def yX4_add : MethodName := ⟨RX4, "add", "(JIIII)V"⟩
def RX5 : String := "WeatherTea$Kind"
def TX5 : u_T := fun k => match k with
  | _ => ("", "", "", false)
def tyX5 : Nat → FieldType := fun k => match k with
  | _ => .int
abbrev wsX50 : List Cond := u_ws RX5 TX5 0
theorem nmX5 : ∀ a, a < 0 → ∀ b, b < 0 → a ≠ b → (TX5 a).2.1 ≠ (TX5 b).2.1 := by decide +kernel
theorem tyX5_ok : ∀ k, k < 0 → parseFieldDescriptor (TX5 k).2.2.1 = some (tyX5 k) := by decide +kernel
def RX6 : String := "WeatherTea$Orders"
def TX6 : u_T := fun k => match k with
  | 0 => ("WeatherTea$Orders", "deeds", "[LWeatherTea$Kind;", true)
  | 1 => ("WeatherTea$Orders", "targets", "[I", true)
  | 2 => ("WeatherTea$Orders", "firstSteps", "[I", true)
  | 3 => ("WeatherTea$Orders", "endSteps", "[I", true)
  | 4 => ("WeatherTea$Orders", "stepKinds", "[LWeatherTea$Kind;", true)
  | 5 => ("WeatherTea$Orders", "stepValues", "[I", true)
  | 6 => ("WeatherTea$Orders", "count", "I", false)
  | _ => ("WeatherTea$Orders", "steps", "I", false)
def tyX6 : Nat → FieldType := fun k => match k with
  | 0 => .array (.object "WeatherTea$Kind")
  | 1 => .array .int
  | 2 => .array .int
  | 3 => .array .int
  | 4 => .array (.object "WeatherTea$Kind")
  | 5 => .array .int
  | 6 => .int
  | _ => .int
abbrev wsX60 : List Cond := u_ws RX6 TX6 8
theorem nmX6 : ∀ a, a < 8 → ∀ b, b < 8 → a ≠ b → (TX6 a).2.1 ≠ (TX6 b).2.1 := by decide +kernel
theorem tyX6_ok : ∀ k, k < 8 → parseFieldDescriptor (TX6 k).2.2.1 = some (tyX6 k) := by decide +kernel
abbrev cX6_init : ByteArray := prog_8_method_1_code
def yX6_init : MethodName := ⟨RX6, "<init>", "()V"⟩
abbrev cX6_add : ByteArray := prog_8_method_2_code
def yX6_add : MethodName := ⟨RX6, "add", "(LWeatherTea$Kind;I)V"⟩
abbrev cX6_endTest : ByteArray := prog_8_method_3_code
def yX6_endTest : MethodName := ⟨RX6, "endTest", "()V"⟩
abbrev cX6_addStep : ByteArray := prog_8_method_4_code
def yX6_addStep : MethodName := ⟨RX6, "addStep", "(LWeatherTea$Kind;I)Z"⟩
abbrev cX6_resolve : ByteArray := prog_8_method_5_code
def yX6_resolve : MethodName := ⟨RX6, "resolve", "(LWeatherTea$Tokens;)V"⟩
def RX7 : String := "WeatherTea$Plan"
def TX7 : u_T := fun k => match k with
  | 0 => ("WeatherTea$Plan", "fronts", "LWeatherTea$Fronts;", true)
  | 1 => ("WeatherTea$Plan", "guests", "LWeatherTea$Guests;", true)
  | _ => ("WeatherTea$Plan", "orders", "LWeatherTea$Orders;", true)
def tyX7 : Nat → FieldType := fun k => match k with
  | 0 => .object "WeatherTea$Fronts"
  | 1 => .object "WeatherTea$Guests"
  | _ => .object "WeatherTea$Orders"
abbrev wsX70 : List Cond := u_ws RX7 TX7 3
theorem nmX7 : ∀ a, a < 3 → ∀ b, b < 3 → a ≠ b → (TX7 a).2.1 ≠ (TX7 b).2.1 := by decide +kernel
theorem tyX7_ok : ∀ k, k < 3 → parseFieldDescriptor (TX7 k).2.2.1 = some (tyX7 k) := by decide +kernel
abbrev cX7_init : ByteArray := prog_9_method_1_code
def yX7_init : MethodName := ⟨RX7, "<init>", "()V"⟩
abbrev cX7_clear : ByteArray := prog_9_method_2_code
def yX7_clear : MethodName := ⟨RX7, "clear", "()V"⟩
def RX8 : String := "WeatherTea$Pot"
def TX8 : u_T := fun k => match k with
  | 0 => ("WeatherTea$Pot", "reckoner", "LWeatherTea$Reckoner;", true)
  | 1 => ("WeatherTea$Pot", "plan", "LWeatherTea$Plan;", false)
  | 2 => ("WeatherTea$Pot", "hour", "I", false)
  | 3 => ("WeatherTea$Pot", "warmth", "I", false)
  | 4 => ("WeatherTea$Pot", "strength", "I", false)
  | 5 => ("WeatherTea$Pot", "charge", "I", false)
  | 6 => ("WeatherTea$Pot", "lemons", "I", false)
  | 7 => ("WeatherTea$Pot", "saucers", "I", false)
  | 8 => ("WeatherTea$Pot", "coins", "I", false)
  | 9 => ("WeatherTea$Pot", "storms", "I", false)
  | 10 => ("WeatherTea$Pot", "frontSteeped", "[Z", true)
  | 11 => ("WeatherTea$Pot", "guestServed", "[Z", true)
  | _ => ("WeatherTea$Pot", "guestStormed", "[Z", true)
def tyX8 : Nat → FieldType := fun k => match k with
  | 0 => .object "WeatherTea$Reckoner"
  | 1 => .object "WeatherTea$Plan"
  | 2 => .int
  | 3 => .int
  | 4 => .int
  | 5 => .int
  | 6 => .int
  | 7 => .int
  | 8 => .int
  | 9 => .int
  | 10 => .array .boolean
  | 11 => .array .boolean
  | _ => .array .boolean
abbrev wsX80 : List Cond := u_ws RX8 TX8 13
theorem nmX8 : ∀ a, a < 13 → ∀ b, b < 13 → a ≠ b → (TX8 a).2.1 ≠ (TX8 b).2.1 := by decide +kernel
theorem tyX8_ok : ∀ k, k < 13 → parseFieldDescriptor (TX8 k).2.2.1 = some (tyX8 k) := by decide +kernel
abbrev cX8_init : ByteArray := prog_10_method_1_code
def yX8_init : MethodName := ⟨RX8, "<init>", "()V"⟩
abbrev cX8_begin : ByteArray := prog_10_method_2_code
def yX8_begin : MethodName := ⟨RX8, "begin", "(LWeatherTea$Plan;)V"⟩
abbrev cX8_copyFrom : ByteArray := prog_10_method_3_code
def yX8_copyFrom : MethodName := ⟨RX8, "copyFrom", "(LWeatherTea$Pot;)V"⟩
abbrev cX8_hangsOver : ByteArray := prog_10_method_4_code
def yX8_hangsOver : MethodName := ⟨RX8, "hangsOver", "(I)Z"⟩
abbrev cX8_sits : ByteArray := prog_10_method_5_code
def yX8_sits : MethodName := ⟨RX8, "sits", "(I)Z"⟩
abbrev cX8_wouldLike : ByteArray := prog_10_method_6_code
def yX8_wouldLike : MethodName := ⟨RX8, "wouldLike", "(II)Z"⟩
abbrev cX8_contentIfSteeped : ByteArray := prog_10_method_7_code
def yX8_contentIfSteeped : MethodName := ⟨RX8, "contentIfSteeped", "(I)I"⟩
abbrev cX8_strengthWith : ByteArray := prog_10_method_8_code
def yX8_strengthWith : MethodName := ⟨RX8, "strengthWith", "(I)I"⟩
abbrev cX8_standsFor : ByteArray := prog_10_method_9_code
def yX8_standsFor : MethodName := ⟨RX8, "standsFor", "(LWeatherTea$Kind;I)I"⟩
abbrev cX8_steepFront : ByteArray := prog_10_method_10_code
def yX8_steepFront : MethodName := ⟨RX8, "steepFront", "(I)Z"⟩
abbrev cX8_squeezeLemon : ByteArray := prog_10_method_11_code
def yX8_squeezeLemon : MethodName := ⟨RX8, "squeezeLemon", "()Z"⟩
abbrev cX8_putSaucer : ByteArray := prog_10_method_12_code
def yX8_putSaucer : MethodName := ⟨RX8, "putSaucer", "()Z"⟩
abbrev cX8_serveGuest : ByteArray := prog_10_method_13_code
def yX8_serveGuest : MethodName := ⟨RX8, "serveGuest", "(I)Z"⟩
abbrev cX8_passHour : ByteArray := prog_10_method_14_code
def yX8_passHour : MethodName := ⟨RX8, "passHour", "()V"⟩
abbrev cX8_follow : ByteArray := prog_10_method_15_code
def yX8_follow : MethodName := ⟨RX8, "follow", "(LWeatherTea$Kind;I)V"⟩
abbrev cX8_blow : ByteArray := prog_10_method_16_code
def yX8_blow : MethodName := ⟨RX8, "blow", "()V"⟩
abbrev cX8_storm : ByteArray := prog_10_method_17_code
def yX8_storm : MethodName := ⟨RX8, "storm", "()V"⟩
def RX9 : String := "WeatherTea$Reckoner"
def TX9 : u_T := fun k => match k with
  | 0 => ("WeatherTea$Reckoner", "stack", "[I", true)
  | _ => ("WeatherTea$Reckoner", "height", "I", false)
def tyX9 : Nat → FieldType := fun k => match k with
  | 0 => .array .int
  | _ => .int
abbrev wsX90 : List Cond := u_ws RX9 TX9 2
theorem nmX9 : ∀ a, a < 2 → ∀ b, b < 2 → a ≠ b → (TX9 a).2.1 ≠ (TX9 b).2.1 := by decide +kernel
theorem tyX9_ok : ∀ k, k < 2 → parseFieldDescriptor (TX9 k).2.2.1 = some (tyX9 k) := by decide +kernel
abbrev cX9_init : ByteArray := prog_11_method_1_code
def yX9_init : MethodName := ⟨RX9, "<init>", "()V"⟩
abbrev cX9_holds : ByteArray := prog_11_method_2_code
def yX9_holds : MethodName := ⟨RX9, "holds", "(LWeatherTea$Orders;ILWeatherTea$Pot;)Z"⟩
abbrev cX9_push : ByteArray := prog_11_method_3_code
def yX9_push : MethodName := ⟨RX9, "push", "(I)V"⟩
abbrev cX9_pop : ByteArray := prog_11_method_4_code
def yX9_pop : MethodName := ⟨RX9, "pop", "()I"⟩
abbrev cX9_step : ByteArray := prog_11_method_5_code
def yX9_step : MethodName := ⟨RX9, "step", "(LWeatherTea$Kind;ILWeatherTea$Pot;)V"⟩
abbrev cX9_joinTwo : ByteArray := prog_11_method_6_code
def yX9_joinTwo : MethodName := ⟨RX9, "joinTwo", "(LWeatherTea$Kind;)V"⟩
abbrev cX9_join : ByteArray := prog_11_method_7_code
def yX9_join : MethodName := ⟨RX9, "join", "(LWeatherTea$Kind;II)I"⟩
def RX10 : String := "WeatherTea$Tape"
def TX10 : u_T := fun k => match k with
  | 0 => ("WeatherTea$Tape", "bytes", "[B", true)
  | _ => ("WeatherTea$Tape", "length", "I", false)
def tyX10 : Nat → FieldType := fun k => match k with
  | 0 => .array .byte
  | _ => .int
abbrev wsX100 : List Cond := u_ws RX10 TX10 2
theorem nmX10 : ∀ a, a < 2 → ∀ b, b < 2 → a ≠ b → (TX10 a).2.1 ≠ (TX10 b).2.1 := by decide +kernel
theorem tyX10_ok : ∀ k, k < 2 → parseFieldDescriptor (TX10 k).2.2.1 = some (tyX10 k) := by decide +kernel
abbrev cX10_init : ByteArray := prog_12_method_1_code
def yX10_init : MethodName := ⟨RX10, "<init>", "()V"⟩
abbrev cX10_append : ByteArray := prog_12_method_2_code
def yX10_append : MethodName := ⟨RX10, "append", "(I)V"⟩
abbrev cX10_byteAt : ByteArray := prog_12_method_3_code
def yX10_byteAt : MethodName := ⟨RX10, "byteAt", "(I)I"⟩
abbrev cX10_hasText : ByteArray := prog_12_method_4_code
def yX10_hasText : MethodName := ⟨RX10, "hasText", "(IILjava/lang/String;)Z"⟩
def RX11 : String := "WeatherTea$Tokens"
def TX11 : u_T := fun k => match k with
  | 0 => ("WeatherTea$Tokens", "kinds", "[LWeatherTea$Kind;", true)
  | 1 => ("WeatherTea$Tokens", "starts", "[I", true)
  | 2 => ("WeatherTea$Tokens", "values", "[J", true)
  | 3 => ("WeatherTea$Tokens", "count", "I", false)
  | 4 => ("WeatherTea$Tokens", "cursor", "I", false)
  | 5 => ("WeatherTea$Tokens", "error", "I", false)
  | _ => ("WeatherTea$Tokens", "errorToken", "I", false)
def tyX11 : Nat → FieldType := fun k => match k with
  | 0 => .array (.object "WeatherTea$Kind")
  | 1 => .array .int
  | 2 => .array .long
  | 3 => .int
  | 4 => .int
  | 5 => .int
  | _ => .int
abbrev wsX110 : List Cond := u_ws RX11 TX11 7
theorem nmX11 : ∀ a, a < 7 → ∀ b, b < 7 → a ≠ b → (TX11 a).2.1 ≠ (TX11 b).2.1 := by decide +kernel
theorem tyX11_ok : ∀ k, k < 7 → parseFieldDescriptor (TX11 k).2.2.1 = some (tyX11 k) := by decide +kernel
abbrev cX11_init : ByteArray := prog_13_method_1_code
def yX11_init : MethodName := ⟨RX11, "<init>", "()V"⟩
abbrev cX11_readAll : ByteArray := prog_13_method_2_code
def yX11_readAll : MethodName := ⟨RX11, "readAll", "(LWeatherTea$Tape;)V"⟩
abbrev cX11_add : ByteArray := prog_13_method_3_code
def yX11_add : MethodName := ⟨RX11, "add", "(LWeatherTea$Kind;IJ)V"⟩
abbrev cX11_behindBlanks : ByteArray := prog_13_method_4_code
def yX11_behindBlanks : MethodName := ⟨RX11, "behindBlanks", "(LWeatherTea$Tape;I)I"⟩
abbrev cX11_sizeOf : ByteArray := prog_13_method_5_code
def yX11_sizeOf : MethodName := ⟨RX11, "sizeOf", "(LWeatherTea$Tape;I)I"⟩
abbrev cX11_kindOf : ByteArray := prog_13_method_6_code
def yX11_kindOf : MethodName := ⟨RX11, "kindOf", "(LWeatherTea$Tape;II)LWeatherTea$Kind;"⟩
abbrev cX11_valueOf : ByteArray := prog_13_method_7_code
def yX11_valueOf : MethodName := ⟨RX11, "valueOf", "(LWeatherTea$Tape;II)J"⟩
abbrev cX11_wordSign : ByteArray := prog_13_method_8_code
def yX11_wordSign : MethodName := ⟨RX11, "wordSign", "(I)I"⟩
abbrev cX11_isLetter : ByteArray := prog_13_method_9_code
def yX11_isLetter : MethodName := ⟨RX11, "isLetter", "(I)Z"⟩
abbrev cX11_isDigit : ByteArray := prog_13_method_10_code
def yX11_isDigit : MethodName := ⟨RX11, "isDigit", "(I)Z"⟩
abbrev cX11_has : ByteArray := prog_13_method_11_code
def yX11_has : MethodName := ⟨RX11, "has", "(I)Z"⟩
abbrev cX11_kindAt : ByteArray := prog_13_method_12_code
def yX11_kindAt : MethodName := ⟨RX11, "kindAt", "(I)LWeatherTea$Kind;"⟩
abbrev cX11_startAt : ByteArray := prog_13_method_13_code
def yX11_startAt : MethodName := ⟨RX11, "startAt", "(I)I"⟩
abbrev cX11_valueAt : ByteArray := prog_13_method_14_code
def yX11_valueAt : MethodName := ⟨RX11, "valueAt", "(I)J"⟩
abbrev cX11_setValue : ByteArray := prog_13_method_15_code
def yX11_setValue : MethodName := ⟨RX11, "setValue", "(II)V"⟩
abbrev cX11_next : ByteArray := prog_13_method_16_code
def yX11_next : MethodName := ⟨RX11, "next", "()LWeatherTea$Kind;"⟩
abbrev cX11_take : ByteArray := prog_13_method_17_code
def yX11_take : MethodName := ⟨RX11, "take", "(LWeatherTea$Kind;)Z"⟩
abbrev cX11_takeNumber : ByteArray := prog_13_method_18_code
def yX11_takeNumber : MethodName := ⟨RX11, "takeNumber", "(LWeatherTea$Kind;)Z"⟩
abbrev cX11_failUnless : ByteArray := prog_13_method_19_code
def yX11_failUnless : MethodName := ⟨RX11, "failUnless", "(ZII)V"⟩
def RX12 : String := "WeatherTea"
def TX12 : u_T := fun k => match k with
  | 0 => ("WeatherTea", "tape", "LWeatherTea$Tape;", true)
  | 1 => ("WeatherTea", "tokens", "LWeatherTea$Tokens;", true)
  | 2 => ("WeatherTea", "pot", "LWeatherTea$Pot;", true)
  | 3 => ("WeatherTea", "trial", "LWeatherTea$Pot;", true)
  | 4 => ("WeatherTea", "draft", "LWeatherTea$Plan;", false)
  | _ => ("WeatherTea", "errorPosition", "I", false)
def tyX12 : Nat → FieldType := fun k => match k with
  | 0 => .object "WeatherTea$Tape"
  | 1 => .object "WeatherTea$Tokens"
  | 2 => .object "WeatherTea$Pot"
  | 3 => .object "WeatherTea$Pot"
  | 4 => .object "WeatherTea$Plan"
  | _ => .int
abbrev wsX120 : List Cond := u_ws RX12 TX12 6
theorem nmX12 : ∀ a, a < 6 → ∀ b, b < 6 → a ≠ b → (TX12 a).2.1 ≠ (TX12 b).2.1 := by decide +kernel
theorem tyX12_ok : ∀ k, k < 6 → parseFieldDescriptor (TX12 k).2.2.1 = some (tyX12 k) := by decide +kernel
abbrev cX12_init : ByteArray := prog_1_method_1_code
def yX12_init : MethodName := ⟨RX12, "<init>", "()V"⟩
abbrev cX12_feed : ByteArray := prog_1_method_2_code
def yX12_feed : MethodName := ⟨RX12, "feed", "(IIIII)I"⟩
abbrev cX12_trim : ByteArray := prog_1_method_3_code
def yX12_trim : MethodName := ⟨RX12, "trim", "(I)I"⟩
abbrev cX12_teach : ByteArray := prog_1_method_4_code
def yX12_teach : MethodName := ⟨RX12, "teach", "()I"⟩
abbrev cX12_fronts : ByteArray := prog_1_method_6_code
def yX12_fronts : MethodName := ⟨RX12, "fronts", "()I"⟩
abbrev cX12_guests : ByteArray := prog_1_method_7_code
def yX12_guests : MethodName := ⟨RX12, "guests", "()I"⟩
abbrev cX12_hour : ByteArray := prog_1_method_8_code
def yX12_hour : MethodName := ⟨RX12, "hour", "()I"⟩
abbrev cX12_warmth : ByteArray := prog_1_method_9_code
def yX12_warmth : MethodName := ⟨RX12, "warmth", "()I"⟩
abbrev cX12_strength : ByteArray := prog_1_method_10_code
def yX12_strength : MethodName := ⟨RX12, "strength", "()I"⟩
abbrev cX12_charge : ByteArray := prog_1_method_11_code
def yX12_charge : MethodName := ⟨RX12, "charge", "()I"⟩
abbrev cX12_lemons : ByteArray := prog_1_method_12_code
def yX12_lemons : MethodName := ⟨RX12, "lemons", "()I"⟩
abbrev cX12_saucers : ByteArray := prog_1_method_13_code
def yX12_saucers : MethodName := ⟨RX12, "saucers", "()I"⟩
abbrev cX12_coins : ByteArray := prog_1_method_14_code
def yX12_coins : MethodName := ⟨RX12, "coins", "()I"⟩
abbrev cX12_storms : ByteArray := prog_1_method_15_code
def yX12_storms : MethodName := ⟨RX12, "storms", "()I"⟩
abbrev cX12_seatedGuests : ByteArray := prog_1_method_16_code
def yX12_seatedGuests : MethodName := ⟨RX12, "seatedGuests", "()I"⟩
abbrev cX12_served : ByteArray := prog_1_method_17_code
def yX12_served : MethodName := ⟨RX12, "served", "()I"⟩
abbrev cX12_stormed : ByteArray := prog_1_method_18_code
def yX12_stormed : MethodName := ⟨RX12, "stormed", "()I"⟩
abbrev cX12_isWarm : ByteArray := prog_1_method_19_code
def yX12_isWarm : MethodName := ⟨RX12, "isWarm", "(I)Z"⟩
abbrev cX12_forceOf : ByteArray := prog_1_method_20_code
def yX12_forceOf : MethodName := ⟨RX12, "forceOf", "(I)I"⟩
abbrev cX12_isOver : ByteArray := prog_1_method_21_code
def yX12_isOver : MethodName := ⟨RX12, "isOver", "(I)Z"⟩
abbrev cX12_isSteeped : ByteArray := prog_1_method_22_code
def yX12_isSteeped : MethodName := ⟨RX12, "isSteeped", "(I)Z"⟩
abbrev cX12_isSeated : ByteArray := prog_1_method_23_code
def yX12_isSeated : MethodName := ⟨RX12, "isSeated", "(I)Z"⟩
abbrev cX12_isContent : ByteArray := prog_1_method_24_code
def yX12_isContent : MethodName := ⟨RX12, "isContent", "(I)Z"⟩
abbrev cX12_wasServed : ByteArray := prog_1_method_25_code
def yX12_wasServed : MethodName := ⟨RX12, "wasServed", "(I)Z"⟩
abbrev cX12_wasStormed : ByteArray := prog_1_method_26_code
def yX12_wasStormed : MethodName := ⟨RX12, "wasStormed", "(I)Z"⟩
abbrev cX12_steep : ByteArray := prog_1_method_27_code
def yX12_steep : MethodName := ⟨RX12, "steep", "(I)I"⟩
abbrev cX12_lemon : ByteArray := prog_1_method_28_code
def yX12_lemon : MethodName := ⟨RX12, "lemon", "()I"⟩
abbrev cX12_saucer : ByteArray := prog_1_method_29_code
def yX12_saucer : MethodName := ⟨RX12, "saucer", "()I"⟩
abbrev cX12_serve : ByteArray := prog_1_method_30_code
def yX12_serve : MethodName := ⟨RX12, "serve", "(I)I"⟩
abbrev cX12_heat : ByteArray := prog_1_method_31_code
def yX12_heat : MethodName := ⟨RX12, "heat", "(I)I"⟩
abbrev cX12_passHours : ByteArray := prog_1_method_32_code
def yX12_passHours : MethodName := ⟨RX12, "passHours", "(I)I"⟩
abbrev cX12_coinsAfter : ByteArray := prog_1_method_33_code
def yX12_coinsAfter : MethodName := ⟨RX12, "coinsAfter", "(I)I"⟩
abbrev cX12_hoursUntilStorm : ByteArray := prog_1_method_34_code
def yX12_hoursUntilStorm : MethodName := ⟨RX12, "hoursUntilStorm", "()I"⟩
abbrev cX12_hoursUntilServed : ByteArray := prog_1_method_35_code
def yX12_hoursUntilServed : MethodName := ⟨RX12, "hoursUntilServed", "(I)I"⟩
abbrev cX12_bestToSteep : ByteArray := prog_1_method_36_code
def yX12_bestToSteep : MethodName := ⟨RX12, "bestToSteep", "()I"⟩
abbrev cX12_meanForce : ByteArray := prog_1_method_37_code
def yX12_meanForce : MethodName := ⟨RX12, "meanForce", "()D"⟩
abbrev cX12_digest : ByteArray := prog_1_method_38_code
def yX12_digest : MethodName := ⟨RX12, "digest", "()J"⟩
abbrev cX12_requireFront : ByteArray := prog_1_method_39_code
def yX12_requireFront : MethodName := ⟨RX12, "requireFront", "(I)V"⟩
abbrev cX12_requireGuest : ByteArray := prog_1_method_40_code
def yX12_requireGuest : MethodName := ⟨RX12, "requireGuest", "(I)V"⟩
abbrev cX12_requireHours : ByteArray := prog_1_method_41_code
def yX12_requireHours : MethodName := ⟨RX12, "requireHours", "(I)V"⟩
abbrev cX12_oneIf : ByteArray := prog_1_method_42_code
def yX12_oneIf : MethodName := ⟨RX12, "oneIf", "(Z)I"⟩
abbrev cX12_countTrue : ByteArray := prog_1_method_43_code
def yX12_countTrue : MethodName := ⟨RX12, "countTrue", "([ZI)I"⟩
def RX13 : String := "WeatherTeaLaw$Dice"
def TX13 : u_T := fun k => match k with
  | _ => ("WeatherTeaLaw$Dice", "state", "I", false)
def tyX13 : Nat → FieldType := fun k => match k with
  | _ => .int
abbrev wsX130 : List Cond := u_ws RX13 TX13 1
theorem nmX13 : ∀ a, a < 1 → ∀ b, b < 1 → a ≠ b → (TX13 a).2.1 ≠ (TX13 b).2.1 := by decide +kernel
theorem tyX13_ok : ∀ k, k < 1 → parseFieldDescriptor (TX13 k).2.2.1 = some (tyX13 k) := by decide +kernel
abbrev cX13_init : ByteArray := prog_15_method_1_code
def yX13_init : MethodName := ⟨RX13, "<init>", "(I)V"⟩
abbrev cX13_next : ByteArray := prog_15_method_2_code
def yX13_next : MethodName := ⟨RX13, "next", "(I)I"⟩
def RX14 : String := "WeatherTeaLaw$Front"
def TX14 : u_T := fun k => match k with
  | 0 => ("WeatherTeaLaw$Front", "isWarm", "Z", false)
  | 1 => ("WeatherTeaLaw$Front", "force", "I", false)
  | 2 => ("WeatherTeaLaw$Front", "at", "I", false)
  | 3 => ("WeatherTeaLaw$Front", "stays", "I", false)
  | _ => ("WeatherTeaLaw$Front", "place", "I", false)
def tyX14 : Nat → FieldType := fun k => match k with
  | 0 => .boolean
  | 1 => .int
  | 2 => .int
  | 3 => .int
  | _ => .int
abbrev wsX140 : List Cond := u_ws RX14 TX14 5
theorem nmX14 : ∀ a, a < 5 → ∀ b, b < 5 → a ≠ b → (TX14 a).2.1 ≠ (TX14 b).2.1 := by decide +kernel
theorem tyX14_ok : ∀ k, k < 5 → parseFieldDescriptor (TX14 k).2.2.1 = some (tyX14 k) := by decide +kernel
abbrev cX14_init : ByteArray := prog_16_method_1_code
def yX14_init : MethodName := ⟨RX14, "<init>", "()V"⟩
def RX15 : String := "WeatherTeaLaw$Guest"
def TX15 : u_T := fun k => match k with
  | 0 => ("WeatherTeaLaw$Guest", "at", "I", false)
  | 1 => ("WeatherTeaLaw$Guest", "low", "I", false)
  | 2 => ("WeatherTeaLaw$Guest", "high", "I", false)
  | 3 => ("WeatherTeaLaw$Guest", "nerve", "I", false)
  | _ => ("WeatherTeaLaw$Guest", "place", "I", false)
def tyX15 : Nat → FieldType := fun k => match k with
  | 0 => .int
  | 1 => .int
  | 2 => .int
  | 3 => .int
  | _ => .int
abbrev wsX150 : List Cond := u_ws RX15 TX15 5
theorem nmX15 : ∀ a, a < 5 → ∀ b, b < 5 → a ≠ b → (TX15 a).2.1 ≠ (TX15 b).2.1 := by decide +kernel
theorem tyX15_ok : ∀ k, k < 5 → parseFieldDescriptor (TX15 k).2.2.1 = some (tyX15 k) := by decide +kernel
abbrev cX15_init : ByteArray := prog_17_method_1_code
def yX15_init : MethodName := ⟨RX15, "<init>", "()V"⟩
def RX16 : String := "WeatherTeaLaw$Node"
def TX16 : u_T := fun k => match k with
  | 0 => ("WeatherTeaLaw$Node", "sort", "I", true)
  | 1 => ("WeatherTeaLaw$Node", "n", "I", true)
  | 2 => ("WeatherTeaLaw$Node", "a", "LWeatherTeaLaw$Node;", true)
  | _ => ("WeatherTeaLaw$Node", "b", "LWeatherTeaLaw$Node;", true)
def tyX16 : Nat → FieldType := fun k => match k with
  | 0 => .int
  | 1 => .int
  | 2 => .object "WeatherTeaLaw$Node"
  | _ => .object "WeatherTeaLaw$Node"
abbrev wsX160 : List Cond := u_ws RX16 TX16 4
theorem nmX16 : ∀ a, a < 4 → ∀ b, b < 4 → a ≠ b → (TX16 a).2.1 ≠ (TX16 b).2.1 := by decide +kernel
theorem tyX16_ok : ∀ k, k < 4 → parseFieldDescriptor (TX16 k).2.2.1 = some (tyX16 k) := by decide +kernel
abbrev cX16_init : ByteArray := prog_18_method_1_code
def yX16_init : MethodName := ⟨RX16, "<init>", "(IILWeatherTeaLaw$Node;LWeatherTeaLaw$Node;)V"⟩
abbrev cX16_sum : ByteArray := prog_18_method_2_code
def yX16_sum : MethodName := ⟨RX16, "sum", "(LWeatherTeaLaw$Dice;II)LWeatherTeaLaw$Node;"⟩
abbrev cX16_test : ByteArray := prog_18_method_3_code
def yX16_test : MethodName := ⟨RX16, "test", "(LWeatherTeaLaw$Dice;III)LWeatherTeaLaw$Node;"⟩
abbrev cX16_text : ByteArray := prog_18_method_4_code
def yX16_text : MethodName := ⟨RX16, "text", "()Ljava/lang/String;"⟩
abbrev cX16_value : ByteArray := prog_18_method_5_code
def yX16_value : MethodName := ⟨RX16, "value", "(LWeatherTeaLaw$Pot;)I"⟩
abbrev cX16_both : ByteArray := prog_18_method_6_code
def yX16_both : MethodName := ⟨RX16, "both", "(III)I"⟩
def RX17 : String := "WeatherTeaLaw$Order"
def TX17 : u_T := fun k => match k with
  | 0 => ("WeatherTeaLaw$Order", "does", "I", true)
  | 1 => ("WeatherTeaLaw$Order", "whom", "I", true)
  | _ => ("WeatherTeaLaw$Order", "test", "LWeatherTeaLaw$Node;", true)
def tyX17 : Nat → FieldType := fun k => match k with
  | 0 => .int
  | 1 => .int
  | _ => .object "WeatherTeaLaw$Node"
abbrev wsX170 : List Cond := u_ws RX17 TX17 3
theorem nmX17 : ∀ a, a < 3 → ∀ b, b < 3 → a ≠ b → (TX17 a).2.1 ≠ (TX17 b).2.1 := by decide +kernel
theorem tyX17_ok : ∀ k, k < 3 → parseFieldDescriptor (TX17 k).2.2.1 = some (tyX17 k) := by decide +kernel
abbrev cX17_init : ByteArray := prog_19_method_1_code
def yX17_init : MethodName := ⟨RX17, "<init>", "(LWeatherTeaLaw$Dice;II)V"⟩
abbrev cX17_text : ByteArray := prog_19_method_2_code
def yX17_text : MethodName := ⟨RX17, "text", "()Ljava/lang/String;"⟩
abbrev cX17_carryOut : ByteArray := prog_19_method_3_code
def yX17_carryOut : MethodName := ⟨RX17, "carryOut", "(LWeatherTeaLaw$Pot;)V"⟩
def RX18 : String := "WeatherTeaLaw$Pot"
def TX18 : u_T := fun k => match k with
  | 0 => ("WeatherTeaLaw$Pot", "fronts", "[LWeatherTeaLaw$Front;", false)
  | 1 => ("WeatherTeaLaw$Pot", "guests", "[LWeatherTeaLaw$Guest;", false)
  | 2 => ("WeatherTeaLaw$Pot", "orders", "[LWeatherTeaLaw$Order;", false)
  | 3 => ("WeatherTeaLaw$Pot", "hour", "I", false)
  | 4 => ("WeatherTeaLaw$Pot", "warmth", "I", false)
  | 5 => ("WeatherTeaLaw$Pot", "strength", "I", false)
  | 6 => ("WeatherTeaLaw$Pot", "charge", "I", false)
  | 7 => ("WeatherTeaLaw$Pot", "lemons", "I", false)
  | 8 => ("WeatherTeaLaw$Pot", "saucers", "I", false)
  | 9 => ("WeatherTeaLaw$Pot", "coins", "I", false)
  | _ => ("WeatherTeaLaw$Pot", "storms", "I", false)
def tyX18 : Nat → FieldType := fun k => match k with
  | 0 => .array (.object "WeatherTeaLaw$Front")
  | 1 => .array (.object "WeatherTeaLaw$Guest")
  | 2 => .array (.object "WeatherTeaLaw$Order")
  | 3 => .int
  | 4 => .int
  | 5 => .int
  | 6 => .int
  | 7 => .int
  | 8 => .int
  | 9 => .int
  | _ => .int
abbrev wsX180 : List Cond := u_ws RX18 TX18 11
theorem nmX18 : ∀ a, a < 11 → ∀ b, b < 11 → a ≠ b → (TX18 a).2.1 ≠ (TX18 b).2.1 := by decide +kernel
theorem tyX18_ok : ∀ k, k < 11 → parseFieldDescriptor (TX18 k).2.2.1 = some (tyX18 k) := by decide +kernel
abbrev cX18_init : ByteArray := prog_20_method_1_code
def yX18_init : MethodName := ⟨RX18, "<init>", "()V"⟩
abbrev cX18_likes : ByteArray := prog_20_method_3_code
def yX18_likes : MethodName := ⟨RX18, "likes", "(LWeatherTeaLaw$Guest;I)Z"⟩
abbrev cX18_isSteeped : ByteArray := prog_20_method_4_code
def yX18_isSteeped : MethodName := ⟨RX18, "isSteeped", "(I)Z"⟩
abbrev cX18_isSqueezed : ByteArray := prog_20_method_5_code
def yX18_isSqueezed : MethodName := ⟨RX18, "isSqueezed", "()Z"⟩
abbrev cX18_isCalmed : ByteArray := prog_20_method_6_code
def yX18_isCalmed : MethodName := ⟨RX18, "isCalmed", "()Z"⟩
abbrev cX18_isServed : ByteArray := prog_20_method_7_code
def yX18_isServed : MethodName := ⟨RX18, "isServed", "(I)Z"⟩
abbrev cX18_come : ByteArray := prog_20_method_8_code
def yX18_come : MethodName := ⟨RX18, "come", "()V"⟩
abbrev cX18_pass : ByteArray := prog_20_method_9_code
def yX18_pass : MethodName := ⟨RX18, "pass", "()I"⟩
abbrev cX18_pass_ : ByteArray := prog_20_method_10_code
def yX18_pass_ : MethodName := ⟨RX18, "pass", "(I)I"⟩
abbrev cX18_guestsAt : ByteArray := prog_20_method_11_code
def yX18_guestsAt : MethodName := ⟨RX18, "guestsAt", "(I)I"⟩
abbrev cX18_isSame : ByteArray := prog_20_method_13_code
def yX18_isSame : MethodName := ⟨RX18, "isSame", "(LWeatherTea;)Z"⟩
def RX19 : String := "WeatherTeaModel$Plan"
def TX19 : u_T := fun k => match k with
  | _ => ("", "", "", false)
def tyX19 : Nat → FieldType := fun k => match k with
  | _ => .int
abbrev wsX190 : List Cond := u_ws RX19 TX19 0
theorem nmX19 : ∀ a, a < 0 → ∀ b, b < 0 → a ≠ b → (TX19 a).2.1 ≠ (TX19 b).2.1 := by decide +kernel
theorem tyX19_ok : ∀ k, k < 0 → parseFieldDescriptor (TX19 k).2.2.1 = some (tyX19 k) := by decide +kernel
def RX20 : String := "WeatherTeaModel"
def TX20 : u_T := fun k => match k with
  | _ => ("", "", "", false)
def tyX20 : Nat → FieldType := fun k => match k with
  | _ => .int
abbrev wsX200 : List Cond := u_ws RX20 TX20 0
theorem nmX20 : ∀ a, a < 0 → ∀ b, b < 0 → a ≠ b → (TX20 a).2.1 ≠ (TX20 b).2.1 := by decide +kernel
theorem tyX20_ok : ∀ k, k < 0 → parseFieldDescriptor (TX20 k).2.2.1 = some (tyX20 k) := by decide +kernel
def RJ5 : String := "java/lang/AbstractStringBuilder"
def TJ5 : u_T := fun k => match k with
  | _ => ("", "", "", false)
def tyJ5 : Nat → FieldType := fun k => match k with
  | _ => .int
abbrev wsJ50 : List Cond := u_ws RJ5 TJ5 0
theorem nmJ5 : ∀ a, a < 0 → ∀ b, b < 0 → a ≠ b → (TJ5 a).2.1 ≠ (TJ5 b).2.1 := by decide +kernel
theorem tyJ5_ok : ∀ k, k < 0 → parseFieldDescriptor (TJ5 k).2.2.1 = some (tyJ5 k) := by decide +kernel
abbrev cJ5_init_d00df : ByteArray := prog_23_method_2_code
def yJ5_init_d00df : MethodName := ⟨RJ5, "<init>", "(I)V"⟩
abbrev cJ5_length_8abf5 : ByteArray := prog_23_method_6_code
def yJ5_length_8abf5 : MethodName := ⟨RJ5, "length", "()I"⟩
abbrev cJ5_ensureCapacityInternal_d00df : ByteArray := prog_23_method_9_code
def yJ5_ensureCapacityInternal_d00df : MethodName := ⟨RJ5, "ensureCapacityInternal", "(I)V"⟩
abbrev cJ5_newCapacity_0f7a4 : ByteArray := prog_23_method_10_code
def yJ5_newCapacity_0f7a4 : MethodName := ⟨RJ5, "newCapacity", "(I)I"⟩
abbrev cJ5_inflate_da8c8 : ByteArray := prog_23_method_11_code
def yJ5_inflate_da8c8 : MethodName := ⟨RJ5, "inflate", "()V"⟩
abbrev cJ5_append_cf1ce : ByteArray := prog_23_method_22_code
def yJ5_append_cf1ce : MethodName := ⟨RJ5, "append", "(Ljava/lang/String;)Ljava/lang/AbstractStringBuilder;"⟩
abbrev cJ5_appendNull_278bc : ByteArray := prog_23_method_26_code
def yJ5_appendNull_278bc : MethodName := ⟨RJ5, "appendNull", "()Ljava/lang/AbstractStringBuilder;"⟩
abbrev cJ5_append_c97b9 : ByteArray := prog_23_method_32_code
def yJ5_append_c97b9 : MethodName := ⟨RJ5, "append", "(I)Ljava/lang/AbstractStringBuilder;"⟩
abbrev cJ5_getValue_6d5f1 : ByteArray := prog_23_method_64_code
def yJ5_getValue_6d5f1 : MethodName := ⟨RJ5, "getValue", "()[B"⟩
abbrev cJ5_isLatin1_aae02 : ByteArray := prog_23_method_68_code
def yJ5_isLatin1_aae02 : MethodName := ⟨RJ5, "isLatin1", "()Z"⟩
abbrev cJ5_inflateIfNeededFor_a7421 : ByteArray := prog_23_method_71_code
def yJ5_inflateIfNeededFor_a7421 : MethodName := ⟨RJ5, "inflateIfNeededFor", "(Ljava/lang/String;)V"⟩
abbrev cJ5_putStringAt_47b60 : ByteArray := prog_23_method_73_code
def yJ5_putStringAt_47b60 : MethodName := ⟨RJ5, "putStringAt", "(ILjava/lang/String;)V"⟩
def RJx8e188 : String := "java/lang/Cloneable"
def TJx8e188 : u_T := fun k => match k with
  | _ => ("", "", "", false)
def tyJx8e188 : Nat → FieldType := fun k => match k with
  | _ => .int
abbrev wsJx8e1880 : List Cond := u_ws RJx8e188 TJx8e188 0
theorem nmJx8e188 : ∀ a, a < 0 → ∀ b, b < 0 → a ≠ b → (TJx8e188 a).2.1 ≠ (TJx8e188 b).2.1 := by decide +kernel
theorem tyJx8e188_ok : ∀ k, k < 0 → parseFieldDescriptor (TJx8e188 k).2.2.1 = some (tyJx8e188 k) := by decide +kernel
def RJx29ce0 : String := "java/lang/Enum"
def TJx29ce0 : u_T := fun k => match k with
  | _ => ("", "", "", false)
def tyJx29ce0 : Nat → FieldType := fun k => match k with
  | _ => .int
abbrev wsJx29ce00 : List Cond := u_ws RJx29ce0 TJx29ce0 0
theorem nmJx29ce0 : ∀ a, a < 0 → ∀ b, b < 0 → a ≠ b → (TJx29ce0 a).2.1 ≠ (TJx29ce0 b).2.1 := by decide +kernel
theorem tyJx29ce0_ok : ∀ k, k < 0 → parseFieldDescriptor (TJx29ce0 k).2.2.1 = some (tyJx29ce0 k) := by decide +kernel
abbrev cJx29ce0_ordinal_8abf5 : ByteArray := prog_25_method_2_code
def yJx29ce0_ordinal_8abf5 : MethodName := ⟨RJx29ce0, "ordinal", "()I"⟩
def RJ6 : String := "java/lang/Integer"
def TJ6 : u_T := fun k => match k with
  | _ => ("", "", "", false)
def tyJ6 : Nat → FieldType := fun k => match k with
  | _ => .int
abbrev wsJ60 : List Cond := u_ws RJ6 TJ6 0
theorem nmJ6 : ∀ a, a < 0 → ∀ b, b < 0 → a ≠ b → (TJ6 a).2.1 ≠ (TJ6 b).2.1 := by decide +kernel
theorem tyJ6_ok : ∀ k, k < 0 → parseFieldDescriptor (TJ6 k).2.2.1 = some (tyJ6 k) := by decide +kernel
abbrev cJ6_getChars_ba4f3 : ByteArray := prog_30_method_12_code
def yJ6_getChars_ba4f3 : MethodName := ⟨RJ6, "getChars", "(II[B)I"⟩
abbrev cJ6_stringSize_0f7a4 : ByteArray := prog_30_method_13_code
def yJ6_stringSize_0f7a4 : MethodName := ⟨RJ6, "stringSize", "(I)I"⟩
abbrev cJ6_compare_7cf53 : ByteArray := prog_30_method_40_code
def yJ6_compare_7cf53 : MethodName := ⟨RJ6, "compare", "(II)I"⟩
def RJ9 : String := "java/lang/Math"
def TJ9 : u_T := fun k => match k with
  | _ => ("", "", "", false)
def tyJ9 : Nat → FieldType := fun k => match k with
  | _ => .int
abbrev wsJ90 : List Cond := u_ws RJ9 TJ9 0
theorem nmJ9 : ∀ a, a < 0 → ∀ b, b < 0 → a ≠ b → (TJ9 a).2.1 ≠ (TJ9 b).2.1 := by decide +kernel
theorem tyJ9_ok : ∀ k, k < 0 → parseFieldDescriptor (TJ9 k).2.2.1 = some (tyJ9 k) := by decide +kernel
abbrev cJ9_max_7cf53 : ByteArray := prog_31_method_65_code
def yJ9_max_7cf53 : MethodName := ⟨RJ9, "max", "(II)I"⟩
abbrev cJ9_min_7cf53 : ByteArray := prog_31_method_69_code
def yJ9_min_7cf53 : MethodName := ⟨RJ9, "min", "(II)I"⟩
def RJ0 : String := "java/lang/String"
def TJ0 : u_T := fun k => match k with
  | 0 => ("java/lang/String", "value", "[B", true)
  | 1 => ("java/lang/String", "coder", "B", true)
  | 2 => ("java/lang/String", "hash", "I", false)
  | _ => ("java/lang/String", "hashIsZero", "Z", false)
def tyJ0 : Nat → FieldType := fun k => match k with
  | 0 => .array .byte
  | 1 => .byte
  | 2 => .int
  | _ => .boolean
abbrev wsJ00 : List Cond := u_ws RJ0 TJ0 4
theorem nmJ0 : ∀ a, a < 4 → ∀ b, b < 4 → a ≠ b → (TJ0 a).2.1 ≠ (TJ0 b).2.1 := by decide +kernel
theorem tyJ0_ok : ∀ k, k < 4 → parseFieldDescriptor (TJ0 k).2.2.1 = some (tyJ0 k) := by decide +kernel
abbrev cJ0_init_81219 : ByteArray := prog_33_method_53_code
def yJ0_init_81219 : MethodName := ⟨RJ0, "<init>", "(Ljava/lang/StringBuilder;)V"⟩
abbrev cJ0_length_8abf5 : ByteArray := prog_33_method_54_code
def yJ0_length_8abf5 : MethodName := ⟨RJ0, "length", "()I"⟩
abbrev cJ0_charAt_5068e : ByteArray := prog_33_method_56_code
def yJ0_charAt_5068e : MethodName := ⟨RJ0, "charAt", "(I)C"⟩
abbrev cJ0_getBytes_840e7 : ByteArray := prog_33_method_147_code
def yJ0_getBytes_840e7 : MethodName := ⟨RJ0, "getBytes", "([BIB)V"⟩
abbrev cJ0_init_db425 : ByteArray := prog_33_method_150_code
def yJ0_init_db425 : MethodName := ⟨RJ0, "<init>", "(Ljava/lang/AbstractStringBuilder;Ljava/lang/Void;)V"⟩
abbrev cJ0_coder_7d493 : ByteArray := prog_33_method_152_code
def yJ0_coder_7d493 : MethodName := ⟨RJ0, "coder", "()B"⟩
abbrev cJ0_isLatin1_aae02 : ByteArray := prog_33_method_154_code
def yJ0_isLatin1_aae02 : MethodName := ⟨RJ0, "isLatin1", "()Z"⟩
abbrev cJ0_checkIndex_df160 : ByteArray := prog_33_method_155_code
def yJ0_checkIndex_df160 : MethodName := ⟨RJ0, "checkIndex", "(II)V"⟩
abbrev cJ0_checkBoundsOffCount_cabcc : ByteArray := prog_33_method_157_code
def yJ0_checkBoundsOffCount_cabcc : MethodName := ⟨RJ0, "checkBoundsOffCount", "(III)I"⟩
abbrev cJ0_checkBoundsBeginEnd_23922 : ByteArray := prog_33_method_158_code
def yJ0_checkBoundsBeginEnd_23922 : MethodName := ⟨RJ0, "checkBoundsBeginEnd", "(III)V"⟩
def RJ4 : String := "java/lang/StringBuilder"
def TJ4 : u_T := fun k => match k with
  | 0 => ("java/lang/AbstractStringBuilder", "value", "[B", false)
  | 1 => ("java/lang/AbstractStringBuilder", "coder", "B", false)
  | 2 => ("java/lang/AbstractStringBuilder", "maybeLatin1", "Z", false)
  | _ => ("java/lang/AbstractStringBuilder", "count", "I", false)
def tyJ4 : Nat → FieldType := fun k => match k with
  | 0 => .array .byte
  | 1 => .byte
  | 2 => .boolean
  | _ => .int
abbrev wsJ40 : List Cond := u_ws RJ4 TJ4 4
theorem nmJ4 : ∀ a, a < 4 → ∀ b, b < 4 → a ≠ b → (TJ4 a).2.1 ≠ (TJ4 b).2.1 := by decide +kernel
theorem tyJ4_ok : ∀ k, k < 4 → parseFieldDescriptor (TJ4 k).2.2.1 = some (tyJ4 k) := by decide +kernel
abbrev cJ4_init_da8c8 : ByteArray := prog_34_method_1_code
def yJ4_init_da8c8 : MethodName := ⟨RJ4, "<init>", "()V"⟩
abbrev cJ4_append_15ec4 : ByteArray := prog_34_method_7_code
def yJ4_append_15ec4 : MethodName := ⟨RJ4, "append", "(Ljava/lang/String;)Ljava/lang/StringBuilder;"⟩
abbrev cJ4_append_bf812 : ByteArray := prog_34_method_15_code
def yJ4_append_bf812 : MethodName := ⟨RJ4, "append", "(I)Ljava/lang/StringBuilder;"⟩
abbrev cJ4_toString_0e30d : ByteArray := prog_34_method_42_code
def yJ4_toString_0e30d : MethodName := ⟨RJ4, "toString", "()Ljava/lang/String;"⟩
abbrev cJ4_length_8abf5 : ByteArray := prog_34_method_93_code
def yJ4_length_8abf5 : MethodName := ⟨RJ4, "length", "()I"⟩
def RJ1 : String := "java/lang/StringLatin1"
def TJ1 : u_T := fun k => match k with
  | _ => ("", "", "", false)
def tyJ1 : Nat → FieldType := fun k => match k with
  | _ => .int
abbrev wsJ10 : List Cond := u_ws RJ1 TJ1 0
theorem nmJ1 : ∀ a, a < 0 → ∀ b, b < 0 → a ≠ b → (TJ1 a).2.1 ≠ (TJ1 b).2.1 := by decide +kernel
theorem tyJ1_ok : ∀ k, k < 0 → parseFieldDescriptor (TJ1 k).2.2.1 = some (tyJ1 k) := by decide +kernel
abbrev cJ1_charAt_3b067 : ByteArray := prog_35_method_2_code
def yJ1_charAt_3b067 : MethodName := ⟨RJ1, "charAt", "([BI)C"⟩
abbrev cJ1_inflate_0e8fd : ByteArray := prog_35_method_50_code
def yJ1_inflate_0e8fd : MethodName := ⟨RJ1, "inflate", "([BI[BII)V"⟩
def RJ2 : String := "java/lang/StringUTF16"
def TJ2 : u_T := fun k => match k with
  | _ => ("", "", "", false)
def tyJ2 : Nat → FieldType := fun k => match k with
  | _ => .int
abbrev wsJ20 : List Cond := u_ws RJ2 TJ2 0
theorem nmJ2 : ∀ a, a < 0 → ∀ b, b < 0 → a ≠ b → (TJ2 a).2.1 ≠ (TJ2 b).2.1 := by decide +kernel
theorem tyJ2_ok : ∀ k, k < 0 → parseFieldDescriptor (TJ2 k).2.2.1 = some (tyJ2 k) := by decide +kernel
abbrev cJ2_newBytesFor_77867 : ByteArray := prog_36_method_2_code
def yJ2_newBytesFor_77867 : MethodName := ⟨RJ2, "newBytesFor", "(I)[B"⟩
abbrev cJ2_newBytesLength_0f7a4 : ByteArray := prog_36_method_3_code
def yJ2_newBytesLength_0f7a4 : MethodName := ⟨RJ2, "newBytesLength", "(I)I"⟩
abbrev cJ2_putChar_b72d1 : ByteArray := prog_36_method_4_code
def yJ2_putChar_b72d1 : MethodName := ⟨RJ2, "putChar", "([BII)V"⟩
abbrev cJ2_getChar_3b067 : ByteArray := prog_36_method_5_code
def yJ2_getChar_3b067 : MethodName := ⟨RJ2, "getChar", "([BI)C"⟩
abbrev cJ2_length_9d52b : ByteArray := prog_36_method_6_code
def yJ2_length_9d52b : MethodName := ⟨RJ2, "length", "([B)I"⟩
abbrev cJ2_coderFromArrayLen_85cad : ByteArray := prog_36_method_15_code
def yJ2_coderFromArrayLen_85cad : MethodName := ⟨RJ2, "coderFromArrayLen", "([BI)B"⟩
abbrev cJ2_compress_39247 : ByteArray := prog_36_method_17_code
def yJ2_compress_39247 : MethodName := ⟨RJ2, "compress", "([BII)[B"⟩
abbrev cJ2_compress_5af95 : ByteArray := prog_36_method_22_code
def yJ2_compress_5af95 : MethodName := ⟨RJ2, "compress", "([BI[BII)I"⟩
abbrev cJ2_getChars_46870 : ByteArray := prog_36_method_77_code
def yJ2_getChars_46870 : MethodName := ⟨RJ2, "getChars", "(III[B)I"⟩
abbrev cJ2_putCharsAt_cd4e5 : ByteArray := prog_36_method_81_code
def yJ2_putCharsAt_cd4e5 : MethodName := ⟨RJ2, "putCharsAt", "([BICCCC)I"⟩
abbrev cJ2_charAt_3b067 : ByteArray := prog_36_method_83_code
def yJ2_charAt_3b067 : MethodName := ⟨RJ2, "charAt", "([BI)C"⟩
abbrev cJ2_inflate_0e8fd : ByteArray := prog_36_method_86_code
def yJ2_inflate_0e8fd : MethodName := ⟨RJ2, "inflate", "([BI[BII)V"⟩
abbrev cJ2_getChars_ba4f3 : ByteArray := prog_36_method_89_code
def yJ2_getChars_ba4f3 : MethodName := ⟨RJ2, "getChars", "(II[B)I"⟩
abbrev cJ2_checkIndex_2214a : ByteArray := prog_36_method_91_code
def yJ2_checkIndex_2214a : MethodName := ⟨RJ2, "checkIndex", "(I[B)V"⟩
abbrev cJ2_checkBoundsBeginEnd_d044e : ByteArray := prog_36_method_93_code
def yJ2_checkBoundsBeginEnd_d044e : MethodName := ⟨RJ2, "checkBoundsBeginEnd", "(II[B)V"⟩
abbrev cJ2_checkBoundsOffCount_d044e : ByteArray := prog_36_method_94_code
def yJ2_checkBoundsOffCount_d044e : MethodName := ⟨RJ2, "checkBoundsOffCount", "(II[B)V"⟩
def RJ10 : String := "java/lang/System"
def TJ10 : u_T := fun k => match k with
  | _ => ("", "", "", false)
def tyJ10 : Nat → FieldType := fun k => match k with
  | _ => .int
abbrev wsJ100 : List Cond := u_ws RJ10 TJ10 0
theorem nmJ10 : ∀ a, a < 0 → ∀ b, b < 0 → a ≠ b → (TJ10 a).2.1 ≠ (TJ10 b).2.1 := by decide +kernel
theorem tyJ10_ok : ∀ k, k < 0 → parseFieldDescriptor (TJ10 k).2.2.1 = some (tyJ10 k) := by decide +kernel
def RJ7 : String := "java/util/Arrays"
def TJ7 : u_T := fun k => match k with
  | _ => ("", "", "", false)
def tyJ7 : Nat → FieldType := fun k => match k with
  | _ => .int
abbrev wsJ70 : List Cond := u_ws RJ7 TJ7 0
theorem nmJ7 : ∀ a, a < 0 → ∀ b, b < 0 → a ≠ b → (TJ7 a).2.1 ≠ (TJ7 b).2.1 := by decide +kernel
theorem tyJ7_ok : ∀ k, k < 0 → parseFieldDescriptor (TJ7 k).2.2.1 = some (tyJ7 k) := by decide +kernel
abbrev cJ7_copyOf_9075b : ByteArray := prog_39_method_121_code
def yJ7_copyOf_9075b : MethodName := ⟨RJ7, "copyOf", "([BI)[B"⟩
abbrev cJ7_checkLength_df160 : ByteArray := prog_39_method_131_code
def yJ7_checkLength_df160 : MethodName := ⟨RJ7, "checkLength", "(II)V"⟩
abbrev cJ7_copyOfRange_39247 : ByteArray := prog_39_method_132_code
def yJ7_copyOfRange_39247 : MethodName := ⟨RJ7, "copyOfRange", "([BII)[B"⟩
abbrev cJ7_copyOfRangeByte_39247 : ByteArray := prog_39_method_133_code
def yJ7_copyOfRangeByte_39247 : MethodName := ⟨RJ7, "copyOfRangeByte", "([BII)[B"⟩
def RJ8 : String := "jdk/internal/util/ArraysSupport"
def TJ8 : u_T := fun k => match k with
  | _ => ("", "", "", false)
def tyJ8 : Nat → FieldType := fun k => match k with
  | _ => .int
abbrev wsJ80 : List Cond := u_ws RJ8 TJ8 0
theorem nmJ8 : ∀ a, a < 0 → ∀ b, b < 0 → a ≠ b → (TJ8 a).2.1 ≠ (TJ8 b).2.1 := by decide +kernel
theorem tyJ8_ok : ∀ k, k < 0 → parseFieldDescriptor (TJ8 k).2.2.1 = some (tyJ8 k) := by decide +kernel
abbrev cJ8_newLength_cabcc : ByteArray := prog_40_method_27_code
def yJ8_newLength_cabcc : MethodName := ⟨RJ8, "newLength", "(III)I"⟩
abbrev cJ8_hugeLength_7cf53 : ByteArray := prog_40_method_28_code
def yJ8_hugeLength_7cf53 : MethodName := ⟨RJ8, "hugeLength", "(II)I"⟩
def RJ3 : String := "jdk/internal/util/Preconditions"
def TJ3 : u_T := fun k => match k with
  | _ => ("", "", "", false)
def tyJ3 : Nat → FieldType := fun k => match k with
  | _ => .int
abbrev wsJ30 : List Cond := u_ws RJ3 TJ3 0
theorem nmJ3 : ∀ a, a < 0 → ∀ b, b < 0 → a ≠ b → (TJ3 a).2.1 ≠ (TJ3 b).2.1 := by decide +kernel
theorem tyJ3_ok : ∀ k, k < 0 → parseFieldDescriptor (TJ3 k).2.2.1 = some (tyJ3 k) := by decide +kernel
abbrev cJ3_checkIndex_8e157 : ByteArray := prog_41_method_11_code
def yJ3_checkIndex_8e157 : MethodName := ⟨RJ3, "checkIndex", "(IILjava/util/function/BiFunction;)I"⟩
abbrev cJ3_checkFromToIndex_8c36e : ByteArray := prog_41_method_12_code
def yJ3_checkFromToIndex_8c36e : MethodName := ⟨RJ3, "checkFromToIndex", "(IIILjava/util/function/BiFunction;)I"⟩
abbrev cJ3_checkFromIndexSize_8c36e : ByteArray := prog_41_method_13_code
def yJ3_checkFromIndexSize_8c36e : MethodName := ⟨RJ3, "checkFromIndexSize", "(IIILjava/util/function/BiFunction;)I"⟩
def RL : String := "WeatherTeaLaw"
abbrev cL_below : ByteArray := method_2_code
def yL_below : MethodName := ⟨RL, "below", "(II)I"⟩
abbrev cL_cell : ByteArray := method_3_code
def yL_cell : MethodName := ⟨RL, "cell", "([II)I"⟩
abbrev cL_taught : ByteArray := method_4_code
def yL_taught : MethodName := ⟨RL, "taught", "(LWeatherTea;Ljava/lang/String;)I"⟩
abbrev cL_drawn : ByteArray := method_5_code
def yL_drawn : MethodName := ⟨RL, "drawn", "(LWeatherTeaLaw$Dice;Ljava/lang/StringBuilder;I)LWeatherTeaLaw$Pot;"⟩
abbrev cL_act : ByteArray := method_6_code
def yL_act : MethodName := ⟨RL, "act", "(LWeatherTea;LWeatherTeaLaw$Pot;LWeatherTeaLaw$Dice;)Z"⟩
abbrev cL_law : ByteArray := code
def yL_law : MethodName := ⟨RL, "law", "([I)Z"⟩
abbrev vwCl : List vw_C := [(RJ0, TJ0, 4), (RJ4, TJ4, 4), (RX2, TX2, 6), (RX4, TX4, 6), (RX6, TX6, 8), (RX7, TX7, 3), (RX8, TX8, 13), (RX9, TX9, 2), (RX10, TX10, 2), (RX11, TX11, 7), (RX12, TX12, 6), (RX13, TX13, 1), (RX14, TX14, 5), (RX15, TX15, 5), (RX16, TX16, 4), (RX17, TX17, 3), (RX18, TX18, 11)]
/-- the tables' words that stay true -/
def BIG : List Cond := lw_tbl.filter goodWord
theorem big_of {w : Cond} {i : Nat} (h : lw_tbl[i]? = some w) (g : goodWord w = true) : w ∈ BIG := List.mem_filter.mpr ⟨List.mem_of_getElem? h, g⟩
theorem qm_0 : (.selects RX12 yX12_requireFront yX12_requireFront : Cond) ∈ BIG := big_of (i := 0) (by decide +kernel) (by decide +kernel)
theorem qm_1 : (.selects "java/lang/Throwable" ⟨"java/lang/Throwable", "fillInStackTrace", "(I)Ljava/lang/Throwable;"⟩ ⟨"java/lang/Throwable", "fillInStackTrace", "(I)Ljava/lang/Throwable;"⟩ : Cond) ∈ BIG := big_of (i := 1) (by decide +kernel) (by decide +kernel)
theorem qm_2 : (.selects RX12 yX12_requireGuest yX12_requireGuest : Cond) ∈ BIG := big_of (i := 2) (by decide +kernel) (by decide +kernel)
theorem qm_3 : (.selects RX9 yX9_step yX9_step : Cond) ∈ BIG := big_of (i := 3) (by decide +kernel) (by decide +kernel)
theorem qm_4 : (.selects RX9 yX9_push yX9_push : Cond) ∈ BIG := big_of (i := 4) (by decide +kernel) (by decide +kernel)
theorem qm_5 : (.selects RX9 yX9_pop yX9_pop : Cond) ∈ BIG := big_of (i := 5) (by decide +kernel) (by decide +kernel)
theorem qm_6 : (.selects RX9 yX9_joinTwo yX9_joinTwo : Cond) ∈ BIG := big_of (i := 6) (by decide +kernel) (by decide +kernel)
theorem qm_7 : (.selects RX8 yX8_follow yX8_follow : Cond) ∈ BIG := big_of (i := 7) (by decide +kernel) (by decide +kernel)
theorem qm_8 : (.selects RX8 yX8_strengthWith yX8_strengthWith : Cond) ∈ BIG := big_of (i := 8) (by decide +kernel) (by decide +kernel)
theorem qm_9 : (.selects RX8 yX8_blow yX8_blow : Cond) ∈ BIG := big_of (i := 9) (by decide +kernel) (by decide +kernel)
theorem qm_10 : (.selects RX8 yX8_storm yX8_storm : Cond) ∈ BIG := big_of (i := 10) (by decide +kernel) (by decide +kernel)
theorem qm_11 : (.selects RX11 yX11_add yX11_add : Cond) ∈ BIG := big_of (i := 11) (by decide +kernel) (by decide +kernel)
theorem qm_12 : (.initialized RL : Cond) ∈ BIG := big_of (i := 12) (by decide +kernel) (by decide +kernel)
theorem qm_13 : (.initialized RX12 : Cond) ∈ BIG := big_of (i := 13) (by decide +kernel) (by decide +kernel)
theorem qm_14 : (.initialized RX10 : Cond) ∈ BIG := big_of (i := 14) (by decide +kernel) (by decide +kernel)
theorem qm_15 : (.initialized RX11 : Cond) ∈ BIG := big_of (i := 15) (by decide +kernel) (by decide +kernel)
theorem qm_16 : (.initialized RJx29ce0 : Cond) ∈ BIG := big_of (i := 16) (by decide +kernel) (by decide +kernel)
theorem qm_17 : (.initialized RX5 : Cond) ∈ BIG := big_of (i := 17) (by decide +kernel) (by decide +kernel)
theorem qm_18 : (.initialized RX8 : Cond) ∈ BIG := big_of (i := 18) (by decide +kernel) (by decide +kernel)
theorem qm_19 : (.initialized RX9 : Cond) ∈ BIG := big_of (i := 19) (by decide +kernel) (by decide +kernel)
theorem qm_20 : (.initialized RX7 : Cond) ∈ BIG := big_of (i := 20) (by decide +kernel) (by decide +kernel)
theorem qm_21 : (.initialized RX2 : Cond) ∈ BIG := big_of (i := 21) (by decide +kernel) (by decide +kernel)
theorem qm_22 : (.initialized RX4 : Cond) ∈ BIG := big_of (i := 22) (by decide +kernel) (by decide +kernel)
theorem qm_23 : (.initialized RX6 : Cond) ∈ BIG := big_of (i := 23) (by decide +kernel) (by decide +kernel)
theorem qm_24 : (.initialized RX13 : Cond) ∈ BIG := big_of (i := 24) (by decide +kernel) (by decide +kernel)
theorem qm_25 : (.initialized RJ5 : Cond) ∈ BIG := big_of (i := 25) (by decide +kernel) (by decide +kernel)
theorem qm_26 : (.initialized RJ4 : Cond) ∈ BIG := big_of (i := 26) (by decide +kernel) (by decide +kernel)
theorem qm_27 : (.initialized RJ0 : Cond) ∈ BIG := big_of (i := 27) (by decide +kernel) (by decide +kernel)
theorem qm_28 : (.initialized RJ2 : Cond) ∈ BIG := big_of (i := 28) (by decide +kernel) (by decide +kernel)
theorem qm_29 : (.initialized RX18 : Cond) ∈ BIG := big_of (i := 29) (by decide +kernel) (by decide +kernel)
theorem qm_30 : (.initialized RX14 : Cond) ∈ BIG := big_of (i := 30) (by decide +kernel) (by decide +kernel)
theorem qm_31 : (.initialized RJ8 : Cond) ∈ BIG := big_of (i := 31) (by decide +kernel) (by decide +kernel)
theorem qm_32 : (.initialized RJ9 : Cond) ∈ BIG := big_of (i := 32) (by decide +kernel) (by decide +kernel)
theorem qm_33 : (.initialized RJ7 : Cond) ∈ BIG := big_of (i := 33) (by decide +kernel) (by decide +kernel)
theorem qm_34 : (.initialized RJ10 : Cond) ∈ BIG := big_of (i := 34) (by decide +kernel) (by decide +kernel)
theorem qm_35 : (.initialized RJ3 : Cond) ∈ BIG := big_of (i := 35) (by decide +kernel) (by decide +kernel)
theorem qm_36 : (.initialized RJ1 : Cond) ∈ BIG := big_of (i := 36) (by decide +kernel) (by decide +kernel)
theorem qm_37 : (.initialized RJ6 : Cond) ∈ BIG := big_of (i := 37) (by decide +kernel) (by decide +kernel)
theorem qm_38 : (.initialized RX15 : Cond) ∈ BIG := big_of (i := 38) (by decide +kernel) (by decide +kernel)
theorem qm_39 : (.initialized RX17 : Cond) ∈ BIG := big_of (i := 39) (by decide +kernel) (by decide +kernel)
theorem qm_40 : (.initialized RX16 : Cond) ∈ BIG := big_of (i := 40) (by decide +kernel) (by decide +kernel)
theorem qm_41 : (.initialized "java/lang/Throwable" : Cond) ∈ BIG := big_of (i := 41) (by decide +kernel) (by decide +kernel)
theorem qm_42 : (.initialized "java/lang/Exception" : Cond) ∈ BIG := big_of (i := 42) (by decide +kernel) (by decide +kernel)
theorem qm_43 : (.initialized "java/lang/RuntimeException" : Cond) ∈ BIG := big_of (i := 43) (by decide +kernel) (by decide +kernel)
theorem qm_44 : (.initialized "java/lang/IllegalStateException" : Cond) ∈ BIG := big_of (i := 44) (by decide +kernel) (by decide +kernel)
theorem qm_45 : (.initialized "java/lang/IllegalArgumentException" : Cond) ∈ BIG := big_of (i := 45) (by decide +kernel) (by decide +kernel)
theorem qm_46 : (.initialized RX3 : Cond) ∈ BIG := big_of (i := 46) (by decide +kernel) (by decide +kernel)
theorem qm_47 : (.initialized RX0 : Cond) ∈ BIG := big_of (i := 47) (by decide +kernel) (by decide +kernel)
theorem qm_48 : (.initialized RX1 : Cond) ∈ BIG := big_of (i := 48) (by decide +kernel) (by decide +kernel)
theorem qm_49 : (.initialized "java/lang/IndexOutOfBoundsException" : Cond) ∈ BIG := big_of (i := 49) (by decide +kernel) (by decide +kernel)
theorem qm_50 : (.classLink RL 20 RX12 : Cond) ∈ BIG := big_of (i := 50) (by decide +kernel) (by decide +kernel)
theorem qm_51 : (.instantiable RX12 6 : Cond) ∈ BIG := big_of (i := 51) (by decide +kernel) (by decide +kernel)
theorem qm_52 : (.methodLink RL 171 yX12_init : Cond) ∈ BIG := big_of (i := 52) (by decide +kernel) (by decide +kernel)
theorem qm_53 : (.instanceMethod yX12_init : Cond) ∈ BIG := big_of (i := 53) (by decide +kernel) (by decide +kernel)
theorem qm_54 : (.code yX12_init cX12_init 1 none : Cond) ∈ BIG := big_of (i := 54) (by decide +kernel) (by decide +kernel)
theorem qm_55 : (.methodLink RX12 1 ⟨"java/lang/Object", "<init>", "()V"⟩ : Cond) ∈ BIG := big_of (i := 55) (by decide +kernel) (by decide +kernel)
theorem qm_56 : (.instanceMethod ⟨"java/lang/Object", "<init>", "()V"⟩ : Cond) ∈ BIG := big_of (i := 56) (by decide +kernel) (by decide +kernel)
theorem qm_57 : (.code ⟨"java/lang/Object", "<init>", "()V"⟩ object_method_1_code 1 none : Cond) ∈ BIG := big_of (i := 57) (by decide +kernel) (by decide +kernel)
theorem qm_58 : (.classLink RX12 7 RX10 : Cond) ∈ BIG := big_of (i := 58) (by decide +kernel) (by decide +kernel)
theorem qm_59 : (.instantiable RX10 2 : Cond) ∈ BIG := big_of (i := 59) (by decide +kernel) (by decide +kernel)
theorem qm_60 : (.methodLink RX12 9 yX10_init : Cond) ∈ BIG := big_of (i := 60) (by decide +kernel) (by decide +kernel)
theorem qm_61 : (.instanceMethod yX10_init : Cond) ∈ BIG := big_of (i := 61) (by decide +kernel) (by decide +kernel)
theorem qm_62 : (.code yX10_init cX10_init 1 none : Cond) ∈ BIG := big_of (i := 62) (by decide +kernel) (by decide +kernel)
theorem qm_63 : (.methodLink RX10 3 ⟨"java/lang/Object", "<init>", "()V"⟩ : Cond) ∈ BIG := big_of (i := 63) (by decide +kernel) (by decide +kernel)
theorem qm_64 : (.fieldLink RX10 9 "WeatherTea$Tape" "bytes" "[B" : Cond) ∈ BIG := big_of (i := 64) (by decide +kernel) (by decide +kernel)
theorem qm_65 : (.fieldLink RX12 44 "WeatherTea$Tape" "length" "I" : Cond) ∈ BIG := big_of (i := 65) (by decide +kernel) (by decide +kernel)
theorem qm_66 : (.fieldLink RX10 15 "WeatherTea$Tape" "length" "I" : Cond) ∈ BIG := big_of (i := 66) (by decide +kernel) (by decide +kernel)
theorem qm_67 : (.fieldLink RX11 46 "WeatherTea$Tape" "length" "I" : Cond) ∈ BIG := big_of (i := 67) (by decide +kernel) (by decide +kernel)
theorem qm_68 : (.laysFinal RX10 RX10 "bytes" "[B" : Cond) ∈ BIG := big_of (i := 68) (by decide +kernel) (by decide +kernel)
theorem qm_70 : (.lays RX10 RX10 "length" "I" : Cond) ∈ BIG := big_of (i := 70) (by decide +kernel) (by decide +kernel)
theorem qm_73 : (.arrayClass .byte : Cond) ∈ BIG := big_of (i := 73) (by decide +kernel) (by decide +kernel)
theorem qm_74 : (.classLink RX12 16 RX11 : Cond) ∈ BIG := big_of (i := 74) (by decide +kernel) (by decide +kernel)
theorem qm_75 : (.instantiable RX11 7 : Cond) ∈ BIG := big_of (i := 75) (by decide +kernel) (by decide +kernel)
theorem qm_76 : (.methodLink RX12 18 yX11_init : Cond) ∈ BIG := big_of (i := 76) (by decide +kernel) (by decide +kernel)
theorem qm_77 : (.instanceMethod yX11_init : Cond) ∈ BIG := big_of (i := 77) (by decide +kernel) (by decide +kernel)
theorem qm_78 : (.code yX11_init cX11_init 2 none : Cond) ∈ BIG := big_of (i := 78) (by decide +kernel) (by decide +kernel)
theorem qm_79 : (.methodLink RX11 3 ⟨"java/lang/Object", "<init>", "()V"⟩ : Cond) ∈ BIG := big_of (i := 79) (by decide +kernel) (by decide +kernel)
theorem qm_80 : (.classLink RX11 9 RX5 : Cond) ∈ BIG := big_of (i := 80) (by decide +kernel) (by decide +kernel)
theorem qm_82 : (.fieldLink RX11 25 "WeatherTea$Kind" "END" "LWeatherTea$Kind;" : Cond) ∈ BIG := big_of (i := 82) (by decide +kernel) (by decide +kernel)
theorem qm_84 : (.fieldLink RX11 11 "WeatherTea$Tokens" "kinds" "[LWeatherTea$Kind;" : Cond) ∈ BIG := big_of (i := 84) (by decide +kernel) (by decide +kernel)
theorem qm_85 : (.fieldLink RX11 17 "WeatherTea$Tokens" "starts" "[I" : Cond) ∈ BIG := big_of (i := 85) (by decide +kernel) (by decide +kernel)
theorem qm_86 : (.fieldLink RX11 21 "WeatherTea$Tokens" "values" "[J" : Cond) ∈ BIG := big_of (i := 86) (by decide +kernel) (by decide +kernel)
theorem qm_87 : (.fieldLink RX11 29 "WeatherTea$Tokens" "count" "I" : Cond) ∈ BIG := big_of (i := 87) (by decide +kernel) (by decide +kernel)
theorem qm_88 : (.fieldLink RX1 9 "WeatherTea$Tokens" "count" "I" : Cond) ∈ BIG := big_of (i := 88) (by decide +kernel) (by decide +kernel)
theorem qm_89 : (.fieldLink RX11 33 "WeatherTea$Tokens" "cursor" "I" : Cond) ∈ BIG := big_of (i := 89) (by decide +kernel) (by decide +kernel)
theorem qm_90 : (.fieldLink RX3 34 "WeatherTea$Tokens" "cursor" "I" : Cond) ∈ BIG := big_of (i := 90) (by decide +kernel) (by decide +kernel)
theorem qm_91 : (.fieldLink RX11 36 "WeatherTea$Tokens" "error" "I" : Cond) ∈ BIG := big_of (i := 91) (by decide +kernel) (by decide +kernel)
theorem qm_92 : (.fieldLink RX1 15 "WeatherTea$Tokens" "error" "I" : Cond) ∈ BIG := big_of (i := 92) (by decide +kernel) (by decide +kernel)
theorem qm_93 : (.fieldLink RX12 80 "WeatherTea$Tokens" "error" "I" : Cond) ∈ BIG := big_of (i := 93) (by decide +kernel) (by decide +kernel)
theorem qm_94 : (.fieldLink RX11 39 "WeatherTea$Tokens" "errorToken" "I" : Cond) ∈ BIG := big_of (i := 94) (by decide +kernel) (by decide +kernel)
theorem qm_95 : (.fieldLink RX12 89 "WeatherTea$Tokens" "errorToken" "I" : Cond) ∈ BIG := big_of (i := 95) (by decide +kernel) (by decide +kernel)
theorem qm_96 : (.laysFinal RX11 RX11 "kinds" "[LWeatherTea$Kind;" : Cond) ∈ BIG := big_of (i := 96) (by decide +kernel) (by decide +kernel)
theorem qm_98 : (.laysFinal RX11 RX11 "starts" "[I" : Cond) ∈ BIG := big_of (i := 98) (by decide +kernel) (by decide +kernel)
theorem qm_100 : (.laysFinal RX11 RX11 "values" "[J" : Cond) ∈ BIG := big_of (i := 100) (by decide +kernel) (by decide +kernel)
theorem qm_102 : (.lays RX11 RX11 "count" "I" : Cond) ∈ BIG := big_of (i := 102) (by decide +kernel) (by decide +kernel)
theorem qm_104 : (.lays RX11 RX11 "cursor" "I" : Cond) ∈ BIG := big_of (i := 104) (by decide +kernel) (by decide +kernel)
theorem qm_106 : (.lays RX11 RX11 "error" "I" : Cond) ∈ BIG := big_of (i := 106) (by decide +kernel) (by decide +kernel)
theorem qm_108 : (.lays RX11 RX11 "errorToken" "I" : Cond) ∈ BIG := big_of (i := 108) (by decide +kernel) (by decide +kernel)
theorem qm_111 : (.arrayClass .int : Cond) ∈ BIG := big_of (i := 111) (by decide +kernel) (by decide +kernel)
theorem qm_112 : (.arrayClass .long : Cond) ∈ BIG := big_of (i := 112) (by decide +kernel) (by decide +kernel)
theorem qm_113 : (.classLink RX12 23 RX8 : Cond) ∈ BIG := big_of (i := 113) (by decide +kernel) (by decide +kernel)
theorem qm_114 : (.instantiable RX8 13 : Cond) ∈ BIG := big_of (i := 114) (by decide +kernel) (by decide +kernel)
theorem qm_115 : (.methodLink RX12 25 yX8_init : Cond) ∈ BIG := big_of (i := 115) (by decide +kernel) (by decide +kernel)
theorem qm_116 : (.instanceMethod yX8_init : Cond) ∈ BIG := big_of (i := 116) (by decide +kernel) (by decide +kernel)
theorem qm_117 : (.code yX8_init cX8_init 1 none : Cond) ∈ BIG := big_of (i := 117) (by decide +kernel) (by decide +kernel)
theorem qm_118 : (.methodLink RX8 3 ⟨"java/lang/Object", "<init>", "()V"⟩ : Cond) ∈ BIG := big_of (i := 118) (by decide +kernel) (by decide +kernel)
theorem qm_119 : (.classLink RX8 9 RX9 : Cond) ∈ BIG := big_of (i := 119) (by decide +kernel) (by decide +kernel)
theorem qm_120 : (.instantiable RX9 2 : Cond) ∈ BIG := big_of (i := 120) (by decide +kernel) (by decide +kernel)
theorem qm_121 : (.methodLink RX8 11 yX9_init : Cond) ∈ BIG := big_of (i := 121) (by decide +kernel) (by decide +kernel)
theorem qm_122 : (.instanceMethod yX9_init : Cond) ∈ BIG := big_of (i := 122) (by decide +kernel) (by decide +kernel)
theorem qm_123 : (.code yX9_init cX9_init 1 none : Cond) ∈ BIG := big_of (i := 123) (by decide +kernel) (by decide +kernel)
theorem qm_124 : (.methodLink RX9 3 ⟨"java/lang/Object", "<init>", "()V"⟩ : Cond) ∈ BIG := big_of (i := 124) (by decide +kernel) (by decide +kernel)
theorem qm_125 : (.fieldLink RX9 9 "WeatherTea$Reckoner" "stack" "[I" : Cond) ∈ BIG := big_of (i := 125) (by decide +kernel) (by decide +kernel)
theorem qm_126 : (.fieldLink RX9 15 "WeatherTea$Reckoner" "height" "I" : Cond) ∈ BIG := big_of (i := 126) (by decide +kernel) (by decide +kernel)
theorem qm_127 : (.laysFinal RX9 RX9 "stack" "[I" : Cond) ∈ BIG := big_of (i := 127) (by decide +kernel) (by decide +kernel)
theorem qm_129 : (.lays RX9 RX9 "height" "I" : Cond) ∈ BIG := big_of (i := 129) (by decide +kernel) (by decide +kernel)
theorem qm_132 : (.classLink RX8 18 RX7 : Cond) ∈ BIG := big_of (i := 132) (by decide +kernel) (by decide +kernel)
theorem qm_133 : (.instantiable RX7 3 : Cond) ∈ BIG := big_of (i := 133) (by decide +kernel) (by decide +kernel)
theorem qm_134 : (.methodLink RX8 20 yX7_init : Cond) ∈ BIG := big_of (i := 134) (by decide +kernel) (by decide +kernel)
theorem qm_135 : (.instanceMethod yX7_init : Cond) ∈ BIG := big_of (i := 135) (by decide +kernel) (by decide +kernel)
theorem qm_136 : (.code yX7_init cX7_init 1 none : Cond) ∈ BIG := big_of (i := 136) (by decide +kernel) (by decide +kernel)
theorem qm_137 : (.methodLink RX7 1 ⟨"java/lang/Object", "<init>", "()V"⟩ : Cond) ∈ BIG := big_of (i := 137) (by decide +kernel) (by decide +kernel)
theorem qm_138 : (.classLink RX7 7 RX2 : Cond) ∈ BIG := big_of (i := 138) (by decide +kernel) (by decide +kernel)
theorem qm_139 : (.instantiable RX2 6 : Cond) ∈ BIG := big_of (i := 139) (by decide +kernel) (by decide +kernel)
theorem qm_140 : (.methodLink RX7 9 yX2_init : Cond) ∈ BIG := big_of (i := 140) (by decide +kernel) (by decide +kernel)
theorem qm_141 : (.instanceMethod yX2_init : Cond) ∈ BIG := big_of (i := 141) (by decide +kernel) (by decide +kernel)
theorem qm_142 : (.code yX2_init cX2_init 1 none : Cond) ∈ BIG := big_of (i := 142) (by decide +kernel) (by decide +kernel)
theorem qm_143 : (.methodLink RX2 3 ⟨"java/lang/Object", "<init>", "()V"⟩ : Cond) ∈ BIG := big_of (i := 143) (by decide +kernel) (by decide +kernel)
theorem qm_144 : (.fieldLink RX2 9 "WeatherTea$Fronts" "names" "[J" : Cond) ∈ BIG := big_of (i := 144) (by decide +kernel) (by decide +kernel)
theorem qm_145 : (.fieldLink RX2 15 "WeatherTea$Fronts" "warm" "[Z" : Cond) ∈ BIG := big_of (i := 145) (by decide +kernel) (by decide +kernel)
theorem qm_146 : (.fieldLink RX8 177 "WeatherTea$Fronts" "warm" "[Z" : Cond) ∈ BIG := big_of (i := 146) (by decide +kernel) (by decide +kernel)
theorem qm_147 : (.fieldLink RX12 171 "WeatherTea$Fronts" "warm" "[Z" : Cond) ∈ BIG := big_of (i := 147) (by decide +kernel) (by decide +kernel)
theorem qm_148 : (.fieldLink RX2 19 "WeatherTea$Fronts" "force" "[I" : Cond) ∈ BIG := big_of (i := 148) (by decide +kernel) (by decide +kernel)
theorem qm_149 : (.fieldLink RX8 109 "WeatherTea$Fronts" "force" "[I" : Cond) ∈ BIG := big_of (i := 149) (by decide +kernel) (by decide +kernel)
theorem qm_150 : (.fieldLink RX12 174 "WeatherTea$Fronts" "force" "[I" : Cond) ∈ BIG := big_of (i := 150) (by decide +kernel) (by decide +kernel)
theorem qm_151 : (.fieldLink RX2 23 "WeatherTea$Fronts" "from" "[I" : Cond) ∈ BIG := big_of (i := 151) (by decide +kernel) (by decide +kernel)
theorem qm_152 : (.fieldLink RX8 70 "WeatherTea$Fronts" "from" "[I" : Cond) ∈ BIG := big_of (i := 152) (by decide +kernel) (by decide +kernel)
theorem qm_153 : (.fieldLink RX2 26 "WeatherTea$Fronts" "hours" "[I" : Cond) ∈ BIG := big_of (i := 153) (by decide +kernel) (by decide +kernel)
theorem qm_154 : (.fieldLink RX8 74 "WeatherTea$Fronts" "hours" "[I" : Cond) ∈ BIG := big_of (i := 154) (by decide +kernel) (by decide +kernel)
theorem qm_155 : (.fieldLink RX7 30 "WeatherTea$Fronts" "count" "I" : Cond) ∈ BIG := big_of (i := 155) (by decide +kernel) (by decide +kernel)
theorem qm_156 : (.fieldLink RX2 29 "WeatherTea$Fronts" "count" "I" : Cond) ∈ BIG := big_of (i := 156) (by decide +kernel) (by decide +kernel)
theorem qm_157 : (.fieldLink RX12 113 "WeatherTea$Fronts" "count" "I" : Cond) ∈ BIG := big_of (i := 157) (by decide +kernel) (by decide +kernel)
theorem qm_158 : (.fieldLink RX1 100 "WeatherTea$Fronts" "count" "I" : Cond) ∈ BIG := big_of (i := 158) (by decide +kernel) (by decide +kernel)
theorem qm_159 : (.fieldLink RX8 176 "WeatherTea$Fronts" "count" "I" : Cond) ∈ BIG := big_of (i := 159) (by decide +kernel) (by decide +kernel)
theorem qm_160 : (.laysFinal RX2 RX2 "names" "[J" : Cond) ∈ BIG := big_of (i := 160) (by decide +kernel) (by decide +kernel)
theorem qm_162 : (.laysFinal RX2 RX2 "warm" "[Z" : Cond) ∈ BIG := big_of (i := 162) (by decide +kernel) (by decide +kernel)
theorem qm_164 : (.laysFinal RX2 RX2 "force" "[I" : Cond) ∈ BIG := big_of (i := 164) (by decide +kernel) (by decide +kernel)
theorem qm_166 : (.laysFinal RX2 RX2 "from" "[I" : Cond) ∈ BIG := big_of (i := 166) (by decide +kernel) (by decide +kernel)
theorem qm_168 : (.laysFinal RX2 RX2 "hours" "[I" : Cond) ∈ BIG := big_of (i := 168) (by decide +kernel) (by decide +kernel)
theorem qm_170 : (.lays RX2 RX2 "count" "I" : Cond) ∈ BIG := big_of (i := 170) (by decide +kernel) (by decide +kernel)
theorem qm_173 : (.arrayClass .boolean : Cond) ∈ BIG := big_of (i := 173) (by decide +kernel) (by decide +kernel)
theorem qm_174 : (.classLink RX7 16 RX4 : Cond) ∈ BIG := big_of (i := 174) (by decide +kernel) (by decide +kernel)
theorem qm_175 : (.instantiable RX4 6 : Cond) ∈ BIG := big_of (i := 175) (by decide +kernel) (by decide +kernel)
theorem qm_176 : (.methodLink RX7 18 yX4_init : Cond) ∈ BIG := big_of (i := 176) (by decide +kernel) (by decide +kernel)
theorem qm_177 : (.instanceMethod yX4_init : Cond) ∈ BIG := big_of (i := 177) (by decide +kernel) (by decide +kernel)
theorem qm_178 : (.code yX4_init cX4_init 1 none : Cond) ∈ BIG := big_of (i := 178) (by decide +kernel) (by decide +kernel)
theorem qm_179 : (.methodLink RX4 3 ⟨"java/lang/Object", "<init>", "()V"⟩ : Cond) ∈ BIG := big_of (i := 179) (by decide +kernel) (by decide +kernel)
theorem qm_180 : (.fieldLink RX4 9 "WeatherTea$Guests" "names" "[J" : Cond) ∈ BIG := big_of (i := 180) (by decide +kernel) (by decide +kernel)
theorem qm_181 : (.fieldLink RX4 15 "WeatherTea$Guests" "from" "[I" : Cond) ∈ BIG := big_of (i := 181) (by decide +kernel) (by decide +kernel)
theorem qm_182 : (.fieldLink RX8 84 "WeatherTea$Guests" "from" "[I" : Cond) ∈ BIG := big_of (i := 182) (by decide +kernel) (by decide +kernel)
theorem qm_183 : (.fieldLink RX4 19 "WeatherTea$Guests" "weakest" "[I" : Cond) ∈ BIG := big_of (i := 183) (by decide +kernel) (by decide +kernel)
theorem qm_184 : (.fieldLink RX8 88 "WeatherTea$Guests" "weakest" "[I" : Cond) ∈ BIG := big_of (i := 184) (by decide +kernel) (by decide +kernel)
theorem qm_185 : (.fieldLink RX4 22 "WeatherTea$Guests" "strongest" "[I" : Cond) ∈ BIG := big_of (i := 185) (by decide +kernel) (by decide +kernel)
theorem qm_186 : (.fieldLink RX8 91 "WeatherTea$Guests" "strongest" "[I" : Cond) ∈ BIG := big_of (i := 186) (by decide +kernel) (by decide +kernel)
theorem qm_187 : (.fieldLink RX4 25 "WeatherTea$Guests" "nerve" "[I" : Cond) ∈ BIG := big_of (i := 187) (by decide +kernel) (by decide +kernel)
theorem qm_188 : (.fieldLink RX8 185 "WeatherTea$Guests" "nerve" "[I" : Cond) ∈ BIG := big_of (i := 188) (by decide +kernel) (by decide +kernel)
theorem qm_189 : (.fieldLink RX4 28 "WeatherTea$Guests" "count" "I" : Cond) ∈ BIG := big_of (i := 189) (by decide +kernel) (by decide +kernel)
theorem qm_190 : (.fieldLink RX7 34 "WeatherTea$Guests" "count" "I" : Cond) ∈ BIG := big_of (i := 190) (by decide +kernel) (by decide +kernel)
theorem qm_191 : (.fieldLink RX12 122 "WeatherTea$Guests" "count" "I" : Cond) ∈ BIG := big_of (i := 191) (by decide +kernel) (by decide +kernel)
theorem qm_192 : (.fieldLink RX8 98 "WeatherTea$Guests" "count" "I" : Cond) ∈ BIG := big_of (i := 192) (by decide +kernel) (by decide +kernel)
theorem qm_193 : (.fieldLink RX1 112 "WeatherTea$Guests" "count" "I" : Cond) ∈ BIG := big_of (i := 193) (by decide +kernel) (by decide +kernel)
theorem qm_194 : (.laysFinal RX4 RX4 "names" "[J" : Cond) ∈ BIG := big_of (i := 194) (by decide +kernel) (by decide +kernel)
theorem qm_196 : (.laysFinal RX4 RX4 "from" "[I" : Cond) ∈ BIG := big_of (i := 196) (by decide +kernel) (by decide +kernel)
theorem qm_198 : (.laysFinal RX4 RX4 "weakest" "[I" : Cond) ∈ BIG := big_of (i := 198) (by decide +kernel) (by decide +kernel)
theorem qm_200 : (.laysFinal RX4 RX4 "strongest" "[I" : Cond) ∈ BIG := big_of (i := 200) (by decide +kernel) (by decide +kernel)
theorem qm_202 : (.laysFinal RX4 RX4 "nerve" "[I" : Cond) ∈ BIG := big_of (i := 202) (by decide +kernel) (by decide +kernel)
theorem qm_204 : (.lays RX4 RX4 "count" "I" : Cond) ∈ BIG := big_of (i := 204) (by decide +kernel) (by decide +kernel)
theorem qm_207 : (.classLink RX7 23 RX6 : Cond) ∈ BIG := big_of (i := 207) (by decide +kernel) (by decide +kernel)
theorem qm_208 : (.instantiable RX6 8 : Cond) ∈ BIG := big_of (i := 208) (by decide +kernel) (by decide +kernel)
theorem qm_209 : (.methodLink RX7 25 yX6_init : Cond) ∈ BIG := big_of (i := 209) (by decide +kernel) (by decide +kernel)
theorem qm_210 : (.instanceMethod yX6_init : Cond) ∈ BIG := big_of (i := 210) (by decide +kernel) (by decide +kernel)
theorem qm_211 : (.code yX6_init cX6_init 2 none : Cond) ∈ BIG := big_of (i := 211) (by decide +kernel) (by decide +kernel)
theorem qm_212 : (.methodLink RX6 3 ⟨"java/lang/Object", "<init>", "()V"⟩ : Cond) ∈ BIG := big_of (i := 212) (by decide +kernel) (by decide +kernel)
theorem qm_213 : (.classLink RX6 9 RX5 : Cond) ∈ BIG := big_of (i := 213) (by decide +kernel) (by decide +kernel)
theorem qm_214 : (.fieldLink RX6 33 "WeatherTea$Kind" "END" "LWeatherTea$Kind;" : Cond) ∈ BIG := big_of (i := 214) (by decide +kernel) (by decide +kernel)
theorem qm_215 : (.fieldLink RX6 11 "WeatherTea$Orders" "deeds" "[LWeatherTea$Kind;" : Cond) ∈ BIG := big_of (i := 215) (by decide +kernel) (by decide +kernel)
theorem qm_216 : (.fieldLink RX8 146 "WeatherTea$Orders" "deeds" "[LWeatherTea$Kind;" : Cond) ∈ BIG := big_of (i := 216) (by decide +kernel) (by decide +kernel)
theorem qm_217 : (.fieldLink RX6 17 "WeatherTea$Orders" "targets" "[I" : Cond) ∈ BIG := big_of (i := 217) (by decide +kernel) (by decide +kernel)
theorem qm_218 : (.fieldLink RX8 150 "WeatherTea$Orders" "targets" "[I" : Cond) ∈ BIG := big_of (i := 218) (by decide +kernel) (by decide +kernel)
theorem qm_219 : (.fieldLink RX6 21 "WeatherTea$Orders" "firstSteps" "[I" : Cond) ∈ BIG := big_of (i := 219) (by decide +kernel) (by decide +kernel)
theorem qm_220 : (.fieldLink RX9 19 "WeatherTea$Orders" "firstSteps" "[I" : Cond) ∈ BIG := big_of (i := 220) (by decide +kernel) (by decide +kernel)
theorem qm_221 : (.fieldLink RX6 24 "WeatherTea$Orders" "endSteps" "[I" : Cond) ∈ BIG := big_of (i := 221) (by decide +kernel) (by decide +kernel)
theorem qm_222 : (.fieldLink RX9 24 "WeatherTea$Orders" "endSteps" "[I" : Cond) ∈ BIG := big_of (i := 222) (by decide +kernel) (by decide +kernel)
theorem qm_223 : (.fieldLink RX6 27 "WeatherTea$Orders" "stepKinds" "[LWeatherTea$Kind;" : Cond) ∈ BIG := big_of (i := 223) (by decide +kernel) (by decide +kernel)
theorem qm_224 : (.fieldLink RX9 27 "WeatherTea$Orders" "stepKinds" "[LWeatherTea$Kind;" : Cond) ∈ BIG := big_of (i := 224) (by decide +kernel) (by decide +kernel)
theorem qm_225 : (.fieldLink RX6 30 "WeatherTea$Orders" "stepValues" "[I" : Cond) ∈ BIG := big_of (i := 225) (by decide +kernel) (by decide +kernel)
theorem qm_226 : (.fieldLink RX9 31 "WeatherTea$Orders" "stepValues" "[I" : Cond) ∈ BIG := big_of (i := 226) (by decide +kernel) (by decide +kernel)
theorem qm_227 : (.fieldLink RX6 37 "WeatherTea$Orders" "count" "I" : Cond) ∈ BIG := big_of (i := 227) (by decide +kernel) (by decide +kernel)
theorem qm_228 : (.fieldLink RX7 35 "WeatherTea$Orders" "count" "I" : Cond) ∈ BIG := big_of (i := 228) (by decide +kernel) (by decide +kernel)
theorem qm_229 : (.fieldLink RX8 139 "WeatherTea$Orders" "count" "I" : Cond) ∈ BIG := big_of (i := 229) (by decide +kernel) (by decide +kernel)
theorem qm_230 : (.fieldLink RX7 36 "WeatherTea$Orders" "steps" "I" : Cond) ∈ BIG := big_of (i := 230) (by decide +kernel) (by decide +kernel)
theorem qm_231 : (.fieldLink RX6 41 "WeatherTea$Orders" "steps" "I" : Cond) ∈ BIG := big_of (i := 231) (by decide +kernel) (by decide +kernel)
theorem qm_232 : (.laysFinal RX6 RX6 "deeds" "[LWeatherTea$Kind;" : Cond) ∈ BIG := big_of (i := 232) (by decide +kernel) (by decide +kernel)
theorem qm_234 : (.laysFinal RX6 RX6 "targets" "[I" : Cond) ∈ BIG := big_of (i := 234) (by decide +kernel) (by decide +kernel)
theorem qm_236 : (.laysFinal RX6 RX6 "firstSteps" "[I" : Cond) ∈ BIG := big_of (i := 236) (by decide +kernel) (by decide +kernel)
theorem qm_238 : (.laysFinal RX6 RX6 "endSteps" "[I" : Cond) ∈ BIG := big_of (i := 238) (by decide +kernel) (by decide +kernel)
theorem qm_240 : (.laysFinal RX6 RX6 "stepKinds" "[LWeatherTea$Kind;" : Cond) ∈ BIG := big_of (i := 240) (by decide +kernel) (by decide +kernel)
theorem qm_242 : (.laysFinal RX6 RX6 "stepValues" "[I" : Cond) ∈ BIG := big_of (i := 242) (by decide +kernel) (by decide +kernel)
theorem qm_244 : (.lays RX6 RX6 "count" "I" : Cond) ∈ BIG := big_of (i := 244) (by decide +kernel) (by decide +kernel)
theorem qm_246 : (.lays RX6 RX6 "steps" "I" : Cond) ∈ BIG := big_of (i := 246) (by decide +kernel) (by decide +kernel)
theorem qm_249 : (.fieldLink RX7 10 "WeatherTea$Plan" "fronts" "LWeatherTea$Fronts;" : Cond) ∈ BIG := big_of (i := 249) (by decide +kernel) (by decide +kernel)
theorem qm_250 : (.fieldLink RX8 60 "WeatherTea$Plan" "fronts" "LWeatherTea$Fronts;" : Cond) ∈ BIG := big_of (i := 250) (by decide +kernel) (by decide +kernel)
theorem qm_251 : (.fieldLink RX1 61 "WeatherTea$Plan" "fronts" "LWeatherTea$Fronts;" : Cond) ∈ BIG := big_of (i := 251) (by decide +kernel) (by decide +kernel)
theorem qm_252 : (.fieldLink RX12 109 "WeatherTea$Plan" "fronts" "LWeatherTea$Fronts;" : Cond) ∈ BIG := big_of (i := 252) (by decide +kernel) (by decide +kernel)
theorem qm_253 : (.fieldLink RX7 19 "WeatherTea$Plan" "guests" "LWeatherTea$Guests;" : Cond) ∈ BIG := big_of (i := 253) (by decide +kernel) (by decide +kernel)
theorem qm_254 : (.fieldLink RX1 71 "WeatherTea$Plan" "guests" "LWeatherTea$Guests;" : Cond) ∈ BIG := big_of (i := 254) (by decide +kernel) (by decide +kernel)
theorem qm_255 : (.fieldLink RX8 77 "WeatherTea$Plan" "guests" "LWeatherTea$Guests;" : Cond) ∈ BIG := big_of (i := 255) (by decide +kernel) (by decide +kernel)
theorem qm_256 : (.fieldLink RX12 118 "WeatherTea$Plan" "guests" "LWeatherTea$Guests;" : Cond) ∈ BIG := big_of (i := 256) (by decide +kernel) (by decide +kernel)
theorem qm_257 : (.fieldLink RX7 26 "WeatherTea$Plan" "orders" "LWeatherTea$Orders;" : Cond) ∈ BIG := big_of (i := 257) (by decide +kernel) (by decide +kernel)
theorem qm_258 : (.fieldLink RX12 70 "WeatherTea$Plan" "orders" "LWeatherTea$Orders;" : Cond) ∈ BIG := big_of (i := 258) (by decide +kernel) (by decide +kernel)
theorem qm_259 : (.fieldLink RX8 135 "WeatherTea$Plan" "orders" "LWeatherTea$Orders;" : Cond) ∈ BIG := big_of (i := 259) (by decide +kernel) (by decide +kernel)
theorem qm_260 : (.laysFinal RX7 RX7 "fronts" "LWeatherTea$Fronts;" : Cond) ∈ BIG := big_of (i := 260) (by decide +kernel) (by decide +kernel)
theorem qm_262 : (.laysFinal RX7 RX7 "guests" "LWeatherTea$Guests;" : Cond) ∈ BIG := big_of (i := 262) (by decide +kernel) (by decide +kernel)
theorem qm_264 : (.laysFinal RX7 RX7 "orders" "LWeatherTea$Orders;" : Cond) ∈ BIG := big_of (i := 264) (by decide +kernel) (by decide +kernel)
theorem qm_267 : (.fieldLink RX8 12 "WeatherTea$Pot" "reckoner" "LWeatherTea$Reckoner;" : Cond) ∈ BIG := big_of (i := 267) (by decide +kernel) (by decide +kernel)
theorem qm_268 : (.fieldLink RX8 21 "WeatherTea$Pot" "plan" "LWeatherTea$Plan;" : Cond) ∈ BIG := big_of (i := 268) (by decide +kernel) (by decide +kernel)
theorem qm_269 : (.fieldLink RX12 102 "WeatherTea$Pot" "plan" "LWeatherTea$Plan;" : Cond) ∈ BIG := big_of (i := 269) (by decide +kernel) (by decide +kernel)
theorem qm_270 : (.fieldLink RX8 45 "WeatherTea$Pot" "hour" "I" : Cond) ∈ BIG := big_of (i := 270) (by decide +kernel) (by decide +kernel)
theorem qm_271 : (.fieldLink RX12 125 "WeatherTea$Pot" "hour" "I" : Cond) ∈ BIG := big_of (i := 271) (by decide +kernel) (by decide +kernel)
theorem qm_272 : (.fieldLink RX8 25 "WeatherTea$Pot" "warmth" "I" : Cond) ∈ BIG := big_of (i := 272) (by decide +kernel) (by decide +kernel)
theorem qm_273 : (.fieldLink RX12 128 "WeatherTea$Pot" "warmth" "I" : Cond) ∈ BIG := big_of (i := 273) (by decide +kernel) (by decide +kernel)
theorem qm_274 : (.fieldLink RX8 48 "WeatherTea$Pot" "strength" "I" : Cond) ∈ BIG := big_of (i := 274) (by decide +kernel) (by decide +kernel)
theorem qm_275 : (.fieldLink RX12 131 "WeatherTea$Pot" "strength" "I" : Cond) ∈ BIG := big_of (i := 275) (by decide +kernel) (by decide +kernel)
theorem qm_276 : (.fieldLink RX8 51 "WeatherTea$Pot" "charge" "I" : Cond) ∈ BIG := big_of (i := 276) (by decide +kernel) (by decide +kernel)
theorem qm_277 : (.fieldLink RX12 134 "WeatherTea$Pot" "charge" "I" : Cond) ∈ BIG := big_of (i := 277) (by decide +kernel) (by decide +kernel)
theorem qm_278 : (.fieldLink RX8 29 "WeatherTea$Pot" "lemons" "I" : Cond) ∈ BIG := big_of (i := 278) (by decide +kernel) (by decide +kernel)
theorem qm_279 : (.fieldLink RX12 137 "WeatherTea$Pot" "lemons" "I" : Cond) ∈ BIG := big_of (i := 279) (by decide +kernel) (by decide +kernel)
theorem qm_280 : (.fieldLink RX8 32 "WeatherTea$Pot" "saucers" "I" : Cond) ∈ BIG := big_of (i := 280) (by decide +kernel) (by decide +kernel)
theorem qm_281 : (.fieldLink RX12 140 "WeatherTea$Pot" "saucers" "I" : Cond) ∈ BIG := big_of (i := 281) (by decide +kernel) (by decide +kernel)
theorem qm_282 : (.fieldLink RX8 54 "WeatherTea$Pot" "coins" "I" : Cond) ∈ BIG := big_of (i := 282) (by decide +kernel) (by decide +kernel)
theorem qm_283 : (.fieldLink RX12 143 "WeatherTea$Pot" "coins" "I" : Cond) ∈ BIG := big_of (i := 283) (by decide +kernel) (by decide +kernel)
theorem qm_284 : (.fieldLink RX8 57 "WeatherTea$Pot" "storms" "I" : Cond) ∈ BIG := big_of (i := 284) (by decide +kernel) (by decide +kernel)
theorem qm_285 : (.fieldLink RX12 146 "WeatherTea$Pot" "storms" "I" : Cond) ∈ BIG := big_of (i := 285) (by decide +kernel) (by decide +kernel)
theorem qm_286 : (.fieldLink RX8 35 "WeatherTea$Pot" "frontSteeped" "[Z" : Cond) ∈ BIG := big_of (i := 286) (by decide +kernel) (by decide +kernel)
theorem qm_287 : (.fieldLink RX12 181 "WeatherTea$Pot" "frontSteeped" "[Z" : Cond) ∈ BIG := big_of (i := 287) (by decide +kernel) (by decide +kernel)
theorem qm_288 : (.fieldLink RX8 39 "WeatherTea$Pot" "guestServed" "[Z" : Cond) ∈ BIG := big_of (i := 288) (by decide +kernel) (by decide +kernel)
theorem qm_289 : (.fieldLink RX12 157 "WeatherTea$Pot" "guestServed" "[Z" : Cond) ∈ BIG := big_of (i := 289) (by decide +kernel) (by decide +kernel)
theorem qm_290 : (.fieldLink RX8 42 "WeatherTea$Pot" "guestStormed" "[Z" : Cond) ∈ BIG := big_of (i := 290) (by decide +kernel) (by decide +kernel)
theorem qm_291 : (.fieldLink RX12 165 "WeatherTea$Pot" "guestStormed" "[Z" : Cond) ∈ BIG := big_of (i := 291) (by decide +kernel) (by decide +kernel)
theorem qm_292 : (.laysFinal RX8 RX8 "reckoner" "LWeatherTea$Reckoner;" : Cond) ∈ BIG := big_of (i := 292) (by decide +kernel) (by decide +kernel)
theorem qm_294 : (.lays RX8 RX8 "plan" "LWeatherTea$Plan;" : Cond) ∈ BIG := big_of (i := 294) (by decide +kernel) (by decide +kernel)
theorem qm_296 : (.lays RX8 RX8 "hour" "I" : Cond) ∈ BIG := big_of (i := 296) (by decide +kernel) (by decide +kernel)
theorem qm_298 : (.lays RX8 RX8 "warmth" "I" : Cond) ∈ BIG := big_of (i := 298) (by decide +kernel) (by decide +kernel)
theorem qm_300 : (.lays RX8 RX8 "strength" "I" : Cond) ∈ BIG := big_of (i := 300) (by decide +kernel) (by decide +kernel)
theorem qm_302 : (.lays RX8 RX8 "charge" "I" : Cond) ∈ BIG := big_of (i := 302) (by decide +kernel) (by decide +kernel)
theorem qm_304 : (.lays RX8 RX8 "lemons" "I" : Cond) ∈ BIG := big_of (i := 304) (by decide +kernel) (by decide +kernel)
theorem qm_306 : (.lays RX8 RX8 "saucers" "I" : Cond) ∈ BIG := big_of (i := 306) (by decide +kernel) (by decide +kernel)
theorem qm_308 : (.lays RX8 RX8 "coins" "I" : Cond) ∈ BIG := big_of (i := 308) (by decide +kernel) (by decide +kernel)
theorem qm_310 : (.lays RX8 RX8 "storms" "I" : Cond) ∈ BIG := big_of (i := 310) (by decide +kernel) (by decide +kernel)
theorem qm_312 : (.laysFinal RX8 RX8 "frontSteeped" "[Z" : Cond) ∈ BIG := big_of (i := 312) (by decide +kernel) (by decide +kernel)
theorem qm_314 : (.laysFinal RX8 RX8 "guestServed" "[Z" : Cond) ∈ BIG := big_of (i := 314) (by decide +kernel) (by decide +kernel)
theorem qm_316 : (.laysFinal RX8 RX8 "guestStormed" "[Z" : Cond) ∈ BIG := big_of (i := 316) (by decide +kernel) (by decide +kernel)
theorem qm_319 : (.classLink RX12 33 RX7 : Cond) ∈ BIG := big_of (i := 319) (by decide +kernel) (by decide +kernel)
theorem qm_320 : (.methodLink RX12 35 yX7_init : Cond) ∈ BIG := big_of (i := 320) (by decide +kernel) (by decide +kernel)
theorem qm_321 : (.fieldLink RX12 10 "WeatherTea" "tape" "LWeatherTea$Tape;" : Cond) ∈ BIG := big_of (i := 321) (by decide +kernel) (by decide +kernel)
theorem qm_322 : (.fieldLink RX12 19 "WeatherTea" "tokens" "LWeatherTea$Tokens;" : Cond) ∈ BIG := big_of (i := 322) (by decide +kernel) (by decide +kernel)
theorem qm_323 : (.fieldLink RX12 26 "WeatherTea" "pot" "LWeatherTea$Pot;" : Cond) ∈ BIG := big_of (i := 323) (by decide +kernel) (by decide +kernel)
theorem qm_324 : (.fieldLink RX12 30 "WeatherTea" "trial" "LWeatherTea$Pot;" : Cond) ∈ BIG := big_of (i := 324) (by decide +kernel) (by decide +kernel)
theorem qm_325 : (.fieldLink RX12 36 "WeatherTea" "draft" "LWeatherTea$Plan;" : Cond) ∈ BIG := big_of (i := 325) (by decide +kernel) (by decide +kernel)
theorem qm_326 : (.fieldLink RX12 40 "WeatherTea" "errorPosition" "I" : Cond) ∈ BIG := big_of (i := 326) (by decide +kernel) (by decide +kernel)
theorem qm_327 : (.laysFinal RX12 RX12 "tape" "LWeatherTea$Tape;" : Cond) ∈ BIG := big_of (i := 327) (by decide +kernel) (by decide +kernel)
theorem qm_329 : (.laysFinal RX12 RX12 "tokens" "LWeatherTea$Tokens;" : Cond) ∈ BIG := big_of (i := 329) (by decide +kernel) (by decide +kernel)
theorem qm_331 : (.laysFinal RX12 RX12 "pot" "LWeatherTea$Pot;" : Cond) ∈ BIG := big_of (i := 331) (by decide +kernel) (by decide +kernel)
theorem qm_333 : (.laysFinal RX12 RX12 "trial" "LWeatherTea$Pot;" : Cond) ∈ BIG := big_of (i := 333) (by decide +kernel) (by decide +kernel)
theorem qm_335 : (.lays RX12 RX12 "draft" "LWeatherTea$Plan;" : Cond) ∈ BIG := big_of (i := 335) (by decide +kernel) (by decide +kernel)
theorem qm_337 : (.lays RX12 RX12 "errorPosition" "I" : Cond) ∈ BIG := big_of (i := 337) (by decide +kernel) (by decide +kernel)
theorem qm_340 : (.methodLink RL 193 yX12_fronts : Cond) ∈ BIG := big_of (i := 340) (by decide +kernel) (by decide +kernel)
theorem qm_341 : (.instanceMethod yX12_fronts : Cond) ∈ BIG := big_of (i := 341) (by decide +kernel) (by decide +kernel)
theorem qm_342 : (.selects RX12 yX12_fronts yX12_fronts : Cond) ∈ BIG := big_of (i := 342) (by decide +kernel) (by decide +kernel)
theorem qm_343 : (.code yX12_fronts cX12_fronts 1 (some .int) : Cond) ∈ BIG := big_of (i := 343) (by decide +kernel) (by decide +kernel)
theorem qm_344 : (.methodLink RL 195 yX12_guests : Cond) ∈ BIG := big_of (i := 344) (by decide +kernel) (by decide +kernel)
theorem qm_345 : (.instanceMethod yX12_guests : Cond) ∈ BIG := big_of (i := 345) (by decide +kernel) (by decide +kernel)
theorem qm_346 : (.selects RX12 yX12_guests yX12_guests : Cond) ∈ BIG := big_of (i := 346) (by decide +kernel) (by decide +kernel)
theorem qm_347 : (.code yX12_guests cX12_guests 1 (some .int) : Cond) ∈ BIG := big_of (i := 347) (by decide +kernel) (by decide +kernel)
theorem qm_348 : (.methodLink RL 229 yX12_hour : Cond) ∈ BIG := big_of (i := 348) (by decide +kernel) (by decide +kernel)
theorem qm_349 : (.instanceMethod yX12_hour : Cond) ∈ BIG := big_of (i := 349) (by decide +kernel) (by decide +kernel)
theorem qm_350 : (.selects RX12 yX12_hour yX12_hour : Cond) ∈ BIG := big_of (i := 350) (by decide +kernel) (by decide +kernel)
theorem qm_351 : (.code yX12_hour cX12_hour 1 (some .int) : Cond) ∈ BIG := big_of (i := 351) (by decide +kernel) (by decide +kernel)
theorem qm_352 : (.methodLink RL 205 yX12_warmth : Cond) ∈ BIG := big_of (i := 352) (by decide +kernel) (by decide +kernel)
theorem qm_353 : (.instanceMethod yX12_warmth : Cond) ∈ BIG := big_of (i := 353) (by decide +kernel) (by decide +kernel)
theorem qm_354 : (.selects RX12 yX12_warmth yX12_warmth : Cond) ∈ BIG := big_of (i := 354) (by decide +kernel) (by decide +kernel)
theorem qm_355 : (.code yX12_warmth cX12_warmth 1 (some .int) : Cond) ∈ BIG := big_of (i := 355) (by decide +kernel) (by decide +kernel)
theorem qm_356 : (.methodLink RL 207 yX12_strength : Cond) ∈ BIG := big_of (i := 356) (by decide +kernel) (by decide +kernel)
theorem qm_357 : (.instanceMethod yX12_strength : Cond) ∈ BIG := big_of (i := 357) (by decide +kernel) (by decide +kernel)
theorem qm_358 : (.selects RX12 yX12_strength yX12_strength : Cond) ∈ BIG := big_of (i := 358) (by decide +kernel) (by decide +kernel)
theorem qm_359 : (.code yX12_strength cX12_strength 1 (some .int) : Cond) ∈ BIG := big_of (i := 359) (by decide +kernel) (by decide +kernel)
theorem qm_360 : (.methodLink RL 209 yX12_charge : Cond) ∈ BIG := big_of (i := 360) (by decide +kernel) (by decide +kernel)
theorem qm_361 : (.instanceMethod yX12_charge : Cond) ∈ BIG := big_of (i := 361) (by decide +kernel) (by decide +kernel)
theorem qm_362 : (.selects RX12 yX12_charge yX12_charge : Cond) ∈ BIG := big_of (i := 362) (by decide +kernel) (by decide +kernel)
theorem qm_363 : (.code yX12_charge cX12_charge 1 (some .int) : Cond) ∈ BIG := big_of (i := 363) (by decide +kernel) (by decide +kernel)
theorem qm_364 : (.methodLink RL 211 yX12_lemons : Cond) ∈ BIG := big_of (i := 364) (by decide +kernel) (by decide +kernel)
theorem qm_365 : (.instanceMethod yX12_lemons : Cond) ∈ BIG := big_of (i := 365) (by decide +kernel) (by decide +kernel)
theorem qm_366 : (.selects RX12 yX12_lemons yX12_lemons : Cond) ∈ BIG := big_of (i := 366) (by decide +kernel) (by decide +kernel)
theorem qm_367 : (.code yX12_lemons cX12_lemons 1 (some .int) : Cond) ∈ BIG := big_of (i := 367) (by decide +kernel) (by decide +kernel)
theorem qm_368 : (.methodLink RL 214 yX12_saucers : Cond) ∈ BIG := big_of (i := 368) (by decide +kernel) (by decide +kernel)
theorem qm_369 : (.instanceMethod yX12_saucers : Cond) ∈ BIG := big_of (i := 369) (by decide +kernel) (by decide +kernel)
theorem qm_370 : (.selects RX12 yX12_saucers yX12_saucers : Cond) ∈ BIG := big_of (i := 370) (by decide +kernel) (by decide +kernel)
theorem qm_371 : (.code yX12_saucers cX12_saucers 1 (some .int) : Cond) ∈ BIG := big_of (i := 371) (by decide +kernel) (by decide +kernel)
theorem qm_372 : (.methodLink RL 273 yX12_coins : Cond) ∈ BIG := big_of (i := 372) (by decide +kernel) (by decide +kernel)
theorem qm_373 : (.instanceMethod yX12_coins : Cond) ∈ BIG := big_of (i := 373) (by decide +kernel) (by decide +kernel)
theorem qm_374 : (.selects RX12 yX12_coins yX12_coins : Cond) ∈ BIG := big_of (i := 374) (by decide +kernel) (by decide +kernel)
theorem qm_375 : (.code yX12_coins cX12_coins 1 (some .int) : Cond) ∈ BIG := big_of (i := 375) (by decide +kernel) (by decide +kernel)
theorem qm_376 : (.methodLink RL 276 yX12_storms : Cond) ∈ BIG := big_of (i := 376) (by decide +kernel) (by decide +kernel)
theorem qm_377 : (.instanceMethod yX12_storms : Cond) ∈ BIG := big_of (i := 377) (by decide +kernel) (by decide +kernel)
theorem qm_378 : (.selects RX12 yX12_storms yX12_storms : Cond) ∈ BIG := big_of (i := 378) (by decide +kernel) (by decide +kernel)
theorem qm_379 : (.code yX12_storms cX12_storms 1 (some .int) : Cond) ∈ BIG := big_of (i := 379) (by decide +kernel) (by decide +kernel)
theorem qm_380 : (.methodLink RL 232 yX12_seatedGuests : Cond) ∈ BIG := big_of (i := 380) (by decide +kernel) (by decide +kernel)
theorem qm_381 : (.instanceMethod yX12_seatedGuests : Cond) ∈ BIG := big_of (i := 381) (by decide +kernel) (by decide +kernel)
theorem qm_382 : (.selects RX12 yX12_seatedGuests yX12_seatedGuests : Cond) ∈ BIG := big_of (i := 382) (by decide +kernel) (by decide +kernel)
theorem qm_383 : (.code yX12_seatedGuests cX12_seatedGuests 3 (some .int) : Cond) ∈ BIG := big_of (i := 383) (by decide +kernel) (by decide +kernel)
theorem qm_384 : (.methodLink RX12 149 yX8_sits : Cond) ∈ BIG := big_of (i := 384) (by decide +kernel) (by decide +kernel)
theorem qm_385 : (.instanceMethod yX8_sits : Cond) ∈ BIG := big_of (i := 385) (by decide +kernel) (by decide +kernel)
theorem qm_386 : (.selects RX8 yX8_sits yX8_sits : Cond) ∈ BIG := big_of (i := 386) (by decide +kernel) (by decide +kernel)
theorem qm_387 : (.code yX8_sits cX8_sits 3 (some .boolean) : Cond) ∈ BIG := big_of (i := 387) (by decide +kernel) (by decide +kernel)
theorem qm_388 : (.methodLink RX8 81 yX4_has : Cond) ∈ BIG := big_of (i := 388) (by decide +kernel) (by decide +kernel)
theorem qm_389 : (.instanceMethod yX4_has : Cond) ∈ BIG := big_of (i := 389) (by decide +kernel) (by decide +kernel)
theorem qm_390 : (.selects RX4 yX4_has yX4_has : Cond) ∈ BIG := big_of (i := 390) (by decide +kernel) (by decide +kernel)
theorem qm_391 : (.code yX4_has cX4_has 2 (some .boolean) : Cond) ∈ BIG := big_of (i := 391) (by decide +kernel) (by decide +kernel)
theorem qm_392 : (.methodLink RX12 153 yX12_oneIf : Cond) ∈ BIG := big_of (i := 392) (by decide +kernel) (by decide +kernel)
theorem qm_393 : (.static yX12_oneIf : Cond) ∈ BIG := big_of (i := 393) (by decide +kernel) (by decide +kernel)
theorem qm_394 : (.code yX12_oneIf cX12_oneIf 1 (some .int) : Cond) ∈ BIG := big_of (i := 394) (by decide +kernel) (by decide +kernel)
theorem qm_395 : (.methodLink RL 235 yX12_served : Cond) ∈ BIG := big_of (i := 395) (by decide +kernel) (by decide +kernel)
theorem qm_396 : (.instanceMethod yX12_served : Cond) ∈ BIG := big_of (i := 396) (by decide +kernel) (by decide +kernel)
theorem qm_397 : (.selects RX12 yX12_served yX12_served : Cond) ∈ BIG := big_of (i := 397) (by decide +kernel) (by decide +kernel)
theorem qm_398 : (.code yX12_served cX12_served 1 (some .int) : Cond) ∈ BIG := big_of (i := 398) (by decide +kernel) (by decide +kernel)
theorem qm_399 : (.methodLink RX12 161 yX12_countTrue : Cond) ∈ BIG := big_of (i := 399) (by decide +kernel) (by decide +kernel)
theorem qm_400 : (.static yX12_countTrue : Cond) ∈ BIG := big_of (i := 400) (by decide +kernel) (by decide +kernel)
theorem qm_401 : (.code yX12_countTrue cX12_countTrue 4 (some .int) : Cond) ∈ BIG := big_of (i := 401) (by decide +kernel) (by decide +kernel)
theorem qm_402 : (.methodLink RL 238 yX12_stormed : Cond) ∈ BIG := big_of (i := 402) (by decide +kernel) (by decide +kernel)
theorem qm_403 : (.instanceMethod yX12_stormed : Cond) ∈ BIG := big_of (i := 403) (by decide +kernel) (by decide +kernel)
theorem qm_404 : (.selects RX12 yX12_stormed yX12_stormed : Cond) ∈ BIG := big_of (i := 404) (by decide +kernel) (by decide +kernel)
theorem qm_405 : (.code yX12_stormed cX12_stormed 1 (some .int) : Cond) ∈ BIG := big_of (i := 405) (by decide +kernel) (by decide +kernel)
theorem qm_406 : (.methodLink RL 248 yX12_forceOf : Cond) ∈ BIG := big_of (i := 406) (by decide +kernel) (by decide +kernel)
theorem qm_407 : (.instanceMethod yX12_forceOf : Cond) ∈ BIG := big_of (i := 407) (by decide +kernel) (by decide +kernel)
theorem qm_408 : (.selects RX12 yX12_forceOf yX12_forceOf : Cond) ∈ BIG := big_of (i := 408) (by decide +kernel) (by decide +kernel)
theorem qm_409 : (.code yX12_forceOf cX12_forceOf 2 (some .int) : Cond) ∈ BIG := big_of (i := 409) (by decide +kernel) (by decide +kernel)
theorem qm_410 : (.methodLink RX12 168 yX12_requireFront : Cond) ∈ BIG := big_of (i := 410) (by decide +kernel) (by decide +kernel)
theorem qm_412 : (.instanceMethod yX12_requireFront : Cond) ∈ BIG := big_of (i := 412) (by decide +kernel) (by decide +kernel)
theorem qm_413 : (.code yX12_requireFront cX12_requireFront 2 none : Cond) ∈ BIG := big_of (i := 413) (by decide +kernel) (by decide +kernel)
theorem qm_414 : (.methodLink RX12 264 yX2_has : Cond) ∈ BIG := big_of (i := 414) (by decide +kernel) (by decide +kernel)
theorem qm_415 : (.instanceMethod yX2_has : Cond) ∈ BIG := big_of (i := 415) (by decide +kernel) (by decide +kernel)
theorem qm_416 : (.selects RX2 yX2_has yX2_has : Cond) ∈ BIG := big_of (i := 416) (by decide +kernel) (by decide +kernel)
theorem qm_417 : (.code yX2_has cX2_has 2 (some .boolean) : Cond) ∈ BIG := big_of (i := 417) (by decide +kernel) (by decide +kernel)
theorem qm_418 : (.classLink RX12 267 "java/lang/IndexOutOfBoundsException" : Cond) ∈ BIG := big_of (i := 418) (by decide +kernel) (by decide +kernel)
theorem qm_419 : (.instantiable "java/lang/IndexOutOfBoundsException" 6 : Cond) ∈ BIG := big_of (i := 419) (by decide +kernel) (by decide +kernel)
theorem qm_427 : (.selects "java/lang/IndexOutOfBoundsException" ⟨"java/lang/Throwable", "fillInStackTrace", "(I)Ljava/lang/Throwable;"⟩ ⟨"java/lang/Throwable", "fillInStackTrace", "(I)Ljava/lang/Throwable;"⟩ : Cond) ∈ BIG := big_of (i := 427) (by decide +kernel) (by decide +kernel)
theorem qm_428 : (.selects "java/lang/IndexOutOfBoundsException" ⟨"java/lang/Throwable", "fillInStackTrace", "()Ljava/lang/Throwable;"⟩ ⟨"java/lang/Throwable", "fillInStackTrace", "()Ljava/lang/Throwable;"⟩ : Cond) ∈ BIG := big_of (i := 428) (by decide +kernel) (by decide +kernel)
theorem qm_429 : (.lays "java/lang/IndexOutOfBoundsException" "java/lang/Throwable" "cause" "Ljava/lang/Throwable;" : Cond) ∈ BIG := big_of (i := 429) (by decide +kernel) (by decide +kernel)
theorem qm_430 : (.lays "java/lang/Throwable" "java/lang/Throwable" "cause" "Ljava/lang/Throwable;" : Cond) ∈ BIG := big_of (i := 430) (by decide +kernel) (by decide +kernel)
theorem qm_431 : (.lays "java/lang/IndexOutOfBoundsException" "java/lang/Throwable" "stackTrace" "[Ljava/lang/StackTraceElement;" : Cond) ∈ BIG := big_of (i := 431) (by decide +kernel) (by decide +kernel)
theorem qm_432 : (.lays "java/lang/Throwable" "java/lang/Throwable" "stackTrace" "[Ljava/lang/StackTraceElement;" : Cond) ∈ BIG := big_of (i := 432) (by decide +kernel) (by decide +kernel)
theorem qm_433 : (.lays "java/lang/IndexOutOfBoundsException" "java/lang/Throwable" "suppressedExceptions" "Ljava/util/List;" : Cond) ∈ BIG := big_of (i := 433) (by decide +kernel) (by decide +kernel)
theorem qm_434 : (.lays "java/lang/Throwable" "java/lang/Throwable" "suppressedExceptions" "Ljava/util/List;" : Cond) ∈ BIG := big_of (i := 434) (by decide +kernel) (by decide +kernel)
theorem qm_435 : (.lays "java/lang/IndexOutOfBoundsException" "java/lang/Throwable" "detailMessage" "Ljava/lang/String;" : Cond) ∈ BIG := big_of (i := 435) (by decide +kernel) (by decide +kernel)
theorem qm_436 : (.lays "java/lang/Throwable" "java/lang/Throwable" "detailMessage" "Ljava/lang/String;" : Cond) ∈ BIG := big_of (i := 436) (by decide +kernel) (by decide +kernel)
theorem qm_437 : (.lays "java/lang/IndexOutOfBoundsException" "java/lang/Throwable" "backtrace" "Ljava/lang/Object;" : Cond) ∈ BIG := big_of (i := 437) (by decide +kernel) (by decide +kernel)
theorem qm_438 : (.lays "java/lang/Throwable" "java/lang/Throwable" "backtrace" "Ljava/lang/Object;" : Cond) ∈ BIG := big_of (i := 438) (by decide +kernel) (by decide +kernel)
theorem qm_439 : (.fieldLink "java/lang/Throwable" 198 "java/lang/Throwable" "backtrace" "Ljava/lang/Object;" : Cond) ∈ BIG := big_of (i := 439) (by decide +kernel) (by decide +kernel)
theorem qm_441 : (.instanceMethod ⟨"java/lang/Throwable", "<init>", "()V"⟩ : Cond) ∈ BIG := big_of (i := 441) (by decide +kernel) (by decide +kernel)
theorem qm_442 : (.code ⟨"java/lang/Throwable", "<init>", "()V"⟩ prog_38_method_1_code 1 none : Cond) ∈ BIG := big_of (i := 442) (by decide +kernel) (by decide +kernel)
theorem qm_443 : (.methodLink "java/lang/Throwable" 1 ⟨"java/lang/Object", "<init>", "()V"⟩ : Cond) ∈ BIG := big_of (i := 443) (by decide +kernel) (by decide +kernel)
theorem qm_444 : (.fieldLink "java/lang/Throwable" 13 "java/lang/Throwable" "UNASSIGNED_STACK" "[Ljava/lang/StackTraceElement;" : Cond) ∈ BIG := big_of (i := 444) (by decide +kernel) (by decide +kernel)
theorem qm_446 : (.fieldLink "java/lang/Throwable" 20 "java/lang/Throwable" "SUPPRESSED_SENTINEL" "Ljava/util/List;" : Cond) ∈ BIG := big_of (i := 446) (by decide +kernel) (by decide +kernel)
theorem qm_448 : (.methodLink "java/lang/Throwable" 27 ⟨"java/lang/Throwable", "fillInStackTrace", "()Ljava/lang/Throwable;"⟩ : Cond) ∈ BIG := big_of (i := 448) (by decide +kernel) (by decide +kernel)
theorem qm_449 : (.instanceMethod ⟨"java/lang/Throwable", "fillInStackTrace", "()Ljava/lang/Throwable;"⟩ : Cond) ∈ BIG := big_of (i := 449) (by decide +kernel) (by decide +kernel)
theorem qm_450 : (.sameMethod "java/lang/Throwable" "java/lang/Throwable" "fillInStackTrace" "()Ljava/lang/Throwable;" : Cond) ∈ BIG := big_of (i := 450) (by decide +kernel) (by decide +kernel)
theorem qm_451 : (.selects "java/lang/IllegalArgumentException" ⟨"java/lang/Throwable", "fillInStackTrace", "()Ljava/lang/Throwable;"⟩ ⟨"java/lang/Throwable", "fillInStackTrace", "()Ljava/lang/Throwable;"⟩ : Cond) ∈ BIG := big_of (i := 451) (by decide +kernel) (by decide +kernel)
theorem qm_452 : (.selects "java/lang/IllegalStateException" ⟨"java/lang/Throwable", "fillInStackTrace", "()Ljava/lang/Throwable;"⟩ ⟨"java/lang/Throwable", "fillInStackTrace", "()Ljava/lang/Throwable;"⟩ : Cond) ∈ BIG := big_of (i := 452) (by decide +kernel) (by decide +kernel)
theorem qm_454 : (.methodLink "java/lang/Throwable" 202 ⟨"java/lang/Throwable", "fillInStackTrace", "(I)Ljava/lang/Throwable;"⟩ : Cond) ∈ BIG := big_of (i := 454) (by decide +kernel) (by decide +kernel)
theorem qm_456 : (.instanceMethod ⟨"java/lang/Throwable", "fillInStackTrace", "(I)Ljava/lang/Throwable;"⟩ : Cond) ∈ BIG := big_of (i := 456) (by decide +kernel) (by decide +kernel)
theorem qm_457 : (.instantiable "java/lang/Throwable" 6 : Cond) ∈ BIG := big_of (i := 457) (by decide +kernel) (by decide +kernel)
theorem qm_458 : (.native ⟨"java/lang/Throwable", "fillInStackTrace", "(I)Ljava/lang/Throwable;"⟩ : Cond) ∈ BIG := big_of (i := 458) (by decide +kernel) (by decide +kernel)
theorem qm_460 : (.methodLink RX12 271 ⟨"java/lang/IndexOutOfBoundsException", "<init>", "(Ljava/lang/String;)V"⟩ : Cond) ∈ BIG := big_of (i := 460) (by decide +kernel) (by decide +kernel)
theorem qm_461 : (.instanceMethod ⟨"java/lang/IndexOutOfBoundsException", "<init>", "(Ljava/lang/String;)V"⟩ : Cond) ∈ BIG := big_of (i := 461) (by decide +kernel) (by decide +kernel)
theorem qm_462 : (.code ⟨"java/lang/IndexOutOfBoundsException", "<init>", "(Ljava/lang/String;)V"⟩ prog_29_method_2_code 2 none : Cond) ∈ BIG := big_of (i := 462) (by decide +kernel) (by decide +kernel)
theorem qm_463 : (.methodLink "java/lang/IndexOutOfBoundsException" 7 ⟨"java/lang/RuntimeException", "<init>", "(Ljava/lang/String;)V"⟩ : Cond) ∈ BIG := big_of (i := 463) (by decide +kernel) (by decide +kernel)
theorem qm_464 : (.instanceMethod ⟨"java/lang/RuntimeException", "<init>", "(Ljava/lang/String;)V"⟩ : Cond) ∈ BIG := big_of (i := 464) (by decide +kernel) (by decide +kernel)
theorem qm_465 : (.code ⟨"java/lang/RuntimeException", "<init>", "(Ljava/lang/String;)V"⟩ prog_32_method_2_code 2 none : Cond) ∈ BIG := big_of (i := 465) (by decide +kernel) (by decide +kernel)
theorem qm_466 : (.methodLink "java/lang/RuntimeException" 7 ⟨"java/lang/Exception", "<init>", "(Ljava/lang/String;)V"⟩ : Cond) ∈ BIG := big_of (i := 466) (by decide +kernel) (by decide +kernel)
theorem qm_467 : (.instanceMethod ⟨"java/lang/Exception", "<init>", "(Ljava/lang/String;)V"⟩ : Cond) ∈ BIG := big_of (i := 467) (by decide +kernel) (by decide +kernel)
theorem qm_468 : (.code ⟨"java/lang/Exception", "<init>", "(Ljava/lang/String;)V"⟩ prog_26_method_2_code 2 none : Cond) ∈ BIG := big_of (i := 468) (by decide +kernel) (by decide +kernel)
theorem qm_469 : (.methodLink "java/lang/Exception" 7 ⟨"java/lang/Throwable", "<init>", "(Ljava/lang/String;)V"⟩ : Cond) ∈ BIG := big_of (i := 469) (by decide +kernel) (by decide +kernel)
theorem qm_470 : (.instanceMethod ⟨"java/lang/Throwable", "<init>", "(Ljava/lang/String;)V"⟩ : Cond) ∈ BIG := big_of (i := 470) (by decide +kernel) (by decide +kernel)
theorem qm_471 : (.code ⟨"java/lang/Throwable", "<init>", "(Ljava/lang/String;)V"⟩ prog_38_method_2_code 2 none : Cond) ∈ BIG := big_of (i := 471) (by decide +kernel) (by decide +kernel)
theorem qm_473 : (.fieldLink "java/lang/Throwable" 31 "java/lang/Throwable" "detailMessage" "Ljava/lang/String;" : Cond) ∈ BIG := big_of (i := 473) (by decide +kernel) (by decide +kernel)
theorem qm_474 : (.fieldLink "java/lang/Throwable" 7 "java/lang/Throwable" "cause" "Ljava/lang/Throwable;" : Cond) ∈ BIG := big_of (i := 474) (by decide +kernel) (by decide +kernel)
theorem qm_475 : (.fieldLink "java/lang/Throwable" 17 "java/lang/Throwable" "stackTrace" "[Ljava/lang/StackTraceElement;" : Cond) ∈ BIG := big_of (i := 475) (by decide +kernel) (by decide +kernel)
theorem qm_476 : (.fieldLink "java/lang/Throwable" 24 "java/lang/Throwable" "suppressedExceptions" "Ljava/util/List;" : Cond) ∈ BIG := big_of (i := 476) (by decide +kernel) (by decide +kernel)
theorem qm_481 : (.lays "java/lang/IndexOutOfBoundsException" "java/lang/Throwable" "depth" "I" : Cond) ∈ BIG := big_of (i := 481) (by decide +kernel) (by decide +kernel)
theorem qm_485 : (.methodLink RL 244 yX12_isOver : Cond) ∈ BIG := big_of (i := 485) (by decide +kernel) (by decide +kernel)
theorem qm_486 : (.instanceMethod yX12_isOver : Cond) ∈ BIG := big_of (i := 486) (by decide +kernel) (by decide +kernel)
theorem qm_487 : (.selects RX12 yX12_isOver yX12_isOver : Cond) ∈ BIG := big_of (i := 487) (by decide +kernel) (by decide +kernel)
theorem qm_488 : (.code yX12_isOver cX12_isOver 2 (some .boolean) : Cond) ∈ BIG := big_of (i := 488) (by decide +kernel) (by decide +kernel)
theorem qm_489 : (.methodLink RX12 178 yX8_hangsOver : Cond) ∈ BIG := big_of (i := 489) (by decide +kernel) (by decide +kernel)
theorem qm_490 : (.instanceMethod yX8_hangsOver : Cond) ∈ BIG := big_of (i := 490) (by decide +kernel) (by decide +kernel)
theorem qm_491 : (.selects RX8 yX8_hangsOver yX8_hangsOver : Cond) ∈ BIG := big_of (i := 491) (by decide +kernel) (by decide +kernel)
theorem qm_492 : (.code yX8_hangsOver cX8_hangsOver 3 (some .boolean) : Cond) ∈ BIG := big_of (i := 492) (by decide +kernel) (by decide +kernel)
theorem qm_493 : (.methodLink RX8 64 yX2_has : Cond) ∈ BIG := big_of (i := 493) (by decide +kernel) (by decide +kernel)
theorem qm_494 : (.methodLink RL 247 yX12_isSteeped : Cond) ∈ BIG := big_of (i := 494) (by decide +kernel) (by decide +kernel)
theorem qm_495 : (.instanceMethod yX12_isSteeped : Cond) ∈ BIG := big_of (i := 495) (by decide +kernel) (by decide +kernel)
theorem qm_496 : (.selects RX12 yX12_isSteeped yX12_isSteeped : Cond) ∈ BIG := big_of (i := 496) (by decide +kernel) (by decide +kernel)
theorem qm_497 : (.code yX12_isSteeped cX12_isSteeped 2 (some .boolean) : Cond) ∈ BIG := big_of (i := 497) (by decide +kernel) (by decide +kernel)
theorem qm_498 : (.methodLink RL 217 yX12_isSeated : Cond) ∈ BIG := big_of (i := 498) (by decide +kernel) (by decide +kernel)
theorem qm_499 : (.instanceMethod yX12_isSeated : Cond) ∈ BIG := big_of (i := 499) (by decide +kernel) (by decide +kernel)
theorem qm_500 : (.selects RX12 yX12_isSeated yX12_isSeated : Cond) ∈ BIG := big_of (i := 500) (by decide +kernel) (by decide +kernel)
theorem qm_501 : (.code yX12_isSeated cX12_isSeated 2 (some .boolean) : Cond) ∈ BIG := big_of (i := 501) (by decide +kernel) (by decide +kernel)
theorem qm_502 : (.methodLink RX12 184 yX12_requireGuest : Cond) ∈ BIG := big_of (i := 502) (by decide +kernel) (by decide +kernel)
theorem qm_504 : (.instanceMethod yX12_requireGuest : Cond) ∈ BIG := big_of (i := 504) (by decide +kernel) (by decide +kernel)
theorem qm_505 : (.code yX12_requireGuest cX12_requireGuest 2 none : Cond) ∈ BIG := big_of (i := 505) (by decide +kernel) (by decide +kernel)
theorem qm_506 : (.methodLink RX12 272 yX4_has : Cond) ∈ BIG := big_of (i := 506) (by decide +kernel) (by decide +kernel)
theorem qm_508 : (.methodLink RL 226 yX12_isContent : Cond) ∈ BIG := big_of (i := 508) (by decide +kernel) (by decide +kernel)
theorem qm_509 : (.instanceMethod yX12_isContent : Cond) ∈ BIG := big_of (i := 509) (by decide +kernel) (by decide +kernel)
theorem qm_510 : (.selects RX12 yX12_isContent yX12_isContent : Cond) ∈ BIG := big_of (i := 510) (by decide +kernel) (by decide +kernel)
theorem qm_511 : (.code yX12_isContent cX12_isContent 2 (some .boolean) : Cond) ∈ BIG := big_of (i := 511) (by decide +kernel) (by decide +kernel)
theorem qm_512 : (.methodLink RX12 187 yX8_wouldLike : Cond) ∈ BIG := big_of (i := 512) (by decide +kernel) (by decide +kernel)
theorem qm_513 : (.instanceMethod yX8_wouldLike : Cond) ∈ BIG := big_of (i := 513) (by decide +kernel) (by decide +kernel)
theorem qm_514 : (.selects RX8 yX8_wouldLike yX8_wouldLike : Cond) ∈ BIG := big_of (i := 514) (by decide +kernel) (by decide +kernel)
theorem qm_515 : (.code yX8_wouldLike cX8_wouldLike 3 (some .boolean) : Cond) ∈ BIG := big_of (i := 515) (by decide +kernel) (by decide +kernel)
theorem qm_516 : (.methodLink RX8 85 yX8_sits : Cond) ∈ BIG := big_of (i := 516) (by decide +kernel) (by decide +kernel)
theorem qm_517 : (.methodLink RL 220 yX12_wasServed : Cond) ∈ BIG := big_of (i := 517) (by decide +kernel) (by decide +kernel)
theorem qm_518 : (.instanceMethod yX12_wasServed : Cond) ∈ BIG := big_of (i := 518) (by decide +kernel) (by decide +kernel)
theorem qm_519 : (.selects RX12 yX12_wasServed yX12_wasServed : Cond) ∈ BIG := big_of (i := 519) (by decide +kernel) (by decide +kernel)
theorem qm_520 : (.code yX12_wasServed cX12_wasServed 2 (some .boolean) : Cond) ∈ BIG := big_of (i := 520) (by decide +kernel) (by decide +kernel)
theorem qm_521 : (.methodLink RL 223 yX12_wasStormed : Cond) ∈ BIG := big_of (i := 521) (by decide +kernel) (by decide +kernel)
theorem qm_522 : (.instanceMethod yX12_wasStormed : Cond) ∈ BIG := big_of (i := 522) (by decide +kernel) (by decide +kernel)
theorem qm_523 : (.selects RX12 yX12_wasStormed yX12_wasStormed : Cond) ∈ BIG := big_of (i := 523) (by decide +kernel) (by decide +kernel)
theorem qm_524 : (.code yX12_wasStormed cX12_wasStormed 2 (some .boolean) : Cond) ∈ BIG := big_of (i := 524) (by decide +kernel) (by decide +kernel)
theorem qm_525 : (.methodLink RL 163 yX12_passHours : Cond) ∈ BIG := big_of (i := 525) (by decide +kernel) (by decide +kernel)
theorem qm_526 : (.instanceMethod yX12_passHours : Cond) ∈ BIG := big_of (i := 526) (by decide +kernel) (by decide +kernel)
theorem qm_527 : (.selects RX12 yX12_passHours yX12_passHours : Cond) ∈ BIG := big_of (i := 527) (by decide +kernel) (by decide +kernel)
theorem qm_528 : (.code yX12_passHours cX12_passHours 4 (some .int) : Cond) ∈ BIG := big_of (i := 528) (by decide +kernel) (by decide +kernel)
theorem qm_529 : (.methodLink RX12 214 yX12_requireHours : Cond) ∈ BIG := big_of (i := 529) (by decide +kernel) (by decide +kernel)
theorem qm_530 : (.static yX12_requireHours : Cond) ∈ BIG := big_of (i := 530) (by decide +kernel) (by decide +kernel)
theorem qm_531 : (.code yX12_requireHours cX12_requireHours 1 none : Cond) ∈ BIG := big_of (i := 531) (by decide +kernel) (by decide +kernel)
theorem qm_532 : (.classLink RX12 58 "java/lang/IllegalArgumentException" : Cond) ∈ BIG := big_of (i := 532) (by decide +kernel) (by decide +kernel)
theorem qm_533 : (.instantiable "java/lang/IllegalArgumentException" 6 : Cond) ∈ BIG := big_of (i := 533) (by decide +kernel) (by decide +kernel)
theorem qm_535 : (.selects "java/lang/IllegalArgumentException" ⟨"java/lang/Throwable", "fillInStackTrace", "(I)Ljava/lang/Throwable;"⟩ ⟨"java/lang/Throwable", "fillInStackTrace", "(I)Ljava/lang/Throwable;"⟩ : Cond) ∈ BIG := big_of (i := 535) (by decide +kernel) (by decide +kernel)
theorem qm_536 : (.lays "java/lang/IllegalArgumentException" "java/lang/Throwable" "cause" "Ljava/lang/Throwable;" : Cond) ∈ BIG := big_of (i := 536) (by decide +kernel) (by decide +kernel)
theorem qm_537 : (.lays "java/lang/IllegalArgumentException" "java/lang/Throwable" "stackTrace" "[Ljava/lang/StackTraceElement;" : Cond) ∈ BIG := big_of (i := 537) (by decide +kernel) (by decide +kernel)
theorem qm_538 : (.lays "java/lang/IllegalArgumentException" "java/lang/Throwable" "suppressedExceptions" "Ljava/util/List;" : Cond) ∈ BIG := big_of (i := 538) (by decide +kernel) (by decide +kernel)
theorem qm_539 : (.lays "java/lang/IllegalArgumentException" "java/lang/Throwable" "detailMessage" "Ljava/lang/String;" : Cond) ∈ BIG := big_of (i := 539) (by decide +kernel) (by decide +kernel)
theorem qm_540 : (.lays "java/lang/IllegalArgumentException" "java/lang/Throwable" "backtrace" "Ljava/lang/Object;" : Cond) ∈ BIG := big_of (i := 540) (by decide +kernel) (by decide +kernel)
theorem qm_542 : (.methodLink RX12 62 ⟨"java/lang/IllegalArgumentException", "<init>", "(Ljava/lang/String;)V"⟩ : Cond) ∈ BIG := big_of (i := 542) (by decide +kernel) (by decide +kernel)
theorem qm_543 : (.instanceMethod ⟨"java/lang/IllegalArgumentException", "<init>", "(Ljava/lang/String;)V"⟩ : Cond) ∈ BIG := big_of (i := 543) (by decide +kernel) (by decide +kernel)
theorem qm_544 : (.code ⟨"java/lang/IllegalArgumentException", "<init>", "(Ljava/lang/String;)V"⟩ prog_27_method_2_code 2 none : Cond) ∈ BIG := big_of (i := 544) (by decide +kernel) (by decide +kernel)
theorem qm_545 : (.methodLink "java/lang/IllegalArgumentException" 7 ⟨"java/lang/RuntimeException", "<init>", "(Ljava/lang/String;)V"⟩ : Cond) ∈ BIG := big_of (i := 545) (by decide +kernel) (by decide +kernel)
theorem qm_546 : (.lays "java/lang/IllegalArgumentException" "java/lang/Throwable" "depth" "I" : Cond) ∈ BIG := big_of (i := 546) (by decide +kernel) (by decide +kernel)
theorem qm_548 : (.methodLink RX12 217 yX8_passHour : Cond) ∈ BIG := big_of (i := 548) (by decide +kernel) (by decide +kernel)
theorem qm_549 : (.instanceMethod yX8_passHour : Cond) ∈ BIG := big_of (i := 549) (by decide +kernel) (by decide +kernel)
theorem qm_550 : (.selects RX8 yX8_passHour yX8_passHour : Cond) ∈ BIG := big_of (i := 550) (by decide +kernel) (by decide +kernel)
theorem qm_551 : (.code yX8_passHour cX8_passHour 2 none : Cond) ∈ BIG := big_of (i := 551) (by decide +kernel) (by decide +kernel)
theorem qm_552 : (.methodLink RX8 142 yX9_holds : Cond) ∈ BIG := big_of (i := 552) (by decide +kernel) (by decide +kernel)
theorem qm_553 : (.instanceMethod yX9_holds : Cond) ∈ BIG := big_of (i := 553) (by decide +kernel) (by decide +kernel)
theorem qm_554 : (.selects RX9 yX9_holds yX9_holds : Cond) ∈ BIG := big_of (i := 554) (by decide +kernel) (by decide +kernel)
theorem qm_555 : (.code yX9_holds cX9_holds 5 (some .boolean) : Cond) ∈ BIG := big_of (i := 555) (by decide +kernel) (by decide +kernel)
theorem qm_556 : (.methodLink RX9 34 yX9_step : Cond) ∈ BIG := big_of (i := 556) (by decide +kernel) (by decide +kernel)
theorem qm_558 : (.instanceMethod yX9_step : Cond) ∈ BIG := big_of (i := 558) (by decide +kernel) (by decide +kernel)
theorem qm_559 : (.code yX9_step cX9_step 4 none : Cond) ∈ BIG := big_of (i := 559) (by decide +kernel) (by decide +kernel)
theorem qm_560 : (.fieldLink RX9 42 "WeatherTea$1" "$SwitchMap$WeatherTea$Kind" "[I" : Cond) ∈ BIG := big_of (i := 560) (by decide +kernel) (by decide +kernel)
theorem qm_562 : (.methodLink RX9 47 ⟨RX5, "ordinal", "()I"⟩ : Cond) ∈ BIG := big_of (i := 562) (by decide +kernel) (by decide +kernel)
theorem qm_563 : (.sameMethod "WeatherTea$Kind" "java/lang/Enum" "ordinal" "()I" : Cond) ∈ BIG := big_of (i := 563) (by decide +kernel) (by decide +kernel)
theorem qm_565 : (.selects RX5 ⟨RX5, "ordinal", "()I"⟩ yJx29ce0_ordinal_8abf5 : Cond) ∈ BIG := big_of (i := 565) (by decide +kernel) (by decide +kernel)
theorem qm_566 : (.instanceMethod yJx29ce0_ordinal_8abf5 : Cond) ∈ BIG := big_of (i := 566) (by decide +kernel) (by decide +kernel)
theorem qm_567 : (.code yJx29ce0_ordinal_8abf5 cJx29ce0_ordinal_8abf5 1 (some .int) : Cond) ∈ BIG := big_of (i := 567) (by decide +kernel) (by decide +kernel)
theorem qm_568 : (.methodLink RX9 52 yX9_push : Cond) ∈ BIG := big_of (i := 568) (by decide +kernel) (by decide +kernel)
theorem qm_570 : (.instanceMethod yX9_push : Cond) ∈ BIG := big_of (i := 570) (by decide +kernel) (by decide +kernel)
theorem qm_571 : (.code yX9_push cX9_push 2 none : Cond) ∈ BIG := big_of (i := 571) (by decide +kernel) (by decide +kernel)
theorem qm_572 : (.methodLink RX9 56 yX8_standsFor : Cond) ∈ BIG := big_of (i := 572) (by decide +kernel) (by decide +kernel)
theorem qm_573 : (.instanceMethod yX8_standsFor : Cond) ∈ BIG := big_of (i := 573) (by decide +kernel) (by decide +kernel)
theorem qm_574 : (.selects RX8 yX8_standsFor yX8_standsFor : Cond) ∈ BIG := big_of (i := 574) (by decide +kernel) (by decide +kernel)
theorem qm_575 : (.code yX8_standsFor cX8_standsFor 3 (some .int) : Cond) ∈ BIG := big_of (i := 575) (by decide +kernel) (by decide +kernel)
theorem qm_576 : (.fieldLink RX8 118 "WeatherTea$1" "$SwitchMap$WeatherTea$Kind" "[I" : Cond) ∈ BIG := big_of (i := 576) (by decide +kernel) (by decide +kernel)
theorem qm_577 : (.methodLink RX8 123 ⟨RX5, "ordinal", "()I"⟩ : Cond) ∈ BIG := big_of (i := 577) (by decide +kernel) (by decide +kernel)
theorem qm_578 : (.methodLink RX8 129 yX8_hangsOver : Cond) ∈ BIG := big_of (i := 578) (by decide +kernel) (by decide +kernel)
theorem qm_580 : (.methodLink RX8 101 yX8_wouldLike : Cond) ∈ BIG := big_of (i := 580) (by decide +kernel) (by decide +kernel)
theorem qm_581 : (.methodLink RX9 38 yX9_pop : Cond) ∈ BIG := big_of (i := 581) (by decide +kernel) (by decide +kernel)
theorem qm_583 : (.instanceMethod yX9_pop : Cond) ∈ BIG := big_of (i := 583) (by decide +kernel) (by decide +kernel)
theorem qm_584 : (.code yX9_pop cX9_pop 1 (some .int) : Cond) ∈ BIG := big_of (i := 584) (by decide +kernel) (by decide +kernel)
theorem qm_586 : (.methodLink RX9 66 yX9_joinTwo : Cond) ∈ BIG := big_of (i := 586) (by decide +kernel) (by decide +kernel)
theorem qm_588 : (.instanceMethod yX9_joinTwo : Cond) ∈ BIG := big_of (i := 588) (by decide +kernel) (by decide +kernel)
theorem qm_589 : (.code yX9_joinTwo cX9_joinTwo 4 none : Cond) ∈ BIG := big_of (i := 589) (by decide +kernel) (by decide +kernel)
theorem qm_590 : (.methodLink RX9 70 yX9_join : Cond) ∈ BIG := big_of (i := 590) (by decide +kernel) (by decide +kernel)
theorem qm_591 : (.static yX9_join : Cond) ∈ BIG := big_of (i := 591) (by decide +kernel) (by decide +kernel)
theorem qm_592 : (.code yX9_join cX9_join 3 (some .int) : Cond) ∈ BIG := big_of (i := 592) (by decide +kernel) (by decide +kernel)
theorem qm_593 : (.methodLink RX9 74 yJ9_min_7cf53 : Cond) ∈ BIG := big_of (i := 593) (by decide +kernel) (by decide +kernel)
theorem qm_594 : (.static yJ9_min_7cf53 : Cond) ∈ BIG := big_of (i := 594) (by decide +kernel) (by decide +kernel)
theorem qm_595 : (.code yJ9_min_7cf53 cJ9_min_7cf53 2 (some .int) : Cond) ∈ BIG := big_of (i := 595) (by decide +kernel) (by decide +kernel)
theorem qm_596 : (.methodLink RX9 80 yJ9_max_7cf53 : Cond) ∈ BIG := big_of (i := 596) (by decide +kernel) (by decide +kernel)
theorem qm_597 : (.static yJ9_max_7cf53 : Cond) ∈ BIG := big_of (i := 597) (by decide +kernel) (by decide +kernel)
theorem qm_598 : (.code yJ9_max_7cf53 cJ9_max_7cf53 2 (some .int) : Cond) ∈ BIG := big_of (i := 598) (by decide +kernel) (by decide +kernel)
theorem qm_599 : (.methodLink RX8 153 yX8_follow : Cond) ∈ BIG := big_of (i := 599) (by decide +kernel) (by decide +kernel)
theorem qm_601 : (.instanceMethod yX8_follow : Cond) ∈ BIG := big_of (i := 601) (by decide +kernel) (by decide +kernel)
theorem qm_602 : (.code yX8_follow cX8_follow 3 none : Cond) ∈ BIG := big_of (i := 602) (by decide +kernel) (by decide +kernel)
theorem qm_603 : (.methodLink RX8 163 yX8_steepFront : Cond) ∈ BIG := big_of (i := 603) (by decide +kernel) (by decide +kernel)
theorem qm_604 : (.instanceMethod yX8_steepFront : Cond) ∈ BIG := big_of (i := 604) (by decide +kernel) (by decide +kernel)
theorem qm_605 : (.selects RX8 yX8_steepFront yX8_steepFront : Cond) ∈ BIG := big_of (i := 605) (by decide +kernel) (by decide +kernel)
theorem qm_606 : (.code yX8_steepFront cX8_steepFront 2 (some .boolean) : Cond) ∈ BIG := big_of (i := 606) (by decide +kernel) (by decide +kernel)
theorem qm_607 : (.methodLink RX8 94 yX8_strengthWith : Cond) ∈ BIG := big_of (i := 607) (by decide +kernel) (by decide +kernel)
theorem qm_609 : (.instanceMethod yX8_strengthWith : Cond) ∈ BIG := big_of (i := 609) (by decide +kernel) (by decide +kernel)
theorem qm_610 : (.code yX8_strengthWith cX8_strengthWith 3 (some .int) : Cond) ∈ BIG := big_of (i := 610) (by decide +kernel) (by decide +kernel)
theorem qm_611 : (.methodLink RX8 112 yJ9_min_7cf53 : Cond) ∈ BIG := big_of (i := 611) (by decide +kernel) (by decide +kernel)
theorem qm_612 : (.methodLink RX8 166 yX8_squeezeLemon : Cond) ∈ BIG := big_of (i := 612) (by decide +kernel) (by decide +kernel)
theorem qm_613 : (.instanceMethod yX8_squeezeLemon : Cond) ∈ BIG := big_of (i := 613) (by decide +kernel) (by decide +kernel)
theorem qm_614 : (.selects RX8 yX8_squeezeLemon yX8_squeezeLemon : Cond) ∈ BIG := big_of (i := 614) (by decide +kernel) (by decide +kernel)
theorem qm_615 : (.code yX8_squeezeLemon cX8_squeezeLemon 1 (some .boolean) : Cond) ∈ BIG := big_of (i := 615) (by decide +kernel) (by decide +kernel)
theorem qm_616 : (.methodLink RX8 170 yX8_putSaucer : Cond) ∈ BIG := big_of (i := 616) (by decide +kernel) (by decide +kernel)
theorem qm_617 : (.instanceMethod yX8_putSaucer : Cond) ∈ BIG := big_of (i := 617) (by decide +kernel) (by decide +kernel)
theorem qm_618 : (.selects RX8 yX8_putSaucer yX8_putSaucer : Cond) ∈ BIG := big_of (i := 618) (by decide +kernel) (by decide +kernel)
theorem qm_619 : (.code yX8_putSaucer cX8_putSaucer 1 (some .boolean) : Cond) ∈ BIG := big_of (i := 619) (by decide +kernel) (by decide +kernel)
theorem qm_620 : (.methodLink RX8 132 yJ9_max_7cf53 : Cond) ∈ BIG := big_of (i := 620) (by decide +kernel) (by decide +kernel)
theorem qm_621 : (.methodLink RX8 173 yX8_serveGuest : Cond) ∈ BIG := big_of (i := 621) (by decide +kernel) (by decide +kernel)
theorem qm_622 : (.instanceMethod yX8_serveGuest : Cond) ∈ BIG := big_of (i := 622) (by decide +kernel) (by decide +kernel)
theorem qm_623 : (.selects RX8 yX8_serveGuest yX8_serveGuest : Cond) ∈ BIG := big_of (i := 623) (by decide +kernel) (by decide +kernel)
theorem qm_624 : (.code yX8_serveGuest cX8_serveGuest 2 (some .boolean) : Cond) ∈ BIG := big_of (i := 624) (by decide +kernel) (by decide +kernel)
theorem qm_625 : (.methodLink RX8 157 yX8_blow : Cond) ∈ BIG := big_of (i := 625) (by decide +kernel) (by decide +kernel)
theorem qm_627 : (.instanceMethod yX8_blow : Cond) ∈ BIG := big_of (i := 627) (by decide +kernel) (by decide +kernel)
theorem qm_628 : (.code yX8_blow cX8_blow 4 none : Cond) ∈ BIG := big_of (i := 628) (by decide +kernel) (by decide +kernel)
theorem qm_629 : (.methodLink RX8 180 yJ6_compare_7cf53 : Cond) ∈ BIG := big_of (i := 629) (by decide +kernel) (by decide +kernel)
theorem qm_630 : (.static yJ6_compare_7cf53 : Cond) ∈ BIG := big_of (i := 630) (by decide +kernel) (by decide +kernel)
theorem qm_631 : (.code yJ6_compare_7cf53 cJ6_compare_7cf53 2 (some .int) : Cond) ∈ BIG := big_of (i := 631) (by decide +kernel) (by decide +kernel)
theorem qm_632 : (.methodLink RX8 160 yX8_storm : Cond) ∈ BIG := big_of (i := 632) (by decide +kernel) (by decide +kernel)
theorem qm_634 : (.instanceMethod yX8_storm : Cond) ∈ BIG := big_of (i := 634) (by decide +kernel) (by decide +kernel)
theorem qm_635 : (.code yX8_storm cX8_storm 2 none : Cond) ∈ BIG := big_of (i := 635) (by decide +kernel) (by decide +kernel)
theorem qm_636 : (.methodLink RL 264 yX12_coinsAfter : Cond) ∈ BIG := big_of (i := 636) (by decide +kernel) (by decide +kernel)
theorem qm_637 : (.instanceMethod yX12_coinsAfter : Cond) ∈ BIG := big_of (i := 637) (by decide +kernel) (by decide +kernel)
theorem qm_638 : (.selects RX12 yX12_coinsAfter yX12_coinsAfter : Cond) ∈ BIG := big_of (i := 638) (by decide +kernel) (by decide +kernel)
theorem qm_639 : (.code yX12_coinsAfter cX12_coinsAfter 3 (some .int) : Cond) ∈ BIG := big_of (i := 639) (by decide +kernel) (by decide +kernel)
theorem qm_640 : (.methodLink RX12 220 yX8_copyFrom : Cond) ∈ BIG := big_of (i := 640) (by decide +kernel) (by decide +kernel)
theorem qm_641 : (.instanceMethod yX8_copyFrom : Cond) ∈ BIG := big_of (i := 641) (by decide +kernel) (by decide +kernel)
theorem qm_642 : (.selects RX8 yX8_copyFrom yX8_copyFrom : Cond) ∈ BIG := big_of (i := 642) (by decide +kernel) (by decide +kernel)
theorem qm_643 : (.code yX8_copyFrom cX8_copyFrom 3 none : Cond) ∈ BIG := big_of (i := 643) (by decide +kernel) (by decide +kernel)
theorem qm_644 : (.methodLink RL 267 yX12_hoursUntilStorm : Cond) ∈ BIG := big_of (i := 644) (by decide +kernel) (by decide +kernel)
theorem qm_645 : (.instanceMethod yX12_hoursUntilStorm : Cond) ∈ BIG := big_of (i := 645) (by decide +kernel) (by decide +kernel)
theorem qm_646 : (.selects RX12 yX12_hoursUntilStorm yX12_hoursUntilStorm : Cond) ∈ BIG := big_of (i := 646) (by decide +kernel) (by decide +kernel)
theorem qm_647 : (.code yX12_hoursUntilStorm cX12_hoursUntilStorm 2 (some .int) : Cond) ∈ BIG := big_of (i := 647) (by decide +kernel) (by decide +kernel)
theorem qm_648 : (.methodLink RL 270 yX12_hoursUntilServed : Cond) ∈ BIG := big_of (i := 648) (by decide +kernel) (by decide +kernel)
theorem qm_649 : (.instanceMethod yX12_hoursUntilServed : Cond) ∈ BIG := big_of (i := 649) (by decide +kernel) (by decide +kernel)
theorem qm_650 : (.selects RX12 yX12_hoursUntilServed yX12_hoursUntilServed : Cond) ∈ BIG := big_of (i := 650) (by decide +kernel) (by decide +kernel)
theorem qm_651 : (.code yX12_hoursUntilServed cX12_hoursUntilServed 3 (some .int) : Cond) ∈ BIG := big_of (i := 651) (by decide +kernel) (by decide +kernel)
theorem qm_652 : (.methodLink RL 241 yX12_bestToSteep : Cond) ∈ BIG := big_of (i := 652) (by decide +kernel) (by decide +kernel)
theorem qm_653 : (.instanceMethod yX12_bestToSteep : Cond) ∈ BIG := big_of (i := 653) (by decide +kernel) (by decide +kernel)
theorem qm_654 : (.selects RX12 yX12_bestToSteep yX12_bestToSteep : Cond) ∈ BIG := big_of (i := 654) (by decide +kernel) (by decide +kernel)
theorem qm_655 : (.code yX12_bestToSteep cX12_bestToSteep 5 (some .int) : Cond) ∈ BIG := big_of (i := 655) (by decide +kernel) (by decide +kernel)
theorem qm_656 : (.methodLink RX12 224 yX8_contentIfSteeped : Cond) ∈ BIG := big_of (i := 656) (by decide +kernel) (by decide +kernel)
theorem qm_657 : (.instanceMethod yX8_contentIfSteeped : Cond) ∈ BIG := big_of (i := 657) (by decide +kernel) (by decide +kernel)
theorem qm_658 : (.selects RX8 yX8_contentIfSteeped yX8_contentIfSteeped : Cond) ∈ BIG := big_of (i := 658) (by decide +kernel) (by decide +kernel)
theorem qm_659 : (.code yX8_contentIfSteeped cX8_contentIfSteeped 5 (some .int) : Cond) ∈ BIG := big_of (i := 659) (by decide +kernel) (by decide +kernel)
theorem qm_660 : (.methodLink RL 201 yX12_digest : Cond) ∈ BIG := big_of (i := 660) (by decide +kernel) (by decide +kernel)
theorem qm_661 : (.instanceMethod yX12_digest : Cond) ∈ BIG := big_of (i := 661) (by decide +kernel) (by decide +kernel)
theorem qm_662 : (.selects RX12 yX12_digest yX12_digest : Cond) ∈ BIG := big_of (i := 662) (by decide +kernel) (by decide +kernel)
theorem qm_663 : (.code yX12_digest cX12_digest 4 (some .long) : Cond) ∈ BIG := big_of (i := 663) (by decide +kernel) (by decide +kernel)
theorem qm_664 : (.constantLong RX12 227 1033 : Cond) ∈ BIG := big_of (i := 664) (by decide +kernel) (by decide +kernel)
theorem qm_665 : (.constantLong RX12 229 31 : Cond) ∈ BIG := big_of (i := 665) (by decide +kernel) (by decide +kernel)
theorem qm_666 : (.methodLink RX12 231 yX12_fronts : Cond) ∈ BIG := big_of (i := 666) (by decide +kernel) (by decide +kernel)
theorem qm_667 : (.methodLink RX12 234 yX12_guests : Cond) ∈ BIG := big_of (i := 667) (by decide +kernel) (by decide +kernel)
theorem qm_668 : (.methodLink RX12 236 yX12_hour : Cond) ∈ BIG := big_of (i := 668) (by decide +kernel) (by decide +kernel)
theorem qm_669 : (.methodLink RX12 238 yX12_warmth : Cond) ∈ BIG := big_of (i := 669) (by decide +kernel) (by decide +kernel)
theorem qm_670 : (.methodLink RX12 240 yX12_strength : Cond) ∈ BIG := big_of (i := 670) (by decide +kernel) (by decide +kernel)
theorem qm_671 : (.methodLink RX12 242 yX12_charge : Cond) ∈ BIG := big_of (i := 671) (by decide +kernel) (by decide +kernel)
theorem qm_672 : (.methodLink RX12 244 yX12_lemons : Cond) ∈ BIG := big_of (i := 672) (by decide +kernel) (by decide +kernel)
theorem qm_673 : (.methodLink RX12 246 yX12_saucers : Cond) ∈ BIG := big_of (i := 673) (by decide +kernel) (by decide +kernel)
theorem qm_674 : (.methodLink RX12 248 yX12_coins : Cond) ∈ BIG := big_of (i := 674) (by decide +kernel) (by decide +kernel)
theorem qm_675 : (.methodLink RX12 250 yX12_storms : Cond) ∈ BIG := big_of (i := 675) (by decide +kernel) (by decide +kernel)
theorem qm_676 : (.methodLink RX12 252 yX12_seatedGuests : Cond) ∈ BIG := big_of (i := 676) (by decide +kernel) (by decide +kernel)
theorem qm_677 : (.methodLink RX12 255 yX12_served : Cond) ∈ BIG := big_of (i := 677) (by decide +kernel) (by decide +kernel)
theorem qm_678 : (.methodLink RX12 258 yX12_stormed : Cond) ∈ BIG := big_of (i := 678) (by decide +kernel) (by decide +kernel)
theorem qm_679 : (.methodLink RX12 261 yX12_bestToSteep : Cond) ∈ BIG := big_of (i := 679) (by decide +kernel) (by decide +kernel)
theorem qm_680 : (.classLink RL 36 RX13 : Cond) ∈ BIG := big_of (i := 680) (by decide +kernel) (by decide +kernel)
theorem qm_681 : (.instantiable RX13 1 : Cond) ∈ BIG := big_of (i := 681) (by decide +kernel) (by decide +kernel)
theorem qm_682 : (.methodLink RL 178 yX13_init : Cond) ∈ BIG := big_of (i := 682) (by decide +kernel) (by decide +kernel)
theorem qm_683 : (.instanceMethod yX13_init : Cond) ∈ BIG := big_of (i := 683) (by decide +kernel) (by decide +kernel)
theorem qm_684 : (.code yX13_init cX13_init 2 none : Cond) ∈ BIG := big_of (i := 684) (by decide +kernel) (by decide +kernel)
theorem qm_685 : (.methodLink RX13 1 ⟨"java/lang/Object", "<init>", "()V"⟩ : Cond) ∈ BIG := big_of (i := 685) (by decide +kernel) (by decide +kernel)
theorem qm_686 : (.fieldLink RX13 7 "WeatherTeaLaw$Dice" "state" "I" : Cond) ∈ BIG := big_of (i := 686) (by decide +kernel) (by decide +kernel)
theorem qm_687 : (.lays RX13 RX13 "state" "I" : Cond) ∈ BIG := big_of (i := 687) (by decide +kernel) (by decide +kernel)
theorem qm_690 : (.methodLink RL 35 yX13_next : Cond) ∈ BIG := big_of (i := 690) (by decide +kernel) (by decide +kernel)
theorem qm_691 : (.instanceMethod yX13_next : Cond) ∈ BIG := big_of (i := 691) (by decide +kernel) (by decide +kernel)
theorem qm_692 : (.selects RX13 yX13_next yX13_next : Cond) ∈ BIG := big_of (i := 692) (by decide +kernel) (by decide +kernel)
theorem qm_693 : (.code yX13_next cX13_next 2 (some .int) : Cond) ∈ BIG := big_of (i := 693) (by decide +kernel) (by decide +kernel)
theorem qm_694 : (.constant RX13 13 1103515245 : Cond) ∈ BIG := big_of (i := 694) (by decide +kernel) (by decide +kernel)
theorem qm_696 : (.static yL_below : Cond) ∈ BIG := big_of (i := 696) (by decide +kernel) (by decide +kernel)
theorem qm_697 : (.code yL_below cL_below 2 (some .int) : Cond) ∈ BIG := big_of (i := 697) (by decide +kernel) (by decide +kernel)
theorem qm_698 : (.constant RL 7 2147483647 : Cond) ∈ BIG := big_of (i := 698) (by decide +kernel) (by decide +kernel)
theorem qm_699 : (.methodLink RL 257 yX18_likes : Cond) ∈ BIG := big_of (i := 699) (by decide +kernel) (by decide +kernel)
theorem qm_700 : (.instanceMethod yX18_likes : Cond) ∈ BIG := big_of (i := 700) (by decide +kernel) (by decide +kernel)
theorem qm_701 : (.selects RX18 yX18_likes yX18_likes : Cond) ∈ BIG := big_of (i := 701) (by decide +kernel) (by decide +kernel)
theorem qm_702 : (.code yX18_likes cX18_likes 3 (some .boolean) : Cond) ∈ BIG := big_of (i := 702) (by decide +kernel) (by decide +kernel)
theorem qm_703 : (.methodLink RL 279 yX18_pass : Cond) ∈ BIG := big_of (i := 703) (by decide +kernel) (by decide +kernel)
theorem qm_704 : (.instanceMethod yX18_pass : Cond) ∈ BIG := big_of (i := 704) (by decide +kernel) (by decide +kernel)
theorem qm_705 : (.selects RX18 yX18_pass yX18_pass : Cond) ∈ BIG := big_of (i := 705) (by decide +kernel) (by decide +kernel)
theorem qm_706 : (.code yX18_pass cX18_pass 9 (some .int) : Cond) ∈ BIG := big_of (i := 706) (by decide +kernel) (by decide +kernel)
theorem qm_707 : (.methodLink RX18 86 yX17_carryOut : Cond) ∈ BIG := big_of (i := 707) (by decide +kernel) (by decide +kernel)
theorem qm_708 : (.instanceMethod yX17_carryOut : Cond) ∈ BIG := big_of (i := 708) (by decide +kernel) (by decide +kernel)
theorem qm_709 : (.selects RX17 yX17_carryOut yX17_carryOut : Cond) ∈ BIG := big_of (i := 709) (by decide +kernel) (by decide +kernel)
theorem qm_710 : (.code yX17_carryOut cX17_carryOut 2 none : Cond) ∈ BIG := big_of (i := 710) (by decide +kernel) (by decide +kernel)
theorem qm_711 : (.methodLink RX17 60 yX16_value : Cond) ∈ BIG := big_of (i := 711) (by decide +kernel) (by decide +kernel)
theorem qm_712 : (.instanceMethod yX16_value : Cond) ∈ BIG := big_of (i := 712) (by decide +kernel) (by decide +kernel)
theorem qm_713 : (.selects RX16 yX16_value yX16_value : Cond) ∈ BIG := big_of (i := 713) (by decide +kernel) (by decide +kernel)
theorem qm_714 : (.code yX16_value cX16_value 2 (some .int) : Cond) ∈ BIG := big_of (i := 714) (by decide +kernel) (by decide +kernel)
theorem qm_715 : (.methodLink RX16 133 yX16_value : Cond) ∈ BIG := big_of (i := 715) (by decide +kernel) (by decide +kernel)
theorem qm_716 : (.methodLink RX16 147 yX18_likes : Cond) ∈ BIG := big_of (i := 716) (by decide +kernel) (by decide +kernel)
theorem qm_717 : (.methodLink RX16 151 yX16_both : Cond) ∈ BIG := big_of (i := 717) (by decide +kernel) (by decide +kernel)
theorem qm_718 : (.static yX16_both : Cond) ∈ BIG := big_of (i := 718) (by decide +kernel) (by decide +kernel)
theorem qm_719 : (.code yX16_both cX16_both 3 (some .int) : Cond) ∈ BIG := big_of (i := 719) (by decide +kernel) (by decide +kernel)
theorem qm_720 : (.methodLink RX17 64 yX18_isSteeped : Cond) ∈ BIG := big_of (i := 720) (by decide +kernel) (by decide +kernel)
theorem qm_721 : (.instanceMethod yX18_isSteeped : Cond) ∈ BIG := big_of (i := 721) (by decide +kernel) (by decide +kernel)
theorem qm_722 : (.selects RX18 yX18_isSteeped yX18_isSteeped : Cond) ∈ BIG := big_of (i := 722) (by decide +kernel) (by decide +kernel)
theorem qm_723 : (.code yX18_isSteeped cX18_isSteeped 2 (some .boolean) : Cond) ∈ BIG := big_of (i := 723) (by decide +kernel) (by decide +kernel)
theorem qm_724 : (.methodLink RX17 70 yX18_isServed : Cond) ∈ BIG := big_of (i := 724) (by decide +kernel) (by decide +kernel)
theorem qm_725 : (.instanceMethod yX18_isServed : Cond) ∈ BIG := big_of (i := 725) (by decide +kernel) (by decide +kernel)
theorem qm_726 : (.selects RX18 yX18_isServed yX18_isServed : Cond) ∈ BIG := big_of (i := 726) (by decide +kernel) (by decide +kernel)
theorem qm_727 : (.code yX18_isServed cX18_isServed 2 (some .boolean) : Cond) ∈ BIG := big_of (i := 727) (by decide +kernel) (by decide +kernel)
theorem qm_728 : (.methodLink RX18 82 yX18_likes : Cond) ∈ BIG := big_of (i := 728) (by decide +kernel) (by decide +kernel)
theorem qm_729 : (.methodLink RX17 73 yX18_isSqueezed : Cond) ∈ BIG := big_of (i := 729) (by decide +kernel) (by decide +kernel)
theorem qm_730 : (.instanceMethod yX18_isSqueezed : Cond) ∈ BIG := big_of (i := 730) (by decide +kernel) (by decide +kernel)
theorem qm_731 : (.selects RX18 yX18_isSqueezed yX18_isSqueezed : Cond) ∈ BIG := big_of (i := 731) (by decide +kernel) (by decide +kernel)
theorem qm_732 : (.code yX18_isSqueezed cX18_isSqueezed 1 (some .boolean) : Cond) ∈ BIG := big_of (i := 732) (by decide +kernel) (by decide +kernel)
theorem qm_733 : (.methodLink RX17 77 yX18_isCalmed : Cond) ∈ BIG := big_of (i := 733) (by decide +kernel) (by decide +kernel)
theorem qm_734 : (.instanceMethod yX18_isCalmed : Cond) ∈ BIG := big_of (i := 734) (by decide +kernel) (by decide +kernel)
theorem qm_735 : (.selects RX18 yX18_isCalmed yX18_isCalmed : Cond) ∈ BIG := big_of (i := 735) (by decide +kernel) (by decide +kernel)
theorem qm_736 : (.code yX18_isCalmed cX18_isCalmed 1 (some .boolean) : Cond) ∈ BIG := big_of (i := 736) (by decide +kernel) (by decide +kernel)
theorem qm_737 : (.methodLink RX18 90 yX18_come : Cond) ∈ BIG := big_of (i := 737) (by decide +kernel) (by decide +kernel)
theorem qm_738 : (.instanceMethod yX18_come : Cond) ∈ BIG := big_of (i := 738) (by decide +kernel) (by decide +kernel)
theorem qm_739 : (.selects RX18 yX18_come yX18_come : Cond) ∈ BIG := big_of (i := 739) (by decide +kernel) (by decide +kernel)
theorem qm_740 : (.code yX18_come cX18_come 5 none : Cond) ∈ BIG := big_of (i := 740) (by decide +kernel) (by decide +kernel)
theorem qm_741 : (.methodLink RL 281 yX18_isSame : Cond) ∈ BIG := big_of (i := 741) (by decide +kernel) (by decide +kernel)
theorem qm_742 : (.instanceMethod yX18_isSame : Cond) ∈ BIG := big_of (i := 742) (by decide +kernel) (by decide +kernel)
theorem qm_743 : (.selects RX18 yX18_isSame yX18_isSame : Cond) ∈ BIG := big_of (i := 743) (by decide +kernel) (by decide +kernel)
theorem qm_744 : (.code yX18_isSame cX18_isSame 6 (some .boolean) : Cond) ∈ BIG := big_of (i := 744) (by decide +kernel) (by decide +kernel)
theorem qm_745 : (.methodLink RX18 97 yX12_isWarm : Cond) ∈ BIG := big_of (i := 745) (by decide +kernel) (by decide +kernel)
theorem qm_746 : (.instanceMethod yX12_isWarm : Cond) ∈ BIG := big_of (i := 746) (by decide +kernel) (by decide +kernel)
theorem qm_747 : (.selects RX12 yX12_isWarm yX12_isWarm : Cond) ∈ BIG := big_of (i := 747) (by decide +kernel) (by decide +kernel)
theorem qm_748 : (.code yX12_isWarm cX12_isWarm 2 (some .boolean) : Cond) ∈ BIG := big_of (i := 748) (by decide +kernel) (by decide +kernel)
theorem qm_749 : (.methodLink RX18 102 yX12_forceOf : Cond) ∈ BIG := big_of (i := 749) (by decide +kernel) (by decide +kernel)
theorem qm_750 : (.methodLink RX18 106 yX12_isOver : Cond) ∈ BIG := big_of (i := 750) (by decide +kernel) (by decide +kernel)
theorem qm_751 : (.methodLink RX18 109 yX12_isSteeped : Cond) ∈ BIG := big_of (i := 751) (by decide +kernel) (by decide +kernel)
theorem qm_752 : (.methodLink RX18 112 yX12_isSeated : Cond) ∈ BIG := big_of (i := 752) (by decide +kernel) (by decide +kernel)
theorem qm_753 : (.methodLink RX18 115 yX12_isContent : Cond) ∈ BIG := big_of (i := 753) (by decide +kernel) (by decide +kernel)
theorem qm_754 : (.methodLink RX18 118 yX12_wasServed : Cond) ∈ BIG := big_of (i := 754) (by decide +kernel) (by decide +kernel)
theorem qm_755 : (.methodLink RX18 121 yX12_wasStormed : Cond) ∈ BIG := big_of (i := 755) (by decide +kernel) (by decide +kernel)
theorem qm_756 : (.methodLink RX18 124 yX12_fronts : Cond) ∈ BIG := big_of (i := 756) (by decide +kernel) (by decide +kernel)
theorem qm_757 : (.methodLink RX18 126 yX12_guests : Cond) ∈ BIG := big_of (i := 757) (by decide +kernel) (by decide +kernel)
theorem qm_758 : (.methodLink RX18 128 yX12_hour : Cond) ∈ BIG := big_of (i := 758) (by decide +kernel) (by decide +kernel)
theorem qm_759 : (.methodLink RX18 130 yX12_warmth : Cond) ∈ BIG := big_of (i := 759) (by decide +kernel) (by decide +kernel)
theorem qm_760 : (.methodLink RX18 132 yX12_strength : Cond) ∈ BIG := big_of (i := 760) (by decide +kernel) (by decide +kernel)
theorem qm_761 : (.methodLink RX18 134 yX12_charge : Cond) ∈ BIG := big_of (i := 761) (by decide +kernel) (by decide +kernel)
theorem qm_762 : (.methodLink RX18 136 yX12_lemons : Cond) ∈ BIG := big_of (i := 762) (by decide +kernel) (by decide +kernel)
theorem qm_763 : (.methodLink RX18 138 yX12_saucers : Cond) ∈ BIG := big_of (i := 763) (by decide +kernel) (by decide +kernel)
theorem qm_764 : (.methodLink RX18 140 yX12_coins : Cond) ∈ BIG := big_of (i := 764) (by decide +kernel) (by decide +kernel)
theorem qm_765 : (.methodLink RX18 142 yX12_storms : Cond) ∈ BIG := big_of (i := 765) (by decide +kernel) (by decide +kernel)
theorem qm_766 : (.methodLink RX18 144 yX12_seatedGuests : Cond) ∈ BIG := big_of (i := 766) (by decide +kernel) (by decide +kernel)
theorem qm_767 : (.methodLink RX18 147 yX18_guestsAt : Cond) ∈ BIG := big_of (i := 767) (by decide +kernel) (by decide +kernel)
theorem qm_768 : (.instanceMethod yX18_guestsAt : Cond) ∈ BIG := big_of (i := 768) (by decide +kernel) (by decide +kernel)
theorem qm_769 : (.selects RX18 yX18_guestsAt yX18_guestsAt : Cond) ∈ BIG := big_of (i := 769) (by decide +kernel) (by decide +kernel)
theorem qm_770 : (.code yX18_guestsAt cX18_guestsAt 7 (some .int) : Cond) ∈ BIG := big_of (i := 770) (by decide +kernel) (by decide +kernel)
theorem qm_771 : (.methodLink RX18 150 yX12_served : Cond) ∈ BIG := big_of (i := 771) (by decide +kernel) (by decide +kernel)
theorem qm_772 : (.methodLink RX18 153 yX12_stormed : Cond) ∈ BIG := big_of (i := 772) (by decide +kernel) (by decide +kernel)
theorem qm_773 : (.methodLink RX18 156 yX12_meanForce : Cond) ∈ BIG := big_of (i := 773) (by decide +kernel) (by decide +kernel)
theorem qm_774 : (.instanceMethod yX12_meanForce : Cond) ∈ BIG := big_of (i := 774) (by decide +kernel) (by decide +kernel)
theorem qm_775 : (.selects RX12 yX12_meanForce yX12_meanForce : Cond) ∈ BIG := big_of (i := 775) (by decide +kernel) (by decide +kernel)
theorem qm_776 : (.code yX12_meanForce cX12_meanForce 4 (some .double) : Cond) ∈ BIG := big_of (i := 776) (by decide +kernel) (by decide +kernel)
theorem qm_777 : (.methodLink RL 172 yL_cell : Cond) ∈ BIG := big_of (i := 777) (by decide +kernel) (by decide +kernel)
theorem qm_778 : (.static yL_cell : Cond) ∈ BIG := big_of (i := 778) (by decide +kernel) (by decide +kernel)
theorem qm_779 : (.code yL_cell cL_cell 2 (some .int) : Cond) ∈ BIG := big_of (i := 779) (by decide +kernel) (by decide +kernel)
theorem qm_780 : (.constant RL 8 790386105 : Cond) ∈ BIG := big_of (i := 780) (by decide +kernel) (by decide +kernel)
theorem qm_781 : (.methodLink RL 189 yL_taught : Cond) ∈ BIG := big_of (i := 781) (by decide +kernel) (by decide +kernel)
theorem qm_782 : (.static yL_taught : Cond) ∈ BIG := big_of (i := 782) (by decide +kernel) (by decide +kernel)
theorem qm_783 : (.code yL_taught cL_taught 6 (some .int) : Cond) ∈ BIG := big_of (i := 783) (by decide +kernel) (by decide +kernel)
theorem qm_784 : (.methodLink RL 9 yJ0_length_8abf5 : Cond) ∈ BIG := big_of (i := 784) (by decide +kernel) (by decide +kernel)
theorem qm_785 : (.instanceMethod yJ0_length_8abf5 : Cond) ∈ BIG := big_of (i := 785) (by decide +kernel) (by decide +kernel)
theorem qm_786 : (.selects RJ0 yJ0_length_8abf5 yJ0_length_8abf5 : Cond) ∈ BIG := big_of (i := 786) (by decide +kernel) (by decide +kernel)
theorem qm_787 : (.code yJ0_length_8abf5 cJ0_length_8abf5 1 (some .int) : Cond) ∈ BIG := big_of (i := 787) (by decide +kernel) (by decide +kernel)
theorem qm_788 : (.methodLink RJ0 335 yJ0_coder_7d493 : Cond) ∈ BIG := big_of (i := 788) (by decide +kernel) (by decide +kernel)
theorem qm_789 : (.instanceMethod yJ0_coder_7d493 : Cond) ∈ BIG := big_of (i := 789) (by decide +kernel) (by decide +kernel)
theorem qm_790 : (.selects RJ0 yJ0_coder_7d493 yJ0_coder_7d493 : Cond) ∈ BIG := big_of (i := 790) (by decide +kernel) (by decide +kernel)
theorem qm_791 : (.code yJ0_coder_7d493 cJ0_coder_7d493 1 (some .byte) : Cond) ∈ BIG := big_of (i := 791) (by decide +kernel) (by decide +kernel)
theorem qm_792 : (.fieldLink RJ0 38 "java/lang/String" "COMPACT_STRINGS" "Z" : Cond) ∈ BIG := big_of (i := 792) (by decide +kernel) (by decide +kernel)
theorem qm_794 : (.methodLink RL 15 yJ0_charAt_5068e : Cond) ∈ BIG := big_of (i := 794) (by decide +kernel) (by decide +kernel)
theorem qm_795 : (.instanceMethod yJ0_charAt_5068e : Cond) ∈ BIG := big_of (i := 795) (by decide +kernel) (by decide +kernel)
theorem qm_796 : (.selects RJ0 yJ0_charAt_5068e yJ0_charAt_5068e : Cond) ∈ BIG := big_of (i := 796) (by decide +kernel) (by decide +kernel)
theorem qm_797 : (.code yJ0_charAt_5068e cJ0_charAt_5068e 2 (some .char) : Cond) ∈ BIG := big_of (i := 797) (by decide +kernel) (by decide +kernel)
theorem qm_798 : (.methodLink RJ0 492 yJ0_isLatin1_aae02 : Cond) ∈ BIG := big_of (i := 798) (by decide +kernel) (by decide +kernel)
theorem qm_799 : (.instanceMethod yJ0_isLatin1_aae02 : Cond) ∈ BIG := big_of (i := 799) (by decide +kernel) (by decide +kernel)
theorem qm_800 : (.selects RJ0 yJ0_isLatin1_aae02 yJ0_isLatin1_aae02 : Cond) ∈ BIG := big_of (i := 800) (by decide +kernel) (by decide +kernel)
theorem qm_801 : (.code yJ0_isLatin1_aae02 cJ0_isLatin1_aae02 1 (some .boolean) : Cond) ∈ BIG := big_of (i := 801) (by decide +kernel) (by decide +kernel)
theorem qm_802 : (.methodLink RJ0 495 yJ1_charAt_3b067 : Cond) ∈ BIG := big_of (i := 802) (by decide +kernel) (by decide +kernel)
theorem qm_803 : (.static yJ1_charAt_3b067 : Cond) ∈ BIG := big_of (i := 803) (by decide +kernel) (by decide +kernel)
theorem qm_804 : (.code yJ1_charAt_3b067 cJ1_charAt_3b067 2 (some .char) : Cond) ∈ BIG := big_of (i := 804) (by decide +kernel) (by decide +kernel)
theorem qm_805 : (.methodLink RJ1 9 yJ0_checkIndex_df160 : Cond) ∈ BIG := big_of (i := 805) (by decide +kernel) (by decide +kernel)
theorem qm_806 : (.static yJ0_checkIndex_df160 : Cond) ∈ BIG := big_of (i := 806) (by decide +kernel) (by decide +kernel)
theorem qm_807 : (.code yJ0_checkIndex_df160 cJ0_checkIndex_df160 2 none : Cond) ∈ BIG := big_of (i := 807) (by decide +kernel) (by decide +kernel)
theorem qm_808 : (.fieldLink RJ0 1053 "jdk/internal/util/Preconditions" "SIOOBE_FORMATTER" "Ljava/util/function/BiFunction;" : Cond) ∈ BIG := big_of (i := 808) (by decide +kernel) (by decide +kernel)
theorem qm_810 : (.methodLink RJ0 1059 yJ3_checkIndex_8e157 : Cond) ∈ BIG := big_of (i := 810) (by decide +kernel) (by decide +kernel)
theorem qm_811 : (.static yJ3_checkIndex_8e157 : Cond) ∈ BIG := big_of (i := 811) (by decide +kernel) (by decide +kernel)
theorem qm_812 : (.code yJ3_checkIndex_8e157 cJ3_checkIndex_8e157 3 (some .int) : Cond) ∈ BIG := big_of (i := 812) (by decide +kernel) (by decide +kernel)
theorem qm_813 : (.methodLink RJ0 498 yJ2_charAt_3b067 : Cond) ∈ BIG := big_of (i := 813) (by decide +kernel) (by decide +kernel)
theorem qm_814 : (.static yJ2_charAt_3b067 : Cond) ∈ BIG := big_of (i := 814) (by decide +kernel) (by decide +kernel)
theorem qm_815 : (.code yJ2_charAt_3b067 cJ2_charAt_3b067 2 (some .char) : Cond) ∈ BIG := big_of (i := 815) (by decide +kernel) (by decide +kernel)
theorem qm_816 : (.methodLink RJ2 67 yJ2_checkIndex_2214a : Cond) ∈ BIG := big_of (i := 816) (by decide +kernel) (by decide +kernel)
theorem qm_817 : (.static yJ2_checkIndex_2214a : Cond) ∈ BIG := big_of (i := 817) (by decide +kernel) (by decide +kernel)
theorem qm_818 : (.code yJ2_checkIndex_2214a cJ2_checkIndex_2214a 2 none : Cond) ∈ BIG := big_of (i := 818) (by decide +kernel) (by decide +kernel)
theorem qm_819 : (.methodLink RJ2 48 yJ2_length_9d52b : Cond) ∈ BIG := big_of (i := 819) (by decide +kernel) (by decide +kernel)
theorem qm_820 : (.static yJ2_length_9d52b : Cond) ∈ BIG := big_of (i := 820) (by decide +kernel) (by decide +kernel)
theorem qm_821 : (.code yJ2_length_9d52b cJ2_length_9d52b 1 (some .int) : Cond) ∈ BIG := big_of (i := 821) (by decide +kernel) (by decide +kernel)
theorem qm_822 : (.methodLink RJ2 414 yJ0_checkIndex_df160 : Cond) ∈ BIG := big_of (i := 822) (by decide +kernel) (by decide +kernel)
theorem qm_823 : (.methodLink RJ2 71 yJ2_getChar_3b067 : Cond) ∈ BIG := big_of (i := 823) (by decide +kernel) (by decide +kernel)
theorem qm_824 : (.static yJ2_getChar_3b067 : Cond) ∈ BIG := big_of (i := 824) (by decide +kernel) (by decide +kernel)
theorem qm_825 : (.code yJ2_getChar_3b067 cJ2_getChar_3b067 2 (some .char) : Cond) ∈ BIG := big_of (i := 825) (by decide +kernel) (by decide +kernel)
theorem qm_826 : (.fieldLink RJ2 44 "java/lang/StringUTF16" "$assertionsDisabled" "Z" : Cond) ∈ BIG := big_of (i := 826) (by decide +kernel) (by decide +kernel)
theorem qm_828 : (.fieldLink RJ2 59 "java/lang/StringUTF16" "HI_BYTE_SHIFT" "I" : Cond) ∈ BIG := big_of (i := 828) (by decide +kernel) (by decide +kernel)
theorem qm_830 : (.fieldLink RJ2 63 "java/lang/StringUTF16" "LO_BYTE_SHIFT" "I" : Cond) ∈ BIG := big_of (i := 830) (by decide +kernel) (by decide +kernel)
theorem qm_832 : (.methodLink RL 19 yX12_feed : Cond) ∈ BIG := big_of (i := 832) (by decide +kernel) (by decide +kernel)
theorem qm_833 : (.instanceMethod yX12_feed : Cond) ∈ BIG := big_of (i := 833) (by decide +kernel) (by decide +kernel)
theorem qm_834 : (.selects RX12 yX12_feed yX12_feed : Cond) ∈ BIG := big_of (i := 834) (by decide +kernel) (by decide +kernel)
theorem qm_835 : (.code yX12_feed cX12_feed 6 (some .int) : Cond) ∈ BIG := big_of (i := 835) (by decide +kernel) (by decide +kernel)
theorem qm_836 : (.classLink RX12 47 "java/lang/IllegalStateException" : Cond) ∈ BIG := big_of (i := 836) (by decide +kernel) (by decide +kernel)
theorem qm_837 : (.instantiable "java/lang/IllegalStateException" 6 : Cond) ∈ BIG := big_of (i := 837) (by decide +kernel) (by decide +kernel)
theorem qm_839 : (.selects "java/lang/IllegalStateException" ⟨"java/lang/Throwable", "fillInStackTrace", "(I)Ljava/lang/Throwable;"⟩ ⟨"java/lang/Throwable", "fillInStackTrace", "(I)Ljava/lang/Throwable;"⟩ : Cond) ∈ BIG := big_of (i := 839) (by decide +kernel) (by decide +kernel)
theorem qm_840 : (.lays "java/lang/IllegalStateException" "java/lang/Throwable" "cause" "Ljava/lang/Throwable;" : Cond) ∈ BIG := big_of (i := 840) (by decide +kernel) (by decide +kernel)
theorem qm_841 : (.lays "java/lang/IllegalStateException" "java/lang/Throwable" "stackTrace" "[Ljava/lang/StackTraceElement;" : Cond) ∈ BIG := big_of (i := 841) (by decide +kernel) (by decide +kernel)
theorem qm_842 : (.lays "java/lang/IllegalStateException" "java/lang/Throwable" "suppressedExceptions" "Ljava/util/List;" : Cond) ∈ BIG := big_of (i := 842) (by decide +kernel) (by decide +kernel)
theorem qm_843 : (.lays "java/lang/IllegalStateException" "java/lang/Throwable" "detailMessage" "Ljava/lang/String;" : Cond) ∈ BIG := big_of (i := 843) (by decide +kernel) (by decide +kernel)
theorem qm_844 : (.lays "java/lang/IllegalStateException" "java/lang/Throwable" "backtrace" "Ljava/lang/Object;" : Cond) ∈ BIG := big_of (i := 844) (by decide +kernel) (by decide +kernel)
theorem qm_846 : (.methodLink RX12 51 ⟨"java/lang/IllegalStateException", "<init>", "(Ljava/lang/String;)V"⟩ : Cond) ∈ BIG := big_of (i := 846) (by decide +kernel) (by decide +kernel)
theorem qm_847 : (.instanceMethod ⟨"java/lang/IllegalStateException", "<init>", "(Ljava/lang/String;)V"⟩ : Cond) ∈ BIG := big_of (i := 847) (by decide +kernel) (by decide +kernel)
theorem qm_848 : (.code ⟨"java/lang/IllegalStateException", "<init>", "(Ljava/lang/String;)V"⟩ prog_28_method_2_code 2 none : Cond) ∈ BIG := big_of (i := 848) (by decide +kernel) (by decide +kernel)
theorem qm_849 : (.methodLink "java/lang/IllegalStateException" 7 ⟨"java/lang/RuntimeException", "<init>", "(Ljava/lang/String;)V"⟩ : Cond) ∈ BIG := big_of (i := 849) (by decide +kernel) (by decide +kernel)
theorem qm_850 : (.lays "java/lang/IllegalStateException" "java/lang/Throwable" "depth" "I" : Cond) ∈ BIG := big_of (i := 850) (by decide +kernel) (by decide +kernel)
theorem qm_852 : (.methodLink RX12 54 yX10_append : Cond) ∈ BIG := big_of (i := 852) (by decide +kernel) (by decide +kernel)
theorem qm_853 : (.instanceMethod yX10_append : Cond) ∈ BIG := big_of (i := 853) (by decide +kernel) (by decide +kernel)
theorem qm_854 : (.selects RX10 yX10_append yX10_append : Cond) ∈ BIG := big_of (i := 854) (by decide +kernel) (by decide +kernel)
theorem qm_855 : (.code yX10_append cX10_append 3 none : Cond) ∈ BIG := big_of (i := 855) (by decide +kernel) (by decide +kernel)
theorem qm_856 : (.methodLink RL 25 yX12_trim : Cond) ∈ BIG := big_of (i := 856) (by decide +kernel) (by decide +kernel)
theorem qm_857 : (.instanceMethod yX12_trim : Cond) ∈ BIG := big_of (i := 857) (by decide +kernel) (by decide +kernel)
theorem qm_858 : (.selects RX12 yX12_trim yX12_trim : Cond) ∈ BIG := big_of (i := 858) (by decide +kernel) (by decide +kernel)
theorem qm_859 : (.code yX12_trim cX12_trim 2 (some .int) : Cond) ∈ BIG := big_of (i := 859) (by decide +kernel) (by decide +kernel)
theorem qm_861 : (.methodLink RL 29 yX12_teach : Cond) ∈ BIG := big_of (i := 861) (by decide +kernel) (by decide +kernel)
theorem qm_862 : (.instanceMethod yX12_teach : Cond) ∈ BIG := big_of (i := 862) (by decide +kernel) (by decide +kernel)
theorem qm_863 : (.selects RX12 yX12_teach yX12_teach : Cond) ∈ BIG := big_of (i := 863) (by decide +kernel) (by decide +kernel)
theorem qm_864 : (.code yX12_teach cX12_teach 2 (some .int) : Cond) ∈ BIG := big_of (i := 864) (by decide +kernel) (by decide +kernel)
theorem qm_865 : (.methodLink RX12 63 yX11_readAll : Cond) ∈ BIG := big_of (i := 865) (by decide +kernel) (by decide +kernel)
theorem qm_866 : (.instanceMethod yX11_readAll : Cond) ∈ BIG := big_of (i := 866) (by decide +kernel) (by decide +kernel)
theorem qm_867 : (.selects RX11 yX11_readAll yX11_readAll : Cond) ∈ BIG := big_of (i := 867) (by decide +kernel) (by decide +kernel)
theorem qm_868 : (.code yX11_readAll cX11_readAll 6 none : Cond) ∈ BIG := big_of (i := 868) (by decide +kernel) (by decide +kernel)
theorem qm_869 : (.methodLink RX11 42 yX11_behindBlanks : Cond) ∈ BIG := big_of (i := 869) (by decide +kernel) (by decide +kernel)
theorem qm_870 : (.static yX11_behindBlanks : Cond) ∈ BIG := big_of (i := 870) (by decide +kernel) (by decide +kernel)
theorem qm_871 : (.code yX11_behindBlanks cX11_behindBlanks 3 (some .int) : Cond) ∈ BIG := big_of (i := 871) (by decide +kernel) (by decide +kernel)
theorem qm_872 : (.methodLink RX11 69 yX10_byteAt : Cond) ∈ BIG := big_of (i := 872) (by decide +kernel) (by decide +kernel)
theorem qm_873 : (.instanceMethod yX10_byteAt : Cond) ∈ BIG := big_of (i := 873) (by decide +kernel) (by decide +kernel)
theorem qm_874 : (.selects RX10 yX10_byteAt yX10_byteAt : Cond) ∈ BIG := big_of (i := 874) (by decide +kernel) (by decide +kernel)
theorem qm_875 : (.code yX10_byteAt cX10_byteAt 2 (some .int) : Cond) ∈ BIG := big_of (i := 875) (by decide +kernel) (by decide +kernel)
theorem qm_876 : (.methodLink RX11 51 yX11_sizeOf : Cond) ∈ BIG := big_of (i := 876) (by decide +kernel) (by decide +kernel)
theorem qm_877 : (.static yX11_sizeOf : Cond) ∈ BIG := big_of (i := 877) (by decide +kernel) (by decide +kernel)
theorem qm_878 : (.code yX11_sizeOf cX11_sizeOf 4 (some .int) : Cond) ∈ BIG := big_of (i := 878) (by decide +kernel) (by decide +kernel)
theorem qm_879 : (.methodLink RX11 73 yX11_isLetter : Cond) ∈ BIG := big_of (i := 879) (by decide +kernel) (by decide +kernel)
theorem qm_880 : (.static yX11_isLetter : Cond) ∈ BIG := big_of (i := 880) (by decide +kernel) (by decide +kernel)
theorem qm_881 : (.code yX11_isLetter cX11_isLetter 1 (some .boolean) : Cond) ∈ BIG := big_of (i := 881) (by decide +kernel) (by decide +kernel)
theorem qm_882 : (.methodLink RX11 77 yX11_isDigit : Cond) ∈ BIG := big_of (i := 882) (by decide +kernel) (by decide +kernel)
theorem qm_883 : (.static yX11_isDigit : Cond) ∈ BIG := big_of (i := 883) (by decide +kernel) (by decide +kernel)
theorem qm_884 : (.code yX11_isDigit cX11_isDigit 1 (some .boolean) : Cond) ∈ BIG := big_of (i := 884) (by decide +kernel) (by decide +kernel)
theorem qm_885 : (.methodLink RX11 54 yX11_kindOf : Cond) ∈ BIG := big_of (i := 885) (by decide +kernel) (by decide +kernel)
theorem qm_886 : (.static yX11_kindOf : Cond) ∈ BIG := big_of (i := 886) (by decide +kernel) (by decide +kernel)
theorem qm_887 : (.code yX11_kindOf cX11_kindOf 5 (some (.object "WeatherTea$Kind")) : Cond) ∈ BIG := big_of (i := 887) (by decide +kernel) (by decide +kernel)
theorem qm_888 : (.fieldLink RX11 58 "WeatherTea$Kind" "BAD" "LWeatherTea$Kind;" : Cond) ∈ BIG := big_of (i := 888) (by decide +kernel) (by decide +kernel)
theorem qm_890 : (.fieldLink RX11 80 "WeatherTea$Kind" "NUMBER" "LWeatherTea$Kind;" : Cond) ∈ BIG := big_of (i := 890) (by decide +kernel) (by decide +kernel)
theorem qm_894 : (.methodLink RX11 90 yX10_hasText : Cond) ∈ BIG := big_of (i := 894) (by decide +kernel) (by decide +kernel)
theorem qm_895 : (.instanceMethod yX10_hasText : Cond) ∈ BIG := big_of (i := 895) (by decide +kernel) (by decide +kernel)
theorem qm_896 : (.selects RX10 yX10_hasText yX10_hasText : Cond) ∈ BIG := big_of (i := 896) (by decide +kernel) (by decide +kernel)
theorem qm_897 : (.code yX10_hasText cX10_hasText 5 (some .boolean) : Cond) ∈ BIG := big_of (i := 897) (by decide +kernel) (by decide +kernel)
theorem qm_898 : (.methodLink RX10 19 yJ0_length_8abf5 : Cond) ∈ BIG := big_of (i := 898) (by decide +kernel) (by decide +kernel)
theorem qm_899 : (.methodLink RX10 24 yX10_byteAt : Cond) ∈ BIG := big_of (i := 899) (by decide +kernel) (by decide +kernel)
theorem qm_900 : (.methodLink RX10 28 yJ0_charAt_5068e : Cond) ∈ BIG := big_of (i := 900) (by decide +kernel) (by decide +kernel)
theorem qm_901 : (.fieldLink RX11 94 "WeatherTea$Kind" "NAME" "LWeatherTea$Kind;" : Cond) ∈ BIG := big_of (i := 901) (by decide +kernel) (by decide +kernel)
theorem qm_903 : (.methodLink RX11 61 yX11_valueOf : Cond) ∈ BIG := big_of (i := 903) (by decide +kernel) (by decide +kernel)
theorem qm_904 : (.static yX11_valueOf : Cond) ∈ BIG := big_of (i := 904) (by decide +kernel) (by decide +kernel)
theorem qm_905 : (.code yX11_valueOf cX11_valueOf 8 (some .long) : Cond) ∈ BIG := big_of (i := 905) (by decide +kernel) (by decide +kernel)
theorem qm_906 : (.constantLong RX11 97 10 : Cond) ∈ BIG := big_of (i := 906) (by decide +kernel) (by decide +kernel)
theorem qm_907 : (.constantLong RX11 99 37 : Cond) ∈ BIG := big_of (i := 907) (by decide +kernel) (by decide +kernel)
theorem qm_908 : (.methodLink RX11 101 yX11_wordSign : Cond) ∈ BIG := big_of (i := 908) (by decide +kernel) (by decide +kernel)
theorem qm_909 : (.static yX11_wordSign : Cond) ∈ BIG := big_of (i := 909) (by decide +kernel) (by decide +kernel)
theorem qm_910 : (.code yX11_wordSign cX11_wordSign 1 (some .int) : Cond) ∈ BIG := big_of (i := 910) (by decide +kernel) (by decide +kernel)
theorem qm_911 : (.methodLink RX11 65 yX11_add : Cond) ∈ BIG := big_of (i := 911) (by decide +kernel) (by decide +kernel)
theorem qm_913 : (.instanceMethod yX11_add : Cond) ∈ BIG := big_of (i := 913) (by decide +kernel) (by decide +kernel)
theorem qm_914 : (.code yX11_add cX11_add 5 none : Cond) ∈ BIG := big_of (i := 914) (by decide +kernel) (by decide +kernel)
theorem qm_915 : (.methodLink RX12 67 yX7_clear : Cond) ∈ BIG := big_of (i := 915) (by decide +kernel) (by decide +kernel)
theorem qm_916 : (.instanceMethod yX7_clear : Cond) ∈ BIG := big_of (i := 916) (by decide +kernel) (by decide +kernel)
theorem qm_917 : (.selects RX7 yX7_clear yX7_clear : Cond) ∈ BIG := big_of (i := 917) (by decide +kernel) (by decide +kernel)
theorem qm_918 : (.code yX7_clear cX7_clear 1 none : Cond) ∈ BIG := big_of (i := 918) (by decide +kernel) (by decide +kernel)
theorem qm_919 : (.methodLink RX12 74 yX3_read : Cond) ∈ BIG := big_of (i := 919) (by decide +kernel) (by decide +kernel)
theorem qm_920 : (.static yX3_read : Cond) ∈ BIG := big_of (i := 920) (by decide +kernel) (by decide +kernel)
theorem qm_921 : (.code yX3_read cX3_read 4 none : Cond) ∈ BIG := big_of (i := 921) (by decide +kernel) (by decide +kernel)
theorem qm_922 : (.methodLink RX3 9 yX11_next : Cond) ∈ BIG := big_of (i := 922) (by decide +kernel) (by decide +kernel)
theorem qm_923 : (.instanceMethod yX11_next : Cond) ∈ BIG := big_of (i := 923) (by decide +kernel) (by decide +kernel)
theorem qm_924 : (.selects RX11 yX11_next yX11_next : Cond) ∈ BIG := big_of (i := 924) (by decide +kernel) (by decide +kernel)
theorem qm_925 : (.code yX11_next cX11_next 1 (some (.object "WeatherTea$Kind")) : Cond) ∈ BIG := big_of (i := 925) (by decide +kernel) (by decide +kernel)
theorem qm_926 : (.fieldLink RX3 15 "WeatherTea$Kind" "END" "LWeatherTea$Kind;" : Cond) ∈ BIG := big_of (i := 926) (by decide +kernel) (by decide +kernel)
theorem qm_927 : (.methodLink RX3 21 yX3_line : Cond) ∈ BIG := big_of (i := 927) (by decide +kernel) (by decide +kernel)
theorem qm_928 : (.static yX3_line : Cond) ∈ BIG := big_of (i := 928) (by decide +kernel) (by decide +kernel)
theorem qm_929 : (.code yX3_line cX3_line 2 (some .boolean) : Cond) ∈ BIG := big_of (i := 929) (by decide +kernel) (by decide +kernel)
theorem qm_930 : (.fieldLink RX3 42 "WeatherTea$Kind" "FRONT" "LWeatherTea$Kind;" : Cond) ∈ BIG := big_of (i := 930) (by decide +kernel) (by decide +kernel)
theorem qm_932 : (.methodLink RX3 30 yX11_take : Cond) ∈ BIG := big_of (i := 932) (by decide +kernel) (by decide +kernel)
theorem qm_933 : (.instanceMethod yX11_take : Cond) ∈ BIG := big_of (i := 933) (by decide +kernel) (by decide +kernel)
theorem qm_934 : (.selects RX11 yX11_take yX11_take : Cond) ∈ BIG := big_of (i := 934) (by decide +kernel) (by decide +kernel)
theorem qm_935 : (.code yX11_take cX11_take 2 (some .boolean) : Cond) ∈ BIG := big_of (i := 935) (by decide +kernel) (by decide +kernel)
theorem qm_936 : (.fieldLink RX3 45 "WeatherTea$Kind" "NAME" "LWeatherTea$Kind;" : Cond) ∈ BIG := big_of (i := 936) (by decide +kernel) (by decide +kernel)
theorem qm_937 : (.fieldLink RX3 48 "WeatherTea$Kind" "IS" "LWeatherTea$Kind;" : Cond) ∈ BIG := big_of (i := 937) (by decide +kernel) (by decide +kernel)
theorem qm_939 : (.fieldLink RX3 51 "WeatherTea$Kind" "WARM" "LWeatherTea$Kind;" : Cond) ∈ BIG := big_of (i := 939) (by decide +kernel) (by decide +kernel)
theorem qm_941 : (.fieldLink RX3 54 "WeatherTea$Kind" "COLD" "LWeatherTea$Kind;" : Cond) ∈ BIG := big_of (i := 941) (by decide +kernel) (by decide +kernel)
theorem qm_943 : (.fieldLink RX3 57 "WeatherTea$Kind" "FORCE" "LWeatherTea$Kind;" : Cond) ∈ BIG := big_of (i := 943) (by decide +kernel) (by decide +kernel)
theorem qm_945 : (.methodLink RX3 60 yX11_takeNumber : Cond) ∈ BIG := big_of (i := 945) (by decide +kernel) (by decide +kernel)
theorem qm_946 : (.instanceMethod yX11_takeNumber : Cond) ∈ BIG := big_of (i := 946) (by decide +kernel) (by decide +kernel)
theorem qm_947 : (.selects RX11 yX11_takeNumber yX11_takeNumber : Cond) ∈ BIG := big_of (i := 947) (by decide +kernel) (by decide +kernel)
theorem qm_948 : (.code yX11_takeNumber cX11_takeNumber 2 (some .boolean) : Cond) ∈ BIG := big_of (i := 948) (by decide +kernel) (by decide +kernel)
theorem qm_949 : (.methodLink RX11 107 yX11_take : Cond) ∈ BIG := big_of (i := 949) (by decide +kernel) (by decide +kernel)
theorem qm_950 : (.fieldLink RX3 63 "WeatherTea$Kind" "AT" "LWeatherTea$Kind;" : Cond) ∈ BIG := big_of (i := 950) (by decide +kernel) (by decide +kernel)
theorem qm_952 : (.fieldLink RX3 66 "WeatherTea$Kind" "FOR" "LWeatherTea$Kind;" : Cond) ∈ BIG := big_of (i := 952) (by decide +kernel) (by decide +kernel)
theorem qm_954 : (.fieldLink RX3 69 "WeatherTea$Kind" "GUEST" "LWeatherTea$Kind;" : Cond) ∈ BIG := big_of (i := 954) (by decide +kernel) (by decide +kernel)
theorem qm_956 : (.fieldLink RX3 72 "WeatherTea$Kind" "LIKES" "LWeatherTea$Kind;" : Cond) ∈ BIG := big_of (i := 956) (by decide +kernel) (by decide +kernel)
theorem qm_958 : (.fieldLink RX3 75 "WeatherTea$Kind" "TO" "LWeatherTea$Kind;" : Cond) ∈ BIG := big_of (i := 958) (by decide +kernel) (by decide +kernel)
theorem qm_960 : (.fieldLink RX3 78 "WeatherTea$Kind" "NERVE" "LWeatherTea$Kind;" : Cond) ∈ BIG := big_of (i := 960) (by decide +kernel) (by decide +kernel)
theorem qm_962 : (.methodLink RX3 81 yX3_order : Cond) ∈ BIG := big_of (i := 962) (by decide +kernel) (by decide +kernel)
theorem qm_963 : (.static yX3_order : Cond) ∈ BIG := big_of (i := 963) (by decide +kernel) (by decide +kernel)
theorem qm_964 : (.code yX3_order cX3_order 4 (some .boolean) : Cond) ∈ BIG := big_of (i := 964) (by decide +kernel) (by decide +kernel)
theorem qm_965 : (.fieldLink RX3 84 "WeatherTea$Kind" "STEEP" "LWeatherTea$Kind;" : Cond) ∈ BIG := big_of (i := 965) (by decide +kernel) (by decide +kernel)
theorem qm_967 : (.fieldLink RX3 87 "WeatherTea$Kind" "SERVE" "LWeatherTea$Kind;" : Cond) ∈ BIG := big_of (i := 967) (by decide +kernel) (by decide +kernel)
theorem qm_969 : (.methodLink RX3 90 yX6_add : Cond) ∈ BIG := big_of (i := 969) (by decide +kernel) (by decide +kernel)
theorem qm_970 : (.instanceMethod yX6_add : Cond) ∈ BIG := big_of (i := 970) (by decide +kernel) (by decide +kernel)
theorem qm_971 : (.selects RX6 yX6_add yX6_add : Cond) ∈ BIG := big_of (i := 971) (by decide +kernel) (by decide +kernel)
theorem qm_972 : (.code yX6_add cX6_add 3 none : Cond) ∈ BIG := big_of (i := 972) (by decide +kernel) (by decide +kernel)
theorem qm_973 : (.fieldLink RX3 96 "WeatherTea$Kind" "LEMON" "LWeatherTea$Kind;" : Cond) ∈ BIG := big_of (i := 973) (by decide +kernel) (by decide +kernel)
theorem qm_975 : (.fieldLink RX3 99 "WeatherTea$Kind" "SAUCER" "LWeatherTea$Kind;" : Cond) ∈ BIG := big_of (i := 975) (by decide +kernel) (by decide +kernel)
theorem qm_977 : (.fieldLink RX3 102 "WeatherTea$Kind" "WHEN" "LWeatherTea$Kind;" : Cond) ∈ BIG := big_of (i := 977) (by decide +kernel) (by decide +kernel)
theorem qm_979 : (.methodLink RX3 105 yX3_test : Cond) ∈ BIG := big_of (i := 979) (by decide +kernel) (by decide +kernel)
theorem qm_980 : (.static yX3_test : Cond) ∈ BIG := big_of (i := 980) (by decide +kernel) (by decide +kernel)
theorem qm_981 : (.code yX3_test cX3_test 5 (some .boolean) : Cond) ∈ BIG := big_of (i := 981) (by decide +kernel) (by decide +kernel)
theorem qm_982 : (.methodLink RX3 112 yX3_both : Cond) ∈ BIG := big_of (i := 982) (by decide +kernel) (by decide +kernel)
theorem qm_983 : (.static yX3_both : Cond) ∈ BIG := big_of (i := 983) (by decide +kernel) (by decide +kernel)
theorem qm_984 : (.code yX3_both cX3_both 5 (some .boolean) : Cond) ∈ BIG := big_of (i := 984) (by decide +kernel) (by decide +kernel)
theorem qm_985 : (.methodLink RX3 122 yX3_single : Cond) ∈ BIG := big_of (i := 985) (by decide +kernel) (by decide +kernel)
theorem qm_986 : (.static yX3_single : Cond) ∈ BIG := big_of (i := 986) (by decide +kernel) (by decide +kernel)
theorem qm_987 : (.code yX3_single cX3_single 4 (some .boolean) : Cond) ∈ BIG := big_of (i := 987) (by decide +kernel) (by decide +kernel)
theorem qm_988 : (.fieldLink RX3 128 "WeatherTea$1" "$SwitchMap$WeatherTea$Kind" "[I" : Cond) ∈ BIG := big_of (i := 988) (by decide +kernel) (by decide +kernel)
theorem qm_989 : (.methodLink RX3 134 ⟨RX5, "ordinal", "()I"⟩ : Cond) ∈ BIG := big_of (i := 989) (by decide +kernel) (by decide +kernel)
theorem qm_990 : (.fieldLink RX3 138 "WeatherTea$Kind" "NOT" "LWeatherTea$Kind;" : Cond) ∈ BIG := big_of (i := 990) (by decide +kernel) (by decide +kernel)
theorem qm_992 : (.methodLink RX3 118 yX6_addStep : Cond) ∈ BIG := big_of (i := 992) (by decide +kernel) (by decide +kernel)
theorem qm_993 : (.instanceMethod yX6_addStep : Cond) ∈ BIG := big_of (i := 993) (by decide +kernel) (by decide +kernel)
theorem qm_994 : (.selects RX6 yX6_addStep yX6_addStep : Cond) ∈ BIG := big_of (i := 994) (by decide +kernel) (by decide +kernel)
theorem qm_995 : (.code yX6_addStep cX6_addStep 3 (some .boolean) : Cond) ∈ BIG := big_of (i := 995) (by decide +kernel) (by decide +kernel)
theorem qm_996 : (.fieldLink RX3 141 "WeatherTea$Kind" "OPEN_TEST" "LWeatherTea$Kind;" : Cond) ∈ BIG := big_of (i := 996) (by decide +kernel) (by decide +kernel)
theorem qm_998 : (.fieldLink RX3 144 "WeatherTea$Kind" "CLOSE_TEST" "LWeatherTea$Kind;" : Cond) ∈ BIG := big_of (i := 998) (by decide +kernel) (by decide +kernel)
theorem qm_1000 : (.methodLink RX3 147 yX3_comparison : Cond) ∈ BIG := big_of (i := 1000) (by decide +kernel) (by decide +kernel)
theorem qm_1001 : (.static yX3_comparison : Cond) ∈ BIG := big_of (i := 1001) (by decide +kernel) (by decide +kernel)
theorem qm_1002 : (.code yX3_comparison cX3_comparison 5 (some .boolean) : Cond) ∈ BIG := big_of (i := 1002) (by decide +kernel) (by decide +kernel)
theorem qm_1003 : (.methodLink RX3 150 yX3_sum : Cond) ∈ BIG := big_of (i := 1003) (by decide +kernel) (by decide +kernel)
theorem qm_1004 : (.static yX3_sum : Cond) ∈ BIG := big_of (i := 1004) (by decide +kernel) (by decide +kernel)
theorem qm_1005 : (.code yX3_sum cX3_sum 6 (some .boolean) : Cond) ∈ BIG := big_of (i := 1005) (by decide +kernel) (by decide +kernel)
theorem qm_1006 : (.methodLink RX3 168 yX3_product : Cond) ∈ BIG := big_of (i := 1006) (by decide +kernel) (by decide +kernel)
theorem qm_1007 : (.static yX3_product : Cond) ∈ BIG := big_of (i := 1007) (by decide +kernel) (by decide +kernel)
theorem qm_1008 : (.code yX3_product cX3_product 6 (some .boolean) : Cond) ∈ BIG := big_of (i := 1008) (by decide +kernel) (by decide +kernel)
theorem qm_1009 : (.methodLink RX3 177 yX3_value : Cond) ∈ BIG := big_of (i := 1009) (by decide +kernel) (by decide +kernel)
theorem qm_1010 : (.static yX3_value : Cond) ∈ BIG := big_of (i := 1010) (by decide +kernel) (by decide +kernel)
theorem qm_1011 : (.code yX3_value cX3_value 4 (some .boolean) : Cond) ∈ BIG := big_of (i := 1011) (by decide +kernel) (by decide +kernel)
theorem qm_1012 : (.fieldLink RX3 186 "WeatherTea$Kind" "OF" "LWeatherTea$Kind;" : Cond) ∈ BIG := big_of (i := 1012) (by decide +kernel) (by decide +kernel)
theorem qm_1014 : (.fieldLink RX3 174 "WeatherTea$Kind" "MINUS" "LWeatherTea$Kind;" : Cond) ∈ BIG := big_of (i := 1014) (by decide +kernel) (by decide +kernel)
theorem qm_1016 : (.fieldLink RX3 189 "WeatherTea$Kind" "TURNED" "LWeatherTea$Kind;" : Cond) ∈ BIG := big_of (i := 1016) (by decide +kernel) (by decide +kernel)
theorem qm_1018 : (.fieldLink RX3 192 "WeatherTea$Kind" "OPEN" "LWeatherTea$Kind;" : Cond) ∈ BIG := big_of (i := 1018) (by decide +kernel) (by decide +kernel)
theorem qm_1020 : (.fieldLink RX3 195 "WeatherTea$Kind" "CLOSE" "LWeatherTea$Kind;" : Cond) ∈ BIG := big_of (i := 1020) (by decide +kernel) (by decide +kernel)
theorem qm_1022 : (.fieldLink RX3 198 "WeatherTea$Kind" "COMMA" "LWeatherTea$Kind;" : Cond) ∈ BIG := big_of (i := 1022) (by decide +kernel) (by decide +kernel)
theorem qm_1024 : (.fieldLink RX3 180 "WeatherTea$Kind" "TIMES" "LWeatherTea$Kind;" : Cond) ∈ BIG := big_of (i := 1024) (by decide +kernel) (by decide +kernel)
theorem qm_1026 : (.fieldLink RX3 183 "WeatherTea$Kind" "DIVIDED" "LWeatherTea$Kind;" : Cond) ∈ BIG := big_of (i := 1026) (by decide +kernel) (by decide +kernel)
theorem qm_1028 : (.fieldLink RX3 171 "WeatherTea$Kind" "PLUS" "LWeatherTea$Kind;" : Cond) ∈ BIG := big_of (i := 1028) (by decide +kernel) (by decide +kernel)
theorem qm_1030 : (.fieldLink RX3 153 "WeatherTea$Kind" "LESS" "LWeatherTea$Kind;" : Cond) ∈ BIG := big_of (i := 1030) (by decide +kernel) (by decide +kernel)
theorem qm_1032 : (.fieldLink RX3 156 "WeatherTea$Kind" "MORE" "LWeatherTea$Kind;" : Cond) ∈ BIG := big_of (i := 1032) (by decide +kernel) (by decide +kernel)
theorem qm_1034 : (.fieldLink RX3 159 "WeatherTea$Kind" "EQUAL" "LWeatherTea$Kind;" : Cond) ∈ BIG := big_of (i := 1034) (by decide +kernel) (by decide +kernel)
theorem qm_1036 : (.fieldLink RX3 162 "WeatherTea$Kind" "AT_MOST" "LWeatherTea$Kind;" : Cond) ∈ BIG := big_of (i := 1036) (by decide +kernel) (by decide +kernel)
theorem qm_1038 : (.fieldLink RX3 165 "WeatherTea$Kind" "AT_LEAST" "LWeatherTea$Kind;" : Cond) ∈ BIG := big_of (i := 1038) (by decide +kernel) (by decide +kernel)
theorem qm_1040 : (.fieldLink RX3 125 "WeatherTea$Kind" "AND" "LWeatherTea$Kind;" : Cond) ∈ BIG := big_of (i := 1040) (by decide +kernel) (by decide +kernel)
theorem qm_1042 : (.fieldLink RX3 115 "WeatherTea$Kind" "OR" "LWeatherTea$Kind;" : Cond) ∈ BIG := big_of (i := 1042) (by decide +kernel) (by decide +kernel)
theorem qm_1044 : (.methodLink RX3 109 yX6_endTest : Cond) ∈ BIG := big_of (i := 1044) (by decide +kernel) (by decide +kernel)
theorem qm_1045 : (.instanceMethod yX6_endTest : Cond) ∈ BIG := big_of (i := 1045) (by decide +kernel) (by decide +kernel)
theorem qm_1046 : (.selects RX6 yX6_endTest yX6_endTest : Cond) ∈ BIG := big_of (i := 1046) (by decide +kernel) (by decide +kernel)
theorem qm_1047 : (.code yX6_endTest cX6_endTest 1 none : Cond) ∈ BIG := big_of (i := 1047) (by decide +kernel) (by decide +kernel)
theorem qm_1048 : (.fieldLink RX3 27 "WeatherTea$Kind" "SEMICOLON" "LWeatherTea$Kind;" : Cond) ∈ BIG := big_of (i := 1048) (by decide +kernel) (by decide +kernel)
theorem qm_1050 : (.methodLink RX3 38 yX11_failUnless : Cond) ∈ BIG := big_of (i := 1050) (by decide +kernel) (by decide +kernel)
theorem qm_1051 : (.instanceMethod yX11_failUnless : Cond) ∈ BIG := big_of (i := 1051) (by decide +kernel) (by decide +kernel)
theorem qm_1052 : (.selects RX11 yX11_failUnless yX11_failUnless : Cond) ∈ BIG := big_of (i := 1052) (by decide +kernel) (by decide +kernel)
theorem qm_1053 : (.code yX11_failUnless cX11_failUnless 4 none : Cond) ∈ BIG := big_of (i := 1053) (by decide +kernel) (by decide +kernel)
theorem qm_1054 : (.methodLink RX12 83 yX1_check : Cond) ∈ BIG := big_of (i := 1054) (by decide +kernel) (by decide +kernel)
theorem qm_1055 : (.static yX1_check : Cond) ∈ BIG := big_of (i := 1055) (by decide +kernel) (by decide +kernel)
theorem qm_1056 : (.code yX1_check cX1_check 4 none : Cond) ∈ BIG := big_of (i := 1056) (by decide +kernel) (by decide +kernel)
theorem qm_1057 : (.methodLink RX1 18 yX11_kindAt : Cond) ∈ BIG := big_of (i := 1057) (by decide +kernel) (by decide +kernel)
theorem qm_1058 : (.instanceMethod yX11_kindAt : Cond) ∈ BIG := big_of (i := 1058) (by decide +kernel) (by decide +kernel)
theorem qm_1059 : (.selects RX11 yX11_kindAt yX11_kindAt : Cond) ∈ BIG := big_of (i := 1059) (by decide +kernel) (by decide +kernel)
theorem qm_1060 : (.code yX11_kindAt cX11_kindAt 2 (some (.object "WeatherTea$Kind")) : Cond) ∈ BIG := big_of (i := 1060) (by decide +kernel) (by decide +kernel)
theorem qm_1061 : (.methodLink RX11 104 yX11_has : Cond) ∈ BIG := big_of (i := 1061) (by decide +kernel) (by decide +kernel)
theorem qm_1062 : (.instanceMethod yX11_has : Cond) ∈ BIG := big_of (i := 1062) (by decide +kernel) (by decide +kernel)
theorem qm_1063 : (.selects RX11 yX11_has yX11_has : Cond) ∈ BIG := big_of (i := 1063) (by decide +kernel) (by decide +kernel)
theorem qm_1064 : (.code yX11_has cX11_has 2 (some .boolean) : Cond) ∈ BIG := big_of (i := 1064) (by decide +kernel) (by decide +kernel)
theorem qm_1065 : (.methodLink RX1 22 yX1_beginsOrder : Cond) ∈ BIG := big_of (i := 1065) (by decide +kernel) (by decide +kernel)
theorem qm_1066 : (.static yX1_beginsOrder : Cond) ∈ BIG := big_of (i := 1066) (by decide +kernel) (by decide +kernel)
theorem qm_1067 : (.code yX1_beginsOrder cX1_beginsOrder 1 (some .boolean) : Cond) ∈ BIG := big_of (i := 1067) (by decide +kernel) (by decide +kernel)
theorem qm_1068 : (.fieldLink RX1 36 "WeatherTea$Kind" "STEEP" "LWeatherTea$Kind;" : Cond) ∈ BIG := big_of (i := 1068) (by decide +kernel) (by decide +kernel)
theorem qm_1069 : (.fieldLink RX1 42 "WeatherTea$Kind" "SERVE" "LWeatherTea$Kind;" : Cond) ∈ BIG := big_of (i := 1069) (by decide +kernel) (by decide +kernel)
theorem qm_1070 : (.fieldLink RX1 45 "WeatherTea$Kind" "LEMON" "LWeatherTea$Kind;" : Cond) ∈ BIG := big_of (i := 1070) (by decide +kernel) (by decide +kernel)
theorem qm_1071 : (.fieldLink RX1 48 "WeatherTea$Kind" "SAUCER" "LWeatherTea$Kind;" : Cond) ∈ BIG := big_of (i := 1071) (by decide +kernel) (by decide +kernel)
theorem qm_1072 : (.methodLink RX1 28 yX11_failUnless : Cond) ∈ BIG := big_of (i := 1072) (by decide +kernel) (by decide +kernel)
theorem qm_1073 : (.methodLink RX1 32 yX1_checkBehind : Cond) ∈ BIG := big_of (i := 1073) (by decide +kernel) (by decide +kernel)
theorem qm_1074 : (.static yX1_checkBehind : Cond) ∈ BIG := big_of (i := 1074) (by decide +kernel) (by decide +kernel)
theorem qm_1075 : (.code yX1_checkBehind cX1_checkBehind 3 none : Cond) ∈ BIG := big_of (i := 1075) (by decide +kernel) (by decide +kernel)
theorem qm_1076 : (.fieldLink RX1 51 "WeatherTea$1" "$SwitchMap$WeatherTea$Kind" "[I" : Cond) ∈ BIG := big_of (i := 1076) (by decide +kernel) (by decide +kernel)
theorem qm_1077 : (.methodLink RX1 57 ⟨RX5, "ordinal", "()I"⟩ : Cond) ∈ BIG := big_of (i := 1077) (by decide +kernel) (by decide +kernel)
theorem qm_1078 : (.methodLink RX1 67 yX1_checkFront : Cond) ∈ BIG := big_of (i := 1078) (by decide +kernel) (by decide +kernel)
theorem qm_1079 : (.static yX1_checkFront : Cond) ∈ BIG := big_of (i := 1079) (by decide +kernel) (by decide +kernel)
theorem qm_1080 : (.code yX1_checkFront cX1_checkFront 9 none : Cond) ∈ BIG := big_of (i := 1080) (by decide +kernel) (by decide +kernel)
theorem qm_1081 : (.methodLink RX1 79 yX11_valueAt : Cond) ∈ BIG := big_of (i := 1081) (by decide +kernel) (by decide +kernel)
theorem qm_1082 : (.instanceMethod yX11_valueAt : Cond) ∈ BIG := big_of (i := 1082) (by decide +kernel) (by decide +kernel)
theorem qm_1083 : (.selects RX11 yX11_valueAt yX11_valueAt : Cond) ∈ BIG := big_of (i := 1083) (by decide +kernel) (by decide +kernel)
theorem qm_1084 : (.code yX11_valueAt cX11_valueAt 2 (some .long) : Cond) ∈ BIG := big_of (i := 1084) (by decide +kernel) (by decide +kernel)
theorem qm_1085 : (.methodLink RX1 83 yX2_find : Cond) ∈ BIG := big_of (i := 1085) (by decide +kernel) (by decide +kernel)
theorem qm_1086 : (.instanceMethod yX2_find : Cond) ∈ BIG := big_of (i := 1086) (by decide +kernel) (by decide +kernel)
theorem qm_1087 : (.selects RX2 yX2_find yX2_find : Cond) ∈ BIG := big_of (i := 1087) (by decide +kernel) (by decide +kernel)
theorem qm_1088 : (.code yX2_find cX2_find 4 (some .int) : Cond) ∈ BIG := big_of (i := 1088) (by decide +kernel) (by decide +kernel)
theorem qm_1089 : (.fieldLink RX1 101 "WeatherTea$Kind" "WARM" "LWeatherTea$Kind;" : Cond) ∈ BIG := big_of (i := 1089) (by decide +kernel) (by decide +kernel)
theorem qm_1090 : (.methodLink RX1 104 yX1_numberIn : Cond) ∈ BIG := big_of (i := 1090) (by decide +kernel) (by decide +kernel)
theorem qm_1091 : (.static yX1_numberIn : Cond) ∈ BIG := big_of (i := 1091) (by decide +kernel) (by decide +kernel)
theorem qm_1092 : (.code yX1_numberIn cX1_numberIn 5 (some .int) : Cond) ∈ BIG := big_of (i := 1092) (by decide +kernel) (by decide +kernel)
theorem qm_1093 : (.methodLink RX1 108 yX2_add : Cond) ∈ BIG := big_of (i := 1093) (by decide +kernel) (by decide +kernel)
theorem qm_1094 : (.instanceMethod yX2_add : Cond) ∈ BIG := big_of (i := 1094) (by decide +kernel) (by decide +kernel)
theorem qm_1095 : (.selects RX2 yX2_add yX2_add : Cond) ∈ BIG := big_of (i := 1095) (by decide +kernel) (by decide +kernel)
theorem qm_1096 : (.code yX2_add cX2_add 7 none : Cond) ∈ BIG := big_of (i := 1096) (by decide +kernel) (by decide +kernel)
theorem qm_1097 : (.methodLink RX1 75 yX1_checkGuest : Cond) ∈ BIG := big_of (i := 1097) (by decide +kernel) (by decide +kernel)
theorem qm_1098 : (.static yX1_checkGuest : Cond) ∈ BIG := big_of (i := 1098) (by decide +kernel) (by decide +kernel)
theorem qm_1099 : (.code yX1_checkGuest cX1_checkGuest 9 none : Cond) ∈ BIG := big_of (i := 1099) (by decide +kernel) (by decide +kernel)
theorem qm_1100 : (.methodLink RX1 93 yX4_find : Cond) ∈ BIG := big_of (i := 1100) (by decide +kernel) (by decide +kernel)
theorem qm_1101 : (.instanceMethod yX4_find : Cond) ∈ BIG := big_of (i := 1101) (by decide +kernel) (by decide +kernel)
theorem qm_1102 : (.selects RX4 yX4_find yX4_find : Cond) ∈ BIG := big_of (i := 1102) (by decide +kernel) (by decide +kernel)
theorem qm_1103 : (.code yX4_find cX4_find 4 (some .int) : Cond) ∈ BIG := big_of (i := 1103) (by decide +kernel) (by decide +kernel)
theorem qm_1104 : (.methodLink RX1 113 yX4_add : Cond) ∈ BIG := big_of (i := 1104) (by decide +kernel) (by decide +kernel)
theorem qm_1105 : (.instanceMethod yX4_add : Cond) ∈ BIG := big_of (i := 1105) (by decide +kernel) (by decide +kernel)
theorem qm_1106 : (.selects RX4 yX4_add yX4_add : Cond) ∈ BIG := big_of (i := 1106) (by decide +kernel) (by decide +kernel)
theorem qm_1107 : (.code yX4_add cX4_add 7 none : Cond) ∈ BIG := big_of (i := 1107) (by decide +kernel) (by decide +kernel)
theorem qm_1108 : (.methodLink RX1 89 yX1_checkNamed : Cond) ∈ BIG := big_of (i := 1108) (by decide +kernel) (by decide +kernel)
theorem qm_1109 : (.static yX1_checkNamed : Cond) ∈ BIG := big_of (i := 1109) (by decide +kernel) (by decide +kernel)
theorem qm_1110 : (.code yX1_checkNamed cX1_checkNamed 3 none : Cond) ∈ BIG := big_of (i := 1110) (by decide +kernel) (by decide +kernel)
theorem qm_1111 : (.methodLink RX1 96 yX11_setValue : Cond) ∈ BIG := big_of (i := 1111) (by decide +kernel) (by decide +kernel)
theorem qm_1112 : (.instanceMethod yX11_setValue : Cond) ∈ BIG := big_of (i := 1112) (by decide +kernel) (by decide +kernel)
theorem qm_1113 : (.selects RX11 yX11_setValue yX11_setValue : Cond) ∈ BIG := big_of (i := 1113) (by decide +kernel) (by decide +kernel)
theorem qm_1114 : (.code yX11_setValue cX11_setValue 3 none : Cond) ∈ BIG := big_of (i := 1114) (by decide +kernel) (by decide +kernel)
theorem qm_1115 : (.methodLink RX12 92 yX11_startAt : Cond) ∈ BIG := big_of (i := 1115) (by decide +kernel) (by decide +kernel)
theorem qm_1116 : (.instanceMethod yX11_startAt : Cond) ∈ BIG := big_of (i := 1116) (by decide +kernel) (by decide +kernel)
theorem qm_1117 : (.selects RX11 yX11_startAt yX11_startAt : Cond) ∈ BIG := big_of (i := 1117) (by decide +kernel) (by decide +kernel)
theorem qm_1118 : (.code yX11_startAt cX11_startAt 2 (some .int) : Cond) ∈ BIG := big_of (i := 1118) (by decide +kernel) (by decide +kernel)
theorem qm_1119 : (.methodLink RX12 96 yX6_resolve : Cond) ∈ BIG := big_of (i := 1119) (by decide +kernel) (by decide +kernel)
theorem qm_1120 : (.instanceMethod yX6_resolve : Cond) ∈ BIG := big_of (i := 1120) (by decide +kernel) (by decide +kernel)
theorem qm_1121 : (.selects RX6 yX6_resolve yX6_resolve : Cond) ∈ BIG := big_of (i := 1121) (by decide +kernel) (by decide +kernel)
theorem qm_1122 : (.code yX6_resolve cX6_resolve 3 none : Cond) ∈ BIG := big_of (i := 1122) (by decide +kernel) (by decide +kernel)
theorem qm_1123 : (.methodLink RX6 44 yX11_valueAt : Cond) ∈ BIG := big_of (i := 1123) (by decide +kernel) (by decide +kernel)
theorem qm_1124 : (.methodLink RX12 105 yX8_begin : Cond) ∈ BIG := big_of (i := 1124) (by decide +kernel) (by decide +kernel)
theorem qm_1125 : (.instanceMethod yX8_begin : Cond) ∈ BIG := big_of (i := 1125) (by decide +kernel) (by decide +kernel)
theorem qm_1126 : (.selects RX8 yX8_begin yX8_begin : Cond) ∈ BIG := big_of (i := 1126) (by decide +kernel) (by decide +kernel)
theorem qm_1127 : (.code yX8_begin cX8_begin 3 none : Cond) ∈ BIG := big_of (i := 1127) (by decide +kernel) (by decide +kernel)
theorem qm_1128 : (.methodLink RL 182 yL_drawn : Cond) ∈ BIG := big_of (i := 1128) (by decide +kernel) (by decide +kernel)
theorem qm_1129 : (.static yL_drawn : Cond) ∈ BIG := big_of (i := 1129) (by decide +kernel) (by decide +kernel)
theorem qm_1130 : (.code yL_drawn cL_drawn 8 (some (.object "WeatherTeaLaw$Pot")) : Cond) ∈ BIG := big_of (i := 1130) (by decide +kernel) (by decide +kernel)
theorem qm_1131 : (.classLink RL 32 RX18 : Cond) ∈ BIG := big_of (i := 1131) (by decide +kernel) (by decide +kernel)
theorem qm_1132 : (.instantiable RX18 11 : Cond) ∈ BIG := big_of (i := 1132) (by decide +kernel) (by decide +kernel)
theorem qm_1134 : (.instanceMethod yX18_init : Cond) ∈ BIG := big_of (i := 1134) (by decide +kernel) (by decide +kernel)
theorem qm_1135 : (.code yX18_init cX18_init 1 none : Cond) ∈ BIG := big_of (i := 1135) (by decide +kernel) (by decide +kernel)
theorem qm_1136 : (.methodLink RX18 1 ⟨"java/lang/Object", "<init>", "()V"⟩ : Cond) ∈ BIG := big_of (i := 1136) (by decide +kernel) (by decide +kernel)
theorem qm_1137 : (.classLink RX18 7 RX14 : Cond) ∈ BIG := big_of (i := 1137) (by decide +kernel) (by decide +kernel)
theorem qm_1139 : (.classLink RX18 15 RX15 : Cond) ∈ BIG := big_of (i := 1139) (by decide +kernel) (by decide +kernel)
theorem qm_1141 : (.classLink RX18 21 RX17 : Cond) ∈ BIG := big_of (i := 1141) (by decide +kernel) (by decide +kernel)
theorem qm_1143 : (.fieldLink RX18 9 "WeatherTeaLaw$Pot" "fronts" "[LWeatherTeaLaw$Front;" : Cond) ∈ BIG := big_of (i := 1143) (by decide +kernel) (by decide +kernel)
theorem qm_1144 : (.fieldLink RL 42 "WeatherTeaLaw$Pot" "fronts" "[LWeatherTeaLaw$Front;" : Cond) ∈ BIG := big_of (i := 1144) (by decide +kernel) (by decide +kernel)
theorem qm_1145 : (.fieldLink RX16 124 "WeatherTeaLaw$Pot" "fronts" "[LWeatherTeaLaw$Front;" : Cond) ∈ BIG := big_of (i := 1145) (by decide +kernel) (by decide +kernel)
theorem qm_1146 : (.fieldLink RX18 17 "WeatherTeaLaw$Pot" "guests" "[LWeatherTeaLaw$Guest;" : Cond) ∈ BIG := big_of (i := 1146) (by decide +kernel) (by decide +kernel)
theorem qm_1147 : (.fieldLink RL 48 "WeatherTeaLaw$Pot" "guests" "[LWeatherTeaLaw$Guest;" : Cond) ∈ BIG := big_of (i := 1147) (by decide +kernel) (by decide +kernel)
theorem qm_1148 : (.fieldLink RX16 140 "WeatherTeaLaw$Pot" "guests" "[LWeatherTeaLaw$Guest;" : Cond) ∈ BIG := big_of (i := 1148) (by decide +kernel) (by decide +kernel)
theorem qm_1149 : (.fieldLink RX18 23 "WeatherTeaLaw$Pot" "orders" "[LWeatherTeaLaw$Order;" : Cond) ∈ BIG := big_of (i := 1149) (by decide +kernel) (by decide +kernel)
theorem qm_1150 : (.fieldLink RL 111 "WeatherTeaLaw$Pot" "orders" "[LWeatherTeaLaw$Order;" : Cond) ∈ BIG := big_of (i := 1150) (by decide +kernel) (by decide +kernel)
theorem qm_1151 : (.fieldLink RX16 101 "WeatherTeaLaw$Pot" "hour" "I" : Cond) ∈ BIG := big_of (i := 1151) (by decide +kernel) (by decide +kernel)
theorem qm_1152 : (.fieldLink RX18 67 "WeatherTeaLaw$Pot" "hour" "I" : Cond) ∈ BIG := big_of (i := 1152) (by decide +kernel) (by decide +kernel)
theorem qm_1153 : (.fieldLink RX18 27 "WeatherTeaLaw$Pot" "warmth" "I" : Cond) ∈ BIG := big_of (i := 1153) (by decide +kernel) (by decide +kernel)
theorem qm_1154 : (.fieldLink RX16 106 "WeatherTeaLaw$Pot" "warmth" "I" : Cond) ∈ BIG := big_of (i := 1154) (by decide +kernel) (by decide +kernel)
theorem qm_1155 : (.fieldLink RL 157 "WeatherTeaLaw$Pot" "warmth" "I" : Cond) ∈ BIG := big_of (i := 1155) (by decide +kernel) (by decide +kernel)
theorem qm_1156 : (.fieldLink RX18 70 "WeatherTeaLaw$Pot" "strength" "I" : Cond) ∈ BIG := big_of (i := 1156) (by decide +kernel) (by decide +kernel)
theorem qm_1157 : (.fieldLink RX16 109 "WeatherTeaLaw$Pot" "strength" "I" : Cond) ∈ BIG := big_of (i := 1157) (by decide +kernel) (by decide +kernel)
theorem qm_1158 : (.fieldLink RL 132 "WeatherTeaLaw$Pot" "strength" "I" : Cond) ∈ BIG := big_of (i := 1158) (by decide +kernel) (by decide +kernel)
theorem qm_1159 : (.fieldLink RX18 73 "WeatherTeaLaw$Pot" "charge" "I" : Cond) ∈ BIG := big_of (i := 1159) (by decide +kernel) (by decide +kernel)
theorem qm_1160 : (.fieldLink RX16 112 "WeatherTeaLaw$Pot" "charge" "I" : Cond) ∈ BIG := big_of (i := 1160) (by decide +kernel) (by decide +kernel)
theorem qm_1161 : (.fieldLink RL 142 "WeatherTeaLaw$Pot" "charge" "I" : Cond) ∈ BIG := big_of (i := 1161) (by decide +kernel) (by decide +kernel)
theorem qm_1162 : (.fieldLink RX18 31 "WeatherTeaLaw$Pot" "lemons" "I" : Cond) ∈ BIG := big_of (i := 1162) (by decide +kernel) (by decide +kernel)
theorem qm_1163 : (.fieldLink RX16 115 "WeatherTeaLaw$Pot" "lemons" "I" : Cond) ∈ BIG := big_of (i := 1163) (by decide +kernel) (by decide +kernel)
theorem qm_1164 : (.fieldLink RX18 34 "WeatherTeaLaw$Pot" "saucers" "I" : Cond) ∈ BIG := big_of (i := 1164) (by decide +kernel) (by decide +kernel)
theorem qm_1165 : (.fieldLink RX16 118 "WeatherTeaLaw$Pot" "saucers" "I" : Cond) ∈ BIG := big_of (i := 1165) (by decide +kernel) (by decide +kernel)
theorem qm_1166 : (.fieldLink RX18 76 "WeatherTeaLaw$Pot" "coins" "I" : Cond) ∈ BIG := big_of (i := 1166) (by decide +kernel) (by decide +kernel)
theorem qm_1167 : (.fieldLink RX16 121 "WeatherTeaLaw$Pot" "storms" "I" : Cond) ∈ BIG := big_of (i := 1167) (by decide +kernel) (by decide +kernel)
theorem qm_1168 : (.fieldLink RX18 79 "WeatherTeaLaw$Pot" "storms" "I" : Cond) ∈ BIG := big_of (i := 1168) (by decide +kernel) (by decide +kernel)
theorem qm_1169 : (.lays RX18 RX18 "fronts" "[LWeatherTeaLaw$Front;" : Cond) ∈ BIG := big_of (i := 1169) (by decide +kernel) (by decide +kernel)
theorem qm_1171 : (.lays RX18 RX18 "guests" "[LWeatherTeaLaw$Guest;" : Cond) ∈ BIG := big_of (i := 1171) (by decide +kernel) (by decide +kernel)
theorem qm_1173 : (.lays RX18 RX18 "orders" "[LWeatherTeaLaw$Order;" : Cond) ∈ BIG := big_of (i := 1173) (by decide +kernel) (by decide +kernel)
theorem qm_1175 : (.lays RX18 RX18 "hour" "I" : Cond) ∈ BIG := big_of (i := 1175) (by decide +kernel) (by decide +kernel)
theorem qm_1177 : (.lays RX18 RX18 "warmth" "I" : Cond) ∈ BIG := big_of (i := 1177) (by decide +kernel) (by decide +kernel)
theorem qm_1179 : (.lays RX18 RX18 "strength" "I" : Cond) ∈ BIG := big_of (i := 1179) (by decide +kernel) (by decide +kernel)
theorem qm_1181 : (.lays RX18 RX18 "charge" "I" : Cond) ∈ BIG := big_of (i := 1181) (by decide +kernel) (by decide +kernel)
theorem qm_1183 : (.lays RX18 RX18 "lemons" "I" : Cond) ∈ BIG := big_of (i := 1183) (by decide +kernel) (by decide +kernel)
theorem qm_1185 : (.lays RX18 RX18 "saucers" "I" : Cond) ∈ BIG := big_of (i := 1185) (by decide +kernel) (by decide +kernel)
theorem qm_1187 : (.lays RX18 RX18 "coins" "I" : Cond) ∈ BIG := big_of (i := 1187) (by decide +kernel) (by decide +kernel)
theorem qm_1189 : (.lays RX18 RX18 "storms" "I" : Cond) ∈ BIG := big_of (i := 1189) (by decide +kernel) (by decide +kernel)
theorem qm_1192 : (.classLink RL 40 RX14 : Cond) ∈ BIG := big_of (i := 1192) (by decide +kernel) (by decide +kernel)
theorem qm_1193 : (.classLink RL 46 RX15 : Cond) ∈ BIG := big_of (i := 1193) (by decide +kernel) (by decide +kernel)
theorem qm_1194 : (.instantiable RX14 5 : Cond) ∈ BIG := big_of (i := 1194) (by decide +kernel) (by decide +kernel)
theorem qm_1196 : (.instanceMethod yX14_init : Cond) ∈ BIG := big_of (i := 1196) (by decide +kernel) (by decide +kernel)
theorem qm_1197 : (.code yX14_init cX14_init 1 none : Cond) ∈ BIG := big_of (i := 1197) (by decide +kernel) (by decide +kernel)
theorem qm_1198 : (.methodLink RX14 1 ⟨"java/lang/Object", "<init>", "()V"⟩ : Cond) ∈ BIG := big_of (i := 1198) (by decide +kernel) (by decide +kernel)
theorem qm_1199 : (.fieldLink RL 53 "WeatherTeaLaw$Front" "isWarm" "Z" : Cond) ∈ BIG := big_of (i := 1199) (by decide +kernel) (by decide +kernel)
theorem qm_1200 : (.fieldLink RX18 39 "WeatherTeaLaw$Front" "isWarm" "Z" : Cond) ∈ BIG := big_of (i := 1200) (by decide +kernel) (by decide +kernel)
theorem qm_1201 : (.fieldLink RX18 43 "WeatherTeaLaw$Front" "force" "I" : Cond) ∈ BIG := big_of (i := 1201) (by decide +kernel) (by decide +kernel)
theorem qm_1202 : (.fieldLink RL 57 "WeatherTeaLaw$Front" "force" "I" : Cond) ∈ BIG := big_of (i := 1202) (by decide +kernel) (by decide +kernel)
theorem qm_1203 : (.fieldLink RX16 128 "WeatherTeaLaw$Front" "force" "I" : Cond) ∈ BIG := big_of (i := 1203) (by decide +kernel) (by decide +kernel)
theorem qm_1204 : (.fieldLink RL 61 "WeatherTeaLaw$Front" "at" "I" : Cond) ∈ BIG := big_of (i := 1204) (by decide +kernel) (by decide +kernel)
theorem qm_1205 : (.fieldLink RX18 46 "WeatherTeaLaw$Front" "at" "I" : Cond) ∈ BIG := big_of (i := 1205) (by decide +kernel) (by decide +kernel)
theorem qm_1206 : (.fieldLink RL 64 "WeatherTeaLaw$Front" "stays" "I" : Cond) ∈ BIG := big_of (i := 1206) (by decide +kernel) (by decide +kernel)
theorem qm_1207 : (.fieldLink RX18 49 "WeatherTeaLaw$Front" "stays" "I" : Cond) ∈ BIG := big_of (i := 1207) (by decide +kernel) (by decide +kernel)
theorem qm_1208 : (.fieldLink RX18 52 "WeatherTeaLaw$Front" "place" "I" : Cond) ∈ BIG := big_of (i := 1208) (by decide +kernel) (by decide +kernel)
theorem qm_1209 : (.fieldLink RX16 137 "WeatherTeaLaw$Front" "place" "I" : Cond) ∈ BIG := big_of (i := 1209) (by decide +kernel) (by decide +kernel)
theorem qm_1210 : (.lays RX14 RX14 "isWarm" "Z" : Cond) ∈ BIG := big_of (i := 1210) (by decide +kernel) (by decide +kernel)
theorem qm_1212 : (.lays RX14 RX14 "force" "I" : Cond) ∈ BIG := big_of (i := 1212) (by decide +kernel) (by decide +kernel)
theorem qm_1214 : (.lays RX14 RX14 "at" "I" : Cond) ∈ BIG := big_of (i := 1214) (by decide +kernel) (by decide +kernel)
theorem qm_1216 : (.lays RX14 RX14 "stays" "I" : Cond) ∈ BIG := big_of (i := 1216) (by decide +kernel) (by decide +kernel)
theorem qm_1218 : (.lays RX14 RX14 "place" "I" : Cond) ∈ BIG := big_of (i := 1218) (by decide +kernel) (by decide +kernel)
theorem qm_1222 : (.methodLink RL 69 yJ4_append_15ec4 : Cond) ∈ BIG := big_of (i := 1222) (by decide +kernel) (by decide +kernel)
theorem qm_1223 : (.instanceMethod yJ4_append_15ec4 : Cond) ∈ BIG := big_of (i := 1223) (by decide +kernel) (by decide +kernel)
theorem qm_1224 : (.selects RJ4 yJ4_append_15ec4 yJ4_append_15ec4 : Cond) ∈ BIG := big_of (i := 1224) (by decide +kernel) (by decide +kernel)
theorem qm_1225 : (.code yJ4_append_15ec4 cJ4_append_15ec4 2 (some (.object "java/lang/StringBuilder")) : Cond) ∈ BIG := big_of (i := 1225) (by decide +kernel) (by decide +kernel)
theorem qm_1226 : (.methodLink RJ4 29 yJ5_append_cf1ce : Cond) ∈ BIG := big_of (i := 1226) (by decide +kernel) (by decide +kernel)
theorem qm_1228 : (.instanceMethod yJ5_append_cf1ce : Cond) ∈ BIG := big_of (i := 1228) (by decide +kernel) (by decide +kernel)
theorem qm_1229 : (.code yJ5_append_cf1ce cJ5_append_cf1ce 3 (some (.object "java/lang/AbstractStringBuilder")) : Cond) ∈ BIG := big_of (i := 1229) (by decide +kernel) (by decide +kernel)
theorem qm_1230 : (.methodLink RJ5 204 yJ5_appendNull_278bc : Cond) ∈ BIG := big_of (i := 1230) (by decide +kernel) (by decide +kernel)
theorem qm_1232 : (.instanceMethod yJ5_appendNull_278bc : Cond) ∈ BIG := big_of (i := 1232) (by decide +kernel) (by decide +kernel)
theorem qm_1233 : (.code yJ5_appendNull_278bc cJ5_appendNull_278bc 3 (some (.object "java/lang/AbstractStringBuilder")) : Cond) ∈ BIG := big_of (i := 1233) (by decide +kernel) (by decide +kernel)
theorem qm_1234 : (.methodLink RJ5 100 yJ5_ensureCapacityInternal_d00df : Cond) ∈ BIG := big_of (i := 1234) (by decide +kernel) (by decide +kernel)
theorem qm_1236 : (.instanceMethod yJ5_ensureCapacityInternal_d00df : Cond) ∈ BIG := big_of (i := 1236) (by decide +kernel) (by decide +kernel)
theorem qm_1237 : (.code yJ5_ensureCapacityInternal_d00df cJ5_ensureCapacityInternal_d00df 3 none : Cond) ∈ BIG := big_of (i := 1237) (by decide +kernel) (by decide +kernel)
theorem qm_1238 : (.methodLink RJ5 104 yJ5_newCapacity_0f7a4 : Cond) ∈ BIG := big_of (i := 1238) (by decide +kernel) (by decide +kernel)
theorem qm_1240 : (.instanceMethod yJ5_newCapacity_0f7a4 : Cond) ∈ BIG := big_of (i := 1240) (by decide +kernel) (by decide +kernel)
theorem qm_1241 : (.code yJ5_newCapacity_0f7a4 cJ5_newCapacity_0f7a4 6 (some .int) : Cond) ∈ BIG := big_of (i := 1241) (by decide +kernel) (by decide +kernel)
theorem qm_1242 : (.methodLink RJ5 114 yJ8_newLength_cabcc : Cond) ∈ BIG := big_of (i := 1242) (by decide +kernel) (by decide +kernel)
theorem qm_1243 : (.static yJ8_newLength_cabcc : Cond) ∈ BIG := big_of (i := 1243) (by decide +kernel) (by decide +kernel)
theorem qm_1244 : (.code yJ8_newLength_cabcc cJ8_newLength_cabcc 4 (some .int) : Cond) ∈ BIG := big_of (i := 1244) (by decide +kernel) (by decide +kernel)
theorem qm_1245 : (.methodLink RJ8 194 yJ9_max_7cf53 : Cond) ∈ BIG := big_of (i := 1245) (by decide +kernel) (by decide +kernel)
theorem qm_1246 : (.constant RJ8 200 2147483639 : Cond) ∈ BIG := big_of (i := 1246) (by decide +kernel) (by decide +kernel)
theorem qm_1247 : (.methodLink RJ8 201 yJ8_hugeLength_7cf53 : Cond) ∈ BIG := big_of (i := 1247) (by decide +kernel) (by decide +kernel)
theorem qm_1248 : (.static yJ8_hugeLength_7cf53 : Cond) ∈ BIG := big_of (i := 1248) (by decide +kernel) (by decide +kernel)
theorem qm_1249 : (.code yJ8_hugeLength_7cf53 cJ8_hugeLength_7cf53 3 (some .int) : Cond) ∈ BIG := big_of (i := 1249) (by decide +kernel) (by decide +kernel)
theorem qm_1250 : (.constant RJ5 39 2147483647 : Cond) ∈ BIG := big_of (i := 1250) (by decide +kernel) (by decide +kernel)
theorem qm_1251 : (.methodLink RJ5 108 yJ7_copyOf_9075b : Cond) ∈ BIG := big_of (i := 1251) (by decide +kernel) (by decide +kernel)
theorem qm_1252 : (.static yJ7_copyOf_9075b : Cond) ∈ BIG := big_of (i := 1252) (by decide +kernel) (by decide +kernel)
theorem qm_1253 : (.code yJ7_copyOf_9075b cJ7_copyOf_9075b 3 (some (.array .byte)) : Cond) ∈ BIG := big_of (i := 1253) (by decide +kernel) (by decide +kernel)
theorem qm_1254 : (.methodLink RJ7 310 ⟨"[B", "clone", "()Ljava/lang/Object;"⟩ : Cond) ∈ BIG := big_of (i := 1254) (by decide +kernel) (by decide +kernel)
theorem qm_1255 : (.sameMethod "[B" "java/lang/Object" "clone" "()Ljava/lang/Object;" : Cond) ∈ BIG := big_of (i := 1255) (by decide +kernel) (by decide +kernel)
theorem qm_1256 : (.native ⟨"java/lang/Object", "clone", "()Ljava/lang/Object;"⟩ : Cond) ∈ BIG := big_of (i := 1256) (by decide +kernel) (by decide +kernel)
theorem qm_1257 : (.instanceMethod ⟨"java/lang/Object", "clone", "()Ljava/lang/Object;"⟩ : Cond) ∈ BIG := big_of (i := 1257) (by decide +kernel) (by decide +kernel)
theorem qm_1258 : (.selects "[B" ⟨"[B", "clone", "()Ljava/lang/Object;"⟩ ⟨"java/lang/Object", "clone", "()Ljava/lang/Object;"⟩ : Cond) ∈ BIG := big_of (i := 1258) (by decide +kernel) (by decide +kernel)
theorem qm_1260 : (.classLink RJ7 311 "[B" : Cond) ∈ BIG := big_of (i := 1260) (by decide +kernel) (by decide +kernel)
theorem qm_1261 : (.methodLink RJ7 304 yJ9_min_7cf53 : Cond) ∈ BIG := big_of (i := 1261) (by decide +kernel) (by decide +kernel)
theorem qm_1262 : (.methodLink RJ7 150 ⟨RJ10, "arraycopy", "(Ljava/lang/Object;ILjava/lang/Object;II)V"⟩ : Cond) ∈ BIG := big_of (i := 1262) (by decide +kernel) (by decide +kernel)
theorem qm_1263 : (.static ⟨RJ10, "arraycopy", "(Ljava/lang/Object;ILjava/lang/Object;II)V"⟩ : Cond) ∈ BIG := big_of (i := 1263) (by decide +kernel) (by decide +kernel)
theorem qm_1264 : (.native ⟨RJ10, "arraycopy", "(Ljava/lang/Object;ILjava/lang/Object;II)V"⟩ : Cond) ∈ BIG := big_of (i := 1264) (by decide +kernel) (by decide +kernel)
theorem qm_1265 : (.methodLink RJ5 83 yJ5_isLatin1_aae02 : Cond) ∈ BIG := big_of (i := 1265) (by decide +kernel) (by decide +kernel)
theorem qm_1266 : (.instanceMethod yJ5_isLatin1_aae02 : Cond) ∈ BIG := big_of (i := 1266) (by decide +kernel) (by decide +kernel)
theorem qm_1267 : (.sameMethod "java/lang/AbstractStringBuilder" "java/lang/AbstractStringBuilder" "isLatin1" "()Z" : Cond) ∈ BIG := big_of (i := 1267) (by decide +kernel) (by decide +kernel)
theorem qm_1268 : (.selects RJ4 yJ5_isLatin1_aae02 yJ5_isLatin1_aae02 : Cond) ∈ BIG := big_of (i := 1268) (by decide +kernel) (by decide +kernel)
theorem qm_1269 : (.code yJ5_isLatin1_aae02 cJ5_isLatin1_aae02 1 (some .boolean) : Cond) ∈ BIG := big_of (i := 1269) (by decide +kernel) (by decide +kernel)
theorem qm_1270 : (.fieldLink RJ5 18 "java/lang/String" "COMPACT_STRINGS" "Z" : Cond) ∈ BIG := big_of (i := 1270) (by decide +kernel) (by decide +kernel)
theorem qm_1271 : (.methodLink RJ5 226 yJ2_putCharsAt_cd4e5 : Cond) ∈ BIG := big_of (i := 1271) (by decide +kernel) (by decide +kernel)
theorem qm_1272 : (.static yJ2_putCharsAt_cd4e5 : Cond) ∈ BIG := big_of (i := 1272) (by decide +kernel) (by decide +kernel)
theorem qm_1273 : (.code yJ2_putCharsAt_cd4e5 cJ2_putCharsAt_cd4e5 7 (some .int) : Cond) ∈ BIG := big_of (i := 1273) (by decide +kernel) (by decide +kernel)
theorem qm_1274 : (.methodLink RJ2 96 yJ2_checkBoundsBeginEnd_d044e : Cond) ∈ BIG := big_of (i := 1274) (by decide +kernel) (by decide +kernel)
theorem qm_1275 : (.static yJ2_checkBoundsBeginEnd_d044e : Cond) ∈ BIG := big_of (i := 1275) (by decide +kernel) (by decide +kernel)
theorem qm_1276 : (.code yJ2_checkBoundsBeginEnd_d044e cJ2_checkBoundsBeginEnd_d044e 3 none : Cond) ∈ BIG := big_of (i := 1276) (by decide +kernel) (by decide +kernel)
theorem qm_1277 : (.methodLink RJ2 241 yJ0_checkBoundsBeginEnd_23922 : Cond) ∈ BIG := big_of (i := 1277) (by decide +kernel) (by decide +kernel)
theorem qm_1278 : (.static yJ0_checkBoundsBeginEnd_23922 : Cond) ∈ BIG := big_of (i := 1278) (by decide +kernel) (by decide +kernel)
theorem qm_1279 : (.code yJ0_checkBoundsBeginEnd_23922 cJ0_checkBoundsBeginEnd_23922 3 none : Cond) ∈ BIG := big_of (i := 1279) (by decide +kernel) (by decide +kernel)
theorem qm_1280 : (.methodLink RJ0 1062 yJ3_checkFromToIndex_8c36e : Cond) ∈ BIG := big_of (i := 1280) (by decide +kernel) (by decide +kernel)
theorem qm_1281 : (.static yJ3_checkFromToIndex_8c36e : Cond) ∈ BIG := big_of (i := 1281) (by decide +kernel) (by decide +kernel)
theorem qm_1282 : (.code yJ3_checkFromToIndex_8c36e cJ3_checkFromToIndex_8c36e 4 (some .int) : Cond) ∈ BIG := big_of (i := 1282) (by decide +kernel) (by decide +kernel)
theorem qm_1283 : (.methodLink RJ2 111 yJ2_putChar_b72d1 : Cond) ∈ BIG := big_of (i := 1283) (by decide +kernel) (by decide +kernel)
theorem qm_1284 : (.static yJ2_putChar_b72d1 : Cond) ∈ BIG := big_of (i := 1284) (by decide +kernel) (by decide +kernel)
theorem qm_1285 : (.code yJ2_putChar_b72d1 cJ2_putChar_b72d1 3 none : Cond) ∈ BIG := big_of (i := 1285) (by decide +kernel) (by decide +kernel)
theorem qm_1286 : (.methodLink RJ5 32 yJ0_length_8abf5 : Cond) ∈ BIG := big_of (i := 1286) (by decide +kernel) (by decide +kernel)
theorem qm_1287 : (.methodLink RJ5 208 yJ5_putStringAt_47b60 : Cond) ∈ BIG := big_of (i := 1287) (by decide +kernel) (by decide +kernel)
theorem qm_1289 : (.instanceMethod yJ5_putStringAt_47b60 : Cond) ∈ BIG := big_of (i := 1289) (by decide +kernel) (by decide +kernel)
theorem qm_1290 : (.code yJ5_putStringAt_47b60 cJ5_putStringAt_47b60 3 none : Cond) ∈ BIG := big_of (i := 1290) (by decide +kernel) (by decide +kernel)
theorem qm_1291 : (.methodLink RJ5 397 yJ5_inflateIfNeededFor_a7421 : Cond) ∈ BIG := big_of (i := 1291) (by decide +kernel) (by decide +kernel)
theorem qm_1293 : (.instanceMethod yJ5_inflateIfNeededFor_a7421 : Cond) ∈ BIG := big_of (i := 1293) (by decide +kernel) (by decide +kernel)
theorem qm_1294 : (.code yJ5_inflateIfNeededFor_a7421 cJ5_inflateIfNeededFor_a7421 2 none : Cond) ∈ BIG := big_of (i := 1294) (by decide +kernel) (by decide +kernel)
theorem qm_1295 : (.methodLink RJ5 40 yJ0_coder_7d493 : Cond) ∈ BIG := big_of (i := 1295) (by decide +kernel) (by decide +kernel)
theorem qm_1296 : (.methodLink RJ5 195 yJ5_inflate_da8c8 : Cond) ∈ BIG := big_of (i := 1296) (by decide +kernel) (by decide +kernel)
theorem qm_1298 : (.instanceMethod yJ5_inflate_da8c8 : Cond) ∈ BIG := big_of (i := 1298) (by decide +kernel) (by decide +kernel)
theorem qm_1299 : (.code yJ5_inflate_da8c8 cJ5_inflate_da8c8 2 none : Cond) ∈ BIG := big_of (i := 1299) (by decide +kernel) (by decide +kernel)
theorem qm_1300 : (.methodLink RJ5 26 yJ2_newBytesFor_77867 : Cond) ∈ BIG := big_of (i := 1300) (by decide +kernel) (by decide +kernel)
theorem qm_1301 : (.static yJ2_newBytesFor_77867 : Cond) ∈ BIG := big_of (i := 1301) (by decide +kernel) (by decide +kernel)
theorem qm_1302 : (.code yJ2_newBytesFor_77867 cJ2_newBytesFor_77867 1 (some (.array .byte)) : Cond) ∈ BIG := big_of (i := 1302) (by decide +kernel) (by decide +kernel)
theorem qm_1303 : (.methodLink RJ2 11 yJ2_newBytesLength_0f7a4 : Cond) ∈ BIG := big_of (i := 1303) (by decide +kernel) (by decide +kernel)
theorem qm_1304 : (.static yJ2_newBytesLength_0f7a4 : Cond) ∈ BIG := big_of (i := 1304) (by decide +kernel) (by decide +kernel)
theorem qm_1305 : (.code yJ2_newBytesLength_0f7a4 cJ2_newBytesLength_0f7a4 1 (some .int) : Cond) ∈ BIG := big_of (i := 1305) (by decide +kernel) (by decide +kernel)
theorem qm_1306 : (.constant RJ2 20 1073741823 : Cond) ∈ BIG := big_of (i := 1306) (by decide +kernel) (by decide +kernel)
theorem qm_1307 : (.methodLink RJ5 125 yJ1_inflate_0e8fd : Cond) ∈ BIG := big_of (i := 1307) (by decide +kernel) (by decide +kernel)
theorem qm_1308 : (.static yJ1_inflate_0e8fd : Cond) ∈ BIG := big_of (i := 1308) (by decide +kernel) (by decide +kernel)
theorem qm_1309 : (.code yJ1_inflate_0e8fd cJ1_inflate_0e8fd 5 none : Cond) ∈ BIG := big_of (i := 1309) (by decide +kernel) (by decide +kernel)
theorem qm_1310 : (.methodLink RJ1 240 yJ2_inflate_0e8fd : Cond) ∈ BIG := big_of (i := 1310) (by decide +kernel) (by decide +kernel)
theorem qm_1311 : (.static yJ2_inflate_0e8fd : Cond) ∈ BIG := big_of (i := 1311) (by decide +kernel) (by decide +kernel)
theorem qm_1312 : (.code yJ2_inflate_0e8fd cJ2_inflate_0e8fd 6 none : Cond) ∈ BIG := big_of (i := 1312) (by decide +kernel) (by decide +kernel)
theorem qm_1313 : (.methodLink RJ2 173 yJ2_checkBoundsOffCount_d044e : Cond) ∈ BIG := big_of (i := 1313) (by decide +kernel) (by decide +kernel)
theorem qm_1314 : (.static yJ2_checkBoundsOffCount_d044e : Cond) ∈ BIG := big_of (i := 1314) (by decide +kernel) (by decide +kernel)
theorem qm_1315 : (.code yJ2_checkBoundsOffCount_d044e cJ2_checkBoundsOffCount_d044e 3 none : Cond) ∈ BIG := big_of (i := 1315) (by decide +kernel) (by decide +kernel)
theorem qm_1316 : (.methodLink RJ2 419 yJ0_checkBoundsOffCount_cabcc : Cond) ∈ BIG := big_of (i := 1316) (by decide +kernel) (by decide +kernel)
theorem qm_1317 : (.static yJ0_checkBoundsOffCount_cabcc : Cond) ∈ BIG := big_of (i := 1317) (by decide +kernel) (by decide +kernel)
theorem qm_1318 : (.code yJ0_checkBoundsOffCount_cabcc cJ0_checkBoundsOffCount_cabcc 3 (some .int) : Cond) ∈ BIG := big_of (i := 1318) (by decide +kernel) (by decide +kernel)
theorem qm_1319 : (.methodLink RJ0 1065 yJ3_checkFromIndexSize_8c36e : Cond) ∈ BIG := big_of (i := 1319) (by decide +kernel) (by decide +kernel)
theorem qm_1320 : (.static yJ3_checkFromIndexSize_8c36e : Cond) ∈ BIG := big_of (i := 1320) (by decide +kernel) (by decide +kernel)
theorem qm_1321 : (.code yJ3_checkFromIndexSize_8c36e cJ3_checkFromIndexSize_8c36e 4 (some .int) : Cond) ∈ BIG := big_of (i := 1321) (by decide +kernel) (by decide +kernel)
theorem qm_1322 : (.methodLink RJ5 399 yJ0_getBytes_840e7 : Cond) ∈ BIG := big_of (i := 1322) (by decide +kernel) (by decide +kernel)
theorem qm_1323 : (.instanceMethod yJ0_getBytes_840e7 : Cond) ∈ BIG := big_of (i := 1323) (by decide +kernel) (by decide +kernel)
theorem qm_1324 : (.selects RJ0 yJ0_getBytes_840e7 yJ0_getBytes_840e7 : Cond) ∈ BIG := big_of (i := 1324) (by decide +kernel) (by decide +kernel)
theorem qm_1325 : (.code yJ0_getBytes_840e7 cJ0_getBytes_840e7 4 none : Cond) ∈ BIG := big_of (i := 1325) (by decide +kernel) (by decide +kernel)
theorem qm_1326 : (.methodLink RJ0 212 ⟨RJ10, "arraycopy", "(Ljava/lang/Object;ILjava/lang/Object;II)V"⟩ : Cond) ∈ BIG := big_of (i := 1326) (by decide +kernel) (by decide +kernel)
theorem qm_1327 : (.methodLink RJ0 106 yJ1_inflate_0e8fd : Cond) ∈ BIG := big_of (i := 1327) (by decide +kernel) (by decide +kernel)
theorem qm_1328 : (.methodLink RL 75 yJ4_append_bf812 : Cond) ∈ BIG := big_of (i := 1328) (by decide +kernel) (by decide +kernel)
theorem qm_1329 : (.instanceMethod yJ4_append_bf812 : Cond) ∈ BIG := big_of (i := 1329) (by decide +kernel) (by decide +kernel)
theorem qm_1330 : (.selects RJ4 yJ4_append_bf812 yJ4_append_bf812 : Cond) ∈ BIG := big_of (i := 1330) (by decide +kernel) (by decide +kernel)
theorem qm_1331 : (.code yJ4_append_bf812 cJ4_append_bf812 2 (some (.object "java/lang/StringBuilder")) : Cond) ∈ BIG := big_of (i := 1331) (by decide +kernel) (by decide +kernel)
theorem qm_1332 : (.methodLink RJ4 53 yJ5_append_c97b9 : Cond) ∈ BIG := big_of (i := 1332) (by decide +kernel) (by decide +kernel)
theorem qm_1333 : (.instanceMethod yJ5_append_c97b9 : Cond) ∈ BIG := big_of (i := 1333) (by decide +kernel) (by decide +kernel)
theorem qm_1334 : (.code yJ5_append_c97b9 cJ5_append_c97b9 4 (some (.object "java/lang/AbstractStringBuilder")) : Cond) ∈ BIG := big_of (i := 1334) (by decide +kernel) (by decide +kernel)
theorem qm_1335 : (.methodLink RJ5 245 yJ6_stringSize_0f7a4 : Cond) ∈ BIG := big_of (i := 1335) (by decide +kernel) (by decide +kernel)
theorem qm_1336 : (.static yJ6_stringSize_0f7a4 : Cond) ∈ BIG := big_of (i := 1336) (by decide +kernel) (by decide +kernel)
theorem qm_1337 : (.code yJ6_stringSize_0f7a4 cJ6_stringSize_0f7a4 4 (some .int) : Cond) ∈ BIG := big_of (i := 1337) (by decide +kernel) (by decide +kernel)
theorem qm_1338 : (.methodLink RJ5 248 yJ6_getChars_ba4f3 : Cond) ∈ BIG := big_of (i := 1338) (by decide +kernel) (by decide +kernel)
theorem qm_1339 : (.static yJ6_getChars_ba4f3 : Cond) ∈ BIG := big_of (i := 1339) (by decide +kernel) (by decide +kernel)
theorem qm_1340 : (.code yJ6_getChars_ba4f3 cJ6_getChars_ba4f3 7 (some .int) : Cond) ∈ BIG := big_of (i := 1340) (by decide +kernel) (by decide +kernel)
theorem qm_1341 : (.fieldLink RJ6 83 "java/lang/Integer" "DigitOnes" "[B" : Cond) ∈ BIG := big_of (i := 1341) (by decide +kernel) (by decide +kernel)
theorem qm_1343 : (.fieldLink RJ6 87 "java/lang/Integer" "DigitTens" "[B" : Cond) ∈ BIG := big_of (i := 1343) (by decide +kernel) (by decide +kernel)
theorem qm_1345 : (.methodLink RJ5 251 yJ2_getChars_46870 : Cond) ∈ BIG := big_of (i := 1345) (by decide +kernel) (by decide +kernel)
theorem qm_1346 : (.static yJ2_getChars_46870 : Cond) ∈ BIG := big_of (i := 1346) (by decide +kernel) (by decide +kernel)
theorem qm_1347 : (.code yJ2_getChars_46870 cJ2_getChars_46870 5 (some .int) : Cond) ∈ BIG := big_of (i := 1347) (by decide +kernel) (by decide +kernel)
theorem qm_1348 : (.methodLink RJ2 393 yJ2_getChars_ba4f3 : Cond) ∈ BIG := big_of (i := 1348) (by decide +kernel) (by decide +kernel)
theorem qm_1349 : (.static yJ2_getChars_ba4f3 : Cond) ∈ BIG := big_of (i := 1349) (by decide +kernel) (by decide +kernel)
theorem qm_1350 : (.code yJ2_getChars_ba4f3 cJ2_getChars_ba4f3 7 (some .int) : Cond) ∈ BIG := big_of (i := 1350) (by decide +kernel) (by decide +kernel)
theorem qm_1351 : (.fieldLink RJ2 403 "java/lang/Integer" "DigitOnes" "[B" : Cond) ∈ BIG := big_of (i := 1351) (by decide +kernel) (by decide +kernel)
theorem qm_1352 : (.fieldLink RJ2 407 "java/lang/Integer" "DigitTens" "[B" : Cond) ∈ BIG := big_of (i := 1352) (by decide +kernel) (by decide +kernel)
theorem qm_1358 : (.instantiable RX15 5 : Cond) ∈ BIG := big_of (i := 1358) (by decide +kernel) (by decide +kernel)
theorem qm_1360 : (.instanceMethod yX15_init : Cond) ∈ BIG := big_of (i := 1360) (by decide +kernel) (by decide +kernel)
theorem qm_1361 : (.code yX15_init cX15_init 1 none : Cond) ∈ BIG := big_of (i := 1361) (by decide +kernel) (by decide +kernel)
theorem qm_1362 : (.methodLink RX15 1 ⟨"java/lang/Object", "<init>", "()V"⟩ : Cond) ∈ BIG := big_of (i := 1362) (by decide +kernel) (by decide +kernel)
theorem qm_1363 : (.fieldLink RL 89 "WeatherTeaLaw$Guest" "at" "I" : Cond) ∈ BIG := big_of (i := 1363) (by decide +kernel) (by decide +kernel)
theorem qm_1364 : (.fieldLink RX18 56 "WeatherTeaLaw$Guest" "at" "I" : Cond) ∈ BIG := big_of (i := 1364) (by decide +kernel) (by decide +kernel)
theorem qm_1365 : (.fieldLink RX18 57 "WeatherTeaLaw$Guest" "low" "I" : Cond) ∈ BIG := big_of (i := 1365) (by decide +kernel) (by decide +kernel)
theorem qm_1366 : (.fieldLink RL 90 "WeatherTeaLaw$Guest" "low" "I" : Cond) ∈ BIG := big_of (i := 1366) (by decide +kernel) (by decide +kernel)
theorem qm_1367 : (.fieldLink RX18 60 "WeatherTeaLaw$Guest" "high" "I" : Cond) ∈ BIG := big_of (i := 1367) (by decide +kernel) (by decide +kernel)
theorem qm_1368 : (.fieldLink RL 93 "WeatherTeaLaw$Guest" "high" "I" : Cond) ∈ BIG := big_of (i := 1368) (by decide +kernel) (by decide +kernel)
theorem qm_1369 : (.fieldLink RL 96 "WeatherTeaLaw$Guest" "nerve" "I" : Cond) ∈ BIG := big_of (i := 1369) (by decide +kernel) (by decide +kernel)
theorem qm_1370 : (.fieldLink RX18 63 "WeatherTeaLaw$Guest" "nerve" "I" : Cond) ∈ BIG := big_of (i := 1370) (by decide +kernel) (by decide +kernel)
theorem qm_1371 : (.fieldLink RX18 66 "WeatherTeaLaw$Guest" "place" "I" : Cond) ∈ BIG := big_of (i := 1371) (by decide +kernel) (by decide +kernel)
theorem qm_1372 : (.fieldLink RX16 144 "WeatherTeaLaw$Guest" "place" "I" : Cond) ∈ BIG := big_of (i := 1372) (by decide +kernel) (by decide +kernel)
theorem qm_1373 : (.lays RX15 RX15 "at" "I" : Cond) ∈ BIG := big_of (i := 1373) (by decide +kernel) (by decide +kernel)
theorem qm_1375 : (.lays RX15 RX15 "low" "I" : Cond) ∈ BIG := big_of (i := 1375) (by decide +kernel) (by decide +kernel)
theorem qm_1377 : (.lays RX15 RX15 "high" "I" : Cond) ∈ BIG := big_of (i := 1377) (by decide +kernel) (by decide +kernel)
theorem qm_1379 : (.lays RX15 RX15 "nerve" "I" : Cond) ∈ BIG := big_of (i := 1379) (by decide +kernel) (by decide +kernel)
theorem qm_1381 : (.lays RX15 RX15 "place" "I" : Cond) ∈ BIG := big_of (i := 1381) (by decide +kernel) (by decide +kernel)
theorem qm_1389 : (.classLink RL 109 RX17 : Cond) ∈ BIG := big_of (i := 1389) (by decide +kernel) (by decide +kernel)
theorem qm_1390 : (.instantiable RX17 3 : Cond) ∈ BIG := big_of (i := 1390) (by decide +kernel) (by decide +kernel)
theorem qm_1391 : (.methodLink RL 115 yX17_init : Cond) ∈ BIG := big_of (i := 1391) (by decide +kernel) (by decide +kernel)
theorem qm_1392 : (.instanceMethod yX17_init : Cond) ∈ BIG := big_of (i := 1392) (by decide +kernel) (by decide +kernel)
theorem qm_1393 : (.code yX17_init cX17_init 5 none : Cond) ∈ BIG := big_of (i := 1393) (by decide +kernel) (by decide +kernel)
theorem qm_1394 : (.methodLink RX17 1 ⟨"java/lang/Object", "<init>", "()V"⟩ : Cond) ∈ BIG := big_of (i := 1394) (by decide +kernel) (by decide +kernel)
theorem qm_1395 : (.methodLink RX17 7 yX13_next : Cond) ∈ BIG := big_of (i := 1395) (by decide +kernel) (by decide +kernel)
theorem qm_1396 : (.methodLink RX17 22 yX16_test : Cond) ∈ BIG := big_of (i := 1396) (by decide +kernel) (by decide +kernel)
theorem qm_1397 : (.static yX16_test : Cond) ∈ BIG := big_of (i := 1397) (by decide +kernel) (by decide +kernel)
theorem qm_1398 : (.code yX16_test cX16_test 6 (some (.object "WeatherTeaLaw$Node")) : Cond) ∈ BIG := big_of (i := 1398) (by decide +kernel) (by decide +kernel)
theorem qm_1399 : (.methodLink RX16 23 yX13_next : Cond) ∈ BIG := big_of (i := 1399) (by decide +kernel) (by decide +kernel)
theorem qm_1400 : (.classLink RX16 8 RX16 : Cond) ∈ BIG := big_of (i := 1400) (by decide +kernel) (by decide +kernel)
theorem qm_1401 : (.instantiable RX16 4 : Cond) ∈ BIG := big_of (i := 1401) (by decide +kernel) (by decide +kernel)
theorem qm_1402 : (.methodLink RX16 30 yX16_init : Cond) ∈ BIG := big_of (i := 1402) (by decide +kernel) (by decide +kernel)
theorem qm_1403 : (.instanceMethod yX16_init : Cond) ∈ BIG := big_of (i := 1403) (by decide +kernel) (by decide +kernel)
theorem qm_1404 : (.code yX16_init cX16_init 5 none : Cond) ∈ BIG := big_of (i := 1404) (by decide +kernel) (by decide +kernel)
theorem qm_1405 : (.methodLink RX16 1 ⟨"java/lang/Object", "<init>", "()V"⟩ : Cond) ∈ BIG := big_of (i := 1405) (by decide +kernel) (by decide +kernel)
theorem qm_1406 : (.fieldLink RX16 7 "WeatherTeaLaw$Node" "sort" "I" : Cond) ∈ BIG := big_of (i := 1406) (by decide +kernel) (by decide +kernel)
theorem qm_1407 : (.fieldLink RX16 13 "WeatherTeaLaw$Node" "n" "I" : Cond) ∈ BIG := big_of (i := 1407) (by decide +kernel) (by decide +kernel)
theorem qm_1408 : (.fieldLink RX16 16 "WeatherTeaLaw$Node" "a" "LWeatherTeaLaw$Node;" : Cond) ∈ BIG := big_of (i := 1408) (by decide +kernel) (by decide +kernel)
theorem qm_1409 : (.fieldLink RX16 20 "WeatherTeaLaw$Node" "b" "LWeatherTeaLaw$Node;" : Cond) ∈ BIG := big_of (i := 1409) (by decide +kernel) (by decide +kernel)
theorem qm_1410 : (.laysFinal RX16 RX16 "sort" "I" : Cond) ∈ BIG := big_of (i := 1410) (by decide +kernel) (by decide +kernel)
theorem qm_1412 : (.laysFinal RX16 RX16 "n" "I" : Cond) ∈ BIG := big_of (i := 1412) (by decide +kernel) (by decide +kernel)
theorem qm_1414 : (.laysFinal RX16 RX16 "a" "LWeatherTeaLaw$Node;" : Cond) ∈ BIG := big_of (i := 1414) (by decide +kernel) (by decide +kernel)
theorem qm_1416 : (.laysFinal RX16 RX16 "b" "LWeatherTeaLaw$Node;" : Cond) ∈ BIG := big_of (i := 1416) (by decide +kernel) (by decide +kernel)
theorem qm_1419 : (.methodLink RX16 33 yX16_sum : Cond) ∈ BIG := big_of (i := 1419) (by decide +kernel) (by decide +kernel)
theorem qm_1420 : (.static yX16_sum : Cond) ∈ BIG := big_of (i := 1420) (by decide +kernel) (by decide +kernel)
theorem qm_1421 : (.code yX16_sum cX16_sum 6 (some (.object "WeatherTeaLaw$Node")) : Cond) ∈ BIG := big_of (i := 1421) (by decide +kernel) (by decide +kernel)
theorem qm_1422 : (.constant RX16 29 1000000 : Cond) ∈ BIG := big_of (i := 1422) (by decide +kernel) (by decide +kernel)
theorem qm_1423 : (.methodLink RX16 37 yX16_test : Cond) ∈ BIG := big_of (i := 1423) (by decide +kernel) (by decide +kernel)
theorem qm_1424 : (.fieldLink RX17 13 "WeatherTeaLaw$Order" "does" "I" : Cond) ∈ BIG := big_of (i := 1424) (by decide +kernel) (by decide +kernel)
theorem qm_1425 : (.fieldLink RX17 19 "WeatherTeaLaw$Order" "whom" "I" : Cond) ∈ BIG := big_of (i := 1425) (by decide +kernel) (by decide +kernel)
theorem qm_1426 : (.fieldLink RX17 28 "WeatherTeaLaw$Order" "test" "LWeatherTeaLaw$Node;" : Cond) ∈ BIG := big_of (i := 1426) (by decide +kernel) (by decide +kernel)
theorem qm_1427 : (.laysFinal RX17 RX17 "does" "I" : Cond) ∈ BIG := big_of (i := 1427) (by decide +kernel) (by decide +kernel)
theorem qm_1429 : (.laysFinal RX17 RX17 "whom" "I" : Cond) ∈ BIG := big_of (i := 1429) (by decide +kernel) (by decide +kernel)
theorem qm_1431 : (.laysFinal RX17 RX17 "test" "LWeatherTeaLaw$Node;" : Cond) ∈ BIG := big_of (i := 1431) (by decide +kernel) (by decide +kernel)
theorem qm_1434 : (.methodLink RL 118 yX17_text : Cond) ∈ BIG := big_of (i := 1434) (by decide +kernel) (by decide +kernel)
theorem qm_1435 : (.instanceMethod yX17_text : Cond) ∈ BIG := big_of (i := 1435) (by decide +kernel) (by decide +kernel)
theorem qm_1436 : (.selects RX17 yX17_text yX17_text : Cond) ∈ BIG := big_of (i := 1436) (by decide +kernel) (by decide +kernel)
theorem qm_1437 : (.code yX17_text cX17_text 1 (some (.object "java/lang/String")) : Cond) ∈ BIG := big_of (i := 1437) (by decide +kernel) (by decide +kernel)
theorem qm_1438 : (.classLink RX17 31 RJ4 : Cond) ∈ BIG := big_of (i := 1438) (by decide +kernel) (by decide +kernel)
theorem qm_1439 : (.instantiable RJ4 4 : Cond) ∈ BIG := big_of (i := 1439) (by decide +kernel) (by decide +kernel)
theorem qm_1440 : (.methodLink RX17 33 yJ4_init_da8c8 : Cond) ∈ BIG := big_of (i := 1440) (by decide +kernel) (by decide +kernel)
theorem qm_1441 : (.instanceMethod yJ4_init_da8c8 : Cond) ∈ BIG := big_of (i := 1441) (by decide +kernel) (by decide +kernel)
theorem qm_1442 : (.code yJ4_init_da8c8 cJ4_init_da8c8 1 none : Cond) ∈ BIG := big_of (i := 1442) (by decide +kernel) (by decide +kernel)
theorem qm_1443 : (.methodLink RJ4 1 yJ5_init_d00df : Cond) ∈ BIG := big_of (i := 1443) (by decide +kernel) (by decide +kernel)
theorem qm_1444 : (.instanceMethod yJ5_init_d00df : Cond) ∈ BIG := big_of (i := 1444) (by decide +kernel) (by decide +kernel)
theorem qm_1445 : (.code yJ5_init_d00df cJ5_init_d00df 2 none : Cond) ∈ BIG := big_of (i := 1445) (by decide +kernel) (by decide +kernel)
theorem qm_1446 : (.methodLink RJ5 3 ⟨"java/lang/Object", "<init>", "()V"⟩ : Cond) ∈ BIG := big_of (i := 1446) (by decide +kernel) (by decide +kernel)
theorem qm_1447 : (.fieldLink RJ5 15 "java/lang/AbstractStringBuilder" "value" "[B" : Cond) ∈ BIG := big_of (i := 1447) (by decide +kernel) (by decide +kernel)
theorem qm_1448 : (.fieldLink RJ5 22 "java/lang/AbstractStringBuilder" "coder" "B" : Cond) ∈ BIG := big_of (i := 1448) (by decide +kernel) (by decide +kernel)
theorem qm_1449 : (.fieldLink RJ0 1048 "java/lang/AbstractStringBuilder" "maybeLatin1" "Z" : Cond) ∈ BIG := big_of (i := 1449) (by decide +kernel) (by decide +kernel)
theorem qm_1450 : (.fieldLink RJ5 79 "java/lang/AbstractStringBuilder" "count" "I" : Cond) ∈ BIG := big_of (i := 1450) (by decide +kernel) (by decide +kernel)
theorem qm_1451 : (.lays RJ4 RJ5 "value" "[B" : Cond) ∈ BIG := big_of (i := 1451) (by decide +kernel) (by decide +kernel)
theorem qm_1453 : (.lays RJ4 RJ5 "coder" "B" : Cond) ∈ BIG := big_of (i := 1453) (by decide +kernel) (by decide +kernel)
theorem qm_1455 : (.lays RJ4 RJ5 "maybeLatin1" "Z" : Cond) ∈ BIG := big_of (i := 1455) (by decide +kernel) (by decide +kernel)
theorem qm_1457 : (.lays RJ4 RJ5 "count" "I" : Cond) ∈ BIG := big_of (i := 1457) (by decide +kernel) (by decide +kernel)
theorem qm_1460 : (.methodLink RX17 36 yJ4_append_15ec4 : Cond) ∈ BIG := big_of (i := 1460) (by decide +kernel) (by decide +kernel)
theorem qm_1461 : (.methodLink RX17 40 yJ4_append_bf812 : Cond) ∈ BIG := big_of (i := 1461) (by decide +kernel) (by decide +kernel)
theorem qm_1462 : (.methodLink RX17 43 yJ4_toString_0e30d : Cond) ∈ BIG := big_of (i := 1462) (by decide +kernel) (by decide +kernel)
theorem qm_1463 : (.instanceMethod yJ4_toString_0e30d : Cond) ∈ BIG := big_of (i := 1463) (by decide +kernel) (by decide +kernel)
theorem qm_1464 : (.selects RJ4 yJ4_toString_0e30d yJ4_toString_0e30d : Cond) ∈ BIG := big_of (i := 1464) (by decide +kernel) (by decide +kernel)
theorem qm_1465 : (.code yJ4_toString_0e30d cJ4_toString_0e30d 1 (some (.object "java/lang/String")) : Cond) ∈ BIG := big_of (i := 1465) (by decide +kernel) (by decide +kernel)
theorem qm_1466 : (.classLink RJ4 18 RJ0 : Cond) ∈ BIG := big_of (i := 1466) (by decide +kernel) (by decide +kernel)
theorem qm_1467 : (.instantiable RJ0 4 : Cond) ∈ BIG := big_of (i := 1467) (by decide +kernel) (by decide +kernel)
theorem qm_1468 : (.methodLink RJ4 137 yJ0_init_81219 : Cond) ∈ BIG := big_of (i := 1468) (by decide +kernel) (by decide +kernel)
theorem qm_1469 : (.instanceMethod yJ0_init_81219 : Cond) ∈ BIG := big_of (i := 1469) (by decide +kernel) (by decide +kernel)
theorem qm_1470 : (.code yJ0_init_81219 cJ0_init_81219 2 none : Cond) ∈ BIG := big_of (i := 1470) (by decide +kernel) (by decide +kernel)
theorem qm_1471 : (.methodLink RJ0 489 yJ0_init_db425 : Cond) ∈ BIG := big_of (i := 1471) (by decide +kernel) (by decide +kernel)
theorem qm_1472 : (.instanceMethod yJ0_init_db425 : Cond) ∈ BIG := big_of (i := 1472) (by decide +kernel) (by decide +kernel)
theorem qm_1473 : (.code yJ0_init_db425 cJ0_init_db425 5 none : Cond) ∈ BIG := big_of (i := 1473) (by decide +kernel) (by decide +kernel)
theorem qm_1474 : (.methodLink RJ0 1 ⟨"java/lang/Object", "<init>", "()V"⟩ : Cond) ∈ BIG := big_of (i := 1474) (by decide +kernel) (by decide +kernel)
theorem qm_1475 : (.methodLink RJ0 552 yJ5_getValue_6d5f1 : Cond) ∈ BIG := big_of (i := 1475) (by decide +kernel) (by decide +kernel)
theorem qm_1476 : (.instanceMethod yJ5_getValue_6d5f1 : Cond) ∈ BIG := big_of (i := 1476) (by decide +kernel) (by decide +kernel)
theorem qm_1477 : (.sameMethod "java/lang/AbstractStringBuilder" "java/lang/AbstractStringBuilder" "getValue" "()[B" : Cond) ∈ BIG := big_of (i := 1477) (by decide +kernel) (by decide +kernel)
theorem qm_1478 : (.selects RJ4 yJ5_getValue_6d5f1 yJ5_getValue_6d5f1 : Cond) ∈ BIG := big_of (i := 1478) (by decide +kernel) (by decide +kernel)
theorem qm_1479 : (.code yJ5_getValue_6d5f1 cJ5_getValue_6d5f1 1 (some (.array .byte)) : Cond) ∈ BIG := big_of (i := 1479) (by decide +kernel) (by decide +kernel)
theorem qm_1480 : (.methodLink RJ0 549 yJ5_length_8abf5 : Cond) ∈ BIG := big_of (i := 1480) (by decide +kernel) (by decide +kernel)
theorem qm_1481 : (.instanceMethod yJ5_length_8abf5 : Cond) ∈ BIG := big_of (i := 1481) (by decide +kernel) (by decide +kernel)
theorem qm_1482 : (.sameMethod "java/lang/AbstractStringBuilder" "java/lang/AbstractStringBuilder" "length" "()I" : Cond) ∈ BIG := big_of (i := 1482) (by decide +kernel) (by decide +kernel)
theorem qm_1483 : (.selects RJ4 yJ5_length_8abf5 yJ4_length_8abf5 : Cond) ∈ BIG := big_of (i := 1483) (by decide +kernel) (by decide +kernel)
theorem qm_1484 : (.instanceMethod yJ4_length_8abf5 : Cond) ∈ BIG := big_of (i := 1484) (by decide +kernel) (by decide +kernel)
theorem qm_1485 : (.code yJ4_length_8abf5 cJ4_length_8abf5 1 (some .int) : Cond) ∈ BIG := big_of (i := 1485) (by decide +kernel) (by decide +kernel)
theorem qm_1486 : (.methodLink RJ4 343 yJ5_length_8abf5 : Cond) ∈ BIG := big_of (i := 1486) (by decide +kernel) (by decide +kernel)
theorem qm_1487 : (.code yJ5_length_8abf5 cJ5_length_8abf5 1 (some .int) : Cond) ∈ BIG := big_of (i := 1487) (by decide +kernel) (by decide +kernel)
theorem qm_1488 : (.methodLink RJ0 1047 yJ5_isLatin1_aae02 : Cond) ∈ BIG := big_of (i := 1488) (by decide +kernel) (by decide +kernel)
theorem qm_1489 : (.methodLink RJ0 54 yJ7_copyOfRange_39247 : Cond) ∈ BIG := big_of (i := 1489) (by decide +kernel) (by decide +kernel)
theorem qm_1490 : (.static yJ7_copyOfRange_39247 : Cond) ∈ BIG := big_of (i := 1490) (by decide +kernel) (by decide +kernel)
theorem qm_1491 : (.code yJ7_copyOfRange_39247 cJ7_copyOfRange_39247 3 (some (.array .byte)) : Cond) ∈ BIG := big_of (i := 1491) (by decide +kernel) (by decide +kernel)
theorem qm_1492 : (.methodLink RJ7 339 yJ7_copyOfRangeByte_39247 : Cond) ∈ BIG := big_of (i := 1492) (by decide +kernel) (by decide +kernel)
theorem qm_1493 : (.static yJ7_copyOfRangeByte_39247 : Cond) ∈ BIG := big_of (i := 1493) (by decide +kernel) (by decide +kernel)
theorem qm_1494 : (.code yJ7_copyOfRangeByte_39247 cJ7_copyOfRangeByte_39247 5 (some (.array .byte)) : Cond) ∈ BIG := big_of (i := 1494) (by decide +kernel) (by decide +kernel)
theorem qm_1495 : (.methodLink RJ7 343 yJ7_checkLength_df160 : Cond) ∈ BIG := big_of (i := 1495) (by decide +kernel) (by decide +kernel)
theorem qm_1496 : (.static yJ7_checkLength_df160 : Cond) ∈ BIG := big_of (i := 1496) (by decide +kernel) (by decide +kernel)
theorem qm_1497 : (.code yJ7_checkLength_df160 cJ7_checkLength_df160 2 none : Cond) ∈ BIG := big_of (i := 1497) (by decide +kernel) (by decide +kernel)
theorem qm_1498 : (.methodLink RJ0 1051 yJ2_compress_39247 : Cond) ∈ BIG := big_of (i := 1498) (by decide +kernel) (by decide +kernel)
theorem qm_1499 : (.static yJ2_compress_39247 : Cond) ∈ BIG := big_of (i := 1499) (by decide +kernel) (by decide +kernel)
theorem qm_1500 : (.code yJ2_compress_39247 cJ2_compress_39247 6 (some (.array .byte)) : Cond) ∈ BIG := big_of (i := 1500) (by decide +kernel) (by decide +kernel)
theorem qm_1501 : (.methodLink RJ2 123 yJ2_compress_5af95 : Cond) ∈ BIG := big_of (i := 1501) (by decide +kernel) (by decide +kernel)
theorem qm_1502 : (.static yJ2_compress_5af95 : Cond) ∈ BIG := big_of (i := 1502) (by decide +kernel) (by decide +kernel)
theorem qm_1503 : (.code yJ2_compress_5af95 cJ2_compress_5af95 7 (some .int) : Cond) ∈ BIG := big_of (i := 1503) (by decide +kernel) (by decide +kernel)
theorem qm_1504 : (.methodLink RJ2 126 yJ7_copyOfRange_39247 : Cond) ∈ BIG := big_of (i := 1504) (by decide +kernel) (by decide +kernel)
theorem qm_1505 : (.methodLink RJ0 47 yJ2_coderFromArrayLen_85cad : Cond) ∈ BIG := big_of (i := 1505) (by decide +kernel) (by decide +kernel)
theorem qm_1506 : (.static yJ2_coderFromArrayLen_85cad : Cond) ∈ BIG := big_of (i := 1506) (by decide +kernel) (by decide +kernel)
theorem qm_1507 : (.code yJ2_coderFromArrayLen_85cad cJ2_coderFromArrayLen_85cad 2 (some .byte) : Cond) ∈ BIG := big_of (i := 1507) (by decide +kernel) (by decide +kernel)
theorem qm_1508 : (.fieldLink RJ0 9 "java/lang/String" "value" "[B" : Cond) ∈ BIG := big_of (i := 1508) (by decide +kernel) (by decide +kernel)
theorem qm_1509 : (.fieldLink RJ0 15 "java/lang/String" "coder" "B" : Cond) ∈ BIG := big_of (i := 1509) (by decide +kernel) (by decide +kernel)
theorem qm_1510 : (.laysFinal RJ0 RJ0 "value" "[B" : Cond) ∈ BIG := big_of (i := 1510) (by decide +kernel) (by decide +kernel)
theorem qm_1512 : (.laysFinal RJ0 RJ0 "coder" "B" : Cond) ∈ BIG := big_of (i := 1512) (by decide +kernel) (by decide +kernel)
theorem qm_1514 : (.lays RJ0 RJ0 "hash" "I" : Cond) ∈ BIG := big_of (i := 1514) (by decide +kernel) (by decide +kernel)
theorem qm_1516 : (.lays RJ0 RJ0 "hashIsZero" "Z" : Cond) ∈ BIG := big_of (i := 1516) (by decide +kernel) (by decide +kernel)
theorem qm_1524 : (.methodLink RX17 57 yX16_text : Cond) ∈ BIG := big_of (i := 1524) (by decide +kernel) (by decide +kernel)
theorem qm_1525 : (.instanceMethod yX16_text : Cond) ∈ BIG := big_of (i := 1525) (by decide +kernel) (by decide +kernel)
theorem qm_1526 : (.selects RX16 yX16_text yX16_text : Cond) ∈ BIG := big_of (i := 1526) (by decide +kernel) (by decide +kernel)
theorem qm_1527 : (.code yX16_text cX16_text 1 (some (.object "java/lang/String")) : Cond) ∈ BIG := big_of (i := 1527) (by decide +kernel) (by decide +kernel)
theorem qm_1528 : (.classLink RX16 41 RJ4 : Cond) ∈ BIG := big_of (i := 1528) (by decide +kernel) (by decide +kernel)
theorem qm_1529 : (.methodLink RX16 43 yJ4_init_da8c8 : Cond) ∈ BIG := big_of (i := 1529) (by decide +kernel) (by decide +kernel)
theorem qm_1531 : (.methodLink RX16 46 yJ4_append_15ec4 : Cond) ∈ BIG := big_of (i := 1531) (by decide +kernel) (by decide +kernel)
theorem qm_1532 : (.methodLink RX16 50 yJ4_append_bf812 : Cond) ∈ BIG := big_of (i := 1532) (by decide +kernel) (by decide +kernel)
theorem qm_1533 : (.methodLink RX16 53 yJ4_toString_0e30d : Cond) ∈ BIG := big_of (i := 1533) (by decide +kernel) (by decide +kernel)
theorem qm_1538 : (.methodLink RX16 67 yX16_text : Cond) ∈ BIG := big_of (i := 1538) (by decide +kernel) (by decide +kernel)
theorem qm_1555 : (.methodLink RL 122 yX18_come : Cond) ∈ BIG := big_of (i := 1555) (by decide +kernel) (by decide +kernel)
theorem qm_1556 : (.methodLink RL 197 yL_act : Cond) ∈ BIG := big_of (i := 1556) (by decide +kernel) (by decide +kernel)
theorem qm_1557 : (.static yL_act : Cond) ∈ BIG := big_of (i := 1557) (by decide +kernel) (by decide +kernel)
theorem qm_1558 : (.codeWith yL_act cL_act 8 (some .boolean) [(56, 109, 322, 169), (110, 141, 322, 169), (142, 169, 322, 169), (170, 197, 322, 169), (198, 207, 322, 169), (208, 243, 322, 169), (244, 278, 322, 169), (279, 321, 322, 169)] : Cond) ∈ BIG := big_of (i := 1558) (by decide +kernel) (by decide +kernel)
theorem qm_1559 : (.classLink RL 169 "java/lang/IllegalStateException" : Cond) ∈ BIG := big_of (i := 1559) (by decide +kernel) (by decide +kernel)
theorem qm_1560 : (.methodLink RL 125 yX18_isSteeped : Cond) ∈ BIG := big_of (i := 1560) (by decide +kernel) (by decide +kernel)
theorem qm_1561 : (.methodLink RL 129 yX12_steep : Cond) ∈ BIG := big_of (i := 1561) (by decide +kernel) (by decide +kernel)
theorem qm_1562 : (.instanceMethod yX12_steep : Cond) ∈ BIG := big_of (i := 1562) (by decide +kernel) (by decide +kernel)
theorem qm_1563 : (.selects RX12 yX12_steep yX12_steep : Cond) ∈ BIG := big_of (i := 1563) (by decide +kernel) (by decide +kernel)
theorem qm_1564 : (.code yX12_steep cX12_steep 2 (some .int) : Cond) ∈ BIG := big_of (i := 1564) (by decide +kernel) (by decide +kernel)
theorem qm_1565 : (.methodLink RX12 191 yX8_steepFront : Cond) ∈ BIG := big_of (i := 1565) (by decide +kernel) (by decide +kernel)
theorem qm_1567 : (.methodLink RL 135 yX18_isSqueezed : Cond) ∈ BIG := big_of (i := 1567) (by decide +kernel) (by decide +kernel)
theorem qm_1568 : (.methodLink RL 139 yX12_lemon : Cond) ∈ BIG := big_of (i := 1568) (by decide +kernel) (by decide +kernel)
theorem qm_1569 : (.instanceMethod yX12_lemon : Cond) ∈ BIG := big_of (i := 1569) (by decide +kernel) (by decide +kernel)
theorem qm_1570 : (.selects RX12 yX12_lemon yX12_lemon : Cond) ∈ BIG := big_of (i := 1570) (by decide +kernel) (by decide +kernel)
theorem qm_1571 : (.code yX12_lemon cX12_lemon 1 (some .int) : Cond) ∈ BIG := big_of (i := 1571) (by decide +kernel) (by decide +kernel)
theorem qm_1572 : (.methodLink RX12 196 yX8_squeezeLemon : Cond) ∈ BIG := big_of (i := 1572) (by decide +kernel) (by decide +kernel)
theorem qm_1574 : (.methodLink RL 145 yX18_isCalmed : Cond) ∈ BIG := big_of (i := 1574) (by decide +kernel) (by decide +kernel)
theorem qm_1575 : (.methodLink RL 148 yX12_saucer : Cond) ∈ BIG := big_of (i := 1575) (by decide +kernel) (by decide +kernel)
theorem qm_1576 : (.instanceMethod yX12_saucer : Cond) ∈ BIG := big_of (i := 1576) (by decide +kernel) (by decide +kernel)
theorem qm_1577 : (.selects RX12 yX12_saucer yX12_saucer : Cond) ∈ BIG := big_of (i := 1577) (by decide +kernel) (by decide +kernel)
theorem qm_1578 : (.code yX12_saucer cX12_saucer 1 (some .int) : Cond) ∈ BIG := big_of (i := 1578) (by decide +kernel) (by decide +kernel)
theorem qm_1579 : (.methodLink RX12 202 yX8_putSaucer : Cond) ∈ BIG := big_of (i := 1579) (by decide +kernel) (by decide +kernel)
theorem qm_1581 : (.methodLink RL 151 yX18_isServed : Cond) ∈ BIG := big_of (i := 1581) (by decide +kernel) (by decide +kernel)
theorem qm_1582 : (.methodLink RL 154 yX12_serve : Cond) ∈ BIG := big_of (i := 1582) (by decide +kernel) (by decide +kernel)
theorem qm_1583 : (.instanceMethod yX12_serve : Cond) ∈ BIG := big_of (i := 1583) (by decide +kernel) (by decide +kernel)
theorem qm_1584 : (.selects RX12 yX12_serve yX12_serve : Cond) ∈ BIG := big_of (i := 1584) (by decide +kernel) (by decide +kernel)
theorem qm_1585 : (.code yX12_serve cX12_serve 3 (some .int) : Cond) ∈ BIG := big_of (i := 1585) (by decide +kernel) (by decide +kernel)
theorem qm_1586 : (.methodLink RX12 207 yX8_serveGuest : Cond) ∈ BIG := big_of (i := 1586) (by decide +kernel) (by decide +kernel)
theorem qm_1588 : (.methodLink RL 160 yX12_heat : Cond) ∈ BIG := big_of (i := 1588) (by decide +kernel) (by decide +kernel)
theorem qm_1589 : (.instanceMethod yX12_heat : Cond) ∈ BIG := big_of (i := 1589) (by decide +kernel) (by decide +kernel)
theorem qm_1590 : (.selects RX12 yX12_heat yX12_heat : Cond) ∈ BIG := big_of (i := 1590) (by decide +kernel) (by decide +kernel)
theorem qm_1591 : (.code yX12_heat cX12_heat 3 (some .int) : Cond) ∈ BIG := big_of (i := 1591) (by decide +kernel) (by decide +kernel)
theorem qm_1593 : (.methodLink RL 166 yX18_pass_ : Cond) ∈ BIG := big_of (i := 1593) (by decide +kernel) (by decide +kernel)
theorem qm_1594 : (.instanceMethod yX18_pass_ : Cond) ∈ BIG := big_of (i := 1594) (by decide +kernel) (by decide +kernel)
theorem qm_1595 : (.selects RX18 yX18_pass_ yX18_pass_ : Cond) ∈ BIG := big_of (i := 1595) (by decide +kernel) (by decide +kernel)
theorem qm_1596 : (.code yX18_pass_ cX18_pass_ 4 (some .int) : Cond) ∈ BIG := big_of (i := 1596) (by decide +kernel) (by decide +kernel)
theorem qm_1597 : (.methodLink RX18 93 yX18_pass : Cond) ∈ BIG := big_of (i := 1597) (by decide +kernel) (by decide +kernel)
theorem qm_1598 : (.methodLink RL 261 yJ9_max_7cf53 : Cond) ∈ BIG := big_of (i := 1598) (by decide +kernel) (by decide +kernel)
theorem qm_1599 : (.methodLink RL 251 yJ9_min_7cf53 : Cond) ∈ BIG := big_of (i := 1599) (by decide +kernel) (by decide +kernel)
theorem qm_1600 : (.classLink RL 70 RJ4 : Cond) ∈ BIG := big_of (i := 1600) (by decide +kernel) (by decide +kernel)
theorem qm_1601 : (.methodLink RL 181 yJ4_init_da8c8 : Cond) ∈ BIG := big_of (i := 1601) (by decide +kernel) (by decide +kernel)
theorem qm_1602 : (.methodLink RL 186 yJ4_toString_0e30d : Cond) ∈ BIG := big_of (i := 1602) (by decide +kernel) (by decide +kernel)
theorem qm_1603 : (.sameMethod "java/lang/Throwable" "java/lang/Throwable" "fillInStackTrace" "(I)Ljava/lang/Throwable;" : Cond) ∈ BIG := big_of (i := 1603) (by decide +kernel) (by decide +kernel)
theorem qm_1604 : (.sameMethod "java/lang/AbstractStringBuilder" "java/lang/AbstractStringBuilder" "append" "(Ljava/lang/String;)Ljava/lang/AbstractStringBuilder;" : Cond) ∈ BIG := big_of (i := 1604) (by decide +kernel) (by decide +kernel)
theorem qm_1605 : (.sameMethod "java/lang/AbstractStringBuilder" "java/lang/AbstractStringBuilder" "appendNull" "()Ljava/lang/AbstractStringBuilder;" : Cond) ∈ BIG := big_of (i := 1605) (by decide +kernel) (by decide +kernel)
theorem qm_1606 : (.sameMethod "java/lang/AbstractStringBuilder" "java/lang/AbstractStringBuilder" "ensureCapacityInternal" "(I)V" : Cond) ∈ BIG := big_of (i := 1606) (by decide +kernel) (by decide +kernel)
theorem qm_1607 : (.sameMethod "java/lang/AbstractStringBuilder" "java/lang/AbstractStringBuilder" "newCapacity" "(I)I" : Cond) ∈ BIG := big_of (i := 1607) (by decide +kernel) (by decide +kernel)
theorem qm_1608 : (.sameMethod "java/lang/AbstractStringBuilder" "java/lang/AbstractStringBuilder" "putStringAt" "(ILjava/lang/String;)V" : Cond) ∈ BIG := big_of (i := 1608) (by decide +kernel) (by decide +kernel)
theorem qm_1609 : (.sameMethod "java/lang/AbstractStringBuilder" "java/lang/AbstractStringBuilder" "inflateIfNeededFor" "(Ljava/lang/String;)V" : Cond) ∈ BIG := big_of (i := 1609) (by decide +kernel) (by decide +kernel)
theorem qm_1610 : (.sameMethod "java/lang/AbstractStringBuilder" "java/lang/AbstractStringBuilder" "inflate" "()V" : Cond) ∈ BIG := big_of (i := 1610) (by decide +kernel) (by decide +kernel)
theorem qm_1611 : (.sameMethod "java/lang/AbstractStringBuilder" "java/lang/AbstractStringBuilder" "append" "(I)Ljava/lang/AbstractStringBuilder;" : Cond) ∈ BIG := big_of (i := 1611) (by decide +kernel) (by decide +kernel)
theorem qm_1612 : (.fieldLink RX11 86 "WeatherTea$Kind" "text" "Ljava/lang/String;" : Cond) ∈ BIG := big_of (i := 1612) (by decide +kernel) (by decide +kernel)
theorem qm_1613 : (.fieldLink RJx29ce0 7 "java/lang/Enum" "ordinal" "I" : Cond) ∈ BIG := big_of (i := 1613) (by decide +kernel) (by decide +kernel)
theorem uX2 : ∀ w ∈ u_ws RX2 TX2 6, w ∈ BIG := by
  show ∀ w ∈ [u_lay RX2 TX2 0, u_lay RX2 TX2 1, u_lay RX2 TX2 2, u_lay RX2 TX2 3, u_lay RX2 TX2 4, u_lay RX2 TX2 5], w ∈ BIG
  exact List.forall_mem_cons.mpr ⟨qm_160, List.forall_mem_cons.mpr ⟨qm_162, List.forall_mem_cons.mpr ⟨qm_164, List.forall_mem_cons.mpr ⟨qm_166, List.forall_mem_cons.mpr ⟨qm_168, List.forall_mem_cons.mpr ⟨qm_170, fun _ h => absurd h List.not_mem_nil⟩⟩⟩⟩⟩⟩
theorem uX4 : ∀ w ∈ u_ws RX4 TX4 6, w ∈ BIG := by
  show ∀ w ∈ [u_lay RX4 TX4 0, u_lay RX4 TX4 1, u_lay RX4 TX4 2, u_lay RX4 TX4 3, u_lay RX4 TX4 4, u_lay RX4 TX4 5], w ∈ BIG
  exact List.forall_mem_cons.mpr ⟨qm_194, List.forall_mem_cons.mpr ⟨qm_196, List.forall_mem_cons.mpr ⟨qm_198, List.forall_mem_cons.mpr ⟨qm_200, List.forall_mem_cons.mpr ⟨qm_202, List.forall_mem_cons.mpr ⟨qm_204, fun _ h => absurd h List.not_mem_nil⟩⟩⟩⟩⟩⟩
theorem uX6 : ∀ w ∈ u_ws RX6 TX6 8, w ∈ BIG := by
  show ∀ w ∈ [u_lay RX6 TX6 0, u_lay RX6 TX6 1, u_lay RX6 TX6 2, u_lay RX6 TX6 3, u_lay RX6 TX6 4, u_lay RX6 TX6 5, u_lay RX6 TX6 6, u_lay RX6 TX6 7], w ∈ BIG
  exact List.forall_mem_cons.mpr ⟨qm_232, List.forall_mem_cons.mpr ⟨qm_234, List.forall_mem_cons.mpr ⟨qm_236, List.forall_mem_cons.mpr ⟨qm_238, List.forall_mem_cons.mpr ⟨qm_240, List.forall_mem_cons.mpr ⟨qm_242, List.forall_mem_cons.mpr ⟨qm_244, List.forall_mem_cons.mpr ⟨qm_246, fun _ h => absurd h List.not_mem_nil⟩⟩⟩⟩⟩⟩⟩⟩
theorem uX7 : ∀ w ∈ u_ws RX7 TX7 3, w ∈ BIG := by
  show ∀ w ∈ [u_lay RX7 TX7 0, u_lay RX7 TX7 1, u_lay RX7 TX7 2], w ∈ BIG
  exact List.forall_mem_cons.mpr ⟨qm_260, List.forall_mem_cons.mpr ⟨qm_262, List.forall_mem_cons.mpr ⟨qm_264, fun _ h => absurd h List.not_mem_nil⟩⟩⟩
theorem uX8 : ∀ w ∈ u_ws RX8 TX8 13, w ∈ BIG := by
  show ∀ w ∈ [u_lay RX8 TX8 0, u_lay RX8 TX8 1, u_lay RX8 TX8 2, u_lay RX8 TX8 3, u_lay RX8 TX8 4, u_lay RX8 TX8 5, u_lay RX8 TX8 6, u_lay RX8 TX8 7, u_lay RX8 TX8 8, u_lay RX8 TX8 9, u_lay RX8 TX8 10, u_lay RX8 TX8 11, u_lay RX8 TX8 12], w ∈ BIG
  exact List.forall_mem_cons.mpr ⟨qm_292, List.forall_mem_cons.mpr ⟨qm_294, List.forall_mem_cons.mpr ⟨qm_296, List.forall_mem_cons.mpr ⟨qm_298, List.forall_mem_cons.mpr ⟨qm_300, List.forall_mem_cons.mpr ⟨qm_302, List.forall_mem_cons.mpr ⟨qm_304, List.forall_mem_cons.mpr ⟨qm_306, List.forall_mem_cons.mpr ⟨qm_308, List.forall_mem_cons.mpr ⟨qm_310, List.forall_mem_cons.mpr ⟨qm_312, List.forall_mem_cons.mpr ⟨qm_314, List.forall_mem_cons.mpr ⟨qm_316, fun _ h => absurd h List.not_mem_nil⟩⟩⟩⟩⟩⟩⟩⟩⟩⟩⟩⟩⟩
theorem uX9 : ∀ w ∈ u_ws RX9 TX9 2, w ∈ BIG := by
  show ∀ w ∈ [u_lay RX9 TX9 0, u_lay RX9 TX9 1], w ∈ BIG
  exact List.forall_mem_cons.mpr ⟨qm_127, List.forall_mem_cons.mpr ⟨qm_129, fun _ h => absurd h List.not_mem_nil⟩⟩
theorem uX10 : ∀ w ∈ u_ws RX10 TX10 2, w ∈ BIG := by
  show ∀ w ∈ [u_lay RX10 TX10 0, u_lay RX10 TX10 1], w ∈ BIG
  exact List.forall_mem_cons.mpr ⟨qm_68, List.forall_mem_cons.mpr ⟨qm_70, fun _ h => absurd h List.not_mem_nil⟩⟩
theorem uX11 : ∀ w ∈ u_ws RX11 TX11 7, w ∈ BIG := by
  show ∀ w ∈ [u_lay RX11 TX11 0, u_lay RX11 TX11 1, u_lay RX11 TX11 2, u_lay RX11 TX11 3, u_lay RX11 TX11 4, u_lay RX11 TX11 5, u_lay RX11 TX11 6], w ∈ BIG
  exact List.forall_mem_cons.mpr ⟨qm_96, List.forall_mem_cons.mpr ⟨qm_98, List.forall_mem_cons.mpr ⟨qm_100, List.forall_mem_cons.mpr ⟨qm_102, List.forall_mem_cons.mpr ⟨qm_104, List.forall_mem_cons.mpr ⟨qm_106, List.forall_mem_cons.mpr ⟨qm_108, fun _ h => absurd h List.not_mem_nil⟩⟩⟩⟩⟩⟩⟩
theorem uX12 : ∀ w ∈ u_ws RX12 TX12 6, w ∈ BIG := by
  show ∀ w ∈ [u_lay RX12 TX12 0, u_lay RX12 TX12 1, u_lay RX12 TX12 2, u_lay RX12 TX12 3, u_lay RX12 TX12 4, u_lay RX12 TX12 5], w ∈ BIG
  exact List.forall_mem_cons.mpr ⟨qm_327, List.forall_mem_cons.mpr ⟨qm_329, List.forall_mem_cons.mpr ⟨qm_331, List.forall_mem_cons.mpr ⟨qm_333, List.forall_mem_cons.mpr ⟨qm_335, List.forall_mem_cons.mpr ⟨qm_337, fun _ h => absurd h List.not_mem_nil⟩⟩⟩⟩⟩⟩
theorem uX13 : ∀ w ∈ u_ws RX13 TX13 1, w ∈ BIG := by
  show ∀ w ∈ [u_lay RX13 TX13 0], w ∈ BIG
  exact List.forall_mem_cons.mpr ⟨qm_687, fun _ h => absurd h List.not_mem_nil⟩
theorem uX14 : ∀ w ∈ u_ws RX14 TX14 5, w ∈ BIG := by
  show ∀ w ∈ [u_lay RX14 TX14 0, u_lay RX14 TX14 1, u_lay RX14 TX14 2, u_lay RX14 TX14 3, u_lay RX14 TX14 4], w ∈ BIG
  exact List.forall_mem_cons.mpr ⟨qm_1210, List.forall_mem_cons.mpr ⟨qm_1212, List.forall_mem_cons.mpr ⟨qm_1214, List.forall_mem_cons.mpr ⟨qm_1216, List.forall_mem_cons.mpr ⟨qm_1218, fun _ h => absurd h List.not_mem_nil⟩⟩⟩⟩⟩
theorem uX15 : ∀ w ∈ u_ws RX15 TX15 5, w ∈ BIG := by
  show ∀ w ∈ [u_lay RX15 TX15 0, u_lay RX15 TX15 1, u_lay RX15 TX15 2, u_lay RX15 TX15 3, u_lay RX15 TX15 4], w ∈ BIG
  exact List.forall_mem_cons.mpr ⟨qm_1373, List.forall_mem_cons.mpr ⟨qm_1375, List.forall_mem_cons.mpr ⟨qm_1377, List.forall_mem_cons.mpr ⟨qm_1379, List.forall_mem_cons.mpr ⟨qm_1381, fun _ h => absurd h List.not_mem_nil⟩⟩⟩⟩⟩
theorem uX16 : ∀ w ∈ u_ws RX16 TX16 4, w ∈ BIG := by
  show ∀ w ∈ [u_lay RX16 TX16 0, u_lay RX16 TX16 1, u_lay RX16 TX16 2, u_lay RX16 TX16 3], w ∈ BIG
  exact List.forall_mem_cons.mpr ⟨qm_1410, List.forall_mem_cons.mpr ⟨qm_1412, List.forall_mem_cons.mpr ⟨qm_1414, List.forall_mem_cons.mpr ⟨qm_1416, fun _ h => absurd h List.not_mem_nil⟩⟩⟩⟩
theorem uX17 : ∀ w ∈ u_ws RX17 TX17 3, w ∈ BIG := by
  show ∀ w ∈ [u_lay RX17 TX17 0, u_lay RX17 TX17 1, u_lay RX17 TX17 2], w ∈ BIG
  exact List.forall_mem_cons.mpr ⟨qm_1427, List.forall_mem_cons.mpr ⟨qm_1429, List.forall_mem_cons.mpr ⟨qm_1431, fun _ h => absurd h List.not_mem_nil⟩⟩⟩
theorem uX18 : ∀ w ∈ u_ws RX18 TX18 11, w ∈ BIG := by
  show ∀ w ∈ [u_lay RX18 TX18 0, u_lay RX18 TX18 1, u_lay RX18 TX18 2, u_lay RX18 TX18 3, u_lay RX18 TX18 4, u_lay RX18 TX18 5, u_lay RX18 TX18 6, u_lay RX18 TX18 7, u_lay RX18 TX18 8, u_lay RX18 TX18 9, u_lay RX18 TX18 10], w ∈ BIG
  exact List.forall_mem_cons.mpr ⟨qm_1169, List.forall_mem_cons.mpr ⟨qm_1171, List.forall_mem_cons.mpr ⟨qm_1173, List.forall_mem_cons.mpr ⟨qm_1175, List.forall_mem_cons.mpr ⟨qm_1177, List.forall_mem_cons.mpr ⟨qm_1179, List.forall_mem_cons.mpr ⟨qm_1181, List.forall_mem_cons.mpr ⟨qm_1183, List.forall_mem_cons.mpr ⟨qm_1185, List.forall_mem_cons.mpr ⟨qm_1187, List.forall_mem_cons.mpr ⟨qm_1189, fun _ h => absurd h List.not_mem_nil⟩⟩⟩⟩⟩⟩⟩⟩⟩⟩⟩

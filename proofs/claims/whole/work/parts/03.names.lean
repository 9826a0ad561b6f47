def RX0 : String := "WeatherTea$1"
def TX0 : u_T := fun k => match k with
  | _ => ("", "", "", false)
def tyX0 : Nat → FieldType := fun k => match k with
  | _ => .int
abbrev wsX00 : List Cond := u_ws RX0 TX0 0
theorem nmX0 : ∀ a, a < 0 → ∀ b, b < 0 → a ≠ b → (TX0 a).2.1 ≠ (TX0 b).2.1 := by decide +kernel
theorem tyX0_ok : ∀ k, k < 0 → parseFieldDescriptor (TX0 k).2.2.1 = some (tyX0 k) := by decide +kernel
def RX1 : String := "WeatherTea$Checker"
def TX1 : u_T := fun k => match k with
  | _ => ("", "", "", false)
def tyX1 : Nat → FieldType := fun k => match k with
  | _ => .int
abbrev wsX10 : List Cond := u_ws RX1 TX1 0
theorem nmX1 : ∀ a, a < 0 → ∀ b, b < 0 → a ≠ b → (TX1 a).2.1 ≠ (TX1 b).2.1 := by decide +kernel
theorem tyX1_ok : ∀ k, k < 0 → parseFieldDescriptor (TX1 k).2.2.1 = some (tyX1 k) := by decide +kernel
abbrev cX1_check : ByteArray := prog_3_method_2_code
def yX1_check : MethodName := ⟨RX1, "check", "(LWeatherTea$Tokens;LWeatherTea$Plan;)V"⟩
abbrev cX1_beginsOrder : ByteArray := prog_3_method_3_code
def yX1_beginsOrder : MethodName := ⟨RX1, "beginsOrder", "(LWeatherTea$Kind;)Z"⟩
abbrev cX1_checkBehind : ByteArray := prog_3_method_4_code
def yX1_checkBehind : MethodName := ⟨RX1, "checkBehind", "(LWeatherTea$Tokens;ILWeatherTea$Plan;)V"⟩
abbrev cX1_checkNamed : ByteArray := prog_3_method_5_code
def yX1_checkNamed : MethodName := ⟨RX1, "checkNamed", "(LWeatherTea$Tokens;II)V"⟩
abbrev cX1_checkFront : ByteArray := prog_3_method_6_code
def yX1_checkFront : MethodName := ⟨RX1, "checkFront", "(LWeatherTea$Tokens;ILWeatherTea$Fronts;)V"⟩
abbrev cX1_checkGuest : ByteArray := prog_3_method_7_code
def yX1_checkGuest : MethodName := ⟨RX1, "checkGuest", "(LWeatherTea$Tokens;ILWeatherTea$Guests;)V"⟩
abbrev cX1_numberIn : ByteArray := prog_3_method_8_code
def yX1_numberIn : MethodName := ⟨RX1, "numberIn", "(LWeatherTea$Tokens;III)I"⟩
def RX2 : String := "WeatherTea$Fronts"
def TX2 : u_T := fun k => match k with
  | 0 => ("WeatherTea$Fronts", "names", "[J", true)
  | 1 => ("WeatherTea$Fronts", "warm", "[Z", true)
  | 2 => ("WeatherTea$Fronts", "force", "[I", true)
  | 3 => ("WeatherTea$Fronts", "from", "[I", true)
  | 4 => ("WeatherTea$Fronts", "hours", "[I", true)
  | _ => ("WeatherTea$Fronts", "count", "I", false)
def tyX2 : Nat → FieldType := fun k => match k with
  | 0 => .array .long
  | 1 => .array .boolean
  | 2 => .array .int
  | 3 => .array .int
  | 4 => .array .int
  | _ => .int
abbrev wsX20 : List Cond := u_ws RX2 TX2 6
theorem nmX2 : ∀ a, a < 6 → ∀ b, b < 6 → a ≠ b → (TX2 a).2.1 ≠ (TX2 b).2.1 := by decide +kernel
theorem tyX2_ok : ∀ k, k < 6 → parseFieldDescriptor (TX2 k).2.2.1 = some (tyX2 k) := by decide +kernel
abbrev cX2_init : ByteArray := prog_4_method_1_code
def yX2_init : MethodName := ⟨RX2, "<init>", "()V"⟩
abbrev cX2_has : ByteArray := prog_4_method_2_code
def yX2_has : MethodName := ⟨RX2, "has", "(I)Z"⟩
abbrev cX2_find : ByteArray := prog_4_method_3_code
def yX2_find : MethodName := ⟨RX2, "find", "(J)I"⟩
abbrev cX2_add : ByteArray := prog_4_method_4_code
def yX2_add : MethodName := ⟨RX2, "add", "(JZIII)V"⟩
def RX3 : String := "WeatherTea$Grammar"
def TX3 : u_T := fun k => match k with
  | _ => ("", "", "", false)
def tyX3 : Nat → FieldType := fun k => match k with
  | _ => .int
abbrev wsX30 : List Cond := u_ws RX3 TX3 0
theorem nmX3 : ∀ a, a < 0 → ∀ b, b < 0 → a ≠ b → (TX3 a).2.1 ≠ (TX3 b).2.1 := by decide +kernel
theorem tyX3_ok : ∀ k, k < 0 → parseFieldDescriptor (TX3 k).2.2.1 = some (tyX3 k) := by decide +kernel
abbrev cX3_read : ByteArray := prog_5_method_2_code
def yX3_read : MethodName := ⟨RX3, "read", "(LWeatherTea$Tokens;LWeatherTea$Orders;)V"⟩
abbrev cX3_line : ByteArray := prog_5_method_3_code
def yX3_line : MethodName := ⟨RX3, "line", "(LWeatherTea$Tokens;LWeatherTea$Orders;)Z"⟩
abbrev cX3_order : ByteArray := prog_5_method_4_code
def yX3_order : MethodName := ⟨RX3, "order", "(LWeatherTea$Tokens;LWeatherTea$Orders;)Z"⟩
abbrev cX3_test : ByteArray := prog_5_method_5_code
def yX3_test : MethodName := ⟨RX3, "test", "(LWeatherTea$Tokens;LWeatherTea$Orders;I)Z"⟩
abbrev cX3_both : ByteArray := prog_5_method_6_code
def yX3_both : MethodName := ⟨RX3, "both", "(LWeatherTea$Tokens;LWeatherTea$Orders;I)Z"⟩
abbrev cX3_single : ByteArray := prog_5_method_7_code
def yX3_single : MethodName := ⟨RX3, "single", "(LWeatherTea$Tokens;LWeatherTea$Orders;I)Z"⟩
abbrev cX3_comparison : ByteArray := prog_5_method_8_code
def yX3_comparison : MethodName := ⟨RX3, "comparison", "(LWeatherTea$Tokens;LWeatherTea$Orders;I)Z"⟩
abbrev cX3_sum : ByteArray := prog_5_method_9_code
def yX3_sum : MethodName := ⟨RX3, "sum", "(LWeatherTea$Tokens;LWeatherTea$Orders;I)Z"⟩
abbrev cX3_product : ByteArray := prog_5_method_10_code
def yX3_product : MethodName := ⟨RX3, "product", "(LWeatherTea$Tokens;LWeatherTea$Orders;I)Z"⟩
abbrev cX3_value : ByteArray := prog_5_method_11_code
def yX3_value : MethodName := ⟨RX3, "value", "(LWeatherTea$Tokens;LWeatherTea$Orders;I)Z"⟩
def RX4 : String := "WeatherTea$Guests"
def TX4 : u_T := fun k => match k with
  | 0 => ("WeatherTea$Guests", "names", "[J", true)
  | 1 => ("WeatherTea$Guests", "from", "[I", true)
  | 2 => ("WeatherTea$Guests", "weakest", "[I", true)
  | 3 => ("WeatherTea$Guests", "strongest", "[I", true)
  | 4 => ("WeatherTea$Guests", "nerve", "[I", true)
  | _ => ("WeatherTea$Guests", "count", "I", false)
def tyX4 : Nat → FieldType := fun k => match k with
  | 0 => .array .long
  | 1 => .array .int
  | 2 => .array .int
  | 3 => .array .int
  | 4 => .array .int
  | _ => .int
abbrev wsX40 : List Cond := u_ws RX4 TX4 6
theorem nmX4 : ∀ a, a < 6 → ∀ b, b < 6 → a ≠ b → (TX4 a).2.1 ≠ (TX4 b).2.1 := by decide +kernel
theorem tyX4_ok : ∀ k, k < 6 → parseFieldDescriptor (TX4 k).2.2.1 = some (tyX4 k) := by decide +kernel
abbrev cX4_init : ByteArray := prog_6_method_1_code
def yX4_init : MethodName := ⟨RX4, "<init>", "()V"⟩
abbrev cX4_has : ByteArray := prog_6_method_2_code
def yX4_has : MethodName := ⟨RX4, "has", "(I)Z"⟩
abbrev cX4_find : ByteArray := prog_6_method_3_code
def yX4_find : MethodName := ⟨RX4, "find", "(J)I"⟩
abbrev cX4_add : ByteArray := prog_6_method_4_code
def yX4_add : MethodName := ⟨RX4, "add", "(JIIII)V"⟩
def RX5 : String := "WeatherTea$Kind"
def TX5 : u_T := fun k => match k with
  | _ => ("", "", "", false)
def tyX5 : Nat → FieldType := fun k => match k with
  | _ => .int
abbrev wsX50 : List Cond := u_ws RX5 TX5 0
theorem nmX5 : ∀ a, a < 0 → ∀ b, b < 0 → a ≠ b → (TX5 a).2.1 ≠ (TX5 b).2.1 := by decide +kernel
theorem tyX5_ok : ∀ k, k < 0 → parseFieldDescriptor (TX5 k).2.2.1 = some (tyX5 k) := by decide +kernel
def RX6 : String := "WeatherTea$Orders"
def TX6 : u_T := fun k => match k with
  | 0 => ("WeatherTea$Orders", "deeds", "[LWeatherTea$Kind;", true)
  | 1 => ("WeatherTea$Orders", "targets", "[I", true)
  | 2 => ("WeatherTea$Orders", "firstSteps", "[I", true)
  | 3 => ("WeatherTea$Orders", "endSteps", "[I", true)
  | 4 => ("WeatherTea$Orders", "stepKinds", "[LWeatherTea$Kind;", true)
  | 5 => ("WeatherTea$Orders", "stepValues", "[I", true)
  | 6 => ("WeatherTea$Orders", "count", "I", false)
  | _ => ("WeatherTea$Orders", "steps", "I", false)
def tyX6 : Nat → FieldType := fun k => match k with
  | 0 => .array (.object "WeatherTea$Kind")
  | 1 => .array .int
  | 2 => .array .int
  | 3 => .array .int
  | 4 => .array (.object "WeatherTea$Kind")
  | 5 => .array .int
  | 6 => .int
  | _ => .int
abbrev wsX60 : List Cond := u_ws RX6 TX6 8
theorem nmX6 : ∀ a, a < 8 → ∀ b, b < 8 → a ≠ b → (TX6 a).2.1 ≠ (TX6 b).2.1 := by decide +kernel
theorem tyX6_ok : ∀ k, k < 8 → parseFieldDescriptor (TX6 k).2.2.1 = some (tyX6 k) := by decide +kernel
abbrev cX6_init : ByteArray := prog_8_method_1_code
def yX6_init : MethodName := ⟨RX6, "<init>", "()V"⟩
abbrev cX6_add : ByteArray := prog_8_method_2_code
def yX6_add : MethodName := ⟨RX6, "add", "(LWeatherTea$Kind;I)V"⟩
abbrev cX6_endTest : ByteArray := prog_8_method_3_code
def yX6_endTest : MethodName := ⟨RX6, "endTest", "()V"⟩
abbrev cX6_addStep : ByteArray := prog_8_method_4_code
def yX6_addStep : MethodName := ⟨RX6, "addStep", "(LWeatherTea$Kind;I)Z"⟩
abbrev cX6_resolve : ByteArray := prog_8_method_5_code
def yX6_resolve : MethodName := ⟨RX6, "resolve", "(LWeatherTea$Tokens;)V"⟩
def RX7 : String := "WeatherTea$Plan"
def TX7 : u_T := fun k => match k with
  | 0 => ("WeatherTea$Plan", "fronts", "LWeatherTea$Fronts;", true)
  | 1 => ("WeatherTea$Plan", "guests", "LWeatherTea$Guests;", true)
  | _ => ("WeatherTea$Plan", "orders", "LWeatherTea$Orders;", true)
def tyX7 : Nat → FieldType := fun k => match k with
  | 0 => .object "WeatherTea$Fronts"
  | 1 => .object "WeatherTea$Guests"
  | _ => .object "WeatherTea$Orders"
abbrev wsX70 : List Cond := u_ws RX7 TX7 3
theorem nmX7 : ∀ a, a < 3 → ∀ b, b < 3 → a ≠ b → (TX7 a).2.1 ≠ (TX7 b).2.1 := by decide +kernel
theorem tyX7_ok : ∀ k, k < 3 → parseFieldDescriptor (TX7 k).2.2.1 = some (tyX7 k) := by decide +kernel
abbrev cX7_init : ByteArray := prog_9_method_1_code
def yX7_init : MethodName := ⟨RX7, "<init>", "()V"⟩
abbrev cX7_clear : ByteArray := prog_9_method_2_code
def yX7_clear : MethodName := ⟨RX7, "clear", "()V"⟩
def RX8 : String := "WeatherTea$Pot"
def TX8 : u_T := fun k => match k with
  | 0 => ("WeatherTea$Pot", "reckoner", "LWeatherTea$Reckoner;", true)
  | 1 => ("WeatherTea$Pot", "plan", "LWeatherTea$Plan;", false)
  | 2 => ("WeatherTea$Pot", "hour", "I", false)
  | 3 => ("WeatherTea$Pot", "warmth", "I", false)
  | 4 => ("WeatherTea$Pot", "strength", "I", false)
  | 5 => ("WeatherTea$Pot", "charge", "I", false)
  | 6 => ("WeatherTea$Pot", "lemons", "I", false)
  | 7 => ("WeatherTea$Pot", "saucers", "I", false)
  | 8 => ("WeatherTea$Pot", "coins", "I", false)
  | 9 => ("WeatherTea$Pot", "storms", "I", false)
  | 10 => ("WeatherTea$Pot", "frontSteeped", "[Z", true)
  | 11 => ("WeatherTea$Pot", "guestServed", "[Z", true)
  | _ => ("WeatherTea$Pot", "guestStormed", "[Z", true)
def tyX8 : Nat → FieldType := fun k => match k with
  | 0 => .object "WeatherTea$Reckoner"
  | 1 => .object "WeatherTea$Plan"
  | 2 => .int
  | 3 => .int
  | 4 => .int
  | 5 => .int
  | 6 => .int
  | 7 => .int
  | 8 => .int
  | 9 => .int
  | 10 => .array .boolean
  | 11 => .array .boolean
  | _ => .array .boolean
abbrev wsX80 : List Cond := u_ws RX8 TX8 13
theorem nmX8 : ∀ a, a < 13 → ∀ b, b < 13 → a ≠ b → (TX8 a).2.1 ≠ (TX8 b).2.1 := by decide +kernel
theorem tyX8_ok : ∀ k, k < 13 → parseFieldDescriptor (TX8 k).2.2.1 = some (tyX8 k) := by decide +kernel
abbrev cX8_init : ByteArray := prog_10_method_1_code
def yX8_init : MethodName := ⟨RX8, "<init>", "()V"⟩
abbrev cX8_begin : ByteArray := prog_10_method_2_code
def yX8_begin : MethodName := ⟨RX8, "begin", "(LWeatherTea$Plan;)V"⟩
abbrev cX8_copyFrom : ByteArray := prog_10_method_3_code
def yX8_copyFrom : MethodName := ⟨RX8, "copyFrom", "(LWeatherTea$Pot;)V"⟩
abbrev cX8_hangsOver : ByteArray := prog_10_method_4_code
def yX8_hangsOver : MethodName := ⟨RX8, "hangsOver", "(I)Z"⟩
abbrev cX8_sits : ByteArray := prog_10_method_5_code
def yX8_sits : MethodName := ⟨RX8, "sits", "(I)Z"⟩
abbrev cX8_wouldLike : ByteArray := prog_10_method_6_code
def yX8_wouldLike : MethodName := ⟨RX8, "wouldLike", "(II)Z"⟩
abbrev cX8_contentIfSteeped : ByteArray := prog_10_method_7_code
def yX8_contentIfSteeped : MethodName := ⟨RX8, "contentIfSteeped", "(I)I"⟩
abbrev cX8_strengthWith : ByteArray := prog_10_method_8_code
def yX8_strengthWith : MethodName := ⟨RX8, "strengthWith", "(I)I"⟩
abbrev cX8_standsFor : ByteArray := prog_10_method_9_code
def yX8_standsFor : MethodName := ⟨RX8, "standsFor", "(LWeatherTea$Kind;I)I"⟩
abbrev cX8_steepFront : ByteArray := prog_10_method_10_code
def yX8_steepFront : MethodName := ⟨RX8, "steepFront", "(I)Z"⟩
abbrev cX8_squeezeLemon : ByteArray := prog_10_method_11_code
def yX8_squeezeLemon : MethodName := ⟨RX8, "squeezeLemon", "()Z"⟩
abbrev cX8_putSaucer : ByteArray := prog_10_method_12_code
def yX8_putSaucer : MethodName := ⟨RX8, "putSaucer", "()Z"⟩
abbrev cX8_serveGuest : ByteArray := prog_10_method_13_code
def yX8_serveGuest : MethodName := ⟨RX8, "serveGuest", "(I)Z"⟩
abbrev cX8_passHour : ByteArray := prog_10_method_14_code
def yX8_passHour : MethodName := ⟨RX8, "passHour", "()V"⟩
abbrev cX8_follow : ByteArray := prog_10_method_15_code
def yX8_follow : MethodName := ⟨RX8, "follow", "(LWeatherTea$Kind;I)V"⟩
abbrev cX8_blow : ByteArray := prog_10_method_16_code
def yX8_blow : MethodName := ⟨RX8, "blow", "()V"⟩
abbrev cX8_storm : ByteArray := prog_10_method_17_code
def yX8_storm : MethodName := ⟨RX8, "storm", "()V"⟩
def RX9 : String := "WeatherTea$Reckoner"
def TX9 : u_T := fun k => match k with
  | 0 => ("WeatherTea$Reckoner", "stack", "[I", true)
  | _ => ("WeatherTea$Reckoner", "height", "I", false)
def tyX9 : Nat → FieldType := fun k => match k with
  | 0 => .array .int
  | _ => .int
abbrev wsX90 : List Cond := u_ws RX9 TX9 2
theorem nmX9 : ∀ a, a < 2 → ∀ b, b < 2 → a ≠ b → (TX9 a).2.1 ≠ (TX9 b).2.1 := by decide +kernel
theorem tyX9_ok : ∀ k, k < 2 → parseFieldDescriptor (TX9 k).2.2.1 = some (tyX9 k) := by decide +kernel
abbrev cX9_init : ByteArray := prog_11_method_1_code
def yX9_init : MethodName := ⟨RX9, "<init>", "()V"⟩
abbrev cX9_holds : ByteArray := prog_11_method_2_code
def yX9_holds : MethodName := ⟨RX9, "holds", "(LWeatherTea$Orders;ILWeatherTea$Pot;)Z"⟩
abbrev cX9_push : ByteArray := prog_11_method_3_code
def yX9_push : MethodName := ⟨RX9, "push", "(I)V"⟩
abbrev cX9_pop : ByteArray := prog_11_method_4_code
def yX9_pop : MethodName := ⟨RX9, "pop", "()I"⟩
abbrev cX9_step : ByteArray := prog_11_method_5_code
def yX9_step : MethodName := ⟨RX9, "step", "(LWeatherTea$Kind;ILWeatherTea$Pot;)V"⟩
abbrev cX9_joinTwo : ByteArray := prog_11_method_6_code
def yX9_joinTwo : MethodName := ⟨RX9, "joinTwo", "(LWeatherTea$Kind;)V"⟩
abbrev cX9_join : ByteArray := prog_11_method_7_code
def yX9_join : MethodName := ⟨RX9, "join", "(LWeatherTea$Kind;II)I"⟩
def RX10 : String := "WeatherTea$Tape"
def TX10 : u_T := fun k => match k with
  | 0 => ("WeatherTea$Tape", "bytes", "[B", true)
  | _ => ("WeatherTea$Tape", "length", "I", false)
def tyX10 : Nat → FieldType := fun k => match k with
  | 0 => .array .byte
  | _ => .int
abbrev wsX100 : List Cond := u_ws RX10 TX10 2
theorem nmX10 : ∀ a, a < 2 → ∀ b, b < 2 → a ≠ b → (TX10 a).2.1 ≠ (TX10 b).2.1 := by decide +kernel
theorem tyX10_ok : ∀ k, k < 2 → parseFieldDescriptor (TX10 k).2.2.1 = some (tyX10 k) := by decide +kernel
abbrev cX10_init : ByteArray := prog_12_method_1_code
def yX10_init : MethodName := ⟨RX10, "<init>", "()V"⟩
abbrev cX10_append : ByteArray := prog_12_method_2_code
def yX10_append : MethodName := ⟨RX10, "append", "(I)V"⟩
abbrev cX10_byteAt : ByteArray := prog_12_method_3_code
def yX10_byteAt : MethodName := ⟨RX10, "byteAt", "(I)I"⟩
abbrev cX10_hasText : ByteArray := prog_12_method_4_code
def yX10_hasText : MethodName := ⟨RX10, "hasText", "(IILjava/lang/String;)Z"⟩
def RX11 : String := "WeatherTea$Tokens"
def TX11 : u_T := fun k => match k with
  | 0 => ("WeatherTea$Tokens", "kinds", "[LWeatherTea$Kind;", true)
  | 1 => ("WeatherTea$Tokens", "starts", "[I", true)
  | 2 => ("WeatherTea$Tokens", "values", "[J", true)
  | 3 => ("WeatherTea$Tokens", "count", "I", false)
  | 4 => ("WeatherTea$Tokens", "cursor", "I", false)
  | 5 => ("WeatherTea$Tokens", "error", "I", false)
  | _ => ("WeatherTea$Tokens", "errorToken", "I", false)
def tyX11 : Nat → FieldType := fun k => match k with
  | 0 => .array (.object "WeatherTea$Kind")
  | 1 => .array .int
  | 2 => .array .long
  | 3 => .int
  | 4 => .int
  | 5 => .int
  | _ => .int
abbrev wsX110 : List Cond := u_ws RX11 TX11 7
theorem nmX11 : ∀ a, a < 7 → ∀ b, b < 7 → a ≠ b → (TX11 a).2.1 ≠ (TX11 b).2.1 := by decide +kernel
theorem tyX11_ok : ∀ k, k < 7 → parseFieldDescriptor (TX11 k).2.2.1 = some (tyX11 k) := by decide +kernel
abbrev cX11_init : ByteArray := prog_13_method_1_code
def yX11_init : MethodName := ⟨RX11, "<init>", "()V"⟩
abbrev cX11_readAll : ByteArray := prog_13_method_2_code
def yX11_readAll : MethodName := ⟨RX11, "readAll", "(LWeatherTea$Tape;)V"⟩
abbrev cX11_add : ByteArray := prog_13_method_3_code
def yX11_add : MethodName := ⟨RX11, "add", "(LWeatherTea$Kind;IJ)V"⟩
abbrev cX11_behindBlanks : ByteArray := prog_13_method_4_code
def yX11_behindBlanks : MethodName := ⟨RX11, "behindBlanks", "(LWeatherTea$Tape;I)I"⟩
abbrev cX11_sizeOf : ByteArray := prog_13_method_5_code
def yX11_sizeOf : MethodName := ⟨RX11, "sizeOf", "(LWeatherTea$Tape;I)I"⟩
abbrev cX11_kindOf : ByteArray := prog_13_method_6_code
def yX11_kindOf : MethodName := ⟨RX11, "kindOf", "(LWeatherTea$Tape;II)LWeatherTea$Kind;"⟩
abbrev cX11_valueOf : ByteArray := prog_13_method_7_code
def yX11_valueOf : MethodName := ⟨RX11, "valueOf", "(LWeatherTea$Tape;II)J"⟩
abbrev cX11_wordSign : ByteArray := prog_13_method_8_code
def yX11_wordSign : MethodName := ⟨RX11, "wordSign", "(I)I"⟩
abbrev cX11_isLetter : ByteArray := prog_13_method_9_code
def yX11_isLetter : MethodName := ⟨RX11, "isLetter", "(I)Z"⟩
abbrev cX11_isDigit : ByteArray := prog_13_method_10_code
def yX11_isDigit : MethodName := ⟨RX11, "isDigit", "(I)Z"⟩
abbrev cX11_has : ByteArray := prog_13_method_11_code
def yX11_has : MethodName := ⟨RX11, "has", "(I)Z"⟩
abbrev cX11_kindAt : ByteArray := prog_13_method_12_code
def yX11_kindAt : MethodName := ⟨RX11, "kindAt", "(I)LWeatherTea$Kind;"⟩
abbrev cX11_startAt : ByteArray := prog_13_method_13_code
def yX11_startAt : MethodName := ⟨RX11, "startAt", "(I)I"⟩
abbrev cX11_valueAt : ByteArray := prog_13_method_14_code
def yX11_valueAt : MethodName := ⟨RX11, "valueAt", "(I)J"⟩
abbrev cX11_setValue : ByteArray := prog_13_method_15_code
def yX11_setValue : MethodName := ⟨RX11, "setValue", "(II)V"⟩
abbrev cX11_next : ByteArray := prog_13_method_16_code
def yX11_next : MethodName := ⟨RX11, "next", "()LWeatherTea$Kind;"⟩
abbrev cX11_take : ByteArray := prog_13_method_17_code
def yX11_take : MethodName := ⟨RX11, "take", "(LWeatherTea$Kind;)Z"⟩
abbrev cX11_takeNumber : ByteArray := prog_13_method_18_code
def yX11_takeNumber : MethodName := ⟨RX11, "takeNumber", "(LWeatherTea$Kind;)Z"⟩
abbrev cX11_failUnless : ByteArray := prog_13_method_19_code
def yX11_failUnless : MethodName := ⟨RX11, "failUnless", "(ZII)V"⟩
def RX12 : String := "WeatherTea"
def TX12 : u_T := fun k => match k with
  | 0 => ("WeatherTea", "tape", "LWeatherTea$Tape;", true)
  | 1 => ("WeatherTea", "tokens", "LWeatherTea$Tokens;", true)
  | 2 => ("WeatherTea", "pot", "LWeatherTea$Pot;", true)
  | 3 => ("WeatherTea", "trial", "LWeatherTea$Pot;", true)
  | 4 => ("WeatherTea", "draft", "LWeatherTea$Plan;", false)
  | _ => ("WeatherTea", "errorPosition", "I", false)
def tyX12 : Nat → FieldType := fun k => match k with
  | 0 => .object "WeatherTea$Tape"
  | 1 => .object "WeatherTea$Tokens"
  | 2 => .object "WeatherTea$Pot"
  | 3 => .object "WeatherTea$Pot"
  | 4 => .object "WeatherTea$Plan"
  | _ => .int
abbrev wsX120 : List Cond := u_ws RX12 TX12 6
theorem nmX12 : ∀ a, a < 6 → ∀ b, b < 6 → a ≠ b → (TX12 a).2.1 ≠ (TX12 b).2.1 := by decide +kernel
theorem tyX12_ok : ∀ k, k < 6 → parseFieldDescriptor (TX12 k).2.2.1 = some (tyX12 k) := by decide +kernel
abbrev cX12_init : ByteArray := prog_1_method_1_code
def yX12_init : MethodName := ⟨RX12, "<init>", "()V"⟩
abbrev cX12_feed : ByteArray := prog_1_method_2_code
def yX12_feed : MethodName := ⟨RX12, "feed", "(IIIII)I"⟩
abbrev cX12_trim : ByteArray := prog_1_method_3_code
def yX12_trim : MethodName := ⟨RX12, "trim", "(I)I"⟩
abbrev cX12_teach : ByteArray := prog_1_method_4_code
def yX12_teach : MethodName := ⟨RX12, "teach", "()I"⟩
abbrev cX12_errorAt : ByteArray := prog_1_method_5_code
def yX12_errorAt : MethodName := ⟨RX12, "errorAt", "()I"⟩
abbrev cX12_fronts : ByteArray := prog_1_method_6_code
def yX12_fronts : MethodName := ⟨RX12, "fronts", "()I"⟩
abbrev cX12_guests : ByteArray := prog_1_method_7_code
def yX12_guests : MethodName := ⟨RX12, "guests", "()I"⟩
abbrev cX12_hour : ByteArray := prog_1_method_8_code
def yX12_hour : MethodName := ⟨RX12, "hour", "()I"⟩
abbrev cX12_warmth : ByteArray := prog_1_method_9_code
def yX12_warmth : MethodName := ⟨RX12, "warmth", "()I"⟩
abbrev cX12_strength : ByteArray := prog_1_method_10_code
def yX12_strength : MethodName := ⟨RX12, "strength", "()I"⟩
abbrev cX12_charge : ByteArray := prog_1_method_11_code
def yX12_charge : MethodName := ⟨RX12, "charge", "()I"⟩
abbrev cX12_lemons : ByteArray := prog_1_method_12_code
def yX12_lemons : MethodName := ⟨RX12, "lemons", "()I"⟩
abbrev cX12_saucers : ByteArray := prog_1_method_13_code
def yX12_saucers : MethodName := ⟨RX12, "saucers", "()I"⟩
abbrev cX12_coins : ByteArray := prog_1_method_14_code
def yX12_coins : MethodName := ⟨RX12, "coins", "()I"⟩
abbrev cX12_storms : ByteArray := prog_1_method_15_code
def yX12_storms : MethodName := ⟨RX12, "storms", "()I"⟩
abbrev cX12_seatedGuests : ByteArray := prog_1_method_16_code
def yX12_seatedGuests : MethodName := ⟨RX12, "seatedGuests", "()I"⟩
abbrev cX12_served : ByteArray := prog_1_method_17_code
def yX12_served : MethodName := ⟨RX12, "served", "()I"⟩
abbrev cX12_stormed : ByteArray := prog_1_method_18_code
def yX12_stormed : MethodName := ⟨RX12, "stormed", "()I"⟩
abbrev cX12_isWarm : ByteArray := prog_1_method_19_code
def yX12_isWarm : MethodName := ⟨RX12, "isWarm", "(I)Z"⟩
abbrev cX12_forceOf : ByteArray := prog_1_method_20_code
def yX12_forceOf : MethodName := ⟨RX12, "forceOf", "(I)I"⟩
abbrev cX12_isOver : ByteArray := prog_1_method_21_code
def yX12_isOver : MethodName := ⟨RX12, "isOver", "(I)Z"⟩
abbrev cX12_isSteeped : ByteArray := prog_1_method_22_code
def yX12_isSteeped : MethodName := ⟨RX12, "isSteeped", "(I)Z"⟩
abbrev cX12_isSeated : ByteArray := prog_1_method_23_code
def yX12_isSeated : MethodName := ⟨RX12, "isSeated", "(I)Z"⟩
abbrev cX12_isContent : ByteArray := prog_1_method_24_code
def yX12_isContent : MethodName := ⟨RX12, "isContent", "(I)Z"⟩
abbrev cX12_wasServed : ByteArray := prog_1_method_25_code
def yX12_wasServed : MethodName := ⟨RX12, "wasServed", "(I)Z"⟩
abbrev cX12_wasStormed : ByteArray := prog_1_method_26_code
def yX12_wasStormed : MethodName := ⟨RX12, "wasStormed", "(I)Z"⟩
abbrev cX12_steep : ByteArray := prog_1_method_27_code
def yX12_steep : MethodName := ⟨RX12, "steep", "(I)I"⟩
abbrev cX12_lemon : ByteArray := prog_1_method_28_code
def yX12_lemon : MethodName := ⟨RX12, "lemon", "()I"⟩
abbrev cX12_saucer : ByteArray := prog_1_method_29_code
def yX12_saucer : MethodName := ⟨RX12, "saucer", "()I"⟩
abbrev cX12_serve : ByteArray := prog_1_method_30_code
def yX12_serve : MethodName := ⟨RX12, "serve", "(I)I"⟩
abbrev cX12_heat : ByteArray := prog_1_method_31_code
def yX12_heat : MethodName := ⟨RX12, "heat", "(I)I"⟩
abbrev cX12_passHours : ByteArray := prog_1_method_32_code
def yX12_passHours : MethodName := ⟨RX12, "passHours", "(I)I"⟩
abbrev cX12_coinsAfter : ByteArray := prog_1_method_33_code
def yX12_coinsAfter : MethodName := ⟨RX12, "coinsAfter", "(I)I"⟩
abbrev cX12_hoursUntilStorm : ByteArray := prog_1_method_34_code
def yX12_hoursUntilStorm : MethodName := ⟨RX12, "hoursUntilStorm", "()I"⟩
abbrev cX12_hoursUntilServed : ByteArray := prog_1_method_35_code
def yX12_hoursUntilServed : MethodName := ⟨RX12, "hoursUntilServed", "(I)I"⟩
abbrev cX12_bestToSteep : ByteArray := prog_1_method_36_code
def yX12_bestToSteep : MethodName := ⟨RX12, "bestToSteep", "()I"⟩
abbrev cX12_meanForce : ByteArray := prog_1_method_37_code
def yX12_meanForce : MethodName := ⟨RX12, "meanForce", "()D"⟩
abbrev cX12_digest : ByteArray := prog_1_method_38_code
def yX12_digest : MethodName := ⟨RX12, "digest", "()J"⟩
abbrev cX12_requireFront : ByteArray := prog_1_method_39_code
def yX12_requireFront : MethodName := ⟨RX12, "requireFront", "(I)V"⟩
abbrev cX12_requireGuest : ByteArray := prog_1_method_40_code
def yX12_requireGuest : MethodName := ⟨RX12, "requireGuest", "(I)V"⟩
abbrev cX12_requireHours : ByteArray := prog_1_method_41_code
def yX12_requireHours : MethodName := ⟨RX12, "requireHours", "(I)V"⟩
abbrev cX12_oneIf : ByteArray := prog_1_method_42_code
def yX12_oneIf : MethodName := ⟨RX12, "oneIf", "(Z)I"⟩
abbrev cX12_countTrue : ByteArray := prog_1_method_43_code
def yX12_countTrue : MethodName := ⟨RX12, "countTrue", "([ZI)I"⟩
def RX13 : String := "WeatherTeaModel$Plan"
def TX13 : u_T := fun k => match k with
  | 0 => ("WeatherTeaModel$Plan", "fronts", "I", false)
  | 1 => ("WeatherTeaModel$Plan", "warm", "[I", true)
  | 2 => ("WeatherTeaModel$Plan", "force", "[I", true)
  | 3 => ("WeatherTeaModel$Plan", "comes", "[I", true)
  | 4 => ("WeatherTeaModel$Plan", "stays", "[I", true)
  | 5 => ("WeatherTeaModel$Plan", "guests", "I", false)
  | 6 => ("WeatherTeaModel$Plan", "sits", "[I", true)
  | 7 => ("WeatherTeaModel$Plan", "low", "[I", true)
  | 8 => ("WeatherTeaModel$Plan", "high", "[I", true)
  | 9 => ("WeatherTeaModel$Plan", "nerve", "[I", true)
  | 10 => ("WeatherTeaModel$Plan", "orders", "I", false)
  | 11 => ("WeatherTeaModel$Plan", "does", "[I", true)
  | 12 => ("WeatherTeaModel$Plan", "whom", "[I", true)
  | 13 => ("WeatherTeaModel$Plan", "from", "[I", true)
  | 14 => ("WeatherTeaModel$Plan", "to", "[I", true)
  | 15 => ("WeatherTeaModel$Plan", "test", "[I", true)
  | 16 => ("WeatherTeaModel$Plan", "nodes", "I", false)
  | 17 => ("WeatherTeaModel$Plan", "sort", "[I", true)
  | 18 => ("WeatherTeaModel$Plan", "left", "[I", true)
  | _ => ("WeatherTeaModel$Plan", "right", "[I", true)
def tyX13 : Nat → FieldType := fun k => match k with
  | 0 => .int
  | 1 => .array .int
  | 2 => .array .int
  | 3 => .array .int
  | 4 => .array .int
  | 5 => .int
  | 6 => .array .int
  | 7 => .array .int
  | 8 => .array .int
  | 9 => .array .int
  | 10 => .int
  | 11 => .array .int
  | 12 => .array .int
  | 13 => .array .int
  | 14 => .array .int
  | 15 => .array .int
  | 16 => .int
  | 17 => .array .int
  | 18 => .array .int
  | _ => .array .int
abbrev wsX130 : List Cond := u_ws RX13 TX13 20
theorem nmX13 : ∀ a, a < 20 → ∀ b, b < 20 → a ≠ b → (TX13 a).2.1 ≠ (TX13 b).2.1 := by decide +kernel
theorem tyX13_ok : ∀ k, k < 20 → parseFieldDescriptor (TX13 k).2.2.1 = some (tyX13 k) := by decide +kernel
abbrev cX13_init : ByteArray := prog_16_method_1_code
def yX13_init : MethodName := ⟨RX13, "<init>", "()V"⟩
abbrev cX13_begin : ByteArray := prog_16_method_2_code
def yX13_begin : MethodName := ⟨RX13, "begin", "()V"⟩
abbrev cX13_copy : ByteArray := prog_16_method_3_code
def yX13_copy : MethodName := ⟨RX13, "copy", "([I[I)V"⟩
abbrev cX13_become : ByteArray := prog_16_method_4_code
def yX13_become : MethodName := ⟨RX13, "become", "(LWeatherTeaModel$Plan;)V"⟩
def RX14 : String := "WeatherTeaModel"
def TX14 : u_T := fun k => match k with
  | 0 => ("WeatherTeaModel", "thrown", "I", false)
  | 1 => ("WeatherTeaModel", "tape", "[I", true)
  | 2 => ("WeatherTeaModel", "bytes", "I", false)
  | 3 => ("WeatherTeaModel", "errorAt", "I", false)
  | 4 => ("WeatherTeaModel", "kind", "[I", true)
  | 5 => ("WeatherTeaModel", "number", "[I", true)
  | 6 => ("WeatherTeaModel", "position", "[I", true)
  | 7 => ("WeatherTeaModel", "length", "[I", true)
  | 8 => ("WeatherTeaModel", "token", "I", false)
  | 9 => ("WeatherTeaModel", "isWrong", "Z", false)
  | 10 => ("WeatherTeaModel", "error", "I", false)
  | 11 => ("WeatherTeaModel", "errorToken", "I", false)
  | 12 => ("WeatherTeaModel", "deep", "I", false)
  | 13 => ("WeatherTeaModel", "frontName", "[I", true)
  | 14 => ("WeatherTeaModel", "guestName", "[I", true)
  | 15 => ("WeatherTeaModel", "told", "LWeatherTeaModel$Plan;", true)
  | 16 => ("WeatherTeaModel", "fresh", "LWeatherTeaModel$Plan;", true)
  | 17 => ("WeatherTeaModel", "value", "[I", true)
  | 18 => ("WeatherTeaModel", "now", "[I", true)
  | _ => ("WeatherTeaModel", "kept", "[I", true)
def tyX14 : Nat → FieldType := fun k => match k with
  | 0 => .int
  | 1 => .array .int
  | 2 => .int
  | 3 => .int
  | 4 => .array .int
  | 5 => .array .int
  | 6 => .array .int
  | 7 => .array .int
  | 8 => .int
  | 9 => .boolean
  | 10 => .int
  | 11 => .int
  | 12 => .int
  | 13 => .array .int
  | 14 => .array .int
  | 15 => .object "WeatherTeaModel$Plan"
  | 16 => .object "WeatherTeaModel$Plan"
  | 17 => .array .int
  | 18 => .array .int
  | _ => .array .int
abbrev wsX140 : List Cond := u_ws RX14 TX14 20
theorem nmX14 : ∀ a, a < 20 → ∀ b, b < 20 → a ≠ b → (TX14 a).2.1 ≠ (TX14 b).2.1 := by decide +kernel
theorem tyX14_ok : ∀ k, k < 20 → parseFieldDescriptor (TX14 k).2.2.1 = some (tyX14 k) := by decide +kernel
abbrev cX14_init : ByteArray := prog_15_method_1_code
def yX14_init : MethodName := ⟨RX14, "<init>", "()V"⟩
abbrev cX14_thrown : ByteArray := prog_15_method_2_code
def yX14_thrown : MethodName := ⟨RX14, "thrown", "()I"⟩
abbrev cX14_no : ByteArray := prog_15_method_3_code
def yX14_no : MethodName := ⟨RX14, "no", "(I)I"⟩
abbrev cX14_ok : ByteArray := prog_15_method_4_code
def yX14_ok : MethodName := ⟨RX14, "ok", "(I)I"⟩
abbrev cX14_isIn : ByteArray := prog_15_method_5_code
def yX14_isIn : MethodName := ⟨RX14, "isIn", "(III)Z"⟩
abbrev cX14_held : ByteArray := prog_15_method_6_code
def yX14_held : MethodName := ⟨RX14, "held", "(II)I"⟩
abbrev cX14_anew : ByteArray := prog_15_method_7_code
def yX14_anew : MethodName := ⟨RX14, "anew", "()V"⟩
abbrev cX14_isLetter : ByteArray := prog_15_method_8_code
def yX14_isLetter : MethodName := ⟨RX14, "isLetter", "(I)Z"⟩
abbrev cX14_isDigit : ByteArray := prog_15_method_9_code
def yX14_isDigit : MethodName := ⟨RX14, "isDigit", "(I)Z"⟩
abbrev cX14_byteAt : ByteArray := prog_15_method_10_code
def yX14_byteAt : MethodName := ⟨RX14, "byteAt", "(I)I"⟩
abbrev cX14_isWord : ByteArray := prog_15_method_11_code
def yX14_isWord : MethodName := ⟨RX14, "isWord", "(IILjava/lang/String;)Z"⟩
abbrev cX14_keyword : ByteArray := prog_15_method_12_code
def yX14_keyword : MethodName := ⟨RX14, "keyword", "(II)I"⟩
abbrev cX14_symbol : ByteArray := prog_15_method_13_code
def yX14_symbol : MethodName := ⟨RX14, "symbol", "(I)I"⟩
abbrev cX14_read : ByteArray := prog_15_method_14_code
def yX14_read : MethodName := ⟨RX14, "read", "(II)I"⟩
abbrev cX14_skip : ByteArray := prog_15_method_15_code
def yX14_skip : MethodName := ⟨RX14, "skip", "(I)I"⟩
abbrev cX14_readAll : ByteArray := prog_15_method_16_code
def yX14_readAll : MethodName := ⟨RX14, "readAll", "()V"⟩
abbrev cX14_is : ByteArray := prog_15_method_17_code
def yX14_is : MethodName := ⟨RX14, "is", "(I)Z"⟩
abbrev cX14_wrong : ByteArray := prog_15_method_18_code
def yX14_wrong : MethodName := ⟨RX14, "wrong", "()V"⟩
abbrev cX14_take : ByteArray := prog_15_method_19_code
def yX14_take : MethodName := ⟨RX14, "take", "(I)V"⟩
abbrev cX14_takes : ByteArray := prog_15_method_20_code
def yX14_takes : MethodName := ⟨RX14, "takes", "(I)Z"⟩
abbrev cX14_deeper : ByteArray := prog_15_method_21_code
def yX14_deeper : MethodName := ⟨RX14, "deeper", "()V"⟩
abbrev cX14_mark : ByteArray := prog_15_method_22_code
def yX14_mark : MethodName := ⟨RX14, "mark", "(I)V"⟩
abbrev cX14_node : ByteArray := prog_15_method_23_code
def yX14_node : MethodName := ⟨RX14, "node", "(III)I"⟩
abbrev cX14_isSameName : ByteArray := prog_15_method_24_code
def yX14_isSameName : MethodName := ⟨RX14, "isSameName", "(II)Z"⟩
abbrev cX14_known : ByteArray := prog_15_method_25_code
def yX14_known : MethodName := ⟨RX14, "known", "([II)I"⟩
abbrev cX14_name : ByteArray := prog_15_method_26_code
def yX14_name : MethodName := ⟨RX14, "name", "([II)I"⟩
abbrev cX14_front : ByteArray := prog_15_method_27_code
def yX14_front : MethodName := ⟨RX14, "front", "()I"⟩
abbrev cX14_guest : ByteArray := prog_15_method_28_code
def yX14_guest : MethodName := ⟨RX14, "guest", "()I"⟩
abbrev cX14_newName : ByteArray := prog_15_method_29_code
def yX14_newName : MethodName := ⟨RX14, "newName", "([II)V"⟩
abbrev cX14_inBrackets : ByteArray := prog_15_method_30_code
def yX14_inBrackets : MethodName := ⟨RX14, "inBrackets", "()I"⟩
abbrev cX14_ofTwo : ByteArray := prog_15_method_31_code
def yX14_ofTwo : MethodName := ⟨RX14, "ofTwo", "(I)I"⟩
abbrev cX14_value : ByteArray := prog_15_method_32_code
def yX14_value : MethodName := ⟨RX14, "value", "()I"⟩
abbrev cX14_product : ByteArray := prog_15_method_33_code
def yX14_product : MethodName := ⟨RX14, "product", "()I"⟩
abbrev cX14_sum : ByteArray := prog_15_method_34_code
def yX14_sum : MethodName := ⟨RX14, "sum", "()I"⟩
abbrev cX14_comparison : ByteArray := prog_15_method_35_code
def yX14_comparison : MethodName := ⟨RX14, "comparison", "()I"⟩
abbrev cX14_single : ByteArray := prog_15_method_36_code
def yX14_single : MethodName := ⟨RX14, "single", "()I"⟩
abbrev cX14_both : ByteArray := prog_15_method_37_code
def yX14_both : MethodName := ⟨RX14, "both", "()I"⟩
abbrev cX14_test : ByteArray := prog_15_method_38_code
def yX14_test : MethodName := ⟨RX14, "test", "()I"⟩
abbrev cX14_numberBehind : ByteArray := prog_15_method_39_code
def yX14_numberBehind : MethodName := ⟨RX14, "numberBehind", "(III)I"⟩
abbrev cX14_newFront : ByteArray := prog_15_method_40_code
def yX14_newFront : MethodName := ⟨RX14, "newFront", "()V"⟩
abbrev cX14_newGuest : ByteArray := prog_15_method_41_code
def yX14_newGuest : MethodName := ⟨RX14, "newGuest", "()V"⟩
abbrev cX14_order : ByteArray := prog_15_method_42_code
def yX14_order : MethodName := ⟨RX14, "order", "(I)V"⟩
abbrev cX14_line : ByteArray := prog_15_method_43_code
def yX14_line : MethodName := ⟨RX14, "line", "()V"⟩
abbrev cX14_feed : ByteArray := prog_15_method_44_code
def yX14_feed : MethodName := ⟨RX14, "feed", "(IIIII)I"⟩
abbrev cX14_trim : ByteArray := prog_15_method_45_code
def yX14_trim : MethodName := ⟨RX14, "trim", "(I)I"⟩
abbrev cX14_teach : ByteArray := prog_15_method_46_code
def yX14_teach : MethodName := ⟨RX14, "teach", "()I"⟩
abbrev cX14_errorAt : ByteArray := prog_15_method_47_code
def yX14_errorAt : MethodName := ⟨RX14, "errorAt", "()I"⟩
abbrev cX14_come : ByteArray := prog_15_method_48_code
def yX14_come : MethodName := ⟨RX14, "come", "()V"⟩
abbrev cX14_likes : ByteArray := prog_15_method_49_code
def yX14_likes : MethodName := ⟨RX14, "likes", "(I)Z"⟩
abbrev cX14_canSteep : ByteArray := prog_15_method_50_code
def yX14_canSteep : MethodName := ⟨RX14, "canSteep", "(I)Z"⟩
abbrev cX14_steepIt : ByteArray := prog_15_method_51_code
def yX14_steepIt : MethodName := ⟨RX14, "steepIt", "(I)V"⟩
abbrev cX14_squeeze : ByteArray := prog_15_method_52_code
def yX14_squeeze : MethodName := ⟨RX14, "squeeze", "()V"⟩
abbrev cX14_calm : ByteArray := prog_15_method_53_code
def yX14_calm : MethodName := ⟨RX14, "calm", "()V"⟩
abbrev cX14_serveIt : ByteArray := prog_15_method_54_code
def yX14_serveIt : MethodName := ⟨RX14, "serveIt", "(I)I"⟩
abbrev cX14_reckon : ByteArray := prog_15_method_55_code
def yX14_reckon : MethodName := ⟨RX14, "reckon", "(III)I"⟩
abbrev cX14_joined : ByteArray := prog_15_method_56_code
def yX14_joined : MethodName := ⟨RX14, "joined", "(III)I"⟩
abbrev cX14_carryOut : ByteArray := prog_15_method_57_code
def yX14_carryOut : MethodName := ⟨RX14, "carryOut", "(I)V"⟩
abbrev cX14_weather : ByteArray := prog_15_method_58_code
def yX14_weather : MethodName := ⟨RX14, "weather", "()V"⟩
abbrev cX14_storm : ByteArray := prog_15_method_59_code
def yX14_storm : MethodName := ⟨RX14, "storm", "()V"⟩
abbrev cX14_hourOn : ByteArray := prog_15_method_60_code
def yX14_hourOn : MethodName := ⟨RX14, "hourOn", "()V"⟩
abbrev cX14_keep : ByteArray := prog_15_method_61_code
def yX14_keep : MethodName := ⟨RX14, "keep", "()V"⟩
abbrev cX14_bringBack : ByteArray := prog_15_method_62_code
def yX14_bringBack : MethodName := ⟨RX14, "bringBack", "()V"⟩
abbrev cX14_fronts : ByteArray := prog_15_method_63_code
def yX14_fronts : MethodName := ⟨RX14, "fronts", "()I"⟩
abbrev cX14_guests : ByteArray := prog_15_method_64_code
def yX14_guests : MethodName := ⟨RX14, "guests", "()I"⟩
abbrev cX14_hour : ByteArray := prog_15_method_65_code
def yX14_hour : MethodName := ⟨RX14, "hour", "()I"⟩
abbrev cX14_warmth : ByteArray := prog_15_method_66_code
def yX14_warmth : MethodName := ⟨RX14, "warmth", "()I"⟩
abbrev cX14_strength : ByteArray := prog_15_method_67_code
def yX14_strength : MethodName := ⟨RX14, "strength", "()I"⟩
abbrev cX14_charge : ByteArray := prog_15_method_68_code
def yX14_charge : MethodName := ⟨RX14, "charge", "()I"⟩
abbrev cX14_lemons : ByteArray := prog_15_method_69_code
def yX14_lemons : MethodName := ⟨RX14, "lemons", "()I"⟩
abbrev cX14_saucers : ByteArray := prog_15_method_70_code
def yX14_saucers : MethodName := ⟨RX14, "saucers", "()I"⟩
abbrev cX14_coins : ByteArray := prog_15_method_71_code
def yX14_coins : MethodName := ⟨RX14, "coins", "()I"⟩
abbrev cX14_storms : ByteArray := prog_15_method_72_code
def yX14_storms : MethodName := ⟨RX14, "storms", "()I"⟩
abbrev cX14_guestsWith : ByteArray := prog_15_method_73_code
def yX14_guestsWith : MethodName := ⟨RX14, "guestsWith", "(I)I"⟩
abbrev cX14_seatedGuests : ByteArray := prog_15_method_74_code
def yX14_seatedGuests : MethodName := ⟨RX14, "seatedGuests", "()I"⟩
abbrev cX14_served : ByteArray := prog_15_method_75_code
def yX14_served : MethodName := ⟨RX14, "served", "()I"⟩
abbrev cX14_stormed : ByteArray := prog_15_method_76_code
def yX14_stormed : MethodName := ⟨RX14, "stormed", "()I"⟩
abbrev cX14_isFront : ByteArray := prog_15_method_77_code
def yX14_isFront : MethodName := ⟨RX14, "isFront", "(I)Z"⟩
abbrev cX14_isGuest : ByteArray := prog_15_method_78_code
def yX14_isGuest : MethodName := ⟨RX14, "isGuest", "(I)Z"⟩
abbrev cX14_isWarm : ByteArray := prog_15_method_79_code
def yX14_isWarm : MethodName := ⟨RX14, "isWarm", "(I)Z"⟩
abbrev cX14_forceOf : ByteArray := prog_15_method_80_code
def yX14_forceOf : MethodName := ⟨RX14, "forceOf", "(I)I"⟩
abbrev cX14_isOver : ByteArray := prog_15_method_81_code
def yX14_isOver : MethodName := ⟨RX14, "isOver", "(I)Z"⟩
abbrev cX14_isSteeped : ByteArray := prog_15_method_82_code
def yX14_isSteeped : MethodName := ⟨RX14, "isSteeped", "(I)Z"⟩
abbrev cX14_isSeated : ByteArray := prog_15_method_83_code
def yX14_isSeated : MethodName := ⟨RX14, "isSeated", "(I)Z"⟩
abbrev cX14_isContent : ByteArray := prog_15_method_84_code
def yX14_isContent : MethodName := ⟨RX14, "isContent", "(I)Z"⟩
abbrev cX14_wasServed : ByteArray := prog_15_method_85_code
def yX14_wasServed : MethodName := ⟨RX14, "wasServed", "(I)Z"⟩
abbrev cX14_wasStormed : ByteArray := prog_15_method_86_code
def yX14_wasStormed : MethodName := ⟨RX14, "wasStormed", "(I)Z"⟩
abbrev cX14_steep : ByteArray := prog_15_method_87_code
def yX14_steep : MethodName := ⟨RX14, "steep", "(I)I"⟩
abbrev cX14_lemon : ByteArray := prog_15_method_88_code
def yX14_lemon : MethodName := ⟨RX14, "lemon", "()I"⟩
abbrev cX14_saucer : ByteArray := prog_15_method_89_code
def yX14_saucer : MethodName := ⟨RX14, "saucer", "()I"⟩
abbrev cX14_serve : ByteArray := prog_15_method_90_code
def yX14_serve : MethodName := ⟨RX14, "serve", "(I)I"⟩
abbrev cX14_heat : ByteArray := prog_15_method_91_code
def yX14_heat : MethodName := ⟨RX14, "heat", "(I)I"⟩
abbrev cX14_passHours : ByteArray := prog_15_method_92_code
def yX14_passHours : MethodName := ⟨RX14, "passHours", "(I)I"⟩
abbrev cX14_coinsAfter : ByteArray := prog_15_method_93_code
def yX14_coinsAfter : MethodName := ⟨RX14, "coinsAfter", "(I)I"⟩
abbrev cX14_until : ByteArray := prog_15_method_94_code
def yX14_until : MethodName := ⟨RX14, "until", "(I)I"⟩
abbrev cX14_hoursUntilStorm : ByteArray := prog_15_method_95_code
def yX14_hoursUntilStorm : MethodName := ⟨RX14, "hoursUntilStorm", "()I"⟩
abbrev cX14_hoursUntilServed : ByteArray := prog_15_method_96_code
def yX14_hoursUntilServed : MethodName := ⟨RX14, "hoursUntilServed", "(I)I"⟩
abbrev cX14_best : ByteArray := prog_15_method_97_code
def yX14_best : MethodName := ⟨RX14, "best", "()I"⟩
abbrev cX14_bestToSteep : ByteArray := prog_15_method_98_code
def yX14_bestToSteep : MethodName := ⟨RX14, "bestToSteep", "()I"⟩
abbrev cX14_meanForce : ByteArray := prog_15_method_99_code
def yX14_meanForce : MethodName := ⟨RX14, "meanForce", "()D"⟩
abbrev cX14_digest : ByteArray := prog_15_method_100_code
def yX14_digest : MethodName := ⟨RX14, "digest", "()J"⟩
def RJx29ce0 : String := "java/lang/Enum"
def TJx29ce0 : u_T := fun k => match k with
  | _ => ("", "", "", false)
def tyJx29ce0 : Nat → FieldType := fun k => match k with
  | _ => .int
abbrev wsJx29ce00 : List Cond := u_ws RJx29ce0 TJx29ce0 0
theorem nmJx29ce0 : ∀ a, a < 0 → ∀ b, b < 0 → a ≠ b → (TJx29ce0 a).2.1 ≠ (TJx29ce0 b).2.1 := by decide +kernel
theorem tyJx29ce0_ok : ∀ k, k < 0 → parseFieldDescriptor (TJx29ce0 k).2.2.1 = some (tyJx29ce0 k) := by decide +kernel
abbrev cJx29ce0_ordinal_8abf5 : ByteArray := prog_17_method_2_code
def yJx29ce0_ordinal_8abf5 : MethodName := ⟨RJx29ce0, "ordinal", "()I"⟩
def RJ6 : String := "java/lang/Integer"
def TJ6 : u_T := fun k => match k with
  | _ => ("", "", "", false)
def tyJ6 : Nat → FieldType := fun k => match k with
  | _ => .int
abbrev wsJ60 : List Cond := u_ws RJ6 TJ6 0
theorem nmJ6 : ∀ a, a < 0 → ∀ b, b < 0 → a ≠ b → (TJ6 a).2.1 ≠ (TJ6 b).2.1 := by decide +kernel
theorem tyJ6_ok : ∀ k, k < 0 → parseFieldDescriptor (TJ6 k).2.2.1 = some (tyJ6 k) := by decide +kernel
abbrev cJ6_compare_7cf53 : ByteArray := prog_22_method_40_code
def yJ6_compare_7cf53 : MethodName := ⟨RJ6, "compare", "(II)I"⟩
def RJ9 : String := "java/lang/Math"
def TJ9 : u_T := fun k => match k with
  | _ => ("", "", "", false)
def tyJ9 : Nat → FieldType := fun k => match k with
  | _ => .int
abbrev wsJ90 : List Cond := u_ws RJ9 TJ9 0
theorem nmJ9 : ∀ a, a < 0 → ∀ b, b < 0 → a ≠ b → (TJ9 a).2.1 ≠ (TJ9 b).2.1 := by decide +kernel
theorem tyJ9_ok : ∀ k, k < 0 → parseFieldDescriptor (TJ9 k).2.2.1 = some (tyJ9 k) := by decide +kernel
abbrev cJ9_max_7cf53 : ByteArray := prog_23_method_65_code
def yJ9_max_7cf53 : MethodName := ⟨RJ9, "max", "(II)I"⟩
abbrev cJ9_min_7cf53 : ByteArray := prog_23_method_69_code
def yJ9_min_7cf53 : MethodName := ⟨RJ9, "min", "(II)I"⟩
def RJ0 : String := "java/lang/String"
def TJ0 : u_T := fun k => match k with
  | _ => ("", "", "", false)
def tyJ0 : Nat → FieldType := fun k => match k with
  | _ => .int
abbrev wsJ00 : List Cond := u_ws RJ0 TJ0 0
theorem nmJ0 : ∀ a, a < 0 → ∀ b, b < 0 → a ≠ b → (TJ0 a).2.1 ≠ (TJ0 b).2.1 := by decide +kernel
theorem tyJ0_ok : ∀ k, k < 0 → parseFieldDescriptor (TJ0 k).2.2.1 = some (tyJ0 k) := by decide +kernel
abbrev cJ0_length_8abf5 : ByteArray := prog_25_method_54_code
def yJ0_length_8abf5 : MethodName := ⟨RJ0, "length", "()I"⟩
abbrev cJ0_charAt_5068e : ByteArray := prog_25_method_56_code
def yJ0_charAt_5068e : MethodName := ⟨RJ0, "charAt", "(I)C"⟩
abbrev cJ0_coder_7d493 : ByteArray := prog_25_method_152_code
def yJ0_coder_7d493 : MethodName := ⟨RJ0, "coder", "()B"⟩
abbrev cJ0_isLatin1_aae02 : ByteArray := prog_25_method_154_code
def yJ0_isLatin1_aae02 : MethodName := ⟨RJ0, "isLatin1", "()Z"⟩
abbrev cJ0_checkIndex_df160 : ByteArray := prog_25_method_155_code
def yJ0_checkIndex_df160 : MethodName := ⟨RJ0, "checkIndex", "(II)V"⟩
def RJ1 : String := "java/lang/StringLatin1"
def TJ1 : u_T := fun k => match k with
  | _ => ("", "", "", false)
def tyJ1 : Nat → FieldType := fun k => match k with
  | _ => .int
abbrev wsJ10 : List Cond := u_ws RJ1 TJ1 0
theorem nmJ1 : ∀ a, a < 0 → ∀ b, b < 0 → a ≠ b → (TJ1 a).2.1 ≠ (TJ1 b).2.1 := by decide +kernel
theorem tyJ1_ok : ∀ k, k < 0 → parseFieldDescriptor (TJ1 k).2.2.1 = some (tyJ1 k) := by decide +kernel
abbrev cJ1_charAt_3b067 : ByteArray := prog_26_method_2_code
def yJ1_charAt_3b067 : MethodName := ⟨RJ1, "charAt", "([BI)C"⟩
def RJ2 : String := "java/lang/StringUTF16"
def TJ2 : u_T := fun k => match k with
  | _ => ("", "", "", false)
def tyJ2 : Nat → FieldType := fun k => match k with
  | _ => .int
abbrev wsJ20 : List Cond := u_ws RJ2 TJ2 0
theorem nmJ2 : ∀ a, a < 0 → ∀ b, b < 0 → a ≠ b → (TJ2 a).2.1 ≠ (TJ2 b).2.1 := by decide +kernel
theorem tyJ2_ok : ∀ k, k < 0 → parseFieldDescriptor (TJ2 k).2.2.1 = some (tyJ2 k) := by decide +kernel
abbrev cJ2_getChar_3b067 : ByteArray := prog_27_method_5_code
def yJ2_getChar_3b067 : MethodName := ⟨RJ2, "getChar", "([BI)C"⟩
abbrev cJ2_length_9d52b : ByteArray := prog_27_method_6_code
def yJ2_length_9d52b : MethodName := ⟨RJ2, "length", "([B)I"⟩
abbrev cJ2_charAt_3b067 : ByteArray := prog_27_method_83_code
def yJ2_charAt_3b067 : MethodName := ⟨RJ2, "charAt", "([BI)C"⟩
abbrev cJ2_checkIndex_2214a : ByteArray := prog_27_method_91_code
def yJ2_checkIndex_2214a : MethodName := ⟨RJ2, "checkIndex", "(I[B)V"⟩
def RJ10 : String := "java/lang/System"
def TJ10 : u_T := fun k => match k with
  | _ => ("", "", "", false)
def tyJ10 : Nat → FieldType := fun k => match k with
  | _ => .int
abbrev wsJ100 : List Cond := u_ws RJ10 TJ10 0
theorem nmJ10 : ∀ a, a < 0 → ∀ b, b < 0 → a ≠ b → (TJ10 a).2.1 ≠ (TJ10 b).2.1 := by decide +kernel
theorem tyJ10_ok : ∀ k, k < 0 → parseFieldDescriptor (TJ10 k).2.2.1 = some (tyJ10 k) := by decide +kernel
def RJ3 : String := "jdk/internal/util/Preconditions"
def TJ3 : u_T := fun k => match k with
  | _ => ("", "", "", false)
def tyJ3 : Nat → FieldType := fun k => match k with
  | _ => .int
abbrev wsJ30 : List Cond := u_ws RJ3 TJ3 0
theorem nmJ3 : ∀ a, a < 0 → ∀ b, b < 0 → a ≠ b → (TJ3 a).2.1 ≠ (TJ3 b).2.1 := by decide +kernel
theorem tyJ3_ok : ∀ k, k < 0 → parseFieldDescriptor (TJ3 k).2.2.1 = some (tyJ3 k) := by decide +kernel
abbrev cJ3_checkIndex_8e157 : ByteArray := prog_30_method_11_code
def yJ3_checkIndex_8e157 : MethodName := ⟨RJ3, "checkIndex", "(IILjava/util/function/BiFunction;)I"⟩
def RL : String := "WeatherTeaLaw"
abbrev cL_feed : ByteArray := method_3_code
def yL_feed : MethodName := ⟨RL, "feed", "(LWeatherTea;IIIII[J)I"⟩
abbrev cL_trim : ByteArray := method_4_code
def yL_trim : MethodName := ⟨RL, "trim", "(LWeatherTea;I[J)I"⟩
abbrev cL_isWarm : ByteArray := method_5_code
def yL_isWarm : MethodName := ⟨RL, "isWarm", "(LWeatherTea;I[J)I"⟩
abbrev cL_forceOf : ByteArray := method_6_code
def yL_forceOf : MethodName := ⟨RL, "forceOf", "(LWeatherTea;I[J)I"⟩
abbrev cL_isOver : ByteArray := method_7_code
def yL_isOver : MethodName := ⟨RL, "isOver", "(LWeatherTea;I[J)I"⟩
abbrev cL_isSteeped : ByteArray := method_8_code
def yL_isSteeped : MethodName := ⟨RL, "isSteeped", "(LWeatherTea;I[J)I"⟩
abbrev cL_isSeated : ByteArray := method_9_code
def yL_isSeated : MethodName := ⟨RL, "isSeated", "(LWeatherTea;I[J)I"⟩
abbrev cL_isContent : ByteArray := method_10_code
def yL_isContent : MethodName := ⟨RL, "isContent", "(LWeatherTea;I[J)I"⟩
abbrev cL_wasServed : ByteArray := method_11_code
def yL_wasServed : MethodName := ⟨RL, "wasServed", "(LWeatherTea;I[J)I"⟩
abbrev cL_wasStormed : ByteArray := method_12_code
def yL_wasStormed : MethodName := ⟨RL, "wasStormed", "(LWeatherTea;I[J)I"⟩
abbrev cL_steep : ByteArray := method_13_code
def yL_steep : MethodName := ⟨RL, "steep", "(LWeatherTea;I[J)I"⟩
abbrev cL_lemon : ByteArray := method_14_code
def yL_lemon : MethodName := ⟨RL, "lemon", "(LWeatherTea;[J)I"⟩
abbrev cL_saucer : ByteArray := method_15_code
def yL_saucer : MethodName := ⟨RL, "saucer", "(LWeatherTea;[J)I"⟩
abbrev cL_serve : ByteArray := method_16_code
def yL_serve : MethodName := ⟨RL, "serve", "(LWeatherTea;I[J)I"⟩
abbrev cL_heat : ByteArray := method_17_code
def yL_heat : MethodName := ⟨RL, "heat", "(LWeatherTea;I[J)I"⟩
abbrev cL_passHours : ByteArray := method_18_code
def yL_passHours : MethodName := ⟨RL, "passHours", "(LWeatherTea;I[J)I"⟩
abbrev cL_coinsAfter : ByteArray := method_19_code
def yL_coinsAfter : MethodName := ⟨RL, "coinsAfter", "(LWeatherTea;I[J)I"⟩
abbrev cL_hoursUntilServed : ByteArray := method_20_code
def yL_hoursUntilServed : MethodName := ⟨RL, "hoursUntilServed", "(LWeatherTea;I[J)I"⟩
abbrev cL_law : ByteArray := code
def yL_law : MethodName := ⟨RL, "law", "([I)Z"⟩
abbrev vwCl : List vw_C := [(RX2, TX2, 6), (RX4, TX4, 6), (RX6, TX6, 8), (RX7, TX7, 3), (RX8, TX8, 13), (RX9, TX9, 2), (RX10, TX10, 2), (RX11, TX11, 7), (RX12, TX12, 6), (RX13, TX13, 20), (RX14, TX14, 20)]
/-- the tables' words that stay true -/
def BIG : List Cond := lw_tbl.filter goodWord
theorem big_of {w : Cond} {i : Nat} (h : lw_tbl[i]? = some w) (g : goodWord w = true) : w ∈ BIG := List.mem_filter.mpr ⟨List.mem_of_getElem? h, g⟩
theorem qm_0 : (.selects RX11 yX11_add yX11_add : Cond) ∈ BIG := big_of (i := 0) (by decide +kernel) (by decide +kernel)
theorem qm_1 : (.selects RX9 yX9_step yX9_step : Cond) ∈ BIG := big_of (i := 1) (by decide +kernel) (by decide +kernel)
theorem qm_2 : (.selects RX9 yX9_push yX9_push : Cond) ∈ BIG := big_of (i := 2) (by decide +kernel) (by decide +kernel)
theorem qm_3 : (.selects RX9 yX9_pop yX9_pop : Cond) ∈ BIG := big_of (i := 3) (by decide +kernel) (by decide +kernel)
theorem qm_4 : (.selects RX9 yX9_joinTwo yX9_joinTwo : Cond) ∈ BIG := big_of (i := 4) (by decide +kernel) (by decide +kernel)
theorem qm_5 : (.selects RX8 yX8_follow yX8_follow : Cond) ∈ BIG := big_of (i := 5) (by decide +kernel) (by decide +kernel)
theorem qm_6 : (.selects RX8 yX8_strengthWith yX8_strengthWith : Cond) ∈ BIG := big_of (i := 6) (by decide +kernel) (by decide +kernel)
theorem qm_7 : (.selects RX8 yX8_blow yX8_blow : Cond) ∈ BIG := big_of (i := 7) (by decide +kernel) (by decide +kernel)
theorem qm_8 : (.selects RX8 yX8_storm yX8_storm : Cond) ∈ BIG := big_of (i := 8) (by decide +kernel) (by decide +kernel)
theorem qm_9 : (.selects "java/lang/Throwable" ⟨"java/lang/Throwable", "fillInStackTrace", "(I)Ljava/lang/Throwable;"⟩ ⟨"java/lang/Throwable", "fillInStackTrace", "(I)Ljava/lang/Throwable;"⟩ : Cond) ∈ BIG := big_of (i := 9) (by decide +kernel) (by decide +kernel)
theorem qm_10 : (.selects RX12 yX12_requireFront yX12_requireFront : Cond) ∈ BIG := big_of (i := 10) (by decide +kernel) (by decide +kernel)
theorem qm_11 : (.selects RX12 yX12_requireGuest yX12_requireGuest : Cond) ∈ BIG := big_of (i := 11) (by decide +kernel) (by decide +kernel)
theorem qm_12 : (.selects RX14 yX14_anew yX14_anew : Cond) ∈ BIG := big_of (i := 12) (by decide +kernel) (by decide +kernel)
theorem qm_13 : (.selects RX14 yX14_come yX14_come : Cond) ∈ BIG := big_of (i := 13) (by decide +kernel) (by decide +kernel)
theorem qm_14 : (.selects RX14 yX14_no yX14_no : Cond) ∈ BIG := big_of (i := 14) (by decide +kernel) (by decide +kernel)
theorem qm_15 : (.selects RX14 yX14_readAll yX14_readAll : Cond) ∈ BIG := big_of (i := 15) (by decide +kernel) (by decide +kernel)
theorem qm_16 : (.selects RX14 yX14_skip yX14_skip : Cond) ∈ BIG := big_of (i := 16) (by decide +kernel) (by decide +kernel)
theorem qm_17 : (.selects RX14 yX14_byteAt yX14_byteAt : Cond) ∈ BIG := big_of (i := 17) (by decide +kernel) (by decide +kernel)
theorem qm_18 : (.selects RX14 yX14_read yX14_read : Cond) ∈ BIG := big_of (i := 18) (by decide +kernel) (by decide +kernel)
theorem qm_19 : (.selects RX14 yX14_keyword yX14_keyword : Cond) ∈ BIG := big_of (i := 19) (by decide +kernel) (by decide +kernel)
theorem qm_20 : (.selects RX14 yX14_isWord yX14_isWord : Cond) ∈ BIG := big_of (i := 20) (by decide +kernel) (by decide +kernel)
theorem qm_21 : (.selects RX14 yX14_line yX14_line : Cond) ∈ BIG := big_of (i := 21) (by decide +kernel) (by decide +kernel)
theorem qm_22 : (.selects RX14 yX14_takes yX14_takes : Cond) ∈ BIG := big_of (i := 22) (by decide +kernel) (by decide +kernel)
theorem qm_23 : (.selects RX14 yX14_is yX14_is : Cond) ∈ BIG := big_of (i := 23) (by decide +kernel) (by decide +kernel)
theorem qm_24 : (.selects RX14 yX14_newFront yX14_newFront : Cond) ∈ BIG := big_of (i := 24) (by decide +kernel) (by decide +kernel)
theorem qm_25 : (.selects RX14 yX14_newName yX14_newName : Cond) ∈ BIG := big_of (i := 25) (by decide +kernel) (by decide +kernel)
theorem qm_26 : (.selects RX14 yX14_known yX14_known : Cond) ∈ BIG := big_of (i := 26) (by decide +kernel) (by decide +kernel)
theorem qm_27 : (.selects RX14 yX14_isSameName yX14_isSameName : Cond) ∈ BIG := big_of (i := 27) (by decide +kernel) (by decide +kernel)
theorem qm_28 : (.selects RX14 yX14_mark yX14_mark : Cond) ∈ BIG := big_of (i := 28) (by decide +kernel) (by decide +kernel)
theorem qm_29 : (.selects RX14 yX14_take yX14_take : Cond) ∈ BIG := big_of (i := 29) (by decide +kernel) (by decide +kernel)
theorem qm_30 : (.selects RX14 yX14_wrong yX14_wrong : Cond) ∈ BIG := big_of (i := 30) (by decide +kernel) (by decide +kernel)
theorem qm_31 : (.selects RX14 yX14_numberBehind yX14_numberBehind : Cond) ∈ BIG := big_of (i := 31) (by decide +kernel) (by decide +kernel)
theorem qm_32 : (.selects RX14 yX14_newGuest yX14_newGuest : Cond) ∈ BIG := big_of (i := 32) (by decide +kernel) (by decide +kernel)
theorem qm_33 : (.selects RX14 yX14_order yX14_order : Cond) ∈ BIG := big_of (i := 33) (by decide +kernel) (by decide +kernel)
theorem qm_34 : (.selects RX14 yX14_front yX14_front : Cond) ∈ BIG := big_of (i := 34) (by decide +kernel) (by decide +kernel)
theorem qm_35 : (.selects RX14 yX14_name yX14_name : Cond) ∈ BIG := big_of (i := 35) (by decide +kernel) (by decide +kernel)
theorem qm_36 : (.selects RX14 yX14_guest yX14_guest : Cond) ∈ BIG := big_of (i := 36) (by decide +kernel) (by decide +kernel)
theorem qm_37 : (.selects RX14 yX14_test yX14_test : Cond) ∈ BIG := big_of (i := 37) (by decide +kernel) (by decide +kernel)
theorem qm_38 : (.selects RX14 yX14_both yX14_both : Cond) ∈ BIG := big_of (i := 38) (by decide +kernel) (by decide +kernel)
theorem qm_39 : (.selects RX14 yX14_single yX14_single : Cond) ∈ BIG := big_of (i := 39) (by decide +kernel) (by decide +kernel)
theorem qm_40 : (.selects RX14 yX14_deeper yX14_deeper : Cond) ∈ BIG := big_of (i := 40) (by decide +kernel) (by decide +kernel)
theorem qm_41 : (.selects RX14 yX14_node yX14_node : Cond) ∈ BIG := big_of (i := 41) (by decide +kernel) (by decide +kernel)
theorem qm_42 : (.selects RX14 yX14_comparison yX14_comparison : Cond) ∈ BIG := big_of (i := 42) (by decide +kernel) (by decide +kernel)
theorem qm_43 : (.selects RX14 yX14_sum yX14_sum : Cond) ∈ BIG := big_of (i := 43) (by decide +kernel) (by decide +kernel)
theorem qm_44 : (.selects RX14 yX14_product yX14_product : Cond) ∈ BIG := big_of (i := 44) (by decide +kernel) (by decide +kernel)
theorem qm_45 : (.selects RX14 yX14_value yX14_value : Cond) ∈ BIG := big_of (i := 45) (by decide +kernel) (by decide +kernel)
theorem qm_46 : (.selects RX14 yX14_ofTwo yX14_ofTwo : Cond) ∈ BIG := big_of (i := 46) (by decide +kernel) (by decide +kernel)
theorem qm_47 : (.selects RX14 yX14_inBrackets yX14_inBrackets : Cond) ∈ BIG := big_of (i := 47) (by decide +kernel) (by decide +kernel)
theorem qm_48 : (.selects RX14 yX14_ok yX14_ok : Cond) ∈ BIG := big_of (i := 48) (by decide +kernel) (by decide +kernel)
theorem qm_49 : (.selects RX14 yX14_guestsWith yX14_guestsWith : Cond) ∈ BIG := big_of (i := 49) (by decide +kernel) (by decide +kernel)
theorem qm_50 : (.selects RX14 yX14_isFront yX14_isFront : Cond) ∈ BIG := big_of (i := 50) (by decide +kernel) (by decide +kernel)
theorem qm_51 : (.selects RX14 yX14_isGuest yX14_isGuest : Cond) ∈ BIG := big_of (i := 51) (by decide +kernel) (by decide +kernel)
theorem qm_52 : (.selects RX14 yX14_likes yX14_likes : Cond) ∈ BIG := big_of (i := 52) (by decide +kernel) (by decide +kernel)
theorem qm_53 : (.selects RX14 yX14_canSteep yX14_canSteep : Cond) ∈ BIG := big_of (i := 53) (by decide +kernel) (by decide +kernel)
theorem qm_54 : (.selects RX14 yX14_steepIt yX14_steepIt : Cond) ∈ BIG := big_of (i := 54) (by decide +kernel) (by decide +kernel)
theorem qm_55 : (.selects RX14 yX14_squeeze yX14_squeeze : Cond) ∈ BIG := big_of (i := 55) (by decide +kernel) (by decide +kernel)
theorem qm_56 : (.selects RX14 yX14_calm yX14_calm : Cond) ∈ BIG := big_of (i := 56) (by decide +kernel) (by decide +kernel)
theorem qm_57 : (.selects RX14 yX14_serveIt yX14_serveIt : Cond) ∈ BIG := big_of (i := 57) (by decide +kernel) (by decide +kernel)
theorem qm_58 : (.selects RX14 yX14_hourOn yX14_hourOn : Cond) ∈ BIG := big_of (i := 58) (by decide +kernel) (by decide +kernel)
theorem qm_59 : (.selects RX14 yX14_carryOut yX14_carryOut : Cond) ∈ BIG := big_of (i := 59) (by decide +kernel) (by decide +kernel)
theorem qm_60 : (.selects RX14 yX14_reckon yX14_reckon : Cond) ∈ BIG := big_of (i := 60) (by decide +kernel) (by decide +kernel)
theorem qm_61 : (.selects RX14 yX14_weather yX14_weather : Cond) ∈ BIG := big_of (i := 61) (by decide +kernel) (by decide +kernel)
theorem qm_62 : (.selects RX14 yX14_storm yX14_storm : Cond) ∈ BIG := big_of (i := 62) (by decide +kernel) (by decide +kernel)
theorem qm_63 : (.selects RX14 yX14_keep yX14_keep : Cond) ∈ BIG := big_of (i := 63) (by decide +kernel) (by decide +kernel)
theorem qm_64 : (.selects RX14 yX14_bringBack yX14_bringBack : Cond) ∈ BIG := big_of (i := 64) (by decide +kernel) (by decide +kernel)
theorem qm_65 : (.selects RX14 yX14_until yX14_until : Cond) ∈ BIG := big_of (i := 65) (by decide +kernel) (by decide +kernel)
theorem qm_66 : (.selects RX14 yX14_best yX14_best : Cond) ∈ BIG := big_of (i := 66) (by decide +kernel) (by decide +kernel)
theorem qm_67 : (.initialized RL : Cond) ∈ BIG := big_of (i := 67) (by decide +kernel) (by decide +kernel)
theorem qm_68 : (.initialized RX12 : Cond) ∈ BIG := big_of (i := 68) (by decide +kernel) (by decide +kernel)
theorem qm_69 : (.initialized RX10 : Cond) ∈ BIG := big_of (i := 69) (by decide +kernel) (by decide +kernel)
theorem qm_70 : (.initialized RX11 : Cond) ∈ BIG := big_of (i := 70) (by decide +kernel) (by decide +kernel)
theorem qm_71 : (.initialized RJx29ce0 : Cond) ∈ BIG := big_of (i := 71) (by decide +kernel) (by decide +kernel)
theorem qm_72 : (.initialized RX5 : Cond) ∈ BIG := big_of (i := 72) (by decide +kernel) (by decide +kernel)
theorem qm_73 : (.initialized RX8 : Cond) ∈ BIG := big_of (i := 73) (by decide +kernel) (by decide +kernel)
theorem qm_74 : (.initialized RX9 : Cond) ∈ BIG := big_of (i := 74) (by decide +kernel) (by decide +kernel)
theorem qm_75 : (.initialized RX7 : Cond) ∈ BIG := big_of (i := 75) (by decide +kernel) (by decide +kernel)
theorem qm_76 : (.initialized RX2 : Cond) ∈ BIG := big_of (i := 76) (by decide +kernel) (by decide +kernel)
theorem qm_77 : (.initialized RX4 : Cond) ∈ BIG := big_of (i := 77) (by decide +kernel) (by decide +kernel)
theorem qm_78 : (.initialized RX6 : Cond) ∈ BIG := big_of (i := 78) (by decide +kernel) (by decide +kernel)
theorem qm_79 : (.initialized RX14 : Cond) ∈ BIG := big_of (i := 79) (by decide +kernel) (by decide +kernel)
theorem qm_80 : (.initialized RX13 : Cond) ∈ BIG := big_of (i := 80) (by decide +kernel) (by decide +kernel)
theorem qm_81 : (.initialized "java/lang/Throwable" : Cond) ∈ BIG := big_of (i := 81) (by decide +kernel) (by decide +kernel)
theorem qm_82 : (.initialized "java/lang/Exception" : Cond) ∈ BIG := big_of (i := 82) (by decide +kernel) (by decide +kernel)
theorem qm_83 : (.initialized "java/lang/RuntimeException" : Cond) ∈ BIG := big_of (i := 83) (by decide +kernel) (by decide +kernel)
theorem qm_84 : (.initialized "java/lang/IllegalStateException" : Cond) ∈ BIG := big_of (i := 84) (by decide +kernel) (by decide +kernel)
theorem qm_85 : (.initialized "java/lang/IllegalArgumentException" : Cond) ∈ BIG := big_of (i := 85) (by decide +kernel) (by decide +kernel)
theorem qm_86 : (.initialized RJ0 : Cond) ∈ BIG := big_of (i := 86) (by decide +kernel) (by decide +kernel)
theorem qm_87 : (.initialized RJ1 : Cond) ∈ BIG := big_of (i := 87) (by decide +kernel) (by decide +kernel)
theorem qm_88 : (.initialized RJ3 : Cond) ∈ BIG := big_of (i := 88) (by decide +kernel) (by decide +kernel)
theorem qm_89 : (.initialized RJ2 : Cond) ∈ BIG := big_of (i := 89) (by decide +kernel) (by decide +kernel)
theorem qm_90 : (.initialized RX3 : Cond) ∈ BIG := big_of (i := 90) (by decide +kernel) (by decide +kernel)
theorem qm_91 : (.initialized RX0 : Cond) ∈ BIG := big_of (i := 91) (by decide +kernel) (by decide +kernel)
theorem qm_92 : (.initialized RX1 : Cond) ∈ BIG := big_of (i := 92) (by decide +kernel) (by decide +kernel)
theorem qm_93 : (.initialized RJ9 : Cond) ∈ BIG := big_of (i := 93) (by decide +kernel) (by decide +kernel)
theorem qm_94 : (.initialized RJ10 : Cond) ∈ BIG := big_of (i := 94) (by decide +kernel) (by decide +kernel)
theorem qm_95 : (.initialized "java/lang/IndexOutOfBoundsException" : Cond) ∈ BIG := big_of (i := 95) (by decide +kernel) (by decide +kernel)
theorem qm_96 : (.initialized RJ6 : Cond) ∈ BIG := big_of (i := 96) (by decide +kernel) (by decide +kernel)
theorem qm_97 : (.classLink RL 8 RX12 : Cond) ∈ BIG := big_of (i := 97) (by decide +kernel) (by decide +kernel)
theorem qm_98 : (.instantiable RX12 6 : Cond) ∈ BIG := big_of (i := 98) (by decide +kernel) (by decide +kernel)
theorem qm_99 : (.methodLink RL 73 yX12_init : Cond) ∈ BIG := big_of (i := 99) (by decide +kernel) (by decide +kernel)
theorem qm_100 : (.instanceMethod yX12_init : Cond) ∈ BIG := big_of (i := 100) (by decide +kernel) (by decide +kernel)
theorem qm_101 : (.code yX12_init cX12_init 1 none : Cond) ∈ BIG := big_of (i := 101) (by decide +kernel) (by decide +kernel)
theorem qm_102 : (.methodLink RX12 1 ⟨"java/lang/Object", "<init>", "()V"⟩ : Cond) ∈ BIG := big_of (i := 102) (by decide +kernel) (by decide +kernel)
theorem qm_103 : (.instanceMethod ⟨"java/lang/Object", "<init>", "()V"⟩ : Cond) ∈ BIG := big_of (i := 103) (by decide +kernel) (by decide +kernel)
theorem qm_104 : (.code ⟨"java/lang/Object", "<init>", "()V"⟩ object_method_1_code 1 none : Cond) ∈ BIG := big_of (i := 104) (by decide +kernel) (by decide +kernel)
theorem qm_105 : (.classLink RX12 7 RX10 : Cond) ∈ BIG := big_of (i := 105) (by decide +kernel) (by decide +kernel)
theorem qm_106 : (.instantiable RX10 2 : Cond) ∈ BIG := big_of (i := 106) (by decide +kernel) (by decide +kernel)
theorem qm_107 : (.methodLink RX12 9 yX10_init : Cond) ∈ BIG := big_of (i := 107) (by decide +kernel) (by decide +kernel)
theorem qm_108 : (.instanceMethod yX10_init : Cond) ∈ BIG := big_of (i := 108) (by decide +kernel) (by decide +kernel)
theorem qm_109 : (.code yX10_init cX10_init 1 none : Cond) ∈ BIG := big_of (i := 109) (by decide +kernel) (by decide +kernel)
theorem qm_110 : (.methodLink RX10 3 ⟨"java/lang/Object", "<init>", "()V"⟩ : Cond) ∈ BIG := big_of (i := 110) (by decide +kernel) (by decide +kernel)
theorem qm_111 : (.fieldLink RX10 9 "WeatherTea$Tape" "bytes" "[B" : Cond) ∈ BIG := big_of (i := 111) (by decide +kernel) (by decide +kernel)
theorem qm_112 : (.fieldLink RX12 44 "WeatherTea$Tape" "length" "I" : Cond) ∈ BIG := big_of (i := 112) (by decide +kernel) (by decide +kernel)
theorem qm_113 : (.fieldLink RX10 15 "WeatherTea$Tape" "length" "I" : Cond) ∈ BIG := big_of (i := 113) (by decide +kernel) (by decide +kernel)
theorem qm_114 : (.fieldLink RX11 46 "WeatherTea$Tape" "length" "I" : Cond) ∈ BIG := big_of (i := 114) (by decide +kernel) (by decide +kernel)
theorem qm_115 : (.laysFinal RX10 RX10 "bytes" "[B" : Cond) ∈ BIG := big_of (i := 115) (by decide +kernel) (by decide +kernel)
theorem qm_117 : (.lays RX10 RX10 "length" "I" : Cond) ∈ BIG := big_of (i := 117) (by decide +kernel) (by decide +kernel)
theorem qm_120 : (.arrayClass .byte : Cond) ∈ BIG := big_of (i := 120) (by decide +kernel) (by decide +kernel)
theorem qm_121 : (.classLink RX12 16 RX11 : Cond) ∈ BIG := big_of (i := 121) (by decide +kernel) (by decide +kernel)
theorem qm_122 : (.instantiable RX11 7 : Cond) ∈ BIG := big_of (i := 122) (by decide +kernel) (by decide +kernel)
theorem qm_123 : (.methodLink RX12 18 yX11_init : Cond) ∈ BIG := big_of (i := 123) (by decide +kernel) (by decide +kernel)
theorem qm_124 : (.instanceMethod yX11_init : Cond) ∈ BIG := big_of (i := 124) (by decide +kernel) (by decide +kernel)
theorem qm_125 : (.code yX11_init cX11_init 2 none : Cond) ∈ BIG := big_of (i := 125) (by decide +kernel) (by decide +kernel)
theorem qm_126 : (.methodLink RX11 3 ⟨"java/lang/Object", "<init>", "()V"⟩ : Cond) ∈ BIG := big_of (i := 126) (by decide +kernel) (by decide +kernel)
theorem qm_127 : (.classLink RX11 9 RX5 : Cond) ∈ BIG := big_of (i := 127) (by decide +kernel) (by decide +kernel)
theorem qm_129 : (.fieldLink RX11 25 "WeatherTea$Kind" "END" "LWeatherTea$Kind;" : Cond) ∈ BIG := big_of (i := 129) (by decide +kernel) (by decide +kernel)
theorem qm_131 : (.fieldLink RX11 11 "WeatherTea$Tokens" "kinds" "[LWeatherTea$Kind;" : Cond) ∈ BIG := big_of (i := 131) (by decide +kernel) (by decide +kernel)
theorem qm_132 : (.fieldLink RX11 17 "WeatherTea$Tokens" "starts" "[I" : Cond) ∈ BIG := big_of (i := 132) (by decide +kernel) (by decide +kernel)
theorem qm_133 : (.fieldLink RX11 21 "WeatherTea$Tokens" "values" "[J" : Cond) ∈ BIG := big_of (i := 133) (by decide +kernel) (by decide +kernel)
theorem qm_134 : (.fieldLink RX11 29 "WeatherTea$Tokens" "count" "I" : Cond) ∈ BIG := big_of (i := 134) (by decide +kernel) (by decide +kernel)
theorem qm_135 : (.fieldLink RX1 9 "WeatherTea$Tokens" "count" "I" : Cond) ∈ BIG := big_of (i := 135) (by decide +kernel) (by decide +kernel)
theorem qm_136 : (.fieldLink RX11 33 "WeatherTea$Tokens" "cursor" "I" : Cond) ∈ BIG := big_of (i := 136) (by decide +kernel) (by decide +kernel)
theorem qm_137 : (.fieldLink RX3 34 "WeatherTea$Tokens" "cursor" "I" : Cond) ∈ BIG := big_of (i := 137) (by decide +kernel) (by decide +kernel)
theorem qm_138 : (.fieldLink RX11 36 "WeatherTea$Tokens" "error" "I" : Cond) ∈ BIG := big_of (i := 138) (by decide +kernel) (by decide +kernel)
theorem qm_139 : (.fieldLink RX1 15 "WeatherTea$Tokens" "error" "I" : Cond) ∈ BIG := big_of (i := 139) (by decide +kernel) (by decide +kernel)
theorem qm_140 : (.fieldLink RX12 80 "WeatherTea$Tokens" "error" "I" : Cond) ∈ BIG := big_of (i := 140) (by decide +kernel) (by decide +kernel)
theorem qm_141 : (.fieldLink RX11 39 "WeatherTea$Tokens" "errorToken" "I" : Cond) ∈ BIG := big_of (i := 141) (by decide +kernel) (by decide +kernel)
theorem qm_142 : (.fieldLink RX12 89 "WeatherTea$Tokens" "errorToken" "I" : Cond) ∈ BIG := big_of (i := 142) (by decide +kernel) (by decide +kernel)
theorem qm_143 : (.laysFinal RX11 RX11 "kinds" "[LWeatherTea$Kind;" : Cond) ∈ BIG := big_of (i := 143) (by decide +kernel) (by decide +kernel)
theorem qm_145 : (.laysFinal RX11 RX11 "starts" "[I" : Cond) ∈ BIG := big_of (i := 145) (by decide +kernel) (by decide +kernel)
theorem qm_147 : (.laysFinal RX11 RX11 "values" "[J" : Cond) ∈ BIG := big_of (i := 147) (by decide +kernel) (by decide +kernel)
theorem qm_149 : (.lays RX11 RX11 "count" "I" : Cond) ∈ BIG := big_of (i := 149) (by decide +kernel) (by decide +kernel)
theorem qm_151 : (.lays RX11 RX11 "cursor" "I" : Cond) ∈ BIG := big_of (i := 151) (by decide +kernel) (by decide +kernel)
theorem qm_153 : (.lays RX11 RX11 "error" "I" : Cond) ∈ BIG := big_of (i := 153) (by decide +kernel) (by decide +kernel)
theorem qm_155 : (.lays RX11 RX11 "errorToken" "I" : Cond) ∈ BIG := big_of (i := 155) (by decide +kernel) (by decide +kernel)
theorem qm_158 : (.arrayClass .int : Cond) ∈ BIG := big_of (i := 158) (by decide +kernel) (by decide +kernel)
theorem qm_159 : (.arrayClass .long : Cond) ∈ BIG := big_of (i := 159) (by decide +kernel) (by decide +kernel)
theorem qm_160 : (.classLink RX12 23 RX8 : Cond) ∈ BIG := big_of (i := 160) (by decide +kernel) (by decide +kernel)
theorem qm_161 : (.instantiable RX8 13 : Cond) ∈ BIG := big_of (i := 161) (by decide +kernel) (by decide +kernel)
theorem qm_162 : (.methodLink RX12 25 yX8_init : Cond) ∈ BIG := big_of (i := 162) (by decide +kernel) (by decide +kernel)
theorem qm_163 : (.instanceMethod yX8_init : Cond) ∈ BIG := big_of (i := 163) (by decide +kernel) (by decide +kernel)
theorem qm_164 : (.code yX8_init cX8_init 1 none : Cond) ∈ BIG := big_of (i := 164) (by decide +kernel) (by decide +kernel)
theorem qm_165 : (.methodLink RX8 3 ⟨"java/lang/Object", "<init>", "()V"⟩ : Cond) ∈ BIG := big_of (i := 165) (by decide +kernel) (by decide +kernel)
theorem qm_166 : (.classLink RX8 9 RX9 : Cond) ∈ BIG := big_of (i := 166) (by decide +kernel) (by decide +kernel)
theorem qm_167 : (.instantiable RX9 2 : Cond) ∈ BIG := big_of (i := 167) (by decide +kernel) (by decide +kernel)
theorem qm_168 : (.methodLink RX8 11 yX9_init : Cond) ∈ BIG := big_of (i := 168) (by decide +kernel) (by decide +kernel)
theorem qm_169 : (.instanceMethod yX9_init : Cond) ∈ BIG := big_of (i := 169) (by decide +kernel) (by decide +kernel)
theorem qm_170 : (.code yX9_init cX9_init 1 none : Cond) ∈ BIG := big_of (i := 170) (by decide +kernel) (by decide +kernel)
theorem qm_171 : (.methodLink RX9 3 ⟨"java/lang/Object", "<init>", "()V"⟩ : Cond) ∈ BIG := big_of (i := 171) (by decide +kernel) (by decide +kernel)
theorem qm_172 : (.fieldLink RX9 9 "WeatherTea$Reckoner" "stack" "[I" : Cond) ∈ BIG := big_of (i := 172) (by decide +kernel) (by decide +kernel)
theorem qm_173 : (.fieldLink RX9 15 "WeatherTea$Reckoner" "height" "I" : Cond) ∈ BIG := big_of (i := 173) (by decide +kernel) (by decide +kernel)
theorem qm_174 : (.laysFinal RX9 RX9 "stack" "[I" : Cond) ∈ BIG := big_of (i := 174) (by decide +kernel) (by decide +kernel)
theorem qm_176 : (.lays RX9 RX9 "height" "I" : Cond) ∈ BIG := big_of (i := 176) (by decide +kernel) (by decide +kernel)
theorem qm_179 : (.classLink RX8 18 RX7 : Cond) ∈ BIG := big_of (i := 179) (by decide +kernel) (by decide +kernel)
theorem qm_180 : (.instantiable RX7 3 : Cond) ∈ BIG := big_of (i := 180) (by decide +kernel) (by decide +kernel)
theorem qm_181 : (.methodLink RX8 20 yX7_init : Cond) ∈ BIG := big_of (i := 181) (by decide +kernel) (by decide +kernel)
theorem qm_182 : (.instanceMethod yX7_init : Cond) ∈ BIG := big_of (i := 182) (by decide +kernel) (by decide +kernel)
theorem qm_183 : (.code yX7_init cX7_init 1 none : Cond) ∈ BIG := big_of (i := 183) (by decide +kernel) (by decide +kernel)
theorem qm_184 : (.methodLink RX7 1 ⟨"java/lang/Object", "<init>", "()V"⟩ : Cond) ∈ BIG := big_of (i := 184) (by decide +kernel) (by decide +kernel)
theorem qm_185 : (.classLink RX7 7 RX2 : Cond) ∈ BIG := big_of (i := 185) (by decide +kernel) (by decide +kernel)
theorem qm_186 : (.instantiable RX2 6 : Cond) ∈ BIG := big_of (i := 186) (by decide +kernel) (by decide +kernel)
theorem qm_187 : (.methodLink RX7 9 yX2_init : Cond) ∈ BIG := big_of (i := 187) (by decide +kernel) (by decide +kernel)
theorem qm_188 : (.instanceMethod yX2_init : Cond) ∈ BIG := big_of (i := 188) (by decide +kernel) (by decide +kernel)
theorem qm_189 : (.code yX2_init cX2_init 1 none : Cond) ∈ BIG := big_of (i := 189) (by decide +kernel) (by decide +kernel)
theorem qm_190 : (.methodLink RX2 3 ⟨"java/lang/Object", "<init>", "()V"⟩ : Cond) ∈ BIG := big_of (i := 190) (by decide +kernel) (by decide +kernel)
theorem qm_191 : (.fieldLink RX2 9 "WeatherTea$Fronts" "names" "[J" : Cond) ∈ BIG := big_of (i := 191) (by decide +kernel) (by decide +kernel)
theorem qm_192 : (.fieldLink RX2 15 "WeatherTea$Fronts" "warm" "[Z" : Cond) ∈ BIG := big_of (i := 192) (by decide +kernel) (by decide +kernel)
theorem qm_193 : (.fieldLink RX8 177 "WeatherTea$Fronts" "warm" "[Z" : Cond) ∈ BIG := big_of (i := 193) (by decide +kernel) (by decide +kernel)
theorem qm_194 : (.fieldLink RX12 171 "WeatherTea$Fronts" "warm" "[Z" : Cond) ∈ BIG := big_of (i := 194) (by decide +kernel) (by decide +kernel)
theorem qm_195 : (.fieldLink RX2 19 "WeatherTea$Fronts" "force" "[I" : Cond) ∈ BIG := big_of (i := 195) (by decide +kernel) (by decide +kernel)
theorem qm_196 : (.fieldLink RX8 109 "WeatherTea$Fronts" "force" "[I" : Cond) ∈ BIG := big_of (i := 196) (by decide +kernel) (by decide +kernel)
theorem qm_197 : (.fieldLink RX12 174 "WeatherTea$Fronts" "force" "[I" : Cond) ∈ BIG := big_of (i := 197) (by decide +kernel) (by decide +kernel)
theorem qm_198 : (.fieldLink RX2 23 "WeatherTea$Fronts" "from" "[I" : Cond) ∈ BIG := big_of (i := 198) (by decide +kernel) (by decide +kernel)
theorem qm_199 : (.fieldLink RX8 70 "WeatherTea$Fronts" "from" "[I" : Cond) ∈ BIG := big_of (i := 199) (by decide +kernel) (by decide +kernel)
theorem qm_200 : (.fieldLink RX2 26 "WeatherTea$Fronts" "hours" "[I" : Cond) ∈ BIG := big_of (i := 200) (by decide +kernel) (by decide +kernel)
theorem qm_201 : (.fieldLink RX8 74 "WeatherTea$Fronts" "hours" "[I" : Cond) ∈ BIG := big_of (i := 201) (by decide +kernel) (by decide +kernel)
theorem qm_202 : (.fieldLink RX7 30 "WeatherTea$Fronts" "count" "I" : Cond) ∈ BIG := big_of (i := 202) (by decide +kernel) (by decide +kernel)
theorem qm_203 : (.fieldLink RX2 29 "WeatherTea$Fronts" "count" "I" : Cond) ∈ BIG := big_of (i := 203) (by decide +kernel) (by decide +kernel)
theorem qm_204 : (.fieldLink RX12 113 "WeatherTea$Fronts" "count" "I" : Cond) ∈ BIG := big_of (i := 204) (by decide +kernel) (by decide +kernel)
theorem qm_205 : (.fieldLink RX1 100 "WeatherTea$Fronts" "count" "I" : Cond) ∈ BIG := big_of (i := 205) (by decide +kernel) (by decide +kernel)
theorem qm_206 : (.fieldLink RX8 176 "WeatherTea$Fronts" "count" "I" : Cond) ∈ BIG := big_of (i := 206) (by decide +kernel) (by decide +kernel)
theorem qm_207 : (.laysFinal RX2 RX2 "names" "[J" : Cond) ∈ BIG := big_of (i := 207) (by decide +kernel) (by decide +kernel)
theorem qm_209 : (.laysFinal RX2 RX2 "warm" "[Z" : Cond) ∈ BIG := big_of (i := 209) (by decide +kernel) (by decide +kernel)
theorem qm_211 : (.laysFinal RX2 RX2 "force" "[I" : Cond) ∈ BIG := big_of (i := 211) (by decide +kernel) (by decide +kernel)
theorem qm_213 : (.laysFinal RX2 RX2 "from" "[I" : Cond) ∈ BIG := big_of (i := 213) (by decide +kernel) (by decide +kernel)
theorem qm_215 : (.laysFinal RX2 RX2 "hours" "[I" : Cond) ∈ BIG := big_of (i := 215) (by decide +kernel) (by decide +kernel)
theorem qm_217 : (.lays RX2 RX2 "count" "I" : Cond) ∈ BIG := big_of (i := 217) (by decide +kernel) (by decide +kernel)
theorem qm_220 : (.arrayClass .boolean : Cond) ∈ BIG := big_of (i := 220) (by decide +kernel) (by decide +kernel)
theorem qm_221 : (.classLink RX7 16 RX4 : Cond) ∈ BIG := big_of (i := 221) (by decide +kernel) (by decide +kernel)
theorem qm_222 : (.instantiable RX4 6 : Cond) ∈ BIG := big_of (i := 222) (by decide +kernel) (by decide +kernel)
theorem qm_223 : (.methodLink RX7 18 yX4_init : Cond) ∈ BIG := big_of (i := 223) (by decide +kernel) (by decide +kernel)
theorem qm_224 : (.instanceMethod yX4_init : Cond) ∈ BIG := big_of (i := 224) (by decide +kernel) (by decide +kernel)
theorem qm_225 : (.code yX4_init cX4_init 1 none : Cond) ∈ BIG := big_of (i := 225) (by decide +kernel) (by decide +kernel)
theorem qm_226 : (.methodLink RX4 3 ⟨"java/lang/Object", "<init>", "()V"⟩ : Cond) ∈ BIG := big_of (i := 226) (by decide +kernel) (by decide +kernel)
theorem qm_227 : (.fieldLink RX4 9 "WeatherTea$Guests" "names" "[J" : Cond) ∈ BIG := big_of (i := 227) (by decide +kernel) (by decide +kernel)
theorem qm_228 : (.fieldLink RX4 15 "WeatherTea$Guests" "from" "[I" : Cond) ∈ BIG := big_of (i := 228) (by decide +kernel) (by decide +kernel)
theorem qm_229 : (.fieldLink RX8 84 "WeatherTea$Guests" "from" "[I" : Cond) ∈ BIG := big_of (i := 229) (by decide +kernel) (by decide +kernel)
theorem qm_230 : (.fieldLink RX4 19 "WeatherTea$Guests" "weakest" "[I" : Cond) ∈ BIG := big_of (i := 230) (by decide +kernel) (by decide +kernel)
theorem qm_231 : (.fieldLink RX8 88 "WeatherTea$Guests" "weakest" "[I" : Cond) ∈ BIG := big_of (i := 231) (by decide +kernel) (by decide +kernel)
theorem qm_232 : (.fieldLink RX4 22 "WeatherTea$Guests" "strongest" "[I" : Cond) ∈ BIG := big_of (i := 232) (by decide +kernel) (by decide +kernel)
theorem qm_233 : (.fieldLink RX8 91 "WeatherTea$Guests" "strongest" "[I" : Cond) ∈ BIG := big_of (i := 233) (by decide +kernel) (by decide +kernel)
theorem qm_234 : (.fieldLink RX4 25 "WeatherTea$Guests" "nerve" "[I" : Cond) ∈ BIG := big_of (i := 234) (by decide +kernel) (by decide +kernel)
theorem qm_235 : (.fieldLink RX8 185 "WeatherTea$Guests" "nerve" "[I" : Cond) ∈ BIG := big_of (i := 235) (by decide +kernel) (by decide +kernel)
theorem qm_236 : (.fieldLink RX4 28 "WeatherTea$Guests" "count" "I" : Cond) ∈ BIG := big_of (i := 236) (by decide +kernel) (by decide +kernel)
theorem qm_237 : (.fieldLink RX7 34 "WeatherTea$Guests" "count" "I" : Cond) ∈ BIG := big_of (i := 237) (by decide +kernel) (by decide +kernel)
theorem qm_238 : (.fieldLink RX12 122 "WeatherTea$Guests" "count" "I" : Cond) ∈ BIG := big_of (i := 238) (by decide +kernel) (by decide +kernel)
theorem qm_239 : (.fieldLink RX8 98 "WeatherTea$Guests" "count" "I" : Cond) ∈ BIG := big_of (i := 239) (by decide +kernel) (by decide +kernel)
theorem qm_240 : (.fieldLink RX1 112 "WeatherTea$Guests" "count" "I" : Cond) ∈ BIG := big_of (i := 240) (by decide +kernel) (by decide +kernel)
theorem qm_241 : (.laysFinal RX4 RX4 "names" "[J" : Cond) ∈ BIG := big_of (i := 241) (by decide +kernel) (by decide +kernel)
theorem qm_243 : (.laysFinal RX4 RX4 "from" "[I" : Cond) ∈ BIG := big_of (i := 243) (by decide +kernel) (by decide +kernel)
theorem qm_245 : (.laysFinal RX4 RX4 "weakest" "[I" : Cond) ∈ BIG := big_of (i := 245) (by decide +kernel) (by decide +kernel)
theorem qm_247 : (.laysFinal RX4 RX4 "strongest" "[I" : Cond) ∈ BIG := big_of (i := 247) (by decide +kernel) (by decide +kernel)
theorem qm_249 : (.laysFinal RX4 RX4 "nerve" "[I" : Cond) ∈ BIG := big_of (i := 249) (by decide +kernel) (by decide +kernel)
theorem qm_251 : (.lays RX4 RX4 "count" "I" : Cond) ∈ BIG := big_of (i := 251) (by decide +kernel) (by decide +kernel)
theorem qm_254 : (.classLink RX7 23 RX6 : Cond) ∈ BIG := big_of (i := 254) (by decide +kernel) (by decide +kernel)
theorem qm_255 : (.instantiable RX6 8 : Cond) ∈ BIG := big_of (i := 255) (by decide +kernel) (by decide +kernel)
theorem qm_256 : (.methodLink RX7 25 yX6_init : Cond) ∈ BIG := big_of (i := 256) (by decide +kernel) (by decide +kernel)
theorem qm_257 : (.instanceMethod yX6_init : Cond) ∈ BIG := big_of (i := 257) (by decide +kernel) (by decide +kernel)
theorem qm_258 : (.code yX6_init cX6_init 2 none : Cond) ∈ BIG := big_of (i := 258) (by decide +kernel) (by decide +kernel)
theorem qm_259 : (.methodLink RX6 3 ⟨"java/lang/Object", "<init>", "()V"⟩ : Cond) ∈ BIG := big_of (i := 259) (by decide +kernel) (by decide +kernel)
theorem qm_260 : (.classLink RX6 9 RX5 : Cond) ∈ BIG := big_of (i := 260) (by decide +kernel) (by decide +kernel)
theorem qm_261 : (.fieldLink RX6 33 "WeatherTea$Kind" "END" "LWeatherTea$Kind;" : Cond) ∈ BIG := big_of (i := 261) (by decide +kernel) (by decide +kernel)
theorem qm_262 : (.fieldLink RX6 11 "WeatherTea$Orders" "deeds" "[LWeatherTea$Kind;" : Cond) ∈ BIG := big_of (i := 262) (by decide +kernel) (by decide +kernel)
theorem qm_263 : (.fieldLink RX8 146 "WeatherTea$Orders" "deeds" "[LWeatherTea$Kind;" : Cond) ∈ BIG := big_of (i := 263) (by decide +kernel) (by decide +kernel)
theorem qm_264 : (.fieldLink RX6 17 "WeatherTea$Orders" "targets" "[I" : Cond) ∈ BIG := big_of (i := 264) (by decide +kernel) (by decide +kernel)
theorem qm_265 : (.fieldLink RX8 150 "WeatherTea$Orders" "targets" "[I" : Cond) ∈ BIG := big_of (i := 265) (by decide +kernel) (by decide +kernel)
theorem qm_266 : (.fieldLink RX6 21 "WeatherTea$Orders" "firstSteps" "[I" : Cond) ∈ BIG := big_of (i := 266) (by decide +kernel) (by decide +kernel)
theorem qm_267 : (.fieldLink RX9 19 "WeatherTea$Orders" "firstSteps" "[I" : Cond) ∈ BIG := big_of (i := 267) (by decide +kernel) (by decide +kernel)
theorem qm_268 : (.fieldLink RX6 24 "WeatherTea$Orders" "endSteps" "[I" : Cond) ∈ BIG := big_of (i := 268) (by decide +kernel) (by decide +kernel)
theorem qm_269 : (.fieldLink RX9 24 "WeatherTea$Orders" "endSteps" "[I" : Cond) ∈ BIG := big_of (i := 269) (by decide +kernel) (by decide +kernel)
theorem qm_270 : (.fieldLink RX6 27 "WeatherTea$Orders" "stepKinds" "[LWeatherTea$Kind;" : Cond) ∈ BIG := big_of (i := 270) (by decide +kernel) (by decide +kernel)
theorem qm_271 : (.fieldLink RX9 27 "WeatherTea$Orders" "stepKinds" "[LWeatherTea$Kind;" : Cond) ∈ BIG := big_of (i := 271) (by decide +kernel) (by decide +kernel)
theorem qm_272 : (.fieldLink RX6 30 "WeatherTea$Orders" "stepValues" "[I" : Cond) ∈ BIG := big_of (i := 272) (by decide +kernel) (by decide +kernel)
theorem qm_273 : (.fieldLink RX9 31 "WeatherTea$Orders" "stepValues" "[I" : Cond) ∈ BIG := big_of (i := 273) (by decide +kernel) (by decide +kernel)
theorem qm_274 : (.fieldLink RX6 37 "WeatherTea$Orders" "count" "I" : Cond) ∈ BIG := big_of (i := 274) (by decide +kernel) (by decide +kernel)
theorem qm_275 : (.fieldLink RX7 35 "WeatherTea$Orders" "count" "I" : Cond) ∈ BIG := big_of (i := 275) (by decide +kernel) (by decide +kernel)
theorem qm_276 : (.fieldLink RX8 139 "WeatherTea$Orders" "count" "I" : Cond) ∈ BIG := big_of (i := 276) (by decide +kernel) (by decide +kernel)
theorem qm_277 : (.fieldLink RX7 36 "WeatherTea$Orders" "steps" "I" : Cond) ∈ BIG := big_of (i := 277) (by decide +kernel) (by decide +kernel)
theorem qm_278 : (.fieldLink RX6 41 "WeatherTea$Orders" "steps" "I" : Cond) ∈ BIG := big_of (i := 278) (by decide +kernel) (by decide +kernel)
theorem qm_279 : (.laysFinal RX6 RX6 "deeds" "[LWeatherTea$Kind;" : Cond) ∈ BIG := big_of (i := 279) (by decide +kernel) (by decide +kernel)
theorem qm_281 : (.laysFinal RX6 RX6 "targets" "[I" : Cond) ∈ BIG := big_of (i := 281) (by decide +kernel) (by decide +kernel)
theorem qm_283 : (.laysFinal RX6 RX6 "firstSteps" "[I" : Cond) ∈ BIG := big_of (i := 283) (by decide +kernel) (by decide +kernel)
theorem qm_285 : (.laysFinal RX6 RX6 "endSteps" "[I" : Cond) ∈ BIG := big_of (i := 285) (by decide +kernel) (by decide +kernel)
theorem qm_287 : (.laysFinal RX6 RX6 "stepKinds" "[LWeatherTea$Kind;" : Cond) ∈ BIG := big_of (i := 287) (by decide +kernel) (by decide +kernel)
theorem qm_289 : (.laysFinal RX6 RX6 "stepValues" "[I" : Cond) ∈ BIG := big_of (i := 289) (by decide +kernel) (by decide +kernel)
theorem qm_291 : (.lays RX6 RX6 "count" "I" : Cond) ∈ BIG := big_of (i := 291) (by decide +kernel) (by decide +kernel)
theorem qm_293 : (.lays RX6 RX6 "steps" "I" : Cond) ∈ BIG := big_of (i := 293) (by decide +kernel) (by decide +kernel)
theorem qm_296 : (.fieldLink RX7 10 "WeatherTea$Plan" "fronts" "LWeatherTea$Fronts;" : Cond) ∈ BIG := big_of (i := 296) (by decide +kernel) (by decide +kernel)
theorem qm_297 : (.fieldLink RX8 60 "WeatherTea$Plan" "fronts" "LWeatherTea$Fronts;" : Cond) ∈ BIG := big_of (i := 297) (by decide +kernel) (by decide +kernel)
theorem qm_298 : (.fieldLink RX1 61 "WeatherTea$Plan" "fronts" "LWeatherTea$Fronts;" : Cond) ∈ BIG := big_of (i := 298) (by decide +kernel) (by decide +kernel)
theorem qm_299 : (.fieldLink RX12 109 "WeatherTea$Plan" "fronts" "LWeatherTea$Fronts;" : Cond) ∈ BIG := big_of (i := 299) (by decide +kernel) (by decide +kernel)
theorem qm_300 : (.fieldLink RX7 19 "WeatherTea$Plan" "guests" "LWeatherTea$Guests;" : Cond) ∈ BIG := big_of (i := 300) (by decide +kernel) (by decide +kernel)
theorem qm_301 : (.fieldLink RX1 71 "WeatherTea$Plan" "guests" "LWeatherTea$Guests;" : Cond) ∈ BIG := big_of (i := 301) (by decide +kernel) (by decide +kernel)
theorem qm_302 : (.fieldLink RX8 77 "WeatherTea$Plan" "guests" "LWeatherTea$Guests;" : Cond) ∈ BIG := big_of (i := 302) (by decide +kernel) (by decide +kernel)
theorem qm_303 : (.fieldLink RX12 118 "WeatherTea$Plan" "guests" "LWeatherTea$Guests;" : Cond) ∈ BIG := big_of (i := 303) (by decide +kernel) (by decide +kernel)
theorem qm_304 : (.fieldLink RX7 26 "WeatherTea$Plan" "orders" "LWeatherTea$Orders;" : Cond) ∈ BIG := big_of (i := 304) (by decide +kernel) (by decide +kernel)
theorem qm_305 : (.fieldLink RX12 70 "WeatherTea$Plan" "orders" "LWeatherTea$Orders;" : Cond) ∈ BIG := big_of (i := 305) (by decide +kernel) (by decide +kernel)
theorem qm_306 : (.fieldLink RX8 135 "WeatherTea$Plan" "orders" "LWeatherTea$Orders;" : Cond) ∈ BIG := big_of (i := 306) (by decide +kernel) (by decide +kernel)
theorem qm_307 : (.laysFinal RX7 RX7 "fronts" "LWeatherTea$Fronts;" : Cond) ∈ BIG := big_of (i := 307) (by decide +kernel) (by decide +kernel)
theorem qm_309 : (.laysFinal RX7 RX7 "guests" "LWeatherTea$Guests;" : Cond) ∈ BIG := big_of (i := 309) (by decide +kernel) (by decide +kernel)
theorem qm_311 : (.laysFinal RX7 RX7 "orders" "LWeatherTea$Orders;" : Cond) ∈ BIG := big_of (i := 311) (by decide +kernel) (by decide +kernel)
theorem qm_314 : (.fieldLink RX8 12 "WeatherTea$Pot" "reckoner" "LWeatherTea$Reckoner;" : Cond) ∈ BIG := big_of (i := 314) (by decide +kernel) (by decide +kernel)
theorem qm_315 : (.fieldLink RX8 21 "WeatherTea$Pot" "plan" "LWeatherTea$Plan;" : Cond) ∈ BIG := big_of (i := 315) (by decide +kernel) (by decide +kernel)
theorem qm_316 : (.fieldLink RX12 102 "WeatherTea$Pot" "plan" "LWeatherTea$Plan;" : Cond) ∈ BIG := big_of (i := 316) (by decide +kernel) (by decide +kernel)
theorem qm_317 : (.fieldLink RX8 45 "WeatherTea$Pot" "hour" "I" : Cond) ∈ BIG := big_of (i := 317) (by decide +kernel) (by decide +kernel)
theorem qm_318 : (.fieldLink RX12 125 "WeatherTea$Pot" "hour" "I" : Cond) ∈ BIG := big_of (i := 318) (by decide +kernel) (by decide +kernel)
theorem qm_319 : (.fieldLink RX8 25 "WeatherTea$Pot" "warmth" "I" : Cond) ∈ BIG := big_of (i := 319) (by decide +kernel) (by decide +kernel)
theorem qm_320 : (.fieldLink RX12 128 "WeatherTea$Pot" "warmth" "I" : Cond) ∈ BIG := big_of (i := 320) (by decide +kernel) (by decide +kernel)
theorem qm_321 : (.fieldLink RX8 48 "WeatherTea$Pot" "strength" "I" : Cond) ∈ BIG := big_of (i := 321) (by decide +kernel) (by decide +kernel)
theorem qm_322 : (.fieldLink RX12 131 "WeatherTea$Pot" "strength" "I" : Cond) ∈ BIG := big_of (i := 322) (by decide +kernel) (by decide +kernel)
theorem qm_323 : (.fieldLink RX8 51 "WeatherTea$Pot" "charge" "I" : Cond) ∈ BIG := big_of (i := 323) (by decide +kernel) (by decide +kernel)
theorem qm_324 : (.fieldLink RX12 134 "WeatherTea$Pot" "charge" "I" : Cond) ∈ BIG := big_of (i := 324) (by decide +kernel) (by decide +kernel)
theorem qm_325 : (.fieldLink RX8 29 "WeatherTea$Pot" "lemons" "I" : Cond) ∈ BIG := big_of (i := 325) (by decide +kernel) (by decide +kernel)
theorem qm_326 : (.fieldLink RX12 137 "WeatherTea$Pot" "lemons" "I" : Cond) ∈ BIG := big_of (i := 326) (by decide +kernel) (by decide +kernel)
theorem qm_327 : (.fieldLink RX8 32 "WeatherTea$Pot" "saucers" "I" : Cond) ∈ BIG := big_of (i := 327) (by decide +kernel) (by decide +kernel)
theorem qm_328 : (.fieldLink RX12 140 "WeatherTea$Pot" "saucers" "I" : Cond) ∈ BIG := big_of (i := 328) (by decide +kernel) (by decide +kernel)
theorem qm_329 : (.fieldLink RX8 54 "WeatherTea$Pot" "coins" "I" : Cond) ∈ BIG := big_of (i := 329) (by decide +kernel) (by decide +kernel)
theorem qm_330 : (.fieldLink RX12 143 "WeatherTea$Pot" "coins" "I" : Cond) ∈ BIG := big_of (i := 330) (by decide +kernel) (by decide +kernel)
theorem qm_331 : (.fieldLink RX8 57 "WeatherTea$Pot" "storms" "I" : Cond) ∈ BIG := big_of (i := 331) (by decide +kernel) (by decide +kernel)
theorem qm_332 : (.fieldLink RX12 146 "WeatherTea$Pot" "storms" "I" : Cond) ∈ BIG := big_of (i := 332) (by decide +kernel) (by decide +kernel)
theorem qm_333 : (.fieldLink RX8 35 "WeatherTea$Pot" "frontSteeped" "[Z" : Cond) ∈ BIG := big_of (i := 333) (by decide +kernel) (by decide +kernel)
theorem qm_334 : (.fieldLink RX12 181 "WeatherTea$Pot" "frontSteeped" "[Z" : Cond) ∈ BIG := big_of (i := 334) (by decide +kernel) (by decide +kernel)
theorem qm_335 : (.fieldLink RX8 39 "WeatherTea$Pot" "guestServed" "[Z" : Cond) ∈ BIG := big_of (i := 335) (by decide +kernel) (by decide +kernel)
theorem qm_336 : (.fieldLink RX12 157 "WeatherTea$Pot" "guestServed" "[Z" : Cond) ∈ BIG := big_of (i := 336) (by decide +kernel) (by decide +kernel)
theorem qm_337 : (.fieldLink RX8 42 "WeatherTea$Pot" "guestStormed" "[Z" : Cond) ∈ BIG := big_of (i := 337) (by decide +kernel) (by decide +kernel)
theorem qm_338 : (.fieldLink RX12 165 "WeatherTea$Pot" "guestStormed" "[Z" : Cond) ∈ BIG := big_of (i := 338) (by decide +kernel) (by decide +kernel)
theorem qm_339 : (.laysFinal RX8 RX8 "reckoner" "LWeatherTea$Reckoner;" : Cond) ∈ BIG := big_of (i := 339) (by decide +kernel) (by decide +kernel)
theorem qm_341 : (.lays RX8 RX8 "plan" "LWeatherTea$Plan;" : Cond) ∈ BIG := big_of (i := 341) (by decide +kernel) (by decide +kernel)
theorem qm_343 : (.lays RX8 RX8 "hour" "I" : Cond) ∈ BIG := big_of (i := 343) (by decide +kernel) (by decide +kernel)
theorem qm_345 : (.lays RX8 RX8 "warmth" "I" : Cond) ∈ BIG := big_of (i := 345) (by decide +kernel) (by decide +kernel)
theorem qm_347 : (.lays RX8 RX8 "strength" "I" : Cond) ∈ BIG := big_of (i := 347) (by decide +kernel) (by decide +kernel)
theorem qm_349 : (.lays RX8 RX8 "charge" "I" : Cond) ∈ BIG := big_of (i := 349) (by decide +kernel) (by decide +kernel)
theorem qm_351 : (.lays RX8 RX8 "lemons" "I" : Cond) ∈ BIG := big_of (i := 351) (by decide +kernel) (by decide +kernel)
theorem qm_353 : (.lays RX8 RX8 "saucers" "I" : Cond) ∈ BIG := big_of (i := 353) (by decide +kernel) (by decide +kernel)
theorem qm_355 : (.lays RX8 RX8 "coins" "I" : Cond) ∈ BIG := big_of (i := 355) (by decide +kernel) (by decide +kernel)
theorem qm_357 : (.lays RX8 RX8 "storms" "I" : Cond) ∈ BIG := big_of (i := 357) (by decide +kernel) (by decide +kernel)
theorem qm_359 : (.laysFinal RX8 RX8 "frontSteeped" "[Z" : Cond) ∈ BIG := big_of (i := 359) (by decide +kernel) (by decide +kernel)
theorem qm_361 : (.laysFinal RX8 RX8 "guestServed" "[Z" : Cond) ∈ BIG := big_of (i := 361) (by decide +kernel) (by decide +kernel)
theorem qm_363 : (.laysFinal RX8 RX8 "guestStormed" "[Z" : Cond) ∈ BIG := big_of (i := 363) (by decide +kernel) (by decide +kernel)
theorem qm_366 : (.classLink RX12 33 RX7 : Cond) ∈ BIG := big_of (i := 366) (by decide +kernel) (by decide +kernel)
theorem qm_367 : (.methodLink RX12 35 yX7_init : Cond) ∈ BIG := big_of (i := 367) (by decide +kernel) (by decide +kernel)
theorem qm_368 : (.fieldLink RX12 10 "WeatherTea" "tape" "LWeatherTea$Tape;" : Cond) ∈ BIG := big_of (i := 368) (by decide +kernel) (by decide +kernel)
theorem qm_369 : (.fieldLink RX12 19 "WeatherTea" "tokens" "LWeatherTea$Tokens;" : Cond) ∈ BIG := big_of (i := 369) (by decide +kernel) (by decide +kernel)
theorem qm_370 : (.fieldLink RX12 26 "WeatherTea" "pot" "LWeatherTea$Pot;" : Cond) ∈ BIG := big_of (i := 370) (by decide +kernel) (by decide +kernel)
theorem qm_371 : (.fieldLink RX12 30 "WeatherTea" "trial" "LWeatherTea$Pot;" : Cond) ∈ BIG := big_of (i := 371) (by decide +kernel) (by decide +kernel)
theorem qm_372 : (.fieldLink RX12 36 "WeatherTea" "draft" "LWeatherTea$Plan;" : Cond) ∈ BIG := big_of (i := 372) (by decide +kernel) (by decide +kernel)
theorem qm_373 : (.fieldLink RX12 40 "WeatherTea" "errorPosition" "I" : Cond) ∈ BIG := big_of (i := 373) (by decide +kernel) (by decide +kernel)
theorem qm_374 : (.laysFinal RX12 RX12 "tape" "LWeatherTea$Tape;" : Cond) ∈ BIG := big_of (i := 374) (by decide +kernel) (by decide +kernel)
theorem qm_376 : (.laysFinal RX12 RX12 "tokens" "LWeatherTea$Tokens;" : Cond) ∈ BIG := big_of (i := 376) (by decide +kernel) (by decide +kernel)
theorem qm_378 : (.laysFinal RX12 RX12 "pot" "LWeatherTea$Pot;" : Cond) ∈ BIG := big_of (i := 378) (by decide +kernel) (by decide +kernel)
theorem qm_380 : (.laysFinal RX12 RX12 "trial" "LWeatherTea$Pot;" : Cond) ∈ BIG := big_of (i := 380) (by decide +kernel) (by decide +kernel)
theorem qm_382 : (.lays RX12 RX12 "draft" "LWeatherTea$Plan;" : Cond) ∈ BIG := big_of (i := 382) (by decide +kernel) (by decide +kernel)
theorem qm_384 : (.lays RX12 RX12 "errorPosition" "I" : Cond) ∈ BIG := big_of (i := 384) (by decide +kernel) (by decide +kernel)
theorem qm_387 : (.methodLink RL 90 yX12_teach : Cond) ∈ BIG := big_of (i := 387) (by decide +kernel) (by decide +kernel)
theorem qm_388 : (.instanceMethod yX12_teach : Cond) ∈ BIG := big_of (i := 388) (by decide +kernel) (by decide +kernel)
theorem qm_389 : (.selects RX12 yX12_teach yX12_teach : Cond) ∈ BIG := big_of (i := 389) (by decide +kernel) (by decide +kernel)
theorem qm_390 : (.code yX12_teach cX12_teach 2 (some .int) : Cond) ∈ BIG := big_of (i := 390) (by decide +kernel) (by decide +kernel)
theorem qm_391 : (.methodLink RX12 63 yX11_readAll : Cond) ∈ BIG := big_of (i := 391) (by decide +kernel) (by decide +kernel)
theorem qm_392 : (.instanceMethod yX11_readAll : Cond) ∈ BIG := big_of (i := 392) (by decide +kernel) (by decide +kernel)
theorem qm_393 : (.selects RX11 yX11_readAll yX11_readAll : Cond) ∈ BIG := big_of (i := 393) (by decide +kernel) (by decide +kernel)
theorem qm_394 : (.code yX11_readAll cX11_readAll 6 none : Cond) ∈ BIG := big_of (i := 394) (by decide +kernel) (by decide +kernel)
theorem qm_395 : (.methodLink RX11 42 yX11_behindBlanks : Cond) ∈ BIG := big_of (i := 395) (by decide +kernel) (by decide +kernel)
theorem qm_396 : (.static yX11_behindBlanks : Cond) ∈ BIG := big_of (i := 396) (by decide +kernel) (by decide +kernel)
theorem qm_397 : (.code yX11_behindBlanks cX11_behindBlanks 3 (some .int) : Cond) ∈ BIG := big_of (i := 397) (by decide +kernel) (by decide +kernel)
theorem qm_398 : (.methodLink RX11 69 yX10_byteAt : Cond) ∈ BIG := big_of (i := 398) (by decide +kernel) (by decide +kernel)
theorem qm_399 : (.instanceMethod yX10_byteAt : Cond) ∈ BIG := big_of (i := 399) (by decide +kernel) (by decide +kernel)
theorem qm_400 : (.selects RX10 yX10_byteAt yX10_byteAt : Cond) ∈ BIG := big_of (i := 400) (by decide +kernel) (by decide +kernel)
theorem qm_401 : (.code yX10_byteAt cX10_byteAt 2 (some .int) : Cond) ∈ BIG := big_of (i := 401) (by decide +kernel) (by decide +kernel)
theorem qm_402 : (.methodLink RX11 51 yX11_sizeOf : Cond) ∈ BIG := big_of (i := 402) (by decide +kernel) (by decide +kernel)
theorem qm_403 : (.static yX11_sizeOf : Cond) ∈ BIG := big_of (i := 403) (by decide +kernel) (by decide +kernel)
theorem qm_404 : (.code yX11_sizeOf cX11_sizeOf 4 (some .int) : Cond) ∈ BIG := big_of (i := 404) (by decide +kernel) (by decide +kernel)
theorem qm_405 : (.methodLink RX11 73 yX11_isLetter : Cond) ∈ BIG := big_of (i := 405) (by decide +kernel) (by decide +kernel)
theorem qm_406 : (.static yX11_isLetter : Cond) ∈ BIG := big_of (i := 406) (by decide +kernel) (by decide +kernel)
theorem qm_407 : (.code yX11_isLetter cX11_isLetter 1 (some .boolean) : Cond) ∈ BIG := big_of (i := 407) (by decide +kernel) (by decide +kernel)
theorem qm_408 : (.methodLink RX11 77 yX11_isDigit : Cond) ∈ BIG := big_of (i := 408) (by decide +kernel) (by decide +kernel)
theorem qm_409 : (.static yX11_isDigit : Cond) ∈ BIG := big_of (i := 409) (by decide +kernel) (by decide +kernel)
theorem qm_410 : (.code yX11_isDigit cX11_isDigit 1 (some .boolean) : Cond) ∈ BIG := big_of (i := 410) (by decide +kernel) (by decide +kernel)
theorem qm_411 : (.methodLink RX11 54 yX11_kindOf : Cond) ∈ BIG := big_of (i := 411) (by decide +kernel) (by decide +kernel)
theorem qm_412 : (.static yX11_kindOf : Cond) ∈ BIG := big_of (i := 412) (by decide +kernel) (by decide +kernel)
theorem qm_413 : (.code yX11_kindOf cX11_kindOf 5 (some (.object "WeatherTea$Kind")) : Cond) ∈ BIG := big_of (i := 413) (by decide +kernel) (by decide +kernel)
theorem qm_414 : (.fieldLink RX11 58 "WeatherTea$Kind" "BAD" "LWeatherTea$Kind;" : Cond) ∈ BIG := big_of (i := 414) (by decide +kernel) (by decide +kernel)
theorem qm_416 : (.fieldLink RX11 80 "WeatherTea$Kind" "NUMBER" "LWeatherTea$Kind;" : Cond) ∈ BIG := big_of (i := 416) (by decide +kernel) (by decide +kernel)
theorem qm_420 : (.methodLink RX11 90 yX10_hasText : Cond) ∈ BIG := big_of (i := 420) (by decide +kernel) (by decide +kernel)
theorem qm_421 : (.instanceMethod yX10_hasText : Cond) ∈ BIG := big_of (i := 421) (by decide +kernel) (by decide +kernel)
theorem qm_422 : (.selects RX10 yX10_hasText yX10_hasText : Cond) ∈ BIG := big_of (i := 422) (by decide +kernel) (by decide +kernel)
theorem qm_423 : (.code yX10_hasText cX10_hasText 5 (some .boolean) : Cond) ∈ BIG := big_of (i := 423) (by decide +kernel) (by decide +kernel)
theorem qm_424 : (.methodLink RX10 19 yJ0_length_8abf5 : Cond) ∈ BIG := big_of (i := 424) (by decide +kernel) (by decide +kernel)
theorem qm_425 : (.instanceMethod yJ0_length_8abf5 : Cond) ∈ BIG := big_of (i := 425) (by decide +kernel) (by decide +kernel)
theorem qm_426 : (.selects RJ0 yJ0_length_8abf5 yJ0_length_8abf5 : Cond) ∈ BIG := big_of (i := 426) (by decide +kernel) (by decide +kernel)
theorem qm_427 : (.code yJ0_length_8abf5 cJ0_length_8abf5 1 (some .int) : Cond) ∈ BIG := big_of (i := 427) (by decide +kernel) (by decide +kernel)
theorem qm_428 : (.methodLink RJ0 335 yJ0_coder_7d493 : Cond) ∈ BIG := big_of (i := 428) (by decide +kernel) (by decide +kernel)
theorem qm_429 : (.instanceMethod yJ0_coder_7d493 : Cond) ∈ BIG := big_of (i := 429) (by decide +kernel) (by decide +kernel)
theorem qm_430 : (.selects RJ0 yJ0_coder_7d493 yJ0_coder_7d493 : Cond) ∈ BIG := big_of (i := 430) (by decide +kernel) (by decide +kernel)
theorem qm_431 : (.code yJ0_coder_7d493 cJ0_coder_7d493 1 (some .byte) : Cond) ∈ BIG := big_of (i := 431) (by decide +kernel) (by decide +kernel)
theorem qm_432 : (.fieldLink RJ0 38 "java/lang/String" "COMPACT_STRINGS" "Z" : Cond) ∈ BIG := big_of (i := 432) (by decide +kernel) (by decide +kernel)
theorem qm_434 : (.methodLink RX10 24 yX10_byteAt : Cond) ∈ BIG := big_of (i := 434) (by decide +kernel) (by decide +kernel)
theorem qm_435 : (.methodLink RX10 28 yJ0_charAt_5068e : Cond) ∈ BIG := big_of (i := 435) (by decide +kernel) (by decide +kernel)
theorem qm_436 : (.instanceMethod yJ0_charAt_5068e : Cond) ∈ BIG := big_of (i := 436) (by decide +kernel) (by decide +kernel)
theorem qm_437 : (.selects RJ0 yJ0_charAt_5068e yJ0_charAt_5068e : Cond) ∈ BIG := big_of (i := 437) (by decide +kernel) (by decide +kernel)
theorem qm_438 : (.code yJ0_charAt_5068e cJ0_charAt_5068e 2 (some .char) : Cond) ∈ BIG := big_of (i := 438) (by decide +kernel) (by decide +kernel)
theorem qm_439 : (.methodLink RJ0 492 yJ0_isLatin1_aae02 : Cond) ∈ BIG := big_of (i := 439) (by decide +kernel) (by decide +kernel)
theorem qm_440 : (.instanceMethod yJ0_isLatin1_aae02 : Cond) ∈ BIG := big_of (i := 440) (by decide +kernel) (by decide +kernel)
theorem qm_441 : (.selects RJ0 yJ0_isLatin1_aae02 yJ0_isLatin1_aae02 : Cond) ∈ BIG := big_of (i := 441) (by decide +kernel) (by decide +kernel)
theorem qm_442 : (.code yJ0_isLatin1_aae02 cJ0_isLatin1_aae02 1 (some .boolean) : Cond) ∈ BIG := big_of (i := 442) (by decide +kernel) (by decide +kernel)
theorem qm_443 : (.methodLink RJ0 495 yJ1_charAt_3b067 : Cond) ∈ BIG := big_of (i := 443) (by decide +kernel) (by decide +kernel)
theorem qm_444 : (.static yJ1_charAt_3b067 : Cond) ∈ BIG := big_of (i := 444) (by decide +kernel) (by decide +kernel)
theorem qm_445 : (.code yJ1_charAt_3b067 cJ1_charAt_3b067 2 (some .char) : Cond) ∈ BIG := big_of (i := 445) (by decide +kernel) (by decide +kernel)
theorem qm_446 : (.methodLink RJ1 9 yJ0_checkIndex_df160 : Cond) ∈ BIG := big_of (i := 446) (by decide +kernel) (by decide +kernel)
theorem qm_447 : (.static yJ0_checkIndex_df160 : Cond) ∈ BIG := big_of (i := 447) (by decide +kernel) (by decide +kernel)
theorem qm_448 : (.code yJ0_checkIndex_df160 cJ0_checkIndex_df160 2 none : Cond) ∈ BIG := big_of (i := 448) (by decide +kernel) (by decide +kernel)
theorem qm_449 : (.fieldLink RJ0 1053 "jdk/internal/util/Preconditions" "SIOOBE_FORMATTER" "Ljava/util/function/BiFunction;" : Cond) ∈ BIG := big_of (i := 449) (by decide +kernel) (by decide +kernel)
theorem qm_451 : (.methodLink RJ0 1059 yJ3_checkIndex_8e157 : Cond) ∈ BIG := big_of (i := 451) (by decide +kernel) (by decide +kernel)
theorem qm_452 : (.static yJ3_checkIndex_8e157 : Cond) ∈ BIG := big_of (i := 452) (by decide +kernel) (by decide +kernel)
theorem qm_453 : (.code yJ3_checkIndex_8e157 cJ3_checkIndex_8e157 3 (some .int) : Cond) ∈ BIG := big_of (i := 453) (by decide +kernel) (by decide +kernel)
theorem qm_454 : (.methodLink RJ0 498 yJ2_charAt_3b067 : Cond) ∈ BIG := big_of (i := 454) (by decide +kernel) (by decide +kernel)
theorem qm_455 : (.static yJ2_charAt_3b067 : Cond) ∈ BIG := big_of (i := 455) (by decide +kernel) (by decide +kernel)
theorem qm_456 : (.code yJ2_charAt_3b067 cJ2_charAt_3b067 2 (some .char) : Cond) ∈ BIG := big_of (i := 456) (by decide +kernel) (by decide +kernel)
theorem qm_457 : (.methodLink RJ2 67 yJ2_checkIndex_2214a : Cond) ∈ BIG := big_of (i := 457) (by decide +kernel) (by decide +kernel)
theorem qm_458 : (.static yJ2_checkIndex_2214a : Cond) ∈ BIG := big_of (i := 458) (by decide +kernel) (by decide +kernel)
theorem qm_459 : (.code yJ2_checkIndex_2214a cJ2_checkIndex_2214a 2 none : Cond) ∈ BIG := big_of (i := 459) (by decide +kernel) (by decide +kernel)
theorem qm_460 : (.methodLink RJ2 48 yJ2_length_9d52b : Cond) ∈ BIG := big_of (i := 460) (by decide +kernel) (by decide +kernel)
theorem qm_461 : (.static yJ2_length_9d52b : Cond) ∈ BIG := big_of (i := 461) (by decide +kernel) (by decide +kernel)
theorem qm_462 : (.code yJ2_length_9d52b cJ2_length_9d52b 1 (some .int) : Cond) ∈ BIG := big_of (i := 462) (by decide +kernel) (by decide +kernel)
theorem qm_463 : (.methodLink RJ2 414 yJ0_checkIndex_df160 : Cond) ∈ BIG := big_of (i := 463) (by decide +kernel) (by decide +kernel)
theorem qm_464 : (.methodLink RJ2 71 yJ2_getChar_3b067 : Cond) ∈ BIG := big_of (i := 464) (by decide +kernel) (by decide +kernel)
theorem qm_465 : (.static yJ2_getChar_3b067 : Cond) ∈ BIG := big_of (i := 465) (by decide +kernel) (by decide +kernel)
theorem qm_466 : (.code yJ2_getChar_3b067 cJ2_getChar_3b067 2 (some .char) : Cond) ∈ BIG := big_of (i := 466) (by decide +kernel) (by decide +kernel)
theorem qm_467 : (.fieldLink RJ2 44 "java/lang/StringUTF16" "$assertionsDisabled" "Z" : Cond) ∈ BIG := big_of (i := 467) (by decide +kernel) (by decide +kernel)
theorem qm_469 : (.fieldLink RJ2 59 "java/lang/StringUTF16" "HI_BYTE_SHIFT" "I" : Cond) ∈ BIG := big_of (i := 469) (by decide +kernel) (by decide +kernel)
theorem qm_471 : (.fieldLink RJ2 63 "java/lang/StringUTF16" "LO_BYTE_SHIFT" "I" : Cond) ∈ BIG := big_of (i := 471) (by decide +kernel) (by decide +kernel)
theorem qm_473 : (.fieldLink RX11 94 "WeatherTea$Kind" "NAME" "LWeatherTea$Kind;" : Cond) ∈ BIG := big_of (i := 473) (by decide +kernel) (by decide +kernel)
theorem qm_475 : (.methodLink RX11 61 yX11_valueOf : Cond) ∈ BIG := big_of (i := 475) (by decide +kernel) (by decide +kernel)
theorem qm_476 : (.static yX11_valueOf : Cond) ∈ BIG := big_of (i := 476) (by decide +kernel) (by decide +kernel)
theorem qm_477 : (.code yX11_valueOf cX11_valueOf 8 (some .long) : Cond) ∈ BIG := big_of (i := 477) (by decide +kernel) (by decide +kernel)
theorem qm_478 : (.constantLong RX11 97 10 : Cond) ∈ BIG := big_of (i := 478) (by decide +kernel) (by decide +kernel)
theorem qm_479 : (.constantLong RX11 99 37 : Cond) ∈ BIG := big_of (i := 479) (by decide +kernel) (by decide +kernel)
theorem qm_480 : (.methodLink RX11 101 yX11_wordSign : Cond) ∈ BIG := big_of (i := 480) (by decide +kernel) (by decide +kernel)
theorem qm_481 : (.static yX11_wordSign : Cond) ∈ BIG := big_of (i := 481) (by decide +kernel) (by decide +kernel)
theorem qm_482 : (.code yX11_wordSign cX11_wordSign 1 (some .int) : Cond) ∈ BIG := big_of (i := 482) (by decide +kernel) (by decide +kernel)
theorem qm_483 : (.methodLink RX11 65 yX11_add : Cond) ∈ BIG := big_of (i := 483) (by decide +kernel) (by decide +kernel)
theorem qm_485 : (.instanceMethod yX11_add : Cond) ∈ BIG := big_of (i := 485) (by decide +kernel) (by decide +kernel)
theorem qm_486 : (.code yX11_add cX11_add 5 none : Cond) ∈ BIG := big_of (i := 486) (by decide +kernel) (by decide +kernel)
theorem qm_487 : (.methodLink RX12 67 yX7_clear : Cond) ∈ BIG := big_of (i := 487) (by decide +kernel) (by decide +kernel)
theorem qm_488 : (.instanceMethod yX7_clear : Cond) ∈ BIG := big_of (i := 488) (by decide +kernel) (by decide +kernel)
theorem qm_489 : (.selects RX7 yX7_clear yX7_clear : Cond) ∈ BIG := big_of (i := 489) (by decide +kernel) (by decide +kernel)
theorem qm_490 : (.code yX7_clear cX7_clear 1 none : Cond) ∈ BIG := big_of (i := 490) (by decide +kernel) (by decide +kernel)
theorem qm_491 : (.methodLink RX12 74 yX3_read : Cond) ∈ BIG := big_of (i := 491) (by decide +kernel) (by decide +kernel)
theorem qm_492 : (.static yX3_read : Cond) ∈ BIG := big_of (i := 492) (by decide +kernel) (by decide +kernel)
theorem qm_493 : (.code yX3_read cX3_read 4 none : Cond) ∈ BIG := big_of (i := 493) (by decide +kernel) (by decide +kernel)
theorem qm_494 : (.methodLink RX3 9 yX11_next : Cond) ∈ BIG := big_of (i := 494) (by decide +kernel) (by decide +kernel)
theorem qm_495 : (.instanceMethod yX11_next : Cond) ∈ BIG := big_of (i := 495) (by decide +kernel) (by decide +kernel)
theorem qm_496 : (.selects RX11 yX11_next yX11_next : Cond) ∈ BIG := big_of (i := 496) (by decide +kernel) (by decide +kernel)
theorem qm_497 : (.code yX11_next cX11_next 1 (some (.object "WeatherTea$Kind")) : Cond) ∈ BIG := big_of (i := 497) (by decide +kernel) (by decide +kernel)
theorem qm_498 : (.fieldLink RX3 15 "WeatherTea$Kind" "END" "LWeatherTea$Kind;" : Cond) ∈ BIG := big_of (i := 498) (by decide +kernel) (by decide +kernel)
theorem qm_499 : (.methodLink RX3 21 yX3_line : Cond) ∈ BIG := big_of (i := 499) (by decide +kernel) (by decide +kernel)
theorem qm_500 : (.static yX3_line : Cond) ∈ BIG := big_of (i := 500) (by decide +kernel) (by decide +kernel)
theorem qm_501 : (.code yX3_line cX3_line 2 (some .boolean) : Cond) ∈ BIG := big_of (i := 501) (by decide +kernel) (by decide +kernel)
theorem qm_502 : (.fieldLink RX3 42 "WeatherTea$Kind" "FRONT" "LWeatherTea$Kind;" : Cond) ∈ BIG := big_of (i := 502) (by decide +kernel) (by decide +kernel)
theorem qm_504 : (.methodLink RX3 30 yX11_take : Cond) ∈ BIG := big_of (i := 504) (by decide +kernel) (by decide +kernel)
theorem qm_505 : (.instanceMethod yX11_take : Cond) ∈ BIG := big_of (i := 505) (by decide +kernel) (by decide +kernel)
theorem qm_506 : (.selects RX11 yX11_take yX11_take : Cond) ∈ BIG := big_of (i := 506) (by decide +kernel) (by decide +kernel)
theorem qm_507 : (.code yX11_take cX11_take 2 (some .boolean) : Cond) ∈ BIG := big_of (i := 507) (by decide +kernel) (by decide +kernel)
theorem qm_508 : (.fieldLink RX3 45 "WeatherTea$Kind" "NAME" "LWeatherTea$Kind;" : Cond) ∈ BIG := big_of (i := 508) (by decide +kernel) (by decide +kernel)
theorem qm_509 : (.fieldLink RX3 48 "WeatherTea$Kind" "IS" "LWeatherTea$Kind;" : Cond) ∈ BIG := big_of (i := 509) (by decide +kernel) (by decide +kernel)
theorem qm_511 : (.fieldLink RX3 51 "WeatherTea$Kind" "WARM" "LWeatherTea$Kind;" : Cond) ∈ BIG := big_of (i := 511) (by decide +kernel) (by decide +kernel)
theorem qm_513 : (.fieldLink RX3 54 "WeatherTea$Kind" "COLD" "LWeatherTea$Kind;" : Cond) ∈ BIG := big_of (i := 513) (by decide +kernel) (by decide +kernel)
theorem qm_515 : (.fieldLink RX3 57 "WeatherTea$Kind" "FORCE" "LWeatherTea$Kind;" : Cond) ∈ BIG := big_of (i := 515) (by decide +kernel) (by decide +kernel)
theorem qm_517 : (.methodLink RX3 60 yX11_takeNumber : Cond) ∈ BIG := big_of (i := 517) (by decide +kernel) (by decide +kernel)
theorem qm_518 : (.instanceMethod yX11_takeNumber : Cond) ∈ BIG := big_of (i := 518) (by decide +kernel) (by decide +kernel)
theorem qm_519 : (.selects RX11 yX11_takeNumber yX11_takeNumber : Cond) ∈ BIG := big_of (i := 519) (by decide +kernel) (by decide +kernel)
theorem qm_520 : (.code yX11_takeNumber cX11_takeNumber 2 (some .boolean) : Cond) ∈ BIG := big_of (i := 520) (by decide +kernel) (by decide +kernel)
theorem qm_521 : (.methodLink RX11 107 yX11_take : Cond) ∈ BIG := big_of (i := 521) (by decide +kernel) (by decide +kernel)
theorem qm_522 : (.fieldLink RX3 63 "WeatherTea$Kind" "AT" "LWeatherTea$Kind;" : Cond) ∈ BIG := big_of (i := 522) (by decide +kernel) (by decide +kernel)
theorem qm_524 : (.fieldLink RX3 66 "WeatherTea$Kind" "FOR" "LWeatherTea$Kind;" : Cond) ∈ BIG := big_of (i := 524) (by decide +kernel) (by decide +kernel)
theorem qm_526 : (.fieldLink RX3 69 "WeatherTea$Kind" "GUEST" "LWeatherTea$Kind;" : Cond) ∈ BIG := big_of (i := 526) (by decide +kernel) (by decide +kernel)
theorem qm_528 : (.fieldLink RX3 72 "WeatherTea$Kind" "LIKES" "LWeatherTea$Kind;" : Cond) ∈ BIG := big_of (i := 528) (by decide +kernel) (by decide +kernel)
theorem qm_530 : (.fieldLink RX3 75 "WeatherTea$Kind" "TO" "LWeatherTea$Kind;" : Cond) ∈ BIG := big_of (i := 530) (by decide +kernel) (by decide +kernel)
theorem qm_532 : (.fieldLink RX3 78 "WeatherTea$Kind" "NERVE" "LWeatherTea$Kind;" : Cond) ∈ BIG := big_of (i := 532) (by decide +kernel) (by decide +kernel)
theorem qm_534 : (.methodLink RX3 81 yX3_order : Cond) ∈ BIG := big_of (i := 534) (by decide +kernel) (by decide +kernel)
theorem qm_535 : (.static yX3_order : Cond) ∈ BIG := big_of (i := 535) (by decide +kernel) (by decide +kernel)
theorem qm_536 : (.code yX3_order cX3_order 4 (some .boolean) : Cond) ∈ BIG := big_of (i := 536) (by decide +kernel) (by decide +kernel)
theorem qm_537 : (.fieldLink RX3 84 "WeatherTea$Kind" "STEEP" "LWeatherTea$Kind;" : Cond) ∈ BIG := big_of (i := 537) (by decide +kernel) (by decide +kernel)
theorem qm_539 : (.fieldLink RX3 87 "WeatherTea$Kind" "SERVE" "LWeatherTea$Kind;" : Cond) ∈ BIG := big_of (i := 539) (by decide +kernel) (by decide +kernel)
theorem qm_541 : (.methodLink RX3 90 yX6_add : Cond) ∈ BIG := big_of (i := 541) (by decide +kernel) (by decide +kernel)
theorem qm_542 : (.instanceMethod yX6_add : Cond) ∈ BIG := big_of (i := 542) (by decide +kernel) (by decide +kernel)
theorem qm_543 : (.selects RX6 yX6_add yX6_add : Cond) ∈ BIG := big_of (i := 543) (by decide +kernel) (by decide +kernel)
theorem qm_544 : (.code yX6_add cX6_add 3 none : Cond) ∈ BIG := big_of (i := 544) (by decide +kernel) (by decide +kernel)
theorem qm_545 : (.fieldLink RX3 96 "WeatherTea$Kind" "LEMON" "LWeatherTea$Kind;" : Cond) ∈ BIG := big_of (i := 545) (by decide +kernel) (by decide +kernel)
theorem qm_547 : (.fieldLink RX3 99 "WeatherTea$Kind" "SAUCER" "LWeatherTea$Kind;" : Cond) ∈ BIG := big_of (i := 547) (by decide +kernel) (by decide +kernel)
theorem qm_549 : (.fieldLink RX3 102 "WeatherTea$Kind" "WHEN" "LWeatherTea$Kind;" : Cond) ∈ BIG := big_of (i := 549) (by decide +kernel) (by decide +kernel)
theorem qm_551 : (.methodLink RX3 105 yX3_test : Cond) ∈ BIG := big_of (i := 551) (by decide +kernel) (by decide +kernel)
theorem qm_552 : (.static yX3_test : Cond) ∈ BIG := big_of (i := 552) (by decide +kernel) (by decide +kernel)
theorem qm_553 : (.code yX3_test cX3_test 5 (some .boolean) : Cond) ∈ BIG := big_of (i := 553) (by decide +kernel) (by decide +kernel)
theorem qm_554 : (.methodLink RX3 112 yX3_both : Cond) ∈ BIG := big_of (i := 554) (by decide +kernel) (by decide +kernel)
theorem qm_555 : (.static yX3_both : Cond) ∈ BIG := big_of (i := 555) (by decide +kernel) (by decide +kernel)
theorem qm_556 : (.code yX3_both cX3_both 5 (some .boolean) : Cond) ∈ BIG := big_of (i := 556) (by decide +kernel) (by decide +kernel)
theorem qm_557 : (.methodLink RX3 122 yX3_single : Cond) ∈ BIG := big_of (i := 557) (by decide +kernel) (by decide +kernel)
theorem qm_558 : (.static yX3_single : Cond) ∈ BIG := big_of (i := 558) (by decide +kernel) (by decide +kernel)
theorem qm_559 : (.code yX3_single cX3_single 4 (some .boolean) : Cond) ∈ BIG := big_of (i := 559) (by decide +kernel) (by decide +kernel)
theorem qm_560 : (.fieldLink RX3 128 "WeatherTea$1" "$SwitchMap$WeatherTea$Kind" "[I" : Cond) ∈ BIG := big_of (i := 560) (by decide +kernel) (by decide +kernel)
theorem qm_562 : (.methodLink RX3 134 ⟨RX5, "ordinal", "()I"⟩ : Cond) ∈ BIG := big_of (i := 562) (by decide +kernel) (by decide +kernel)
theorem qm_563 : (.sameMethod "WeatherTea$Kind" "java/lang/Enum" "ordinal" "()I" : Cond) ∈ BIG := big_of (i := 563) (by decide +kernel) (by decide +kernel)
theorem qm_565 : (.selects RX5 ⟨RX5, "ordinal", "()I"⟩ yJx29ce0_ordinal_8abf5 : Cond) ∈ BIG := big_of (i := 565) (by decide +kernel) (by decide +kernel)
theorem qm_566 : (.instanceMethod yJx29ce0_ordinal_8abf5 : Cond) ∈ BIG := big_of (i := 566) (by decide +kernel) (by decide +kernel)
theorem qm_567 : (.code yJx29ce0_ordinal_8abf5 cJx29ce0_ordinal_8abf5 1 (some .int) : Cond) ∈ BIG := big_of (i := 567) (by decide +kernel) (by decide +kernel)
theorem qm_568 : (.fieldLink RX3 138 "WeatherTea$Kind" "NOT" "LWeatherTea$Kind;" : Cond) ∈ BIG := big_of (i := 568) (by decide +kernel) (by decide +kernel)
theorem qm_570 : (.methodLink RX3 118 yX6_addStep : Cond) ∈ BIG := big_of (i := 570) (by decide +kernel) (by decide +kernel)
theorem qm_571 : (.instanceMethod yX6_addStep : Cond) ∈ BIG := big_of (i := 571) (by decide +kernel) (by decide +kernel)
theorem qm_572 : (.selects RX6 yX6_addStep yX6_addStep : Cond) ∈ BIG := big_of (i := 572) (by decide +kernel) (by decide +kernel)
theorem qm_573 : (.code yX6_addStep cX6_addStep 3 (some .boolean) : Cond) ∈ BIG := big_of (i := 573) (by decide +kernel) (by decide +kernel)
theorem qm_574 : (.fieldLink RX3 141 "WeatherTea$Kind" "OPEN_TEST" "LWeatherTea$Kind;" : Cond) ∈ BIG := big_of (i := 574) (by decide +kernel) (by decide +kernel)
theorem qm_576 : (.fieldLink RX3 144 "WeatherTea$Kind" "CLOSE_TEST" "LWeatherTea$Kind;" : Cond) ∈ BIG := big_of (i := 576) (by decide +kernel) (by decide +kernel)
theorem qm_578 : (.methodLink RX3 147 yX3_comparison : Cond) ∈ BIG := big_of (i := 578) (by decide +kernel) (by decide +kernel)
theorem qm_579 : (.static yX3_comparison : Cond) ∈ BIG := big_of (i := 579) (by decide +kernel) (by decide +kernel)
theorem qm_580 : (.code yX3_comparison cX3_comparison 5 (some .boolean) : Cond) ∈ BIG := big_of (i := 580) (by decide +kernel) (by decide +kernel)
theorem qm_581 : (.methodLink RX3 150 yX3_sum : Cond) ∈ BIG := big_of (i := 581) (by decide +kernel) (by decide +kernel)
theorem qm_582 : (.static yX3_sum : Cond) ∈ BIG := big_of (i := 582) (by decide +kernel) (by decide +kernel)
theorem qm_583 : (.code yX3_sum cX3_sum 6 (some .boolean) : Cond) ∈ BIG := big_of (i := 583) (by decide +kernel) (by decide +kernel)
theorem qm_584 : (.methodLink RX3 168 yX3_product : Cond) ∈ BIG := big_of (i := 584) (by decide +kernel) (by decide +kernel)
theorem qm_585 : (.static yX3_product : Cond) ∈ BIG := big_of (i := 585) (by decide +kernel) (by decide +kernel)
theorem qm_586 : (.code yX3_product cX3_product 6 (some .boolean) : Cond) ∈ BIG := big_of (i := 586) (by decide +kernel) (by decide +kernel)
theorem qm_587 : (.methodLink RX3 177 yX3_value : Cond) ∈ BIG := big_of (i := 587) (by decide +kernel) (by decide +kernel)
theorem qm_588 : (.static yX3_value : Cond) ∈ BIG := big_of (i := 588) (by decide +kernel) (by decide +kernel)
theorem qm_589 : (.code yX3_value cX3_value 4 (some .boolean) : Cond) ∈ BIG := big_of (i := 589) (by decide +kernel) (by decide +kernel)
theorem qm_590 : (.fieldLink RX3 186 "WeatherTea$Kind" "OF" "LWeatherTea$Kind;" : Cond) ∈ BIG := big_of (i := 590) (by decide +kernel) (by decide +kernel)
theorem qm_592 : (.fieldLink RX3 174 "WeatherTea$Kind" "MINUS" "LWeatherTea$Kind;" : Cond) ∈ BIG := big_of (i := 592) (by decide +kernel) (by decide +kernel)
theorem qm_594 : (.fieldLink RX3 189 "WeatherTea$Kind" "TURNED" "LWeatherTea$Kind;" : Cond) ∈ BIG := big_of (i := 594) (by decide +kernel) (by decide +kernel)
theorem qm_596 : (.fieldLink RX3 192 "WeatherTea$Kind" "OPEN" "LWeatherTea$Kind;" : Cond) ∈ BIG := big_of (i := 596) (by decide +kernel) (by decide +kernel)
theorem qm_598 : (.fieldLink RX3 195 "WeatherTea$Kind" "CLOSE" "LWeatherTea$Kind;" : Cond) ∈ BIG := big_of (i := 598) (by decide +kernel) (by decide +kernel)
theorem qm_600 : (.fieldLink RX3 198 "WeatherTea$Kind" "COMMA" "LWeatherTea$Kind;" : Cond) ∈ BIG := big_of (i := 600) (by decide +kernel) (by decide +kernel)
theorem qm_602 : (.fieldLink RX3 180 "WeatherTea$Kind" "TIMES" "LWeatherTea$Kind;" : Cond) ∈ BIG := big_of (i := 602) (by decide +kernel) (by decide +kernel)
theorem qm_604 : (.fieldLink RX3 183 "WeatherTea$Kind" "DIVIDED" "LWeatherTea$Kind;" : Cond) ∈ BIG := big_of (i := 604) (by decide +kernel) (by decide +kernel)
theorem qm_606 : (.fieldLink RX3 171 "WeatherTea$Kind" "PLUS" "LWeatherTea$Kind;" : Cond) ∈ BIG := big_of (i := 606) (by decide +kernel) (by decide +kernel)
theorem qm_608 : (.fieldLink RX3 153 "WeatherTea$Kind" "LESS" "LWeatherTea$Kind;" : Cond) ∈ BIG := big_of (i := 608) (by decide +kernel) (by decide +kernel)
theorem qm_610 : (.fieldLink RX3 156 "WeatherTea$Kind" "MORE" "LWeatherTea$Kind;" : Cond) ∈ BIG := big_of (i := 610) (by decide +kernel) (by decide +kernel)
theorem qm_612 : (.fieldLink RX3 159 "WeatherTea$Kind" "EQUAL" "LWeatherTea$Kind;" : Cond) ∈ BIG := big_of (i := 612) (by decide +kernel) (by decide +kernel)
theorem qm_614 : (.fieldLink RX3 162 "WeatherTea$Kind" "AT_MOST" "LWeatherTea$Kind;" : Cond) ∈ BIG := big_of (i := 614) (by decide +kernel) (by decide +kernel)
theorem qm_616 : (.fieldLink RX3 165 "WeatherTea$Kind" "AT_LEAST" "LWeatherTea$Kind;" : Cond) ∈ BIG := big_of (i := 616) (by decide +kernel) (by decide +kernel)
theorem qm_618 : (.fieldLink RX3 125 "WeatherTea$Kind" "AND" "LWeatherTea$Kind;" : Cond) ∈ BIG := big_of (i := 618) (by decide +kernel) (by decide +kernel)
theorem qm_620 : (.fieldLink RX3 115 "WeatherTea$Kind" "OR" "LWeatherTea$Kind;" : Cond) ∈ BIG := big_of (i := 620) (by decide +kernel) (by decide +kernel)
theorem qm_622 : (.methodLink RX3 109 yX6_endTest : Cond) ∈ BIG := big_of (i := 622) (by decide +kernel) (by decide +kernel)
theorem qm_623 : (.instanceMethod yX6_endTest : Cond) ∈ BIG := big_of (i := 623) (by decide +kernel) (by decide +kernel)
theorem qm_624 : (.selects RX6 yX6_endTest yX6_endTest : Cond) ∈ BIG := big_of (i := 624) (by decide +kernel) (by decide +kernel)
theorem qm_625 : (.code yX6_endTest cX6_endTest 1 none : Cond) ∈ BIG := big_of (i := 625) (by decide +kernel) (by decide +kernel)
theorem qm_626 : (.fieldLink RX3 27 "WeatherTea$Kind" "SEMICOLON" "LWeatherTea$Kind;" : Cond) ∈ BIG := big_of (i := 626) (by decide +kernel) (by decide +kernel)
theorem qm_628 : (.methodLink RX3 38 yX11_failUnless : Cond) ∈ BIG := big_of (i := 628) (by decide +kernel) (by decide +kernel)
theorem qm_629 : (.instanceMethod yX11_failUnless : Cond) ∈ BIG := big_of (i := 629) (by decide +kernel) (by decide +kernel)
theorem qm_630 : (.selects RX11 yX11_failUnless yX11_failUnless : Cond) ∈ BIG := big_of (i := 630) (by decide +kernel) (by decide +kernel)
theorem qm_631 : (.code yX11_failUnless cX11_failUnless 4 none : Cond) ∈ BIG := big_of (i := 631) (by decide +kernel) (by decide +kernel)
theorem qm_632 : (.methodLink RX12 83 yX1_check : Cond) ∈ BIG := big_of (i := 632) (by decide +kernel) (by decide +kernel)
theorem qm_633 : (.static yX1_check : Cond) ∈ BIG := big_of (i := 633) (by decide +kernel) (by decide +kernel)
theorem qm_634 : (.code yX1_check cX1_check 4 none : Cond) ∈ BIG := big_of (i := 634) (by decide +kernel) (by decide +kernel)
theorem qm_635 : (.methodLink RX1 18 yX11_kindAt : Cond) ∈ BIG := big_of (i := 635) (by decide +kernel) (by decide +kernel)
theorem qm_636 : (.instanceMethod yX11_kindAt : Cond) ∈ BIG := big_of (i := 636) (by decide +kernel) (by decide +kernel)
theorem qm_637 : (.selects RX11 yX11_kindAt yX11_kindAt : Cond) ∈ BIG := big_of (i := 637) (by decide +kernel) (by decide +kernel)
theorem qm_638 : (.code yX11_kindAt cX11_kindAt 2 (some (.object "WeatherTea$Kind")) : Cond) ∈ BIG := big_of (i := 638) (by decide +kernel) (by decide +kernel)
theorem qm_639 : (.methodLink RX11 104 yX11_has : Cond) ∈ BIG := big_of (i := 639) (by decide +kernel) (by decide +kernel)
theorem qm_640 : (.instanceMethod yX11_has : Cond) ∈ BIG := big_of (i := 640) (by decide +kernel) (by decide +kernel)
theorem qm_641 : (.selects RX11 yX11_has yX11_has : Cond) ∈ BIG := big_of (i := 641) (by decide +kernel) (by decide +kernel)
theorem qm_642 : (.code yX11_has cX11_has 2 (some .boolean) : Cond) ∈ BIG := big_of (i := 642) (by decide +kernel) (by decide +kernel)
theorem qm_643 : (.methodLink RX1 22 yX1_beginsOrder : Cond) ∈ BIG := big_of (i := 643) (by decide +kernel) (by decide +kernel)
theorem qm_644 : (.static yX1_beginsOrder : Cond) ∈ BIG := big_of (i := 644) (by decide +kernel) (by decide +kernel)
theorem qm_645 : (.code yX1_beginsOrder cX1_beginsOrder 1 (some .boolean) : Cond) ∈ BIG := big_of (i := 645) (by decide +kernel) (by decide +kernel)
theorem qm_646 : (.fieldLink RX1 36 "WeatherTea$Kind" "STEEP" "LWeatherTea$Kind;" : Cond) ∈ BIG := big_of (i := 646) (by decide +kernel) (by decide +kernel)
theorem qm_647 : (.fieldLink RX1 42 "WeatherTea$Kind" "SERVE" "LWeatherTea$Kind;" : Cond) ∈ BIG := big_of (i := 647) (by decide +kernel) (by decide +kernel)
theorem qm_648 : (.fieldLink RX1 45 "WeatherTea$Kind" "LEMON" "LWeatherTea$Kind;" : Cond) ∈ BIG := big_of (i := 648) (by decide +kernel) (by decide +kernel)
theorem qm_649 : (.fieldLink RX1 48 "WeatherTea$Kind" "SAUCER" "LWeatherTea$Kind;" : Cond) ∈ BIG := big_of (i := 649) (by decide +kernel) (by decide +kernel)
theorem qm_650 : (.methodLink RX1 28 yX11_failUnless : Cond) ∈ BIG := big_of (i := 650) (by decide +kernel) (by decide +kernel)
theorem qm_651 : (.methodLink RX1 32 yX1_checkBehind : Cond) ∈ BIG := big_of (i := 651) (by decide +kernel) (by decide +kernel)
theorem qm_652 : (.static yX1_checkBehind : Cond) ∈ BIG := big_of (i := 652) (by decide +kernel) (by decide +kernel)
theorem qm_653 : (.code yX1_checkBehind cX1_checkBehind 3 none : Cond) ∈ BIG := big_of (i := 653) (by decide +kernel) (by decide +kernel)
theorem qm_654 : (.fieldLink RX1 51 "WeatherTea$1" "$SwitchMap$WeatherTea$Kind" "[I" : Cond) ∈ BIG := big_of (i := 654) (by decide +kernel) (by decide +kernel)
theorem qm_655 : (.methodLink RX1 57 ⟨RX5, "ordinal", "()I"⟩ : Cond) ∈ BIG := big_of (i := 655) (by decide +kernel) (by decide +kernel)
theorem qm_656 : (.methodLink RX1 67 yX1_checkFront : Cond) ∈ BIG := big_of (i := 656) (by decide +kernel) (by decide +kernel)
theorem qm_657 : (.static yX1_checkFront : Cond) ∈ BIG := big_of (i := 657) (by decide +kernel) (by decide +kernel)
theorem qm_658 : (.code yX1_checkFront cX1_checkFront 9 none : Cond) ∈ BIG := big_of (i := 658) (by decide +kernel) (by decide +kernel)
theorem qm_659 : (.methodLink RX1 79 yX11_valueAt : Cond) ∈ BIG := big_of (i := 659) (by decide +kernel) (by decide +kernel)
theorem qm_660 : (.instanceMethod yX11_valueAt : Cond) ∈ BIG := big_of (i := 660) (by decide +kernel) (by decide +kernel)
theorem qm_661 : (.selects RX11 yX11_valueAt yX11_valueAt : Cond) ∈ BIG := big_of (i := 661) (by decide +kernel) (by decide +kernel)
theorem qm_662 : (.code yX11_valueAt cX11_valueAt 2 (some .long) : Cond) ∈ BIG := big_of (i := 662) (by decide +kernel) (by decide +kernel)
theorem qm_663 : (.methodLink RX1 83 yX2_find : Cond) ∈ BIG := big_of (i := 663) (by decide +kernel) (by decide +kernel)
theorem qm_664 : (.instanceMethod yX2_find : Cond) ∈ BIG := big_of (i := 664) (by decide +kernel) (by decide +kernel)
theorem qm_665 : (.selects RX2 yX2_find yX2_find : Cond) ∈ BIG := big_of (i := 665) (by decide +kernel) (by decide +kernel)
theorem qm_666 : (.code yX2_find cX2_find 4 (some .int) : Cond) ∈ BIG := big_of (i := 666) (by decide +kernel) (by decide +kernel)
theorem qm_667 : (.fieldLink RX1 101 "WeatherTea$Kind" "WARM" "LWeatherTea$Kind;" : Cond) ∈ BIG := big_of (i := 667) (by decide +kernel) (by decide +kernel)
theorem qm_668 : (.methodLink RX1 104 yX1_numberIn : Cond) ∈ BIG := big_of (i := 668) (by decide +kernel) (by decide +kernel)
theorem qm_669 : (.static yX1_numberIn : Cond) ∈ BIG := big_of (i := 669) (by decide +kernel) (by decide +kernel)
theorem qm_670 : (.code yX1_numberIn cX1_numberIn 5 (some .int) : Cond) ∈ BIG := big_of (i := 670) (by decide +kernel) (by decide +kernel)
theorem qm_671 : (.methodLink RX1 108 yX2_add : Cond) ∈ BIG := big_of (i := 671) (by decide +kernel) (by decide +kernel)
theorem qm_672 : (.instanceMethod yX2_add : Cond) ∈ BIG := big_of (i := 672) (by decide +kernel) (by decide +kernel)
theorem qm_673 : (.selects RX2 yX2_add yX2_add : Cond) ∈ BIG := big_of (i := 673) (by decide +kernel) (by decide +kernel)
theorem qm_674 : (.code yX2_add cX2_add 7 none : Cond) ∈ BIG := big_of (i := 674) (by decide +kernel) (by decide +kernel)
theorem qm_675 : (.methodLink RX1 75 yX1_checkGuest : Cond) ∈ BIG := big_of (i := 675) (by decide +kernel) (by decide +kernel)
theorem qm_676 : (.static yX1_checkGuest : Cond) ∈ BIG := big_of (i := 676) (by decide +kernel) (by decide +kernel)
theorem qm_677 : (.code yX1_checkGuest cX1_checkGuest 9 none : Cond) ∈ BIG := big_of (i := 677) (by decide +kernel) (by decide +kernel)
theorem qm_678 : (.methodLink RX1 93 yX4_find : Cond) ∈ BIG := big_of (i := 678) (by decide +kernel) (by decide +kernel)
theorem qm_679 : (.instanceMethod yX4_find : Cond) ∈ BIG := big_of (i := 679) (by decide +kernel) (by decide +kernel)
theorem qm_680 : (.selects RX4 yX4_find yX4_find : Cond) ∈ BIG := big_of (i := 680) (by decide +kernel) (by decide +kernel)
theorem qm_681 : (.code yX4_find cX4_find 4 (some .int) : Cond) ∈ BIG := big_of (i := 681) (by decide +kernel) (by decide +kernel)
theorem qm_682 : (.methodLink RX1 113 yX4_add : Cond) ∈ BIG := big_of (i := 682) (by decide +kernel) (by decide +kernel)
theorem qm_683 : (.instanceMethod yX4_add : Cond) ∈ BIG := big_of (i := 683) (by decide +kernel) (by decide +kernel)
theorem qm_684 : (.selects RX4 yX4_add yX4_add : Cond) ∈ BIG := big_of (i := 684) (by decide +kernel) (by decide +kernel)
theorem qm_685 : (.code yX4_add cX4_add 7 none : Cond) ∈ BIG := big_of (i := 685) (by decide +kernel) (by decide +kernel)
theorem qm_686 : (.methodLink RX1 89 yX1_checkNamed : Cond) ∈ BIG := big_of (i := 686) (by decide +kernel) (by decide +kernel)
theorem qm_687 : (.static yX1_checkNamed : Cond) ∈ BIG := big_of (i := 687) (by decide +kernel) (by decide +kernel)
theorem qm_688 : (.code yX1_checkNamed cX1_checkNamed 3 none : Cond) ∈ BIG := big_of (i := 688) (by decide +kernel) (by decide +kernel)
theorem qm_689 : (.methodLink RX1 96 yX11_setValue : Cond) ∈ BIG := big_of (i := 689) (by decide +kernel) (by decide +kernel)
theorem qm_690 : (.instanceMethod yX11_setValue : Cond) ∈ BIG := big_of (i := 690) (by decide +kernel) (by decide +kernel)
theorem qm_691 : (.selects RX11 yX11_setValue yX11_setValue : Cond) ∈ BIG := big_of (i := 691) (by decide +kernel) (by decide +kernel)
theorem qm_692 : (.code yX11_setValue cX11_setValue 3 none : Cond) ∈ BIG := big_of (i := 692) (by decide +kernel) (by decide +kernel)
theorem qm_693 : (.methodLink RX12 92 yX11_startAt : Cond) ∈ BIG := big_of (i := 693) (by decide +kernel) (by decide +kernel)
theorem qm_694 : (.instanceMethod yX11_startAt : Cond) ∈ BIG := big_of (i := 694) (by decide +kernel) (by decide +kernel)
theorem qm_695 : (.selects RX11 yX11_startAt yX11_startAt : Cond) ∈ BIG := big_of (i := 695) (by decide +kernel) (by decide +kernel)
theorem qm_696 : (.code yX11_startAt cX11_startAt 2 (some .int) : Cond) ∈ BIG := big_of (i := 696) (by decide +kernel) (by decide +kernel)
theorem qm_697 : (.methodLink RX12 96 yX6_resolve : Cond) ∈ BIG := big_of (i := 697) (by decide +kernel) (by decide +kernel)
theorem qm_698 : (.instanceMethod yX6_resolve : Cond) ∈ BIG := big_of (i := 698) (by decide +kernel) (by decide +kernel)
theorem qm_699 : (.selects RX6 yX6_resolve yX6_resolve : Cond) ∈ BIG := big_of (i := 699) (by decide +kernel) (by decide +kernel)
theorem qm_700 : (.code yX6_resolve cX6_resolve 3 none : Cond) ∈ BIG := big_of (i := 700) (by decide +kernel) (by decide +kernel)
theorem qm_701 : (.methodLink RX6 44 yX11_valueAt : Cond) ∈ BIG := big_of (i := 701) (by decide +kernel) (by decide +kernel)
theorem qm_702 : (.methodLink RX12 105 yX8_begin : Cond) ∈ BIG := big_of (i := 702) (by decide +kernel) (by decide +kernel)
theorem qm_703 : (.instanceMethod yX8_begin : Cond) ∈ BIG := big_of (i := 703) (by decide +kernel) (by decide +kernel)
theorem qm_704 : (.selects RX8 yX8_begin yX8_begin : Cond) ∈ BIG := big_of (i := 704) (by decide +kernel) (by decide +kernel)
theorem qm_705 : (.code yX8_begin cX8_begin 3 none : Cond) ∈ BIG := big_of (i := 705) (by decide +kernel) (by decide +kernel)
theorem qm_706 : (.methodLink RL 94 yX12_errorAt : Cond) ∈ BIG := big_of (i := 706) (by decide +kernel) (by decide +kernel)
theorem qm_707 : (.instanceMethod yX12_errorAt : Cond) ∈ BIG := big_of (i := 707) (by decide +kernel) (by decide +kernel)
theorem qm_708 : (.selects RX12 yX12_errorAt yX12_errorAt : Cond) ∈ BIG := big_of (i := 708) (by decide +kernel) (by decide +kernel)
theorem qm_709 : (.code yX12_errorAt cX12_errorAt 1 (some .int) : Cond) ∈ BIG := big_of (i := 709) (by decide +kernel) (by decide +kernel)
theorem qm_710 : (.methodLink RL 98 yX12_fronts : Cond) ∈ BIG := big_of (i := 710) (by decide +kernel) (by decide +kernel)
theorem qm_711 : (.instanceMethod yX12_fronts : Cond) ∈ BIG := big_of (i := 711) (by decide +kernel) (by decide +kernel)
theorem qm_712 : (.selects RX12 yX12_fronts yX12_fronts : Cond) ∈ BIG := big_of (i := 712) (by decide +kernel) (by decide +kernel)
theorem qm_713 : (.code yX12_fronts cX12_fronts 1 (some .int) : Cond) ∈ BIG := big_of (i := 713) (by decide +kernel) (by decide +kernel)
theorem qm_714 : (.methodLink RL 102 yX12_guests : Cond) ∈ BIG := big_of (i := 714) (by decide +kernel) (by decide +kernel)
theorem qm_715 : (.instanceMethod yX12_guests : Cond) ∈ BIG := big_of (i := 715) (by decide +kernel) (by decide +kernel)
theorem qm_716 : (.selects RX12 yX12_guests yX12_guests : Cond) ∈ BIG := big_of (i := 716) (by decide +kernel) (by decide +kernel)
theorem qm_717 : (.code yX12_guests cX12_guests 1 (some .int) : Cond) ∈ BIG := big_of (i := 717) (by decide +kernel) (by decide +kernel)
theorem qm_718 : (.methodLink RL 106 yX12_hour : Cond) ∈ BIG := big_of (i := 718) (by decide +kernel) (by decide +kernel)
theorem qm_719 : (.instanceMethod yX12_hour : Cond) ∈ BIG := big_of (i := 719) (by decide +kernel) (by decide +kernel)
theorem qm_720 : (.selects RX12 yX12_hour yX12_hour : Cond) ∈ BIG := big_of (i := 720) (by decide +kernel) (by decide +kernel)
theorem qm_721 : (.code yX12_hour cX12_hour 1 (some .int) : Cond) ∈ BIG := big_of (i := 721) (by decide +kernel) (by decide +kernel)
theorem qm_722 : (.methodLink RL 110 yX12_warmth : Cond) ∈ BIG := big_of (i := 722) (by decide +kernel) (by decide +kernel)
theorem qm_723 : (.instanceMethod yX12_warmth : Cond) ∈ BIG := big_of (i := 723) (by decide +kernel) (by decide +kernel)
theorem qm_724 : (.selects RX12 yX12_warmth yX12_warmth : Cond) ∈ BIG := big_of (i := 724) (by decide +kernel) (by decide +kernel)
theorem qm_725 : (.code yX12_warmth cX12_warmth 1 (some .int) : Cond) ∈ BIG := big_of (i := 725) (by decide +kernel) (by decide +kernel)
theorem qm_726 : (.methodLink RL 114 yX12_strength : Cond) ∈ BIG := big_of (i := 726) (by decide +kernel) (by decide +kernel)
theorem qm_727 : (.instanceMethod yX12_strength : Cond) ∈ BIG := big_of (i := 727) (by decide +kernel) (by decide +kernel)
theorem qm_728 : (.selects RX12 yX12_strength yX12_strength : Cond) ∈ BIG := big_of (i := 728) (by decide +kernel) (by decide +kernel)
theorem qm_729 : (.code yX12_strength cX12_strength 1 (some .int) : Cond) ∈ BIG := big_of (i := 729) (by decide +kernel) (by decide +kernel)
theorem qm_730 : (.methodLink RL 118 yX12_charge : Cond) ∈ BIG := big_of (i := 730) (by decide +kernel) (by decide +kernel)
theorem qm_731 : (.instanceMethod yX12_charge : Cond) ∈ BIG := big_of (i := 731) (by decide +kernel) (by decide +kernel)
theorem qm_732 : (.selects RX12 yX12_charge yX12_charge : Cond) ∈ BIG := big_of (i := 732) (by decide +kernel) (by decide +kernel)
theorem qm_733 : (.code yX12_charge cX12_charge 1 (some .int) : Cond) ∈ BIG := big_of (i := 733) (by decide +kernel) (by decide +kernel)
theorem qm_734 : (.methodLink RL 122 yX12_lemons : Cond) ∈ BIG := big_of (i := 734) (by decide +kernel) (by decide +kernel)
theorem qm_735 : (.instanceMethod yX12_lemons : Cond) ∈ BIG := big_of (i := 735) (by decide +kernel) (by decide +kernel)
theorem qm_736 : (.selects RX12 yX12_lemons yX12_lemons : Cond) ∈ BIG := big_of (i := 736) (by decide +kernel) (by decide +kernel)
theorem qm_737 : (.code yX12_lemons cX12_lemons 1 (some .int) : Cond) ∈ BIG := big_of (i := 737) (by decide +kernel) (by decide +kernel)
theorem qm_738 : (.methodLink RL 126 yX12_saucers : Cond) ∈ BIG := big_of (i := 738) (by decide +kernel) (by decide +kernel)
theorem qm_739 : (.instanceMethod yX12_saucers : Cond) ∈ BIG := big_of (i := 739) (by decide +kernel) (by decide +kernel)
theorem qm_740 : (.selects RX12 yX12_saucers yX12_saucers : Cond) ∈ BIG := big_of (i := 740) (by decide +kernel) (by decide +kernel)
theorem qm_741 : (.code yX12_saucers cX12_saucers 1 (some .int) : Cond) ∈ BIG := big_of (i := 741) (by decide +kernel) (by decide +kernel)
theorem qm_742 : (.methodLink RL 130 yX12_coins : Cond) ∈ BIG := big_of (i := 742) (by decide +kernel) (by decide +kernel)
theorem qm_743 : (.instanceMethod yX12_coins : Cond) ∈ BIG := big_of (i := 743) (by decide +kernel) (by decide +kernel)
theorem qm_744 : (.selects RX12 yX12_coins yX12_coins : Cond) ∈ BIG := big_of (i := 744) (by decide +kernel) (by decide +kernel)
theorem qm_745 : (.code yX12_coins cX12_coins 1 (some .int) : Cond) ∈ BIG := big_of (i := 745) (by decide +kernel) (by decide +kernel)
theorem qm_746 : (.methodLink RL 134 yX12_storms : Cond) ∈ BIG := big_of (i := 746) (by decide +kernel) (by decide +kernel)
theorem qm_747 : (.instanceMethod yX12_storms : Cond) ∈ BIG := big_of (i := 747) (by decide +kernel) (by decide +kernel)
theorem qm_748 : (.selects RX12 yX12_storms yX12_storms : Cond) ∈ BIG := big_of (i := 748) (by decide +kernel) (by decide +kernel)
theorem qm_749 : (.code yX12_storms cX12_storms 1 (some .int) : Cond) ∈ BIG := big_of (i := 749) (by decide +kernel) (by decide +kernel)
theorem qm_750 : (.methodLink RL 138 yX12_seatedGuests : Cond) ∈ BIG := big_of (i := 750) (by decide +kernel) (by decide +kernel)
theorem qm_751 : (.instanceMethod yX12_seatedGuests : Cond) ∈ BIG := big_of (i := 751) (by decide +kernel) (by decide +kernel)
theorem qm_752 : (.selects RX12 yX12_seatedGuests yX12_seatedGuests : Cond) ∈ BIG := big_of (i := 752) (by decide +kernel) (by decide +kernel)
theorem qm_753 : (.code yX12_seatedGuests cX12_seatedGuests 3 (some .int) : Cond) ∈ BIG := big_of (i := 753) (by decide +kernel) (by decide +kernel)
theorem qm_754 : (.methodLink RX12 149 yX8_sits : Cond) ∈ BIG := big_of (i := 754) (by decide +kernel) (by decide +kernel)
theorem qm_755 : (.instanceMethod yX8_sits : Cond) ∈ BIG := big_of (i := 755) (by decide +kernel) (by decide +kernel)
theorem qm_756 : (.selects RX8 yX8_sits yX8_sits : Cond) ∈ BIG := big_of (i := 756) (by decide +kernel) (by decide +kernel)
theorem qm_757 : (.code yX8_sits cX8_sits 3 (some .boolean) : Cond) ∈ BIG := big_of (i := 757) (by decide +kernel) (by decide +kernel)
theorem qm_758 : (.methodLink RX8 81 yX4_has : Cond) ∈ BIG := big_of (i := 758) (by decide +kernel) (by decide +kernel)
theorem qm_759 : (.instanceMethod yX4_has : Cond) ∈ BIG := big_of (i := 759) (by decide +kernel) (by decide +kernel)
theorem qm_760 : (.selects RX4 yX4_has yX4_has : Cond) ∈ BIG := big_of (i := 760) (by decide +kernel) (by decide +kernel)
theorem qm_761 : (.code yX4_has cX4_has 2 (some .boolean) : Cond) ∈ BIG := big_of (i := 761) (by decide +kernel) (by decide +kernel)
theorem qm_762 : (.methodLink RX12 153 yX12_oneIf : Cond) ∈ BIG := big_of (i := 762) (by decide +kernel) (by decide +kernel)
theorem qm_763 : (.static yX12_oneIf : Cond) ∈ BIG := big_of (i := 763) (by decide +kernel) (by decide +kernel)
theorem qm_764 : (.code yX12_oneIf cX12_oneIf 1 (some .int) : Cond) ∈ BIG := big_of (i := 764) (by decide +kernel) (by decide +kernel)
theorem qm_765 : (.methodLink RL 142 yX12_served : Cond) ∈ BIG := big_of (i := 765) (by decide +kernel) (by decide +kernel)
theorem qm_766 : (.instanceMethod yX12_served : Cond) ∈ BIG := big_of (i := 766) (by decide +kernel) (by decide +kernel)
theorem qm_767 : (.selects RX12 yX12_served yX12_served : Cond) ∈ BIG := big_of (i := 767) (by decide +kernel) (by decide +kernel)
theorem qm_768 : (.code yX12_served cX12_served 1 (some .int) : Cond) ∈ BIG := big_of (i := 768) (by decide +kernel) (by decide +kernel)
theorem qm_769 : (.methodLink RX12 161 yX12_countTrue : Cond) ∈ BIG := big_of (i := 769) (by decide +kernel) (by decide +kernel)
theorem qm_770 : (.static yX12_countTrue : Cond) ∈ BIG := big_of (i := 770) (by decide +kernel) (by decide +kernel)
theorem qm_771 : (.code yX12_countTrue cX12_countTrue 4 (some .int) : Cond) ∈ BIG := big_of (i := 771) (by decide +kernel) (by decide +kernel)
theorem qm_772 : (.methodLink RL 146 yX12_stormed : Cond) ∈ BIG := big_of (i := 772) (by decide +kernel) (by decide +kernel)
theorem qm_773 : (.instanceMethod yX12_stormed : Cond) ∈ BIG := big_of (i := 773) (by decide +kernel) (by decide +kernel)
theorem qm_774 : (.selects RX12 yX12_stormed yX12_stormed : Cond) ∈ BIG := big_of (i := 774) (by decide +kernel) (by decide +kernel)
theorem qm_775 : (.code yX12_stormed cX12_stormed 1 (some .int) : Cond) ∈ BIG := big_of (i := 775) (by decide +kernel) (by decide +kernel)
theorem qm_776 : (.methodLink RL 196 yX12_hoursUntilStorm : Cond) ∈ BIG := big_of (i := 776) (by decide +kernel) (by decide +kernel)
theorem qm_777 : (.instanceMethod yX12_hoursUntilStorm : Cond) ∈ BIG := big_of (i := 777) (by decide +kernel) (by decide +kernel)
theorem qm_778 : (.selects RX12 yX12_hoursUntilStorm yX12_hoursUntilStorm : Cond) ∈ BIG := big_of (i := 778) (by decide +kernel) (by decide +kernel)
theorem qm_779 : (.code yX12_hoursUntilStorm cX12_hoursUntilStorm 2 (some .int) : Cond) ∈ BIG := big_of (i := 779) (by decide +kernel) (by decide +kernel)
theorem qm_780 : (.methodLink RX12 220 yX8_copyFrom : Cond) ∈ BIG := big_of (i := 780) (by decide +kernel) (by decide +kernel)
theorem qm_781 : (.instanceMethod yX8_copyFrom : Cond) ∈ BIG := big_of (i := 781) (by decide +kernel) (by decide +kernel)
theorem qm_782 : (.selects RX8 yX8_copyFrom yX8_copyFrom : Cond) ∈ BIG := big_of (i := 782) (by decide +kernel) (by decide +kernel)
theorem qm_783 : (.code yX8_copyFrom cX8_copyFrom 3 none : Cond) ∈ BIG := big_of (i := 783) (by decide +kernel) (by decide +kernel)
theorem qm_784 : (.methodLink RX12 217 yX8_passHour : Cond) ∈ BIG := big_of (i := 784) (by decide +kernel) (by decide +kernel)
theorem qm_785 : (.instanceMethod yX8_passHour : Cond) ∈ BIG := big_of (i := 785) (by decide +kernel) (by decide +kernel)
theorem qm_786 : (.selects RX8 yX8_passHour yX8_passHour : Cond) ∈ BIG := big_of (i := 786) (by decide +kernel) (by decide +kernel)
theorem qm_787 : (.code yX8_passHour cX8_passHour 2 none : Cond) ∈ BIG := big_of (i := 787) (by decide +kernel) (by decide +kernel)
theorem qm_788 : (.methodLink RX8 142 yX9_holds : Cond) ∈ BIG := big_of (i := 788) (by decide +kernel) (by decide +kernel)
theorem qm_789 : (.instanceMethod yX9_holds : Cond) ∈ BIG := big_of (i := 789) (by decide +kernel) (by decide +kernel)
theorem qm_790 : (.selects RX9 yX9_holds yX9_holds : Cond) ∈ BIG := big_of (i := 790) (by decide +kernel) (by decide +kernel)
theorem qm_791 : (.code yX9_holds cX9_holds 5 (some .boolean) : Cond) ∈ BIG := big_of (i := 791) (by decide +kernel) (by decide +kernel)
theorem qm_792 : (.methodLink RX9 34 yX9_step : Cond) ∈ BIG := big_of (i := 792) (by decide +kernel) (by decide +kernel)
theorem qm_794 : (.instanceMethod yX9_step : Cond) ∈ BIG := big_of (i := 794) (by decide +kernel) (by decide +kernel)
theorem qm_795 : (.code yX9_step cX9_step 4 none : Cond) ∈ BIG := big_of (i := 795) (by decide +kernel) (by decide +kernel)
theorem qm_796 : (.fieldLink RX9 42 "WeatherTea$1" "$SwitchMap$WeatherTea$Kind" "[I" : Cond) ∈ BIG := big_of (i := 796) (by decide +kernel) (by decide +kernel)
theorem qm_797 : (.methodLink RX9 47 ⟨RX5, "ordinal", "()I"⟩ : Cond) ∈ BIG := big_of (i := 797) (by decide +kernel) (by decide +kernel)
theorem qm_798 : (.methodLink RX9 52 yX9_push : Cond) ∈ BIG := big_of (i := 798) (by decide +kernel) (by decide +kernel)
theorem qm_800 : (.instanceMethod yX9_push : Cond) ∈ BIG := big_of (i := 800) (by decide +kernel) (by decide +kernel)
theorem qm_801 : (.code yX9_push cX9_push 2 none : Cond) ∈ BIG := big_of (i := 801) (by decide +kernel) (by decide +kernel)
theorem qm_802 : (.methodLink RX9 56 yX8_standsFor : Cond) ∈ BIG := big_of (i := 802) (by decide +kernel) (by decide +kernel)
theorem qm_803 : (.instanceMethod yX8_standsFor : Cond) ∈ BIG := big_of (i := 803) (by decide +kernel) (by decide +kernel)
theorem qm_804 : (.selects RX8 yX8_standsFor yX8_standsFor : Cond) ∈ BIG := big_of (i := 804) (by decide +kernel) (by decide +kernel)
theorem qm_805 : (.code yX8_standsFor cX8_standsFor 3 (some .int) : Cond) ∈ BIG := big_of (i := 805) (by decide +kernel) (by decide +kernel)
theorem qm_806 : (.fieldLink RX8 118 "WeatherTea$1" "$SwitchMap$WeatherTea$Kind" "[I" : Cond) ∈ BIG := big_of (i := 806) (by decide +kernel) (by decide +kernel)
theorem qm_807 : (.methodLink RX8 123 ⟨RX5, "ordinal", "()I"⟩ : Cond) ∈ BIG := big_of (i := 807) (by decide +kernel) (by decide +kernel)
theorem qm_808 : (.methodLink RX8 64 yX2_has : Cond) ∈ BIG := big_of (i := 808) (by decide +kernel) (by decide +kernel)
theorem qm_809 : (.instanceMethod yX2_has : Cond) ∈ BIG := big_of (i := 809) (by decide +kernel) (by decide +kernel)
theorem qm_810 : (.selects RX2 yX2_has yX2_has : Cond) ∈ BIG := big_of (i := 810) (by decide +kernel) (by decide +kernel)
theorem qm_811 : (.code yX2_has cX2_has 2 (some .boolean) : Cond) ∈ BIG := big_of (i := 811) (by decide +kernel) (by decide +kernel)
theorem qm_812 : (.methodLink RX8 129 yX8_hangsOver : Cond) ∈ BIG := big_of (i := 812) (by decide +kernel) (by decide +kernel)
theorem qm_813 : (.instanceMethod yX8_hangsOver : Cond) ∈ BIG := big_of (i := 813) (by decide +kernel) (by decide +kernel)
theorem qm_814 : (.selects RX8 yX8_hangsOver yX8_hangsOver : Cond) ∈ BIG := big_of (i := 814) (by decide +kernel) (by decide +kernel)
theorem qm_815 : (.code yX8_hangsOver cX8_hangsOver 3 (some .boolean) : Cond) ∈ BIG := big_of (i := 815) (by decide +kernel) (by decide +kernel)
theorem qm_817 : (.methodLink RX8 85 yX8_sits : Cond) ∈ BIG := big_of (i := 817) (by decide +kernel) (by decide +kernel)
theorem qm_818 : (.methodLink RX8 101 yX8_wouldLike : Cond) ∈ BIG := big_of (i := 818) (by decide +kernel) (by decide +kernel)
theorem qm_819 : (.instanceMethod yX8_wouldLike : Cond) ∈ BIG := big_of (i := 819) (by decide +kernel) (by decide +kernel)
theorem qm_820 : (.selects RX8 yX8_wouldLike yX8_wouldLike : Cond) ∈ BIG := big_of (i := 820) (by decide +kernel) (by decide +kernel)
theorem qm_821 : (.code yX8_wouldLike cX8_wouldLike 3 (some .boolean) : Cond) ∈ BIG := big_of (i := 821) (by decide +kernel) (by decide +kernel)
theorem qm_822 : (.methodLink RX9 38 yX9_pop : Cond) ∈ BIG := big_of (i := 822) (by decide +kernel) (by decide +kernel)
theorem qm_824 : (.instanceMethod yX9_pop : Cond) ∈ BIG := big_of (i := 824) (by decide +kernel) (by decide +kernel)
theorem qm_825 : (.code yX9_pop cX9_pop 1 (some .int) : Cond) ∈ BIG := big_of (i := 825) (by decide +kernel) (by decide +kernel)
theorem qm_827 : (.methodLink RX9 66 yX9_joinTwo : Cond) ∈ BIG := big_of (i := 827) (by decide +kernel) (by decide +kernel)
theorem qm_829 : (.instanceMethod yX9_joinTwo : Cond) ∈ BIG := big_of (i := 829) (by decide +kernel) (by decide +kernel)
theorem qm_830 : (.code yX9_joinTwo cX9_joinTwo 4 none : Cond) ∈ BIG := big_of (i := 830) (by decide +kernel) (by decide +kernel)
theorem qm_831 : (.methodLink RX9 70 yX9_join : Cond) ∈ BIG := big_of (i := 831) (by decide +kernel) (by decide +kernel)
theorem qm_832 : (.static yX9_join : Cond) ∈ BIG := big_of (i := 832) (by decide +kernel) (by decide +kernel)
theorem qm_833 : (.code yX9_join cX9_join 3 (some .int) : Cond) ∈ BIG := big_of (i := 833) (by decide +kernel) (by decide +kernel)
theorem qm_834 : (.methodLink RX9 74 yJ9_min_7cf53 : Cond) ∈ BIG := big_of (i := 834) (by decide +kernel) (by decide +kernel)
theorem qm_835 : (.static yJ9_min_7cf53 : Cond) ∈ BIG := big_of (i := 835) (by decide +kernel) (by decide +kernel)
theorem qm_836 : (.code yJ9_min_7cf53 cJ9_min_7cf53 2 (some .int) : Cond) ∈ BIG := big_of (i := 836) (by decide +kernel) (by decide +kernel)
theorem qm_837 : (.methodLink RX9 80 yJ9_max_7cf53 : Cond) ∈ BIG := big_of (i := 837) (by decide +kernel) (by decide +kernel)
theorem qm_838 : (.static yJ9_max_7cf53 : Cond) ∈ BIG := big_of (i := 838) (by decide +kernel) (by decide +kernel)
theorem qm_839 : (.code yJ9_max_7cf53 cJ9_max_7cf53 2 (some .int) : Cond) ∈ BIG := big_of (i := 839) (by decide +kernel) (by decide +kernel)
theorem qm_840 : (.methodLink RX8 153 yX8_follow : Cond) ∈ BIG := big_of (i := 840) (by decide +kernel) (by decide +kernel)
theorem qm_842 : (.instanceMethod yX8_follow : Cond) ∈ BIG := big_of (i := 842) (by decide +kernel) (by decide +kernel)
theorem qm_843 : (.code yX8_follow cX8_follow 3 none : Cond) ∈ BIG := big_of (i := 843) (by decide +kernel) (by decide +kernel)
theorem qm_844 : (.methodLink RX8 163 yX8_steepFront : Cond) ∈ BIG := big_of (i := 844) (by decide +kernel) (by decide +kernel)
theorem qm_845 : (.instanceMethod yX8_steepFront : Cond) ∈ BIG := big_of (i := 845) (by decide +kernel) (by decide +kernel)
theorem qm_846 : (.selects RX8 yX8_steepFront yX8_steepFront : Cond) ∈ BIG := big_of (i := 846) (by decide +kernel) (by decide +kernel)
theorem qm_847 : (.code yX8_steepFront cX8_steepFront 2 (some .boolean) : Cond) ∈ BIG := big_of (i := 847) (by decide +kernel) (by decide +kernel)
theorem qm_848 : (.methodLink RX8 94 yX8_strengthWith : Cond) ∈ BIG := big_of (i := 848) (by decide +kernel) (by decide +kernel)
theorem qm_850 : (.instanceMethod yX8_strengthWith : Cond) ∈ BIG := big_of (i := 850) (by decide +kernel) (by decide +kernel)
theorem qm_851 : (.code yX8_strengthWith cX8_strengthWith 3 (some .int) : Cond) ∈ BIG := big_of (i := 851) (by decide +kernel) (by decide +kernel)
theorem qm_852 : (.methodLink RX8 112 yJ9_min_7cf53 : Cond) ∈ BIG := big_of (i := 852) (by decide +kernel) (by decide +kernel)
theorem qm_853 : (.methodLink RX8 166 yX8_squeezeLemon : Cond) ∈ BIG := big_of (i := 853) (by decide +kernel) (by decide +kernel)
theorem qm_854 : (.instanceMethod yX8_squeezeLemon : Cond) ∈ BIG := big_of (i := 854) (by decide +kernel) (by decide +kernel)
theorem qm_855 : (.selects RX8 yX8_squeezeLemon yX8_squeezeLemon : Cond) ∈ BIG := big_of (i := 855) (by decide +kernel) (by decide +kernel)
theorem qm_856 : (.code yX8_squeezeLemon cX8_squeezeLemon 1 (some .boolean) : Cond) ∈ BIG := big_of (i := 856) (by decide +kernel) (by decide +kernel)
theorem qm_857 : (.methodLink RX8 170 yX8_putSaucer : Cond) ∈ BIG := big_of (i := 857) (by decide +kernel) (by decide +kernel)
theorem qm_858 : (.instanceMethod yX8_putSaucer : Cond) ∈ BIG := big_of (i := 858) (by decide +kernel) (by decide +kernel)
theorem qm_859 : (.selects RX8 yX8_putSaucer yX8_putSaucer : Cond) ∈ BIG := big_of (i := 859) (by decide +kernel) (by decide +kernel)
theorem qm_860 : (.code yX8_putSaucer cX8_putSaucer 1 (some .boolean) : Cond) ∈ BIG := big_of (i := 860) (by decide +kernel) (by decide +kernel)
theorem qm_861 : (.methodLink RX8 132 yJ9_max_7cf53 : Cond) ∈ BIG := big_of (i := 861) (by decide +kernel) (by decide +kernel)
theorem qm_862 : (.methodLink RX8 173 yX8_serveGuest : Cond) ∈ BIG := big_of (i := 862) (by decide +kernel) (by decide +kernel)
theorem qm_863 : (.instanceMethod yX8_serveGuest : Cond) ∈ BIG := big_of (i := 863) (by decide +kernel) (by decide +kernel)
theorem qm_864 : (.selects RX8 yX8_serveGuest yX8_serveGuest : Cond) ∈ BIG := big_of (i := 864) (by decide +kernel) (by decide +kernel)
theorem qm_865 : (.code yX8_serveGuest cX8_serveGuest 2 (some .boolean) : Cond) ∈ BIG := big_of (i := 865) (by decide +kernel) (by decide +kernel)
theorem qm_866 : (.methodLink RX8 157 yX8_blow : Cond) ∈ BIG := big_of (i := 866) (by decide +kernel) (by decide +kernel)
theorem qm_868 : (.instanceMethod yX8_blow : Cond) ∈ BIG := big_of (i := 868) (by decide +kernel) (by decide +kernel)
theorem qm_869 : (.code yX8_blow cX8_blow 4 none : Cond) ∈ BIG := big_of (i := 869) (by decide +kernel) (by decide +kernel)
theorem qm_870 : (.methodLink RX8 180 yJ6_compare_7cf53 : Cond) ∈ BIG := big_of (i := 870) (by decide +kernel) (by decide +kernel)
theorem qm_871 : (.static yJ6_compare_7cf53 : Cond) ∈ BIG := big_of (i := 871) (by decide +kernel) (by decide +kernel)
theorem qm_872 : (.code yJ6_compare_7cf53 cJ6_compare_7cf53 2 (some .int) : Cond) ∈ BIG := big_of (i := 872) (by decide +kernel) (by decide +kernel)
theorem qm_873 : (.methodLink RX8 160 yX8_storm : Cond) ∈ BIG := big_of (i := 873) (by decide +kernel) (by decide +kernel)
theorem qm_875 : (.instanceMethod yX8_storm : Cond) ∈ BIG := big_of (i := 875) (by decide +kernel) (by decide +kernel)
theorem qm_876 : (.code yX8_storm cX8_storm 2 none : Cond) ∈ BIG := big_of (i := 876) (by decide +kernel) (by decide +kernel)
theorem qm_877 : (.methodLink RL 203 yX12_bestToSteep : Cond) ∈ BIG := big_of (i := 877) (by decide +kernel) (by decide +kernel)
theorem qm_878 : (.instanceMethod yX12_bestToSteep : Cond) ∈ BIG := big_of (i := 878) (by decide +kernel) (by decide +kernel)
theorem qm_879 : (.selects RX12 yX12_bestToSteep yX12_bestToSteep : Cond) ∈ BIG := big_of (i := 879) (by decide +kernel) (by decide +kernel)
theorem qm_880 : (.code yX12_bestToSteep cX12_bestToSteep 5 (some .int) : Cond) ∈ BIG := big_of (i := 880) (by decide +kernel) (by decide +kernel)
theorem qm_881 : (.methodLink RX12 178 yX8_hangsOver : Cond) ∈ BIG := big_of (i := 881) (by decide +kernel) (by decide +kernel)
theorem qm_882 : (.methodLink RX12 224 yX8_contentIfSteeped : Cond) ∈ BIG := big_of (i := 882) (by decide +kernel) (by decide +kernel)
theorem qm_883 : (.instanceMethod yX8_contentIfSteeped : Cond) ∈ BIG := big_of (i := 883) (by decide +kernel) (by decide +kernel)
theorem qm_884 : (.selects RX8 yX8_contentIfSteeped yX8_contentIfSteeped : Cond) ∈ BIG := big_of (i := 884) (by decide +kernel) (by decide +kernel)
theorem qm_885 : (.code yX8_contentIfSteeped cX8_contentIfSteeped 5 (some .int) : Cond) ∈ BIG := big_of (i := 885) (by decide +kernel) (by decide +kernel)
theorem qm_886 : (.methodLink RL 207 yX12_meanForce : Cond) ∈ BIG := big_of (i := 886) (by decide +kernel) (by decide +kernel)
theorem qm_887 : (.instanceMethod yX12_meanForce : Cond) ∈ BIG := big_of (i := 887) (by decide +kernel) (by decide +kernel)
theorem qm_888 : (.selects RX12 yX12_meanForce yX12_meanForce : Cond) ∈ BIG := big_of (i := 888) (by decide +kernel) (by decide +kernel)
theorem qm_889 : (.code yX12_meanForce cX12_meanForce 4 (some .double) : Cond) ∈ BIG := big_of (i := 889) (by decide +kernel) (by decide +kernel)
theorem qm_890 : (.methodLink RL 212 yX12_digest : Cond) ∈ BIG := big_of (i := 890) (by decide +kernel) (by decide +kernel)
theorem qm_891 : (.instanceMethod yX12_digest : Cond) ∈ BIG := big_of (i := 891) (by decide +kernel) (by decide +kernel)
theorem qm_892 : (.selects RX12 yX12_digest yX12_digest : Cond) ∈ BIG := big_of (i := 892) (by decide +kernel) (by decide +kernel)
theorem qm_893 : (.code yX12_digest cX12_digest 4 (some .long) : Cond) ∈ BIG := big_of (i := 893) (by decide +kernel) (by decide +kernel)
theorem qm_894 : (.constantLong RX12 227 1033 : Cond) ∈ BIG := big_of (i := 894) (by decide +kernel) (by decide +kernel)
theorem qm_895 : (.constantLong RX12 229 31 : Cond) ∈ BIG := big_of (i := 895) (by decide +kernel) (by decide +kernel)
theorem qm_896 : (.methodLink RX12 231 yX12_fronts : Cond) ∈ BIG := big_of (i := 896) (by decide +kernel) (by decide +kernel)
theorem qm_897 : (.methodLink RX12 234 yX12_guests : Cond) ∈ BIG := big_of (i := 897) (by decide +kernel) (by decide +kernel)
theorem qm_898 : (.methodLink RX12 236 yX12_hour : Cond) ∈ BIG := big_of (i := 898) (by decide +kernel) (by decide +kernel)
theorem qm_899 : (.methodLink RX12 238 yX12_warmth : Cond) ∈ BIG := big_of (i := 899) (by decide +kernel) (by decide +kernel)
theorem qm_900 : (.methodLink RX12 240 yX12_strength : Cond) ∈ BIG := big_of (i := 900) (by decide +kernel) (by decide +kernel)
theorem qm_901 : (.methodLink RX12 242 yX12_charge : Cond) ∈ BIG := big_of (i := 901) (by decide +kernel) (by decide +kernel)
theorem qm_902 : (.methodLink RX12 244 yX12_lemons : Cond) ∈ BIG := big_of (i := 902) (by decide +kernel) (by decide +kernel)
theorem qm_903 : (.methodLink RX12 246 yX12_saucers : Cond) ∈ BIG := big_of (i := 903) (by decide +kernel) (by decide +kernel)
theorem qm_904 : (.methodLink RX12 248 yX12_coins : Cond) ∈ BIG := big_of (i := 904) (by decide +kernel) (by decide +kernel)
theorem qm_905 : (.methodLink RX12 250 yX12_storms : Cond) ∈ BIG := big_of (i := 905) (by decide +kernel) (by decide +kernel)
theorem qm_906 : (.methodLink RX12 252 yX12_seatedGuests : Cond) ∈ BIG := big_of (i := 906) (by decide +kernel) (by decide +kernel)
theorem qm_907 : (.methodLink RX12 255 yX12_served : Cond) ∈ BIG := big_of (i := 907) (by decide +kernel) (by decide +kernel)
theorem qm_908 : (.methodLink RX12 258 yX12_stormed : Cond) ∈ BIG := big_of (i := 908) (by decide +kernel) (by decide +kernel)
theorem qm_909 : (.methodLink RX12 261 yX12_bestToSteep : Cond) ∈ BIG := big_of (i := 909) (by decide +kernel) (by decide +kernel)
theorem qm_910 : (.methodLink RX12 187 yX8_wouldLike : Cond) ∈ BIG := big_of (i := 910) (by decide +kernel) (by decide +kernel)
theorem qm_911 : (.methodLink RL 77 yL_feed : Cond) ∈ BIG := big_of (i := 911) (by decide +kernel) (by decide +kernel)
theorem qm_912 : (.static yL_feed : Cond) ∈ BIG := big_of (i := 912) (by decide +kernel) (by decide +kernel)
theorem qm_913 : (.codeWith yL_feed cL_feed 8 (some .int) [(0, 16, 19, 13)] : Cond) ∈ BIG := big_of (i := 913) (by decide +kernel) (by decide +kernel)
theorem qm_914 : (.classLink RL 13 "java/lang/IllegalStateException" : Cond) ∈ BIG := big_of (i := 914) (by decide +kernel) (by decide +kernel)
theorem qm_915 : (.methodLink RL 7 yX12_feed : Cond) ∈ BIG := big_of (i := 915) (by decide +kernel) (by decide +kernel)
theorem qm_916 : (.instanceMethod yX12_feed : Cond) ∈ BIG := big_of (i := 916) (by decide +kernel) (by decide +kernel)
theorem qm_917 : (.selects RX12 yX12_feed yX12_feed : Cond) ∈ BIG := big_of (i := 917) (by decide +kernel) (by decide +kernel)
theorem qm_918 : (.code yX12_feed cX12_feed 6 (some .int) : Cond) ∈ BIG := big_of (i := 918) (by decide +kernel) (by decide +kernel)
theorem qm_919 : (.classLink RX12 47 "java/lang/IllegalStateException" : Cond) ∈ BIG := big_of (i := 919) (by decide +kernel) (by decide +kernel)
theorem qm_920 : (.instantiable "java/lang/IllegalStateException" 6 : Cond) ∈ BIG := big_of (i := 920) (by decide +kernel) (by decide +kernel)
theorem qm_928 : (.selects "java/lang/IllegalStateException" ⟨"java/lang/Throwable", "fillInStackTrace", "(I)Ljava/lang/Throwable;"⟩ ⟨"java/lang/Throwable", "fillInStackTrace", "(I)Ljava/lang/Throwable;"⟩ : Cond) ∈ BIG := big_of (i := 928) (by decide +kernel) (by decide +kernel)
theorem qm_929 : (.selects "java/lang/IllegalStateException" ⟨"java/lang/Throwable", "fillInStackTrace", "()Ljava/lang/Throwable;"⟩ ⟨"java/lang/Throwable", "fillInStackTrace", "()Ljava/lang/Throwable;"⟩ : Cond) ∈ BIG := big_of (i := 929) (by decide +kernel) (by decide +kernel)
theorem qm_930 : (.lays "java/lang/IllegalStateException" "java/lang/Throwable" "cause" "Ljava/lang/Throwable;" : Cond) ∈ BIG := big_of (i := 930) (by decide +kernel) (by decide +kernel)
theorem qm_931 : (.lays "java/lang/Throwable" "java/lang/Throwable" "cause" "Ljava/lang/Throwable;" : Cond) ∈ BIG := big_of (i := 931) (by decide +kernel) (by decide +kernel)
theorem qm_932 : (.lays "java/lang/IllegalStateException" "java/lang/Throwable" "stackTrace" "[Ljava/lang/StackTraceElement;" : Cond) ∈ BIG := big_of (i := 932) (by decide +kernel) (by decide +kernel)
theorem qm_933 : (.lays "java/lang/Throwable" "java/lang/Throwable" "stackTrace" "[Ljava/lang/StackTraceElement;" : Cond) ∈ BIG := big_of (i := 933) (by decide +kernel) (by decide +kernel)
theorem qm_934 : (.lays "java/lang/IllegalStateException" "java/lang/Throwable" "suppressedExceptions" "Ljava/util/List;" : Cond) ∈ BIG := big_of (i := 934) (by decide +kernel) (by decide +kernel)
theorem qm_935 : (.lays "java/lang/Throwable" "java/lang/Throwable" "suppressedExceptions" "Ljava/util/List;" : Cond) ∈ BIG := big_of (i := 935) (by decide +kernel) (by decide +kernel)
theorem qm_936 : (.lays "java/lang/IllegalStateException" "java/lang/Throwable" "detailMessage" "Ljava/lang/String;" : Cond) ∈ BIG := big_of (i := 936) (by decide +kernel) (by decide +kernel)
theorem qm_937 : (.lays "java/lang/Throwable" "java/lang/Throwable" "detailMessage" "Ljava/lang/String;" : Cond) ∈ BIG := big_of (i := 937) (by decide +kernel) (by decide +kernel)
theorem qm_938 : (.lays "java/lang/IllegalStateException" "java/lang/Throwable" "backtrace" "Ljava/lang/Object;" : Cond) ∈ BIG := big_of (i := 938) (by decide +kernel) (by decide +kernel)
theorem qm_939 : (.lays "java/lang/Throwable" "java/lang/Throwable" "backtrace" "Ljava/lang/Object;" : Cond) ∈ BIG := big_of (i := 939) (by decide +kernel) (by decide +kernel)
theorem qm_940 : (.fieldLink "java/lang/Throwable" 198 "java/lang/Throwable" "backtrace" "Ljava/lang/Object;" : Cond) ∈ BIG := big_of (i := 940) (by decide +kernel) (by decide +kernel)
theorem qm_942 : (.instanceMethod ⟨"java/lang/Throwable", "<init>", "()V"⟩ : Cond) ∈ BIG := big_of (i := 942) (by decide +kernel) (by decide +kernel)
theorem qm_943 : (.code ⟨"java/lang/Throwable", "<init>", "()V"⟩ prog_29_method_1_code 1 none : Cond) ∈ BIG := big_of (i := 943) (by decide +kernel) (by decide +kernel)
theorem qm_944 : (.methodLink "java/lang/Throwable" 1 ⟨"java/lang/Object", "<init>", "()V"⟩ : Cond) ∈ BIG := big_of (i := 944) (by decide +kernel) (by decide +kernel)
theorem qm_945 : (.fieldLink "java/lang/Throwable" 13 "java/lang/Throwable" "UNASSIGNED_STACK" "[Ljava/lang/StackTraceElement;" : Cond) ∈ BIG := big_of (i := 945) (by decide +kernel) (by decide +kernel)
theorem qm_947 : (.fieldLink "java/lang/Throwable" 20 "java/lang/Throwable" "SUPPRESSED_SENTINEL" "Ljava/util/List;" : Cond) ∈ BIG := big_of (i := 947) (by decide +kernel) (by decide +kernel)
theorem qm_949 : (.methodLink "java/lang/Throwable" 27 ⟨"java/lang/Throwable", "fillInStackTrace", "()Ljava/lang/Throwable;"⟩ : Cond) ∈ BIG := big_of (i := 949) (by decide +kernel) (by decide +kernel)
theorem qm_950 : (.instanceMethod ⟨"java/lang/Throwable", "fillInStackTrace", "()Ljava/lang/Throwable;"⟩ : Cond) ∈ BIG := big_of (i := 950) (by decide +kernel) (by decide +kernel)
theorem qm_951 : (.sameMethod "java/lang/Throwable" "java/lang/Throwable" "fillInStackTrace" "()Ljava/lang/Throwable;" : Cond) ∈ BIG := big_of (i := 951) (by decide +kernel) (by decide +kernel)
theorem qm_952 : (.selects "java/lang/IllegalArgumentException" ⟨"java/lang/Throwable", "fillInStackTrace", "()Ljava/lang/Throwable;"⟩ ⟨"java/lang/Throwable", "fillInStackTrace", "()Ljava/lang/Throwable;"⟩ : Cond) ∈ BIG := big_of (i := 952) (by decide +kernel) (by decide +kernel)
theorem qm_953 : (.selects "java/lang/IndexOutOfBoundsException" ⟨"java/lang/Throwable", "fillInStackTrace", "()Ljava/lang/Throwable;"⟩ ⟨"java/lang/Throwable", "fillInStackTrace", "()Ljava/lang/Throwable;"⟩ : Cond) ∈ BIG := big_of (i := 953) (by decide +kernel) (by decide +kernel)
theorem qm_955 : (.methodLink "java/lang/Throwable" 202 ⟨"java/lang/Throwable", "fillInStackTrace", "(I)Ljava/lang/Throwable;"⟩ : Cond) ∈ BIG := big_of (i := 955) (by decide +kernel) (by decide +kernel)
theorem qm_957 : (.instanceMethod ⟨"java/lang/Throwable", "fillInStackTrace", "(I)Ljava/lang/Throwable;"⟩ : Cond) ∈ BIG := big_of (i := 957) (by decide +kernel) (by decide +kernel)
theorem qm_958 : (.instantiable "java/lang/Throwable" 6 : Cond) ∈ BIG := big_of (i := 958) (by decide +kernel) (by decide +kernel)
theorem qm_959 : (.native ⟨"java/lang/Throwable", "fillInStackTrace", "(I)Ljava/lang/Throwable;"⟩ : Cond) ∈ BIG := big_of (i := 959) (by decide +kernel) (by decide +kernel)
theorem qm_961 : (.methodLink RX12 51 ⟨"java/lang/IllegalStateException", "<init>", "(Ljava/lang/String;)V"⟩ : Cond) ∈ BIG := big_of (i := 961) (by decide +kernel) (by decide +kernel)
theorem qm_962 : (.instanceMethod ⟨"java/lang/IllegalStateException", "<init>", "(Ljava/lang/String;)V"⟩ : Cond) ∈ BIG := big_of (i := 962) (by decide +kernel) (by decide +kernel)
theorem qm_963 : (.code ⟨"java/lang/IllegalStateException", "<init>", "(Ljava/lang/String;)V"⟩ prog_20_method_2_code 2 none : Cond) ∈ BIG := big_of (i := 963) (by decide +kernel) (by decide +kernel)
theorem qm_964 : (.methodLink "java/lang/IllegalStateException" 7 ⟨"java/lang/RuntimeException", "<init>", "(Ljava/lang/String;)V"⟩ : Cond) ∈ BIG := big_of (i := 964) (by decide +kernel) (by decide +kernel)
theorem qm_965 : (.instanceMethod ⟨"java/lang/RuntimeException", "<init>", "(Ljava/lang/String;)V"⟩ : Cond) ∈ BIG := big_of (i := 965) (by decide +kernel) (by decide +kernel)
theorem qm_966 : (.code ⟨"java/lang/RuntimeException", "<init>", "(Ljava/lang/String;)V"⟩ prog_24_method_2_code 2 none : Cond) ∈ BIG := big_of (i := 966) (by decide +kernel) (by decide +kernel)
theorem qm_967 : (.methodLink "java/lang/RuntimeException" 7 ⟨"java/lang/Exception", "<init>", "(Ljava/lang/String;)V"⟩ : Cond) ∈ BIG := big_of (i := 967) (by decide +kernel) (by decide +kernel)
theorem qm_968 : (.instanceMethod ⟨"java/lang/Exception", "<init>", "(Ljava/lang/String;)V"⟩ : Cond) ∈ BIG := big_of (i := 968) (by decide +kernel) (by decide +kernel)
theorem qm_969 : (.code ⟨"java/lang/Exception", "<init>", "(Ljava/lang/String;)V"⟩ prog_18_method_2_code 2 none : Cond) ∈ BIG := big_of (i := 969) (by decide +kernel) (by decide +kernel)
theorem qm_970 : (.methodLink "java/lang/Exception" 7 ⟨"java/lang/Throwable", "<init>", "(Ljava/lang/String;)V"⟩ : Cond) ∈ BIG := big_of (i := 970) (by decide +kernel) (by decide +kernel)
theorem qm_971 : (.instanceMethod ⟨"java/lang/Throwable", "<init>", "(Ljava/lang/String;)V"⟩ : Cond) ∈ BIG := big_of (i := 971) (by decide +kernel) (by decide +kernel)
theorem qm_972 : (.code ⟨"java/lang/Throwable", "<init>", "(Ljava/lang/String;)V"⟩ prog_29_method_2_code 2 none : Cond) ∈ BIG := big_of (i := 972) (by decide +kernel) (by decide +kernel)
theorem qm_974 : (.fieldLink "java/lang/Throwable" 31 "java/lang/Throwable" "detailMessage" "Ljava/lang/String;" : Cond) ∈ BIG := big_of (i := 974) (by decide +kernel) (by decide +kernel)
theorem qm_975 : (.fieldLink "java/lang/Throwable" 7 "java/lang/Throwable" "cause" "Ljava/lang/Throwable;" : Cond) ∈ BIG := big_of (i := 975) (by decide +kernel) (by decide +kernel)
theorem qm_976 : (.fieldLink "java/lang/Throwable" 17 "java/lang/Throwable" "stackTrace" "[Ljava/lang/StackTraceElement;" : Cond) ∈ BIG := big_of (i := 976) (by decide +kernel) (by decide +kernel)
theorem qm_977 : (.fieldLink "java/lang/Throwable" 24 "java/lang/Throwable" "suppressedExceptions" "Ljava/util/List;" : Cond) ∈ BIG := big_of (i := 977) (by decide +kernel) (by decide +kernel)
theorem qm_982 : (.lays "java/lang/IllegalStateException" "java/lang/Throwable" "depth" "I" : Cond) ∈ BIG := big_of (i := 982) (by decide +kernel) (by decide +kernel)
theorem qm_986 : (.methodLink RX12 54 yX10_append : Cond) ∈ BIG := big_of (i := 986) (by decide +kernel) (by decide +kernel)
theorem qm_987 : (.instanceMethod yX10_append : Cond) ∈ BIG := big_of (i := 987) (by decide +kernel) (by decide +kernel)
theorem qm_988 : (.selects RX10 yX10_append yX10_append : Cond) ∈ BIG := big_of (i := 988) (by decide +kernel) (by decide +kernel)
theorem qm_989 : (.code yX10_append cX10_append 3 none : Cond) ∈ BIG := big_of (i := 989) (by decide +kernel) (by decide +kernel)
theorem qm_990 : (.methodLink RL 86 yL_trim : Cond) ∈ BIG := big_of (i := 990) (by decide +kernel) (by decide +kernel)
theorem qm_991 : (.static yL_trim : Cond) ∈ BIG := big_of (i := 991) (by decide +kernel) (by decide +kernel)
theorem qm_992 : (.codeWith yL_trim cL_trim 4 (some .int) [(0, 9, 12, 19)] : Cond) ∈ BIG := big_of (i := 992) (by decide +kernel) (by decide +kernel)
theorem qm_993 : (.classLink RL 19 "java/lang/IllegalArgumentException" : Cond) ∈ BIG := big_of (i := 993) (by decide +kernel) (by decide +kernel)
theorem qm_994 : (.methodLink RL 15 yX12_trim : Cond) ∈ BIG := big_of (i := 994) (by decide +kernel) (by decide +kernel)
theorem qm_995 : (.instanceMethod yX12_trim : Cond) ∈ BIG := big_of (i := 995) (by decide +kernel) (by decide +kernel)
theorem qm_996 : (.selects RX12 yX12_trim yX12_trim : Cond) ∈ BIG := big_of (i := 996) (by decide +kernel) (by decide +kernel)
theorem qm_997 : (.code yX12_trim cX12_trim 2 (some .int) : Cond) ∈ BIG := big_of (i := 997) (by decide +kernel) (by decide +kernel)
theorem qm_998 : (.classLink RX12 58 "java/lang/IllegalArgumentException" : Cond) ∈ BIG := big_of (i := 998) (by decide +kernel) (by decide +kernel)
theorem qm_999 : (.instantiable "java/lang/IllegalArgumentException" 6 : Cond) ∈ BIG := big_of (i := 999) (by decide +kernel) (by decide +kernel)
theorem qm_1001 : (.selects "java/lang/IllegalArgumentException" ⟨"java/lang/Throwable", "fillInStackTrace", "(I)Ljava/lang/Throwable;"⟩ ⟨"java/lang/Throwable", "fillInStackTrace", "(I)Ljava/lang/Throwable;"⟩ : Cond) ∈ BIG := big_of (i := 1001) (by decide +kernel) (by decide +kernel)
theorem qm_1002 : (.lays "java/lang/IllegalArgumentException" "java/lang/Throwable" "cause" "Ljava/lang/Throwable;" : Cond) ∈ BIG := big_of (i := 1002) (by decide +kernel) (by decide +kernel)
theorem qm_1003 : (.lays "java/lang/IllegalArgumentException" "java/lang/Throwable" "stackTrace" "[Ljava/lang/StackTraceElement;" : Cond) ∈ BIG := big_of (i := 1003) (by decide +kernel) (by decide +kernel)
theorem qm_1004 : (.lays "java/lang/IllegalArgumentException" "java/lang/Throwable" "suppressedExceptions" "Ljava/util/List;" : Cond) ∈ BIG := big_of (i := 1004) (by decide +kernel) (by decide +kernel)
theorem qm_1005 : (.lays "java/lang/IllegalArgumentException" "java/lang/Throwable" "detailMessage" "Ljava/lang/String;" : Cond) ∈ BIG := big_of (i := 1005) (by decide +kernel) (by decide +kernel)
theorem qm_1006 : (.lays "java/lang/IllegalArgumentException" "java/lang/Throwable" "backtrace" "Ljava/lang/Object;" : Cond) ∈ BIG := big_of (i := 1006) (by decide +kernel) (by decide +kernel)
theorem qm_1008 : (.methodLink RX12 62 ⟨"java/lang/IllegalArgumentException", "<init>", "(Ljava/lang/String;)V"⟩ : Cond) ∈ BIG := big_of (i := 1008) (by decide +kernel) (by decide +kernel)
theorem qm_1009 : (.instanceMethod ⟨"java/lang/IllegalArgumentException", "<init>", "(Ljava/lang/String;)V"⟩ : Cond) ∈ BIG := big_of (i := 1009) (by decide +kernel) (by decide +kernel)
theorem qm_1010 : (.code ⟨"java/lang/IllegalArgumentException", "<init>", "(Ljava/lang/String;)V"⟩ prog_19_method_2_code 2 none : Cond) ∈ BIG := big_of (i := 1010) (by decide +kernel) (by decide +kernel)
theorem qm_1011 : (.methodLink "java/lang/IllegalArgumentException" 7 ⟨"java/lang/RuntimeException", "<init>", "(Ljava/lang/String;)V"⟩ : Cond) ∈ BIG := big_of (i := 1011) (by decide +kernel) (by decide +kernel)
theorem qm_1012 : (.lays "java/lang/IllegalArgumentException" "java/lang/Throwable" "depth" "I" : Cond) ∈ BIG := big_of (i := 1012) (by decide +kernel) (by decide +kernel)
theorem qm_1014 : (.methodLink RL 150 yL_isWarm : Cond) ∈ BIG := big_of (i := 1014) (by decide +kernel) (by decide +kernel)
theorem qm_1015 : (.static yL_isWarm : Cond) ∈ BIG := big_of (i := 1015) (by decide +kernel) (by decide +kernel)
theorem qm_1016 : (.codeWith yL_isWarm cL_isWarm 4 (some .int) [(0, 16, 19, 25)] : Cond) ∈ BIG := big_of (i := 1016) (by decide +kernel) (by decide +kernel)
theorem qm_1017 : (.classLink RL 25 "java/lang/IndexOutOfBoundsException" : Cond) ∈ BIG := big_of (i := 1017) (by decide +kernel) (by decide +kernel)
theorem qm_1018 : (.methodLink RL 21 yX12_isWarm : Cond) ∈ BIG := big_of (i := 1018) (by decide +kernel) (by decide +kernel)
theorem qm_1019 : (.instanceMethod yX12_isWarm : Cond) ∈ BIG := big_of (i := 1019) (by decide +kernel) (by decide +kernel)
theorem qm_1020 : (.selects RX12 yX12_isWarm yX12_isWarm : Cond) ∈ BIG := big_of (i := 1020) (by decide +kernel) (by decide +kernel)
theorem qm_1021 : (.code yX12_isWarm cX12_isWarm 2 (some .boolean) : Cond) ∈ BIG := big_of (i := 1021) (by decide +kernel) (by decide +kernel)
theorem qm_1022 : (.methodLink RX12 168 yX12_requireFront : Cond) ∈ BIG := big_of (i := 1022) (by decide +kernel) (by decide +kernel)
theorem qm_1024 : (.instanceMethod yX12_requireFront : Cond) ∈ BIG := big_of (i := 1024) (by decide +kernel) (by decide +kernel)
theorem qm_1025 : (.code yX12_requireFront cX12_requireFront 2 none : Cond) ∈ BIG := big_of (i := 1025) (by decide +kernel) (by decide +kernel)
theorem qm_1026 : (.methodLink RX12 264 yX2_has : Cond) ∈ BIG := big_of (i := 1026) (by decide +kernel) (by decide +kernel)
theorem qm_1027 : (.classLink RX12 267 "java/lang/IndexOutOfBoundsException" : Cond) ∈ BIG := big_of (i := 1027) (by decide +kernel) (by decide +kernel)
theorem qm_1028 : (.instantiable "java/lang/IndexOutOfBoundsException" 6 : Cond) ∈ BIG := big_of (i := 1028) (by decide +kernel) (by decide +kernel)
theorem qm_1030 : (.selects "java/lang/IndexOutOfBoundsException" ⟨"java/lang/Throwable", "fillInStackTrace", "(I)Ljava/lang/Throwable;"⟩ ⟨"java/lang/Throwable", "fillInStackTrace", "(I)Ljava/lang/Throwable;"⟩ : Cond) ∈ BIG := big_of (i := 1030) (by decide +kernel) (by decide +kernel)
theorem qm_1031 : (.lays "java/lang/IndexOutOfBoundsException" "java/lang/Throwable" "cause" "Ljava/lang/Throwable;" : Cond) ∈ BIG := big_of (i := 1031) (by decide +kernel) (by decide +kernel)
theorem qm_1032 : (.lays "java/lang/IndexOutOfBoundsException" "java/lang/Throwable" "stackTrace" "[Ljava/lang/StackTraceElement;" : Cond) ∈ BIG := big_of (i := 1032) (by decide +kernel) (by decide +kernel)
theorem qm_1033 : (.lays "java/lang/IndexOutOfBoundsException" "java/lang/Throwable" "suppressedExceptions" "Ljava/util/List;" : Cond) ∈ BIG := big_of (i := 1033) (by decide +kernel) (by decide +kernel)
theorem qm_1034 : (.lays "java/lang/IndexOutOfBoundsException" "java/lang/Throwable" "detailMessage" "Ljava/lang/String;" : Cond) ∈ BIG := big_of (i := 1034) (by decide +kernel) (by decide +kernel)
theorem qm_1035 : (.lays "java/lang/IndexOutOfBoundsException" "java/lang/Throwable" "backtrace" "Ljava/lang/Object;" : Cond) ∈ BIG := big_of (i := 1035) (by decide +kernel) (by decide +kernel)
theorem qm_1037 : (.methodLink RX12 271 ⟨"java/lang/IndexOutOfBoundsException", "<init>", "(Ljava/lang/String;)V"⟩ : Cond) ∈ BIG := big_of (i := 1037) (by decide +kernel) (by decide +kernel)
theorem qm_1038 : (.instanceMethod ⟨"java/lang/IndexOutOfBoundsException", "<init>", "(Ljava/lang/String;)V"⟩ : Cond) ∈ BIG := big_of (i := 1038) (by decide +kernel) (by decide +kernel)
theorem qm_1039 : (.code ⟨"java/lang/IndexOutOfBoundsException", "<init>", "(Ljava/lang/String;)V"⟩ prog_21_method_2_code 2 none : Cond) ∈ BIG := big_of (i := 1039) (by decide +kernel) (by decide +kernel)
theorem qm_1040 : (.methodLink "java/lang/IndexOutOfBoundsException" 7 ⟨"java/lang/RuntimeException", "<init>", "(Ljava/lang/String;)V"⟩ : Cond) ∈ BIG := big_of (i := 1040) (by decide +kernel) (by decide +kernel)
theorem qm_1041 : (.lays "java/lang/IndexOutOfBoundsException" "java/lang/Throwable" "depth" "I" : Cond) ∈ BIG := big_of (i := 1041) (by decide +kernel) (by decide +kernel)
theorem qm_1043 : (.methodLink RL 153 yL_forceOf : Cond) ∈ BIG := big_of (i := 1043) (by decide +kernel) (by decide +kernel)
theorem qm_1044 : (.static yL_forceOf : Cond) ∈ BIG := big_of (i := 1044) (by decide +kernel) (by decide +kernel)
theorem qm_1045 : (.codeWith yL_forceOf cL_forceOf 4 (some .int) [(0, 9, 12, 25)] : Cond) ∈ BIG := big_of (i := 1045) (by decide +kernel) (by decide +kernel)
theorem qm_1046 : (.methodLink RL 27 yX12_forceOf : Cond) ∈ BIG := big_of (i := 1046) (by decide +kernel) (by decide +kernel)
theorem qm_1047 : (.instanceMethod yX12_forceOf : Cond) ∈ BIG := big_of (i := 1047) (by decide +kernel) (by decide +kernel)
theorem qm_1048 : (.selects RX12 yX12_forceOf yX12_forceOf : Cond) ∈ BIG := big_of (i := 1048) (by decide +kernel) (by decide +kernel)
theorem qm_1049 : (.code yX12_forceOf cX12_forceOf 2 (some .int) : Cond) ∈ BIG := big_of (i := 1049) (by decide +kernel) (by decide +kernel)
theorem qm_1050 : (.methodLink RL 156 yL_isOver : Cond) ∈ BIG := big_of (i := 1050) (by decide +kernel) (by decide +kernel)
theorem qm_1051 : (.static yL_isOver : Cond) ∈ BIG := big_of (i := 1051) (by decide +kernel) (by decide +kernel)
theorem qm_1052 : (.codeWith yL_isOver cL_isOver 4 (some .int) [(0, 16, 19, 25)] : Cond) ∈ BIG := big_of (i := 1052) (by decide +kernel) (by decide +kernel)
theorem qm_1053 : (.methodLink RL 30 yX12_isOver : Cond) ∈ BIG := big_of (i := 1053) (by decide +kernel) (by decide +kernel)
theorem qm_1054 : (.instanceMethod yX12_isOver : Cond) ∈ BIG := big_of (i := 1054) (by decide +kernel) (by decide +kernel)
theorem qm_1055 : (.selects RX12 yX12_isOver yX12_isOver : Cond) ∈ BIG := big_of (i := 1055) (by decide +kernel) (by decide +kernel)
theorem qm_1056 : (.code yX12_isOver cX12_isOver 2 (some .boolean) : Cond) ∈ BIG := big_of (i := 1056) (by decide +kernel) (by decide +kernel)
theorem qm_1057 : (.methodLink RL 159 yL_isSteeped : Cond) ∈ BIG := big_of (i := 1057) (by decide +kernel) (by decide +kernel)
theorem qm_1058 : (.static yL_isSteeped : Cond) ∈ BIG := big_of (i := 1058) (by decide +kernel) (by decide +kernel)
theorem qm_1059 : (.codeWith yL_isSteeped cL_isSteeped 4 (some .int) [(0, 16, 19, 25)] : Cond) ∈ BIG := big_of (i := 1059) (by decide +kernel) (by decide +kernel)
theorem qm_1060 : (.methodLink RL 33 yX12_isSteeped : Cond) ∈ BIG := big_of (i := 1060) (by decide +kernel) (by decide +kernel)
theorem qm_1061 : (.instanceMethod yX12_isSteeped : Cond) ∈ BIG := big_of (i := 1061) (by decide +kernel) (by decide +kernel)
theorem qm_1062 : (.selects RX12 yX12_isSteeped yX12_isSteeped : Cond) ∈ BIG := big_of (i := 1062) (by decide +kernel) (by decide +kernel)
theorem qm_1063 : (.code yX12_isSteeped cX12_isSteeped 2 (some .boolean) : Cond) ∈ BIG := big_of (i := 1063) (by decide +kernel) (by decide +kernel)
theorem qm_1064 : (.methodLink RL 162 yL_isSeated : Cond) ∈ BIG := big_of (i := 1064) (by decide +kernel) (by decide +kernel)
theorem qm_1065 : (.static yL_isSeated : Cond) ∈ BIG := big_of (i := 1065) (by decide +kernel) (by decide +kernel)
theorem qm_1066 : (.codeWith yL_isSeated cL_isSeated 4 (some .int) [(0, 16, 19, 25)] : Cond) ∈ BIG := big_of (i := 1066) (by decide +kernel) (by decide +kernel)
theorem qm_1067 : (.methodLink RL 36 yX12_isSeated : Cond) ∈ BIG := big_of (i := 1067) (by decide +kernel) (by decide +kernel)
theorem qm_1068 : (.instanceMethod yX12_isSeated : Cond) ∈ BIG := big_of (i := 1068) (by decide +kernel) (by decide +kernel)
theorem qm_1069 : (.selects RX12 yX12_isSeated yX12_isSeated : Cond) ∈ BIG := big_of (i := 1069) (by decide +kernel) (by decide +kernel)
theorem qm_1070 : (.code yX12_isSeated cX12_isSeated 2 (some .boolean) : Cond) ∈ BIG := big_of (i := 1070) (by decide +kernel) (by decide +kernel)
theorem qm_1071 : (.methodLink RX12 184 yX12_requireGuest : Cond) ∈ BIG := big_of (i := 1071) (by decide +kernel) (by decide +kernel)
theorem qm_1073 : (.instanceMethod yX12_requireGuest : Cond) ∈ BIG := big_of (i := 1073) (by decide +kernel) (by decide +kernel)
theorem qm_1074 : (.code yX12_requireGuest cX12_requireGuest 2 none : Cond) ∈ BIG := big_of (i := 1074) (by decide +kernel) (by decide +kernel)
theorem qm_1075 : (.methodLink RX12 272 yX4_has : Cond) ∈ BIG := big_of (i := 1075) (by decide +kernel) (by decide +kernel)
theorem qm_1077 : (.methodLink RL 165 yL_isContent : Cond) ∈ BIG := big_of (i := 1077) (by decide +kernel) (by decide +kernel)
theorem qm_1078 : (.static yL_isContent : Cond) ∈ BIG := big_of (i := 1078) (by decide +kernel) (by decide +kernel)
theorem qm_1079 : (.codeWith yL_isContent cL_isContent 4 (some .int) [(0, 16, 19, 25)] : Cond) ∈ BIG := big_of (i := 1079) (by decide +kernel) (by decide +kernel)
theorem qm_1080 : (.methodLink RL 39 yX12_isContent : Cond) ∈ BIG := big_of (i := 1080) (by decide +kernel) (by decide +kernel)
theorem qm_1081 : (.instanceMethod yX12_isContent : Cond) ∈ BIG := big_of (i := 1081) (by decide +kernel) (by decide +kernel)
theorem qm_1082 : (.selects RX12 yX12_isContent yX12_isContent : Cond) ∈ BIG := big_of (i := 1082) (by decide +kernel) (by decide +kernel)
theorem qm_1083 : (.code yX12_isContent cX12_isContent 2 (some .boolean) : Cond) ∈ BIG := big_of (i := 1083) (by decide +kernel) (by decide +kernel)
theorem qm_1084 : (.methodLink RL 168 yL_wasServed : Cond) ∈ BIG := big_of (i := 1084) (by decide +kernel) (by decide +kernel)
theorem qm_1085 : (.static yL_wasServed : Cond) ∈ BIG := big_of (i := 1085) (by decide +kernel) (by decide +kernel)
theorem qm_1086 : (.codeWith yL_wasServed cL_wasServed 4 (some .int) [(0, 16, 19, 25)] : Cond) ∈ BIG := big_of (i := 1086) (by decide +kernel) (by decide +kernel)
theorem qm_1087 : (.methodLink RL 42 yX12_wasServed : Cond) ∈ BIG := big_of (i := 1087) (by decide +kernel) (by decide +kernel)
theorem qm_1088 : (.instanceMethod yX12_wasServed : Cond) ∈ BIG := big_of (i := 1088) (by decide +kernel) (by decide +kernel)
theorem qm_1089 : (.selects RX12 yX12_wasServed yX12_wasServed : Cond) ∈ BIG := big_of (i := 1089) (by decide +kernel) (by decide +kernel)
theorem qm_1090 : (.code yX12_wasServed cX12_wasServed 2 (some .boolean) : Cond) ∈ BIG := big_of (i := 1090) (by decide +kernel) (by decide +kernel)
theorem qm_1091 : (.methodLink RL 171 yL_wasStormed : Cond) ∈ BIG := big_of (i := 1091) (by decide +kernel) (by decide +kernel)
theorem qm_1092 : (.static yL_wasStormed : Cond) ∈ BIG := big_of (i := 1092) (by decide +kernel) (by decide +kernel)
theorem qm_1093 : (.codeWith yL_wasStormed cL_wasStormed 4 (some .int) [(0, 16, 19, 25)] : Cond) ∈ BIG := big_of (i := 1093) (by decide +kernel) (by decide +kernel)
theorem qm_1094 : (.methodLink RL 45 yX12_wasStormed : Cond) ∈ BIG := big_of (i := 1094) (by decide +kernel) (by decide +kernel)
theorem qm_1095 : (.instanceMethod yX12_wasStormed : Cond) ∈ BIG := big_of (i := 1095) (by decide +kernel) (by decide +kernel)
theorem qm_1096 : (.selects RX12 yX12_wasStormed yX12_wasStormed : Cond) ∈ BIG := big_of (i := 1096) (by decide +kernel) (by decide +kernel)
theorem qm_1097 : (.code yX12_wasStormed cX12_wasStormed 2 (some .boolean) : Cond) ∈ BIG := big_of (i := 1097) (by decide +kernel) (by decide +kernel)
theorem qm_1098 : (.methodLink RL 174 yL_steep : Cond) ∈ BIG := big_of (i := 1098) (by decide +kernel) (by decide +kernel)
theorem qm_1099 : (.static yL_steep : Cond) ∈ BIG := big_of (i := 1099) (by decide +kernel) (by decide +kernel)
theorem qm_1100 : (.codeWith yL_steep cL_steep 4 (some .int) [(0, 9, 12, 25), (0, 9, 15, 13)] : Cond) ∈ BIG := big_of (i := 1100) (by decide +kernel) (by decide +kernel)
theorem qm_1101 : (.methodLink RL 48 yX12_steep : Cond) ∈ BIG := big_of (i := 1101) (by decide +kernel) (by decide +kernel)
theorem qm_1102 : (.instanceMethod yX12_steep : Cond) ∈ BIG := big_of (i := 1102) (by decide +kernel) (by decide +kernel)
theorem qm_1103 : (.selects RX12 yX12_steep yX12_steep : Cond) ∈ BIG := big_of (i := 1103) (by decide +kernel) (by decide +kernel)
theorem qm_1104 : (.code yX12_steep cX12_steep 2 (some .int) : Cond) ∈ BIG := big_of (i := 1104) (by decide +kernel) (by decide +kernel)
theorem qm_1105 : (.methodLink RX12 191 yX8_steepFront : Cond) ∈ BIG := big_of (i := 1105) (by decide +kernel) (by decide +kernel)
theorem qm_1107 : (.methodLink RL 177 yL_lemon : Cond) ∈ BIG := big_of (i := 1107) (by decide +kernel) (by decide +kernel)
theorem qm_1108 : (.static yL_lemon : Cond) ∈ BIG := big_of (i := 1108) (by decide +kernel) (by decide +kernel)
theorem qm_1109 : (.codeWith yL_lemon cL_lemon 3 (some .int) [(0, 8, 11, 13)] : Cond) ∈ BIG := big_of (i := 1109) (by decide +kernel) (by decide +kernel)
theorem qm_1110 : (.methodLink RL 51 yX12_lemon : Cond) ∈ BIG := big_of (i := 1110) (by decide +kernel) (by decide +kernel)
theorem qm_1111 : (.instanceMethod yX12_lemon : Cond) ∈ BIG := big_of (i := 1111) (by decide +kernel) (by decide +kernel)
theorem qm_1112 : (.selects RX12 yX12_lemon yX12_lemon : Cond) ∈ BIG := big_of (i := 1112) (by decide +kernel) (by decide +kernel)
theorem qm_1113 : (.code yX12_lemon cX12_lemon 1 (some .int) : Cond) ∈ BIG := big_of (i := 1113) (by decide +kernel) (by decide +kernel)
theorem qm_1114 : (.methodLink RX12 196 yX8_squeezeLemon : Cond) ∈ BIG := big_of (i := 1114) (by decide +kernel) (by decide +kernel)
theorem qm_1116 : (.methodLink RL 181 yL_saucer : Cond) ∈ BIG := big_of (i := 1116) (by decide +kernel) (by decide +kernel)
theorem qm_1117 : (.static yL_saucer : Cond) ∈ BIG := big_of (i := 1117) (by decide +kernel) (by decide +kernel)
theorem qm_1118 : (.codeWith yL_saucer cL_saucer 3 (some .int) [(0, 8, 11, 13)] : Cond) ∈ BIG := big_of (i := 1118) (by decide +kernel) (by decide +kernel)
theorem qm_1119 : (.methodLink RL 55 yX12_saucer : Cond) ∈ BIG := big_of (i := 1119) (by decide +kernel) (by decide +kernel)
theorem qm_1120 : (.instanceMethod yX12_saucer : Cond) ∈ BIG := big_of (i := 1120) (by decide +kernel) (by decide +kernel)
theorem qm_1121 : (.selects RX12 yX12_saucer yX12_saucer : Cond) ∈ BIG := big_of (i := 1121) (by decide +kernel) (by decide +kernel)
theorem qm_1122 : (.code yX12_saucer cX12_saucer 1 (some .int) : Cond) ∈ BIG := big_of (i := 1122) (by decide +kernel) (by decide +kernel)
theorem qm_1123 : (.methodLink RX12 202 yX8_putSaucer : Cond) ∈ BIG := big_of (i := 1123) (by decide +kernel) (by decide +kernel)
theorem qm_1125 : (.methodLink RL 184 yL_serve : Cond) ∈ BIG := big_of (i := 1125) (by decide +kernel) (by decide +kernel)
theorem qm_1126 : (.static yL_serve : Cond) ∈ BIG := big_of (i := 1126) (by decide +kernel) (by decide +kernel)
theorem qm_1127 : (.codeWith yL_serve cL_serve 4 (some .int) [(0, 9, 12, 25), (0, 9, 15, 13)] : Cond) ∈ BIG := big_of (i := 1127) (by decide +kernel) (by decide +kernel)
theorem qm_1128 : (.methodLink RL 58 yX12_serve : Cond) ∈ BIG := big_of (i := 1128) (by decide +kernel) (by decide +kernel)
theorem qm_1129 : (.instanceMethod yX12_serve : Cond) ∈ BIG := big_of (i := 1129) (by decide +kernel) (by decide +kernel)
theorem qm_1130 : (.selects RX12 yX12_serve yX12_serve : Cond) ∈ BIG := big_of (i := 1130) (by decide +kernel) (by decide +kernel)
theorem qm_1131 : (.code yX12_serve cX12_serve 3 (some .int) : Cond) ∈ BIG := big_of (i := 1131) (by decide +kernel) (by decide +kernel)
theorem qm_1132 : (.methodLink RX12 207 yX8_serveGuest : Cond) ∈ BIG := big_of (i := 1132) (by decide +kernel) (by decide +kernel)
theorem qm_1134 : (.methodLink RL 187 yL_heat : Cond) ∈ BIG := big_of (i := 1134) (by decide +kernel) (by decide +kernel)
theorem qm_1135 : (.static yL_heat : Cond) ∈ BIG := big_of (i := 1135) (by decide +kernel) (by decide +kernel)
theorem qm_1136 : (.codeWith yL_heat cL_heat 4 (some .int) [(0, 9, 12, 19)] : Cond) ∈ BIG := big_of (i := 1136) (by decide +kernel) (by decide +kernel)
theorem qm_1137 : (.methodLink RL 61 yX12_heat : Cond) ∈ BIG := big_of (i := 1137) (by decide +kernel) (by decide +kernel)
theorem qm_1138 : (.instanceMethod yX12_heat : Cond) ∈ BIG := big_of (i := 1138) (by decide +kernel) (by decide +kernel)
theorem qm_1139 : (.selects RX12 yX12_heat yX12_heat : Cond) ∈ BIG := big_of (i := 1139) (by decide +kernel) (by decide +kernel)
theorem qm_1140 : (.code yX12_heat cX12_heat 3 (some .int) : Cond) ∈ BIG := big_of (i := 1140) (by decide +kernel) (by decide +kernel)
theorem qm_1142 : (.methodLink RL 190 yL_passHours : Cond) ∈ BIG := big_of (i := 1142) (by decide +kernel) (by decide +kernel)
theorem qm_1143 : (.static yL_passHours : Cond) ∈ BIG := big_of (i := 1143) (by decide +kernel) (by decide +kernel)
theorem qm_1144 : (.codeWith yL_passHours cL_passHours 4 (some .int) [(0, 9, 12, 19)] : Cond) ∈ BIG := big_of (i := 1144) (by decide +kernel) (by decide +kernel)
theorem qm_1145 : (.methodLink RL 64 yX12_passHours : Cond) ∈ BIG := big_of (i := 1145) (by decide +kernel) (by decide +kernel)
theorem qm_1146 : (.instanceMethod yX12_passHours : Cond) ∈ BIG := big_of (i := 1146) (by decide +kernel) (by decide +kernel)
theorem qm_1147 : (.selects RX12 yX12_passHours yX12_passHours : Cond) ∈ BIG := big_of (i := 1147) (by decide +kernel) (by decide +kernel)
theorem qm_1148 : (.code yX12_passHours cX12_passHours 4 (some .int) : Cond) ∈ BIG := big_of (i := 1148) (by decide +kernel) (by decide +kernel)
theorem qm_1149 : (.methodLink RX12 214 yX12_requireHours : Cond) ∈ BIG := big_of (i := 1149) (by decide +kernel) (by decide +kernel)
theorem qm_1150 : (.static yX12_requireHours : Cond) ∈ BIG := big_of (i := 1150) (by decide +kernel) (by decide +kernel)
theorem qm_1151 : (.code yX12_requireHours cX12_requireHours 1 none : Cond) ∈ BIG := big_of (i := 1151) (by decide +kernel) (by decide +kernel)
theorem qm_1153 : (.methodLink RL 193 yL_coinsAfter : Cond) ∈ BIG := big_of (i := 1153) (by decide +kernel) (by decide +kernel)
theorem qm_1154 : (.static yL_coinsAfter : Cond) ∈ BIG := big_of (i := 1154) (by decide +kernel) (by decide +kernel)
theorem qm_1155 : (.codeWith yL_coinsAfter cL_coinsAfter 4 (some .int) [(0, 9, 12, 19)] : Cond) ∈ BIG := big_of (i := 1155) (by decide +kernel) (by decide +kernel)
theorem qm_1156 : (.methodLink RL 67 yX12_coinsAfter : Cond) ∈ BIG := big_of (i := 1156) (by decide +kernel) (by decide +kernel)
theorem qm_1157 : (.instanceMethod yX12_coinsAfter : Cond) ∈ BIG := big_of (i := 1157) (by decide +kernel) (by decide +kernel)
theorem qm_1158 : (.selects RX12 yX12_coinsAfter yX12_coinsAfter : Cond) ∈ BIG := big_of (i := 1158) (by decide +kernel) (by decide +kernel)
theorem qm_1159 : (.code yX12_coinsAfter cX12_coinsAfter 3 (some .int) : Cond) ∈ BIG := big_of (i := 1159) (by decide +kernel) (by decide +kernel)
theorem qm_1160 : (.methodLink RL 200 yL_hoursUntilServed : Cond) ∈ BIG := big_of (i := 1160) (by decide +kernel) (by decide +kernel)
theorem qm_1161 : (.static yL_hoursUntilServed : Cond) ∈ BIG := big_of (i := 1161) (by decide +kernel) (by decide +kernel)
theorem qm_1162 : (.codeWith yL_hoursUntilServed cL_hoursUntilServed 4 (some .int) [(0, 9, 12, 25)] : Cond) ∈ BIG := big_of (i := 1162) (by decide +kernel) (by decide +kernel)
theorem qm_1163 : (.methodLink RL 70 yX12_hoursUntilServed : Cond) ∈ BIG := big_of (i := 1163) (by decide +kernel) (by decide +kernel)
theorem qm_1164 : (.instanceMethod yX12_hoursUntilServed : Cond) ∈ BIG := big_of (i := 1164) (by decide +kernel) (by decide +kernel)
theorem qm_1165 : (.selects RX12 yX12_hoursUntilServed yX12_hoursUntilServed : Cond) ∈ BIG := big_of (i := 1165) (by decide +kernel) (by decide +kernel)
theorem qm_1166 : (.code yX12_hoursUntilServed cX12_hoursUntilServed 3 (some .int) : Cond) ∈ BIG := big_of (i := 1166) (by decide +kernel) (by decide +kernel)
theorem qm_1167 : (.classLink RL 74 RX14 : Cond) ∈ BIG := big_of (i := 1167) (by decide +kernel) (by decide +kernel)
theorem qm_1168 : (.instantiable RX14 20 : Cond) ∈ BIG := big_of (i := 1168) (by decide +kernel) (by decide +kernel)
theorem qm_1169 : (.methodLink RL 76 yX14_init : Cond) ∈ BIG := big_of (i := 1169) (by decide +kernel) (by decide +kernel)
theorem qm_1170 : (.instanceMethod yX14_init : Cond) ∈ BIG := big_of (i := 1170) (by decide +kernel) (by decide +kernel)
theorem qm_1171 : (.code yX14_init cX14_init 1 none : Cond) ∈ BIG := big_of (i := 1171) (by decide +kernel) (by decide +kernel)
theorem qm_1172 : (.methodLink RX14 3 ⟨"java/lang/Object", "<init>", "()V"⟩ : Cond) ∈ BIG := big_of (i := 1172) (by decide +kernel) (by decide +kernel)
theorem qm_1173 : (.classLink RX14 35 RX13 : Cond) ∈ BIG := big_of (i := 1173) (by decide +kernel) (by decide +kernel)
theorem qm_1174 : (.instantiable RX13 20 : Cond) ∈ BIG := big_of (i := 1174) (by decide +kernel) (by decide +kernel)
theorem qm_1176 : (.instanceMethod yX13_init : Cond) ∈ BIG := big_of (i := 1176) (by decide +kernel) (by decide +kernel)
theorem qm_1177 : (.code yX13_init cX13_init 1 none : Cond) ∈ BIG := big_of (i := 1177) (by decide +kernel) (by decide +kernel)
theorem qm_1178 : (.methodLink RX13 3 ⟨"java/lang/Object", "<init>", "()V"⟩ : Cond) ∈ BIG := big_of (i := 1178) (by decide +kernel) (by decide +kernel)
theorem qm_1179 : (.fieldLink RX13 60 "WeatherTeaModel$Plan" "fronts" "I" : Cond) ∈ BIG := big_of (i := 1179) (by decide +kernel) (by decide +kernel)
theorem qm_1181 : (.fieldLink RX13 9 "WeatherTeaModel$Plan" "warm" "[I" : Cond) ∈ BIG := big_of (i := 1181) (by decide +kernel) (by decide +kernel)
theorem qm_1183 : (.fieldLink RX13 15 "WeatherTeaModel$Plan" "force" "[I" : Cond) ∈ BIG := big_of (i := 1183) (by decide +kernel) (by decide +kernel)
theorem qm_1185 : (.fieldLink RX13 18 "WeatherTeaModel$Plan" "comes" "[I" : Cond) ∈ BIG := big_of (i := 1185) (by decide +kernel) (by decide +kernel)
theorem qm_1187 : (.fieldLink RX13 21 "WeatherTeaModel$Plan" "stays" "[I" : Cond) ∈ BIG := big_of (i := 1187) (by decide +kernel) (by decide +kernel)
theorem qm_1189 : (.fieldLink RX13 64 "WeatherTeaModel$Plan" "guests" "I" : Cond) ∈ BIG := big_of (i := 1189) (by decide +kernel) (by decide +kernel)
theorem qm_1191 : (.fieldLink RX13 24 "WeatherTeaModel$Plan" "sits" "[I" : Cond) ∈ BIG := big_of (i := 1191) (by decide +kernel) (by decide +kernel)
theorem qm_1193 : (.fieldLink RX13 27 "WeatherTeaModel$Plan" "low" "[I" : Cond) ∈ BIG := big_of (i := 1193) (by decide +kernel) (by decide +kernel)
theorem qm_1195 : (.fieldLink RX13 30 "WeatherTeaModel$Plan" "high" "[I" : Cond) ∈ BIG := big_of (i := 1195) (by decide +kernel) (by decide +kernel)
theorem qm_1197 : (.fieldLink RX13 33 "WeatherTeaModel$Plan" "nerve" "[I" : Cond) ∈ BIG := big_of (i := 1197) (by decide +kernel) (by decide +kernel)
theorem qm_1199 : (.fieldLink RX13 67 "WeatherTeaModel$Plan" "orders" "I" : Cond) ∈ BIG := big_of (i := 1199) (by decide +kernel) (by decide +kernel)
theorem qm_1201 : (.fieldLink RX13 36 "WeatherTeaModel$Plan" "does" "[I" : Cond) ∈ BIG := big_of (i := 1201) (by decide +kernel) (by decide +kernel)
theorem qm_1203 : (.fieldLink RX13 39 "WeatherTeaModel$Plan" "whom" "[I" : Cond) ∈ BIG := big_of (i := 1203) (by decide +kernel) (by decide +kernel)
theorem qm_1205 : (.fieldLink RX13 42 "WeatherTeaModel$Plan" "from" "[I" : Cond) ∈ BIG := big_of (i := 1205) (by decide +kernel) (by decide +kernel)
theorem qm_1207 : (.fieldLink RX13 45 "WeatherTeaModel$Plan" "to" "[I" : Cond) ∈ BIG := big_of (i := 1207) (by decide +kernel) (by decide +kernel)
theorem qm_1209 : (.fieldLink RX13 48 "WeatherTeaModel$Plan" "test" "[I" : Cond) ∈ BIG := big_of (i := 1209) (by decide +kernel) (by decide +kernel)
theorem qm_1211 : (.fieldLink RX13 70 "WeatherTeaModel$Plan" "nodes" "I" : Cond) ∈ BIG := big_of (i := 1211) (by decide +kernel) (by decide +kernel)
theorem qm_1213 : (.fieldLink RX13 51 "WeatherTeaModel$Plan" "sort" "[I" : Cond) ∈ BIG := big_of (i := 1213) (by decide +kernel) (by decide +kernel)
theorem qm_1215 : (.fieldLink RX13 54 "WeatherTeaModel$Plan" "left" "[I" : Cond) ∈ BIG := big_of (i := 1215) (by decide +kernel) (by decide +kernel)
theorem qm_1217 : (.fieldLink RX13 57 "WeatherTeaModel$Plan" "right" "[I" : Cond) ∈ BIG := big_of (i := 1217) (by decide +kernel) (by decide +kernel)
theorem qm_1219 : (.lays RX13 RX13 "fronts" "I" : Cond) ∈ BIG := big_of (i := 1219) (by decide +kernel) (by decide +kernel)
theorem qm_1221 : (.laysFinal RX13 RX13 "warm" "[I" : Cond) ∈ BIG := big_of (i := 1221) (by decide +kernel) (by decide +kernel)
theorem qm_1223 : (.laysFinal RX13 RX13 "force" "[I" : Cond) ∈ BIG := big_of (i := 1223) (by decide +kernel) (by decide +kernel)
theorem qm_1225 : (.laysFinal RX13 RX13 "comes" "[I" : Cond) ∈ BIG := big_of (i := 1225) (by decide +kernel) (by decide +kernel)
theorem qm_1227 : (.laysFinal RX13 RX13 "stays" "[I" : Cond) ∈ BIG := big_of (i := 1227) (by decide +kernel) (by decide +kernel)
theorem qm_1229 : (.lays RX13 RX13 "guests" "I" : Cond) ∈ BIG := big_of (i := 1229) (by decide +kernel) (by decide +kernel)
theorem qm_1231 : (.laysFinal RX13 RX13 "sits" "[I" : Cond) ∈ BIG := big_of (i := 1231) (by decide +kernel) (by decide +kernel)
theorem qm_1233 : (.laysFinal RX13 RX13 "low" "[I" : Cond) ∈ BIG := big_of (i := 1233) (by decide +kernel) (by decide +kernel)
theorem qm_1235 : (.laysFinal RX13 RX13 "high" "[I" : Cond) ∈ BIG := big_of (i := 1235) (by decide +kernel) (by decide +kernel)
theorem qm_1237 : (.laysFinal RX13 RX13 "nerve" "[I" : Cond) ∈ BIG := big_of (i := 1237) (by decide +kernel) (by decide +kernel)
theorem qm_1239 : (.lays RX13 RX13 "orders" "I" : Cond) ∈ BIG := big_of (i := 1239) (by decide +kernel) (by decide +kernel)
theorem qm_1241 : (.laysFinal RX13 RX13 "does" "[I" : Cond) ∈ BIG := big_of (i := 1241) (by decide +kernel) (by decide +kernel)
theorem qm_1243 : (.laysFinal RX13 RX13 "whom" "[I" : Cond) ∈ BIG := big_of (i := 1243) (by decide +kernel) (by decide +kernel)
theorem qm_1245 : (.laysFinal RX13 RX13 "from" "[I" : Cond) ∈ BIG := big_of (i := 1245) (by decide +kernel) (by decide +kernel)
theorem qm_1247 : (.laysFinal RX13 RX13 "to" "[I" : Cond) ∈ BIG := big_of (i := 1247) (by decide +kernel) (by decide +kernel)
theorem qm_1249 : (.laysFinal RX13 RX13 "test" "[I" : Cond) ∈ BIG := big_of (i := 1249) (by decide +kernel) (by decide +kernel)
theorem qm_1251 : (.lays RX13 RX13 "nodes" "I" : Cond) ∈ BIG := big_of (i := 1251) (by decide +kernel) (by decide +kernel)
theorem qm_1253 : (.laysFinal RX13 RX13 "sort" "[I" : Cond) ∈ BIG := big_of (i := 1253) (by decide +kernel) (by decide +kernel)
theorem qm_1255 : (.laysFinal RX13 RX13 "left" "[I" : Cond) ∈ BIG := big_of (i := 1255) (by decide +kernel) (by decide +kernel)
theorem qm_1257 : (.laysFinal RX13 RX13 "right" "[I" : Cond) ∈ BIG := big_of (i := 1257) (by decide +kernel) (by decide +kernel)
theorem qm_1260 : (.methodLink RX14 54 yX14_anew : Cond) ∈ BIG := big_of (i := 1260) (by decide +kernel) (by decide +kernel)
theorem qm_1262 : (.instanceMethod yX14_anew : Cond) ∈ BIG := big_of (i := 1262) (by decide +kernel) (by decide +kernel)
theorem qm_1263 : (.code yX14_anew cX14_anew 2 none : Cond) ∈ BIG := big_of (i := 1263) (by decide +kernel) (by decide +kernel)
theorem qm_1264 : (.methodLink RX14 69 yX14_come : Cond) ∈ BIG := big_of (i := 1264) (by decide +kernel) (by decide +kernel)
theorem qm_1266 : (.instanceMethod yX14_come : Cond) ∈ BIG := big_of (i := 1266) (by decide +kernel) (by decide +kernel)
theorem qm_1267 : (.code yX14_come cX14_come 2 none : Cond) ∈ BIG := big_of (i := 1267) (by decide +kernel) (by decide +kernel)
theorem qm_1268 : (.fieldLink RX14 57 "WeatherTeaModel" "thrown" "I" : Cond) ∈ BIG := big_of (i := 1268) (by decide +kernel) (by decide +kernel)
theorem qm_1269 : (.fieldLink RX14 9 "WeatherTeaModel" "tape" "[I" : Cond) ∈ BIG := big_of (i := 1269) (by decide +kernel) (by decide +kernel)
theorem qm_1270 : (.fieldLink RX14 76 "WeatherTeaModel" "bytes" "I" : Cond) ∈ BIG := big_of (i := 1270) (by decide +kernel) (by decide +kernel)
theorem qm_1271 : (.fieldLink RX14 13 "WeatherTeaModel" "errorAt" "I" : Cond) ∈ BIG := big_of (i := 1271) (by decide +kernel) (by decide +kernel)
theorem qm_1272 : (.fieldLink RX14 17 "WeatherTeaModel" "kind" "[I" : Cond) ∈ BIG := big_of (i := 1272) (by decide +kernel) (by decide +kernel)
theorem qm_1273 : (.fieldLink RX14 20 "WeatherTeaModel" "number" "[I" : Cond) ∈ BIG := big_of (i := 1273) (by decide +kernel) (by decide +kernel)
theorem qm_1274 : (.fieldLink RX14 23 "WeatherTeaModel" "position" "[I" : Cond) ∈ BIG := big_of (i := 1274) (by decide +kernel) (by decide +kernel)
theorem qm_1275 : (.fieldLink RX14 26 "WeatherTeaModel" "length" "[I" : Cond) ∈ BIG := big_of (i := 1275) (by decide +kernel) (by decide +kernel)
theorem qm_1276 : (.fieldLink RX14 123 "WeatherTeaModel" "token" "I" : Cond) ∈ BIG := big_of (i := 1276) (by decide +kernel) (by decide +kernel)
theorem qm_1277 : (.fieldLink RX14 119 "WeatherTeaModel" "isWrong" "Z" : Cond) ∈ BIG := big_of (i := 1277) (by decide +kernel) (by decide +kernel)
theorem qm_1278 : (.fieldLink RX14 126 "WeatherTeaModel" "error" "I" : Cond) ∈ BIG := big_of (i := 1278) (by decide +kernel) (by decide +kernel)
theorem qm_1279 : (.fieldLink RX14 129 "WeatherTeaModel" "errorToken" "I" : Cond) ∈ BIG := big_of (i := 1279) (by decide +kernel) (by decide +kernel)
theorem qm_1280 : (.fieldLink RX14 138 "WeatherTeaModel" "deep" "I" : Cond) ∈ BIG := big_of (i := 1280) (by decide +kernel) (by decide +kernel)
theorem qm_1281 : (.fieldLink RX14 29 "WeatherTeaModel" "frontName" "[I" : Cond) ∈ BIG := big_of (i := 1281) (by decide +kernel) (by decide +kernel)
theorem qm_1282 : (.fieldLink RX14 32 "WeatherTeaModel" "guestName" "[I" : Cond) ∈ BIG := big_of (i := 1282) (by decide +kernel) (by decide +kernel)
theorem qm_1283 : (.fieldLink RX14 38 "WeatherTeaModel" "told" "LWeatherTeaModel$Plan;" : Cond) ∈ BIG := big_of (i := 1283) (by decide +kernel) (by decide +kernel)
theorem qm_1284 : (.fieldLink RX14 42 "WeatherTeaModel" "fresh" "LWeatherTeaModel$Plan;" : Cond) ∈ BIG := big_of (i := 1284) (by decide +kernel) (by decide +kernel)
theorem qm_1285 : (.fieldLink RX14 45 "WeatherTeaModel" "value" "[I" : Cond) ∈ BIG := big_of (i := 1285) (by decide +kernel) (by decide +kernel)
theorem qm_1286 : (.fieldLink RX14 48 "WeatherTeaModel" "now" "[I" : Cond) ∈ BIG := big_of (i := 1286) (by decide +kernel) (by decide +kernel)
theorem qm_1287 : (.fieldLink RX14 51 "WeatherTeaModel" "kept" "[I" : Cond) ∈ BIG := big_of (i := 1287) (by decide +kernel) (by decide +kernel)
theorem qm_1288 : (.lays RX14 RX14 "thrown" "I" : Cond) ∈ BIG := big_of (i := 1288) (by decide +kernel) (by decide +kernel)
theorem qm_1290 : (.laysFinal RX14 RX14 "tape" "[I" : Cond) ∈ BIG := big_of (i := 1290) (by decide +kernel) (by decide +kernel)
theorem qm_1292 : (.lays RX14 RX14 "bytes" "I" : Cond) ∈ BIG := big_of (i := 1292) (by decide +kernel) (by decide +kernel)
theorem qm_1294 : (.lays RX14 RX14 "errorAt" "I" : Cond) ∈ BIG := big_of (i := 1294) (by decide +kernel) (by decide +kernel)
theorem qm_1296 : (.laysFinal RX14 RX14 "kind" "[I" : Cond) ∈ BIG := big_of (i := 1296) (by decide +kernel) (by decide +kernel)
theorem qm_1298 : (.laysFinal RX14 RX14 "number" "[I" : Cond) ∈ BIG := big_of (i := 1298) (by decide +kernel) (by decide +kernel)
theorem qm_1300 : (.laysFinal RX14 RX14 "position" "[I" : Cond) ∈ BIG := big_of (i := 1300) (by decide +kernel) (by decide +kernel)
theorem qm_1302 : (.laysFinal RX14 RX14 "length" "[I" : Cond) ∈ BIG := big_of (i := 1302) (by decide +kernel) (by decide +kernel)
theorem qm_1304 : (.lays RX14 RX14 "token" "I" : Cond) ∈ BIG := big_of (i := 1304) (by decide +kernel) (by decide +kernel)
theorem qm_1306 : (.lays RX14 RX14 "isWrong" "Z" : Cond) ∈ BIG := big_of (i := 1306) (by decide +kernel) (by decide +kernel)
theorem qm_1308 : (.lays RX14 RX14 "error" "I" : Cond) ∈ BIG := big_of (i := 1308) (by decide +kernel) (by decide +kernel)
theorem qm_1310 : (.lays RX14 RX14 "errorToken" "I" : Cond) ∈ BIG := big_of (i := 1310) (by decide +kernel) (by decide +kernel)
theorem qm_1312 : (.lays RX14 RX14 "deep" "I" : Cond) ∈ BIG := big_of (i := 1312) (by decide +kernel) (by decide +kernel)
theorem qm_1314 : (.laysFinal RX14 RX14 "frontName" "[I" : Cond) ∈ BIG := big_of (i := 1314) (by decide +kernel) (by decide +kernel)
theorem qm_1316 : (.laysFinal RX14 RX14 "guestName" "[I" : Cond) ∈ BIG := big_of (i := 1316) (by decide +kernel) (by decide +kernel)
theorem qm_1318 : (.laysFinal RX14 RX14 "told" "LWeatherTeaModel$Plan;" : Cond) ∈ BIG := big_of (i := 1318) (by decide +kernel) (by decide +kernel)
theorem qm_1320 : (.laysFinal RX14 RX14 "fresh" "LWeatherTeaModel$Plan;" : Cond) ∈ BIG := big_of (i := 1320) (by decide +kernel) (by decide +kernel)
theorem qm_1322 : (.laysFinal RX14 RX14 "value" "[I" : Cond) ∈ BIG := big_of (i := 1322) (by decide +kernel) (by decide +kernel)
theorem qm_1324 : (.laysFinal RX14 RX14 "now" "[I" : Cond) ∈ BIG := big_of (i := 1324) (by decide +kernel) (by decide +kernel)
theorem qm_1326 : (.laysFinal RX14 RX14 "kept" "[I" : Cond) ∈ BIG := big_of (i := 1326) (by decide +kernel) (by decide +kernel)
theorem qm_1329 : (.methodLink RL 83 yX14_thrown : Cond) ∈ BIG := big_of (i := 1329) (by decide +kernel) (by decide +kernel)
theorem qm_1330 : (.instanceMethod yX14_thrown : Cond) ∈ BIG := big_of (i := 1330) (by decide +kernel) (by decide +kernel)
theorem qm_1331 : (.selects RX14 yX14_thrown yX14_thrown : Cond) ∈ BIG := big_of (i := 1331) (by decide +kernel) (by decide +kernel)
theorem qm_1332 : (.code yX14_thrown cX14_thrown 1 (some .int) : Cond) ∈ BIG := big_of (i := 1332) (by decide +kernel) (by decide +kernel)
theorem qm_1333 : (.methodLink RL 82 yX14_feed : Cond) ∈ BIG := big_of (i := 1333) (by decide +kernel) (by decide +kernel)
theorem qm_1334 : (.instanceMethod yX14_feed : Cond) ∈ BIG := big_of (i := 1334) (by decide +kernel) (by decide +kernel)
theorem qm_1335 : (.selects RX14 yX14_feed yX14_feed : Cond) ∈ BIG := big_of (i := 1335) (by decide +kernel) (by decide +kernel)
theorem qm_1336 : (.code yX14_feed cX14_feed 12 (some .int) : Cond) ∈ BIG := big_of (i := 1336) (by decide +kernel) (by decide +kernel)
theorem qm_1337 : (.methodLink RX14 276 yX14_no : Cond) ∈ BIG := big_of (i := 1337) (by decide +kernel) (by decide +kernel)
theorem qm_1339 : (.instanceMethod yX14_no : Cond) ∈ BIG := big_of (i := 1339) (by decide +kernel) (by decide +kernel)
theorem qm_1340 : (.code yX14_no cX14_no 2 (some .int) : Cond) ∈ BIG := big_of (i := 1340) (by decide +kernel) (by decide +kernel)
theorem qm_1341 : (.methodLink RL 89 yX14_trim : Cond) ∈ BIG := big_of (i := 1341) (by decide +kernel) (by decide +kernel)
theorem qm_1342 : (.instanceMethod yX14_trim : Cond) ∈ BIG := big_of (i := 1342) (by decide +kernel) (by decide +kernel)
theorem qm_1343 : (.selects RX14 yX14_trim yX14_trim : Cond) ∈ BIG := big_of (i := 1343) (by decide +kernel) (by decide +kernel)
theorem qm_1344 : (.code yX14_trim cX14_trim 2 (some .int) : Cond) ∈ BIG := big_of (i := 1344) (by decide +kernel) (by decide +kernel)
theorem qm_1345 : (.methodLink RX14 72 yX14_isIn : Cond) ∈ BIG := big_of (i := 1345) (by decide +kernel) (by decide +kernel)
theorem qm_1346 : (.static yX14_isIn : Cond) ∈ BIG := big_of (i := 1346) (by decide +kernel) (by decide +kernel)
theorem qm_1347 : (.code yX14_isIn cX14_isIn 3 (some .boolean) : Cond) ∈ BIG := big_of (i := 1347) (by decide +kernel) (by decide +kernel)
theorem qm_1348 : (.methodLink RL 93 yX14_teach : Cond) ∈ BIG := big_of (i := 1348) (by decide +kernel) (by decide +kernel)
theorem qm_1349 : (.instanceMethod yX14_teach : Cond) ∈ BIG := big_of (i := 1349) (by decide +kernel) (by decide +kernel)
theorem qm_1350 : (.selects RX14 yX14_teach yX14_teach : Cond) ∈ BIG := big_of (i := 1350) (by decide +kernel) (by decide +kernel)
theorem qm_1351 : (.code yX14_teach cX14_teach 1 (some .int) : Cond) ∈ BIG := big_of (i := 1351) (by decide +kernel) (by decide +kernel)
theorem qm_1352 : (.methodLink RX14 279 yX13_begin : Cond) ∈ BIG := big_of (i := 1352) (by decide +kernel) (by decide +kernel)
theorem qm_1353 : (.instanceMethod yX13_begin : Cond) ∈ BIG := big_of (i := 1353) (by decide +kernel) (by decide +kernel)
theorem qm_1354 : (.selects RX13 yX13_begin yX13_begin : Cond) ∈ BIG := big_of (i := 1354) (by decide +kernel) (by decide +kernel)
theorem qm_1355 : (.code yX13_begin cX13_begin 1 none : Cond) ∈ BIG := big_of (i := 1355) (by decide +kernel) (by decide +kernel)
theorem qm_1356 : (.methodLink RX14 282 yX14_readAll : Cond) ∈ BIG := big_of (i := 1356) (by decide +kernel) (by decide +kernel)
theorem qm_1358 : (.instanceMethod yX14_readAll : Cond) ∈ BIG := big_of (i := 1358) (by decide +kernel) (by decide +kernel)
theorem qm_1359 : (.code yX14_readAll cX14_readAll 3 none : Cond) ∈ BIG := big_of (i := 1359) (by decide +kernel) (by decide +kernel)
theorem qm_1360 : (.methodLink RX14 113 yX14_skip : Cond) ∈ BIG := big_of (i := 1360) (by decide +kernel) (by decide +kernel)
theorem qm_1362 : (.instanceMethod yX14_skip : Cond) ∈ BIG := big_of (i := 1362) (by decide +kernel) (by decide +kernel)
theorem qm_1363 : (.code yX14_skip cX14_skip 3 (some .int) : Cond) ∈ BIG := big_of (i := 1363) (by decide +kernel) (by decide +kernel)
theorem qm_1364 : (.methodLink RX14 100 yX14_byteAt : Cond) ∈ BIG := big_of (i := 1364) (by decide +kernel) (by decide +kernel)
theorem qm_1366 : (.instanceMethod yX14_byteAt : Cond) ∈ BIG := big_of (i := 1366) (by decide +kernel) (by decide +kernel)
theorem qm_1367 : (.code yX14_byteAt cX14_byteAt 2 (some .int) : Cond) ∈ BIG := big_of (i := 1367) (by decide +kernel) (by decide +kernel)
theorem qm_1368 : (.methodLink RX14 116 yX14_read : Cond) ∈ BIG := big_of (i := 1368) (by decide +kernel) (by decide +kernel)
theorem qm_1370 : (.instanceMethod yX14_read : Cond) ∈ BIG := big_of (i := 1370) (by decide +kernel) (by decide +kernel)
theorem qm_1371 : (.code yX14_read cX14_read 6 (some .int) : Cond) ∈ BIG := big_of (i := 1371) (by decide +kernel) (by decide +kernel)
theorem qm_1372 : (.methodLink RX14 96 yX14_isLetter : Cond) ∈ BIG := big_of (i := 1372) (by decide +kernel) (by decide +kernel)
theorem qm_1373 : (.static yX14_isLetter : Cond) ∈ BIG := big_of (i := 1373) (by decide +kernel) (by decide +kernel)
theorem qm_1374 : (.code yX14_isLetter cX14_isLetter 1 (some .boolean) : Cond) ∈ BIG := big_of (i := 1374) (by decide +kernel) (by decide +kernel)
theorem qm_1375 : (.methodLink RX14 104 yX14_isDigit : Cond) ∈ BIG := big_of (i := 1375) (by decide +kernel) (by decide +kernel)
theorem qm_1376 : (.static yX14_isDigit : Cond) ∈ BIG := big_of (i := 1376) (by decide +kernel) (by decide +kernel)
theorem qm_1377 : (.code yX14_isDigit cX14_isDigit 1 (some .boolean) : Cond) ∈ BIG := big_of (i := 1377) (by decide +kernel) (by decide +kernel)
theorem qm_1378 : (.methodLink RX14 107 yX14_keyword : Cond) ∈ BIG := big_of (i := 1378) (by decide +kernel) (by decide +kernel)
theorem qm_1380 : (.instanceMethod yX14_keyword : Cond) ∈ BIG := big_of (i := 1380) (by decide +kernel) (by decide +kernel)
theorem qm_1381 : (.code yX14_keyword cX14_keyword 4 (some .int) : Cond) ∈ BIG := big_of (i := 1381) (by decide +kernel) (by decide +kernel)
theorem qm_1382 : (.fieldLink RX14 88 "WeatherTeaModel" "TOLD" "[Ljava/lang/String;" : Cond) ∈ BIG := big_of (i := 1382) (by decide +kernel) (by decide +kernel)
theorem qm_1384 : (.methodLink RX14 92 yX14_isWord : Cond) ∈ BIG := big_of (i := 1384) (by decide +kernel) (by decide +kernel)
theorem qm_1386 : (.instanceMethod yX14_isWord : Cond) ∈ BIG := big_of (i := 1386) (by decide +kernel) (by decide +kernel)
theorem qm_1387 : (.code yX14_isWord cX14_isWord 5 (some .boolean) : Cond) ∈ BIG := big_of (i := 1387) (by decide +kernel) (by decide +kernel)
theorem qm_1388 : (.methodLink RX14 79 yJ0_length_8abf5 : Cond) ∈ BIG := big_of (i := 1388) (by decide +kernel) (by decide +kernel)
theorem qm_1389 : (.methodLink RX14 84 yJ0_charAt_5068e : Cond) ∈ BIG := big_of (i := 1389) (by decide +kernel) (by decide +kernel)
theorem qm_1390 : (.methodLink RX14 110 yX14_symbol : Cond) ∈ BIG := big_of (i := 1390) (by decide +kernel) (by decide +kernel)
theorem qm_1391 : (.static yX14_symbol : Cond) ∈ BIG := big_of (i := 1391) (by decide +kernel) (by decide +kernel)
theorem qm_1392 : (.code yX14_symbol cX14_symbol 1 (some .int) : Cond) ∈ BIG := big_of (i := 1392) (by decide +kernel) (by decide +kernel)
theorem qm_1393 : (.methodLink RX14 285 yX14_line : Cond) ∈ BIG := big_of (i := 1393) (by decide +kernel) (by decide +kernel)
theorem qm_1395 : (.instanceMethod yX14_line : Cond) ∈ BIG := big_of (i := 1395) (by decide +kernel) (by decide +kernel)
theorem qm_1396 : (.code yX14_line cX14_line 1 none : Cond) ∈ BIG := big_of (i := 1396) (by decide +kernel) (by decide +kernel)
theorem qm_1397 : (.methodLink RX14 187 yX14_takes : Cond) ∈ BIG := big_of (i := 1397) (by decide +kernel) (by decide +kernel)
theorem qm_1399 : (.instanceMethod yX14_takes : Cond) ∈ BIG := big_of (i := 1399) (by decide +kernel) (by decide +kernel)
theorem qm_1400 : (.code yX14_takes cX14_takes 2 (some .boolean) : Cond) ∈ BIG := big_of (i := 1400) (by decide +kernel) (by decide +kernel)
theorem qm_1401 : (.methodLink RX14 132 yX14_is : Cond) ∈ BIG := big_of (i := 1401) (by decide +kernel) (by decide +kernel)
theorem qm_1403 : (.instanceMethod yX14_is : Cond) ∈ BIG := big_of (i := 1403) (by decide +kernel) (by decide +kernel)
theorem qm_1404 : (.code yX14_is cX14_is 2 (some .boolean) : Cond) ∈ BIG := big_of (i := 1404) (by decide +kernel) (by decide +kernel)
theorem qm_1405 : (.methodLink RX14 267 yX14_newFront : Cond) ∈ BIG := big_of (i := 1405) (by decide +kernel) (by decide +kernel)
theorem qm_1407 : (.instanceMethod yX14_newFront : Cond) ∈ BIG := big_of (i := 1407) (by decide +kernel) (by decide +kernel)
theorem qm_1408 : (.code yX14_newFront cX14_newFront 2 none : Cond) ∈ BIG := big_of (i := 1408) (by decide +kernel) (by decide +kernel)
theorem qm_1409 : (.methodLink RX14 60 yJ9_min_7cf53 : Cond) ∈ BIG := big_of (i := 1409) (by decide +kernel) (by decide +kernel)
theorem qm_1410 : (.methodLink RX14 219 yX14_newName : Cond) ∈ BIG := big_of (i := 1410) (by decide +kernel) (by decide +kernel)
theorem qm_1412 : (.instanceMethod yX14_newName : Cond) ∈ BIG := big_of (i := 1412) (by decide +kernel) (by decide +kernel)
theorem qm_1413 : (.code yX14_newName cX14_newName 3 none : Cond) ∈ BIG := big_of (i := 1413) (by decide +kernel) (by decide +kernel)
theorem qm_1414 : (.methodLink RX14 157 yX14_known : Cond) ∈ BIG := big_of (i := 1414) (by decide +kernel) (by decide +kernel)
theorem qm_1416 : (.instanceMethod yX14_known : Cond) ∈ BIG := big_of (i := 1416) (by decide +kernel) (by decide +kernel)
theorem qm_1417 : (.code yX14_known cX14_known 4 (some .int) : Cond) ∈ BIG := big_of (i := 1417) (by decide +kernel) (by decide +kernel)
theorem qm_1418 : (.methodLink RX14 153 yX14_isSameName : Cond) ∈ BIG := big_of (i := 1418) (by decide +kernel) (by decide +kernel)
theorem qm_1420 : (.instanceMethod yX14_isSameName : Cond) ∈ BIG := big_of (i := 1420) (by decide +kernel) (by decide +kernel)
theorem qm_1421 : (.code yX14_isSameName cX14_isSameName 4 (some .boolean) : Cond) ∈ BIG := big_of (i := 1421) (by decide +kernel) (by decide +kernel)
theorem qm_1422 : (.methodLink RX14 161 yX14_mark : Cond) ∈ BIG := big_of (i := 1422) (by decide +kernel) (by decide +kernel)
theorem qm_1424 : (.instanceMethod yX14_mark : Cond) ∈ BIG := big_of (i := 1424) (by decide +kernel) (by decide +kernel)
theorem qm_1425 : (.code yX14_mark cX14_mark 2 none : Cond) ∈ BIG := big_of (i := 1425) (by decide +kernel) (by decide +kernel)
theorem qm_1426 : (.methodLink RX14 165 yX14_take : Cond) ∈ BIG := big_of (i := 1426) (by decide +kernel) (by decide +kernel)
theorem qm_1428 : (.instanceMethod yX14_take : Cond) ∈ BIG := big_of (i := 1428) (by decide +kernel) (by decide +kernel)
theorem qm_1429 : (.code yX14_take cX14_take 2 none : Cond) ∈ BIG := big_of (i := 1429) (by decide +kernel) (by decide +kernel)
theorem qm_1430 : (.methodLink RX14 135 yX14_wrong : Cond) ∈ BIG := big_of (i := 1430) (by decide +kernel) (by decide +kernel)
theorem qm_1432 : (.instanceMethod yX14_wrong : Cond) ∈ BIG := big_of (i := 1432) (by decide +kernel) (by decide +kernel)
theorem qm_1433 : (.code yX14_wrong cX14_wrong 1 none : Cond) ∈ BIG := big_of (i := 1433) (by decide +kernel) (by decide +kernel)
theorem qm_1434 : (.methodLink RX14 229 yX14_numberBehind : Cond) ∈ BIG := big_of (i := 1434) (by decide +kernel) (by decide +kernel)
theorem qm_1436 : (.instanceMethod yX14_numberBehind : Cond) ∈ BIG := big_of (i := 1436) (by decide +kernel) (by decide +kernel)
theorem qm_1437 : (.code yX14_numberBehind cX14_numberBehind 5 (some .int) : Cond) ∈ BIG := big_of (i := 1437) (by decide +kernel) (by decide +kernel)
theorem qm_1438 : (.methodLink RX14 270 yX14_newGuest : Cond) ∈ BIG := big_of (i := 1438) (by decide +kernel) (by decide +kernel)
theorem qm_1440 : (.instanceMethod yX14_newGuest : Cond) ∈ BIG := big_of (i := 1440) (by decide +kernel) (by decide +kernel)
theorem qm_1441 : (.code yX14_newGuest cX14_newGuest 2 none : Cond) ∈ BIG := big_of (i := 1441) (by decide +kernel) (by decide +kernel)
theorem qm_1442 : (.methodLink RX14 273 yX14_order : Cond) ∈ BIG := big_of (i := 1442) (by decide +kernel) (by decide +kernel)
theorem qm_1444 : (.instanceMethod yX14_order : Cond) ∈ BIG := big_of (i := 1444) (by decide +kernel) (by decide +kernel)
theorem qm_1445 : (.code yX14_order cX14_order 3 none : Cond) ∈ BIG := big_of (i := 1445) (by decide +kernel) (by decide +kernel)
theorem qm_1446 : (.methodLink RX14 190 yX14_front : Cond) ∈ BIG := big_of (i := 1446) (by decide +kernel) (by decide +kernel)
theorem qm_1448 : (.instanceMethod yX14_front : Cond) ∈ BIG := big_of (i := 1448) (by decide +kernel) (by decide +kernel)
theorem qm_1449 : (.code yX14_front cX14_front 1 (some .int) : Cond) ∈ BIG := big_of (i := 1449) (by decide +kernel) (by decide +kernel)
theorem qm_1450 : (.methodLink RX14 171 yX14_name : Cond) ∈ BIG := big_of (i := 1450) (by decide +kernel) (by decide +kernel)
theorem qm_1452 : (.instanceMethod yX14_name : Cond) ∈ BIG := big_of (i := 1452) (by decide +kernel) (by decide +kernel)
theorem qm_1453 : (.code yX14_name cX14_name 4 (some .int) : Cond) ∈ BIG := big_of (i := 1453) (by decide +kernel) (by decide +kernel)
theorem qm_1454 : (.methodLink RX14 66 yJ9_max_7cf53 : Cond) ∈ BIG := big_of (i := 1454) (by decide +kernel) (by decide +kernel)
theorem qm_1455 : (.methodLink RX14 210 yX14_guest : Cond) ∈ BIG := big_of (i := 1455) (by decide +kernel) (by decide +kernel)
theorem qm_1457 : (.instanceMethod yX14_guest : Cond) ∈ BIG := big_of (i := 1457) (by decide +kernel) (by decide +kernel)
theorem qm_1458 : (.code yX14_guest cX14_guest 1 (some .int) : Cond) ∈ BIG := big_of (i := 1458) (by decide +kernel) (by decide +kernel)
theorem qm_1459 : (.methodLink RX14 207 yX14_test : Cond) ∈ BIG := big_of (i := 1459) (by decide +kernel) (by decide +kernel)
theorem qm_1461 : (.instanceMethod yX14_test : Cond) ∈ BIG := big_of (i := 1461) (by decide +kernel) (by decide +kernel)
theorem qm_1462 : (.code yX14_test cX14_test 2 (some .int) : Cond) ∈ BIG := big_of (i := 1462) (by decide +kernel) (by decide +kernel)
theorem qm_1463 : (.methodLink RX14 216 yX14_both : Cond) ∈ BIG := big_of (i := 1463) (by decide +kernel) (by decide +kernel)
theorem qm_1465 : (.instanceMethod yX14_both : Cond) ∈ BIG := big_of (i := 1465) (by decide +kernel) (by decide +kernel)
theorem qm_1466 : (.code yX14_both cX14_both 2 (some .int) : Cond) ∈ BIG := big_of (i := 1466) (by decide +kernel) (by decide +kernel)
theorem qm_1467 : (.methodLink RX14 204 yX14_single : Cond) ∈ BIG := big_of (i := 1467) (by decide +kernel) (by decide +kernel)
theorem qm_1469 : (.instanceMethod yX14_single : Cond) ∈ BIG := big_of (i := 1469) (by decide +kernel) (by decide +kernel)
theorem qm_1470 : (.code yX14_single cX14_single 2 (some .int) : Cond) ∈ BIG := big_of (i := 1470) (by decide +kernel) (by decide +kernel)
theorem qm_1471 : (.methodLink RX14 177 yX14_deeper : Cond) ∈ BIG := big_of (i := 1471) (by decide +kernel) (by decide +kernel)
theorem qm_1473 : (.instanceMethod yX14_deeper : Cond) ∈ BIG := big_of (i := 1473) (by decide +kernel) (by decide +kernel)
theorem qm_1474 : (.code yX14_deeper cX14_deeper 1 none : Cond) ∈ BIG := big_of (i := 1474) (by decide +kernel) (by decide +kernel)
theorem qm_1475 : (.methodLink RX14 183 yX14_node : Cond) ∈ BIG := big_of (i := 1475) (by decide +kernel) (by decide +kernel)
theorem qm_1477 : (.instanceMethod yX14_node : Cond) ∈ BIG := big_of (i := 1477) (by decide +kernel) (by decide +kernel)
theorem qm_1478 : (.code yX14_node cX14_node 5 (some .int) : Cond) ∈ BIG := big_of (i := 1478) (by decide +kernel) (by decide +kernel)
theorem qm_1479 : (.methodLink RX14 213 yX14_comparison : Cond) ∈ BIG := big_of (i := 1479) (by decide +kernel) (by decide +kernel)
theorem qm_1481 : (.instanceMethod yX14_comparison : Cond) ∈ BIG := big_of (i := 1481) (by decide +kernel) (by decide +kernel)
theorem qm_1482 : (.code yX14_comparison cX14_comparison 3 (some .int) : Cond) ∈ BIG := big_of (i := 1482) (by decide +kernel) (by decide +kernel)
theorem qm_1483 : (.methodLink RX14 180 yX14_sum : Cond) ∈ BIG := big_of (i := 1483) (by decide +kernel) (by decide +kernel)
theorem qm_1485 : (.instanceMethod yX14_sum : Cond) ∈ BIG := big_of (i := 1485) (by decide +kernel) (by decide +kernel)
theorem qm_1486 : (.code yX14_sum cX14_sum 3 (some .int) : Cond) ∈ BIG := big_of (i := 1486) (by decide +kernel) (by decide +kernel)
theorem qm_1487 : (.methodLink RX14 201 yX14_product : Cond) ∈ BIG := big_of (i := 1487) (by decide +kernel) (by decide +kernel)
theorem qm_1489 : (.instanceMethod yX14_product : Cond) ∈ BIG := big_of (i := 1489) (by decide +kernel) (by decide +kernel)
theorem qm_1490 : (.code yX14_product cX14_product 3 (some .int) : Cond) ∈ BIG := big_of (i := 1490) (by decide +kernel) (by decide +kernel)
theorem qm_1491 : (.methodLink RX14 199 yX14_value : Cond) ∈ BIG := big_of (i := 1491) (by decide +kernel) (by decide +kernel)
theorem qm_1493 : (.instanceMethod yX14_value : Cond) ∈ BIG := big_of (i := 1493) (by decide +kernel) (by decide +kernel)
theorem qm_1494 : (.code yX14_value cX14_value 2 (some .int) : Cond) ∈ BIG := big_of (i := 1494) (by decide +kernel) (by decide +kernel)
theorem qm_1495 : (.methodLink RX14 193 yX14_ofTwo : Cond) ∈ BIG := big_of (i := 1495) (by decide +kernel) (by decide +kernel)
theorem qm_1497 : (.instanceMethod yX14_ofTwo : Cond) ∈ BIG := big_of (i := 1497) (by decide +kernel) (by decide +kernel)
theorem qm_1498 : (.code yX14_ofTwo cX14_ofTwo 4 (some .int) : Cond) ∈ BIG := big_of (i := 1498) (by decide +kernel) (by decide +kernel)
theorem qm_1499 : (.methodLink RX14 196 yX14_inBrackets : Cond) ∈ BIG := big_of (i := 1499) (by decide +kernel) (by decide +kernel)
theorem qm_1501 : (.instanceMethod yX14_inBrackets : Cond) ∈ BIG := big_of (i := 1501) (by decide +kernel) (by decide +kernel)
theorem qm_1502 : (.code yX14_inBrackets cX14_inBrackets 2 (some .int) : Cond) ∈ BIG := big_of (i := 1502) (by decide +kernel) (by decide +kernel)
theorem qm_1503 : (.methodLink RX14 288 yX13_become : Cond) ∈ BIG := big_of (i := 1503) (by decide +kernel) (by decide +kernel)
theorem qm_1504 : (.instanceMethod yX13_become : Cond) ∈ BIG := big_of (i := 1504) (by decide +kernel) (by decide +kernel)
theorem qm_1505 : (.selects RX13 yX13_become yX13_become : Cond) ∈ BIG := big_of (i := 1505) (by decide +kernel) (by decide +kernel)
theorem qm_1506 : (.code yX13_become cX13_become 2 none : Cond) ∈ BIG := big_of (i := 1506) (by decide +kernel) (by decide +kernel)
theorem qm_1507 : (.methodLink RX13 79 yX13_copy : Cond) ∈ BIG := big_of (i := 1507) (by decide +kernel) (by decide +kernel)
theorem qm_1508 : (.static yX13_copy : Cond) ∈ BIG := big_of (i := 1508) (by decide +kernel) (by decide +kernel)
theorem qm_1509 : (.code yX13_copy cX13_copy 2 none : Cond) ∈ BIG := big_of (i := 1509) (by decide +kernel) (by decide +kernel)
theorem qm_1510 : (.methodLink RX13 73 ⟨RJ10, "arraycopy", "(Ljava/lang/Object;ILjava/lang/Object;II)V"⟩ : Cond) ∈ BIG := big_of (i := 1510) (by decide +kernel) (by decide +kernel)
theorem qm_1511 : (.static ⟨RJ10, "arraycopy", "(Ljava/lang/Object;ILjava/lang/Object;II)V"⟩ : Cond) ∈ BIG := big_of (i := 1511) (by decide +kernel) (by decide +kernel)
theorem qm_1512 : (.native ⟨RJ10, "arraycopy", "(Ljava/lang/Object;ILjava/lang/Object;II)V"⟩ : Cond) ∈ BIG := big_of (i := 1512) (by decide +kernel) (by decide +kernel)
theorem qm_1513 : (.methodLink RL 97 yX14_errorAt : Cond) ∈ BIG := big_of (i := 1513) (by decide +kernel) (by decide +kernel)
theorem qm_1514 : (.instanceMethod yX14_errorAt : Cond) ∈ BIG := big_of (i := 1514) (by decide +kernel) (by decide +kernel)
theorem qm_1515 : (.selects RX14 yX14_errorAt yX14_errorAt : Cond) ∈ BIG := big_of (i := 1515) (by decide +kernel) (by decide +kernel)
theorem qm_1516 : (.code yX14_errorAt cX14_errorAt 1 (some .int) : Cond) ∈ BIG := big_of (i := 1516) (by decide +kernel) (by decide +kernel)
theorem qm_1517 : (.methodLink RX14 292 yX14_ok : Cond) ∈ BIG := big_of (i := 1517) (by decide +kernel) (by decide +kernel)
theorem qm_1519 : (.instanceMethod yX14_ok : Cond) ∈ BIG := big_of (i := 1519) (by decide +kernel) (by decide +kernel)
theorem qm_1520 : (.code yX14_ok cX14_ok 2 (some .int) : Cond) ∈ BIG := big_of (i := 1520) (by decide +kernel) (by decide +kernel)
theorem qm_1521 : (.methodLink RL 101 yX14_fronts : Cond) ∈ BIG := big_of (i := 1521) (by decide +kernel) (by decide +kernel)
theorem qm_1522 : (.instanceMethod yX14_fronts : Cond) ∈ BIG := big_of (i := 1522) (by decide +kernel) (by decide +kernel)
theorem qm_1523 : (.selects RX14 yX14_fronts yX14_fronts : Cond) ∈ BIG := big_of (i := 1523) (by decide +kernel) (by decide +kernel)
theorem qm_1524 : (.code yX14_fronts cX14_fronts 1 (some .int) : Cond) ∈ BIG := big_of (i := 1524) (by decide +kernel) (by decide +kernel)
theorem qm_1525 : (.methodLink RL 105 yX14_guests : Cond) ∈ BIG := big_of (i := 1525) (by decide +kernel) (by decide +kernel)
theorem qm_1526 : (.instanceMethod yX14_guests : Cond) ∈ BIG := big_of (i := 1526) (by decide +kernel) (by decide +kernel)
theorem qm_1527 : (.selects RX14 yX14_guests yX14_guests : Cond) ∈ BIG := big_of (i := 1527) (by decide +kernel) (by decide +kernel)
theorem qm_1528 : (.code yX14_guests cX14_guests 1 (some .int) : Cond) ∈ BIG := big_of (i := 1528) (by decide +kernel) (by decide +kernel)
theorem qm_1529 : (.methodLink RL 109 yX14_hour : Cond) ∈ BIG := big_of (i := 1529) (by decide +kernel) (by decide +kernel)
theorem qm_1530 : (.instanceMethod yX14_hour : Cond) ∈ BIG := big_of (i := 1530) (by decide +kernel) (by decide +kernel)
theorem qm_1531 : (.selects RX14 yX14_hour yX14_hour : Cond) ∈ BIG := big_of (i := 1531) (by decide +kernel) (by decide +kernel)
theorem qm_1532 : (.code yX14_hour cX14_hour 1 (some .int) : Cond) ∈ BIG := big_of (i := 1532) (by decide +kernel) (by decide +kernel)
theorem qm_1533 : (.methodLink RL 113 yX14_warmth : Cond) ∈ BIG := big_of (i := 1533) (by decide +kernel) (by decide +kernel)
theorem qm_1534 : (.instanceMethod yX14_warmth : Cond) ∈ BIG := big_of (i := 1534) (by decide +kernel) (by decide +kernel)
theorem qm_1535 : (.selects RX14 yX14_warmth yX14_warmth : Cond) ∈ BIG := big_of (i := 1535) (by decide +kernel) (by decide +kernel)
theorem qm_1536 : (.code yX14_warmth cX14_warmth 1 (some .int) : Cond) ∈ BIG := big_of (i := 1536) (by decide +kernel) (by decide +kernel)
theorem qm_1537 : (.methodLink RL 117 yX14_strength : Cond) ∈ BIG := big_of (i := 1537) (by decide +kernel) (by decide +kernel)
theorem qm_1538 : (.instanceMethod yX14_strength : Cond) ∈ BIG := big_of (i := 1538) (by decide +kernel) (by decide +kernel)
theorem qm_1539 : (.selects RX14 yX14_strength yX14_strength : Cond) ∈ BIG := big_of (i := 1539) (by decide +kernel) (by decide +kernel)
theorem qm_1540 : (.code yX14_strength cX14_strength 1 (some .int) : Cond) ∈ BIG := big_of (i := 1540) (by decide +kernel) (by decide +kernel)
theorem qm_1541 : (.methodLink RL 121 yX14_charge : Cond) ∈ BIG := big_of (i := 1541) (by decide +kernel) (by decide +kernel)
theorem qm_1542 : (.instanceMethod yX14_charge : Cond) ∈ BIG := big_of (i := 1542) (by decide +kernel) (by decide +kernel)
theorem qm_1543 : (.selects RX14 yX14_charge yX14_charge : Cond) ∈ BIG := big_of (i := 1543) (by decide +kernel) (by decide +kernel)
theorem qm_1544 : (.code yX14_charge cX14_charge 1 (some .int) : Cond) ∈ BIG := big_of (i := 1544) (by decide +kernel) (by decide +kernel)
theorem qm_1545 : (.methodLink RL 125 yX14_lemons : Cond) ∈ BIG := big_of (i := 1545) (by decide +kernel) (by decide +kernel)
theorem qm_1546 : (.instanceMethod yX14_lemons : Cond) ∈ BIG := big_of (i := 1546) (by decide +kernel) (by decide +kernel)
theorem qm_1547 : (.selects RX14 yX14_lemons yX14_lemons : Cond) ∈ BIG := big_of (i := 1547) (by decide +kernel) (by decide +kernel)
theorem qm_1548 : (.code yX14_lemons cX14_lemons 1 (some .int) : Cond) ∈ BIG := big_of (i := 1548) (by decide +kernel) (by decide +kernel)
theorem qm_1549 : (.methodLink RL 129 yX14_saucers : Cond) ∈ BIG := big_of (i := 1549) (by decide +kernel) (by decide +kernel)
theorem qm_1550 : (.instanceMethod yX14_saucers : Cond) ∈ BIG := big_of (i := 1550) (by decide +kernel) (by decide +kernel)
theorem qm_1551 : (.selects RX14 yX14_saucers yX14_saucers : Cond) ∈ BIG := big_of (i := 1551) (by decide +kernel) (by decide +kernel)
theorem qm_1552 : (.code yX14_saucers cX14_saucers 1 (some .int) : Cond) ∈ BIG := big_of (i := 1552) (by decide +kernel) (by decide +kernel)
theorem qm_1553 : (.methodLink RL 133 yX14_coins : Cond) ∈ BIG := big_of (i := 1553) (by decide +kernel) (by decide +kernel)
theorem qm_1554 : (.instanceMethod yX14_coins : Cond) ∈ BIG := big_of (i := 1554) (by decide +kernel) (by decide +kernel)
theorem qm_1555 : (.selects RX14 yX14_coins yX14_coins : Cond) ∈ BIG := big_of (i := 1555) (by decide +kernel) (by decide +kernel)
theorem qm_1556 : (.code yX14_coins cX14_coins 1 (some .int) : Cond) ∈ BIG := big_of (i := 1556) (by decide +kernel) (by decide +kernel)
theorem qm_1557 : (.methodLink RL 137 yX14_storms : Cond) ∈ BIG := big_of (i := 1557) (by decide +kernel) (by decide +kernel)
theorem qm_1558 : (.instanceMethod yX14_storms : Cond) ∈ BIG := big_of (i := 1558) (by decide +kernel) (by decide +kernel)
theorem qm_1559 : (.selects RX14 yX14_storms yX14_storms : Cond) ∈ BIG := big_of (i := 1559) (by decide +kernel) (by decide +kernel)
theorem qm_1560 : (.code yX14_storms cX14_storms 1 (some .int) : Cond) ∈ BIG := big_of (i := 1560) (by decide +kernel) (by decide +kernel)
theorem qm_1561 : (.methodLink RL 141 yX14_seatedGuests : Cond) ∈ BIG := big_of (i := 1561) (by decide +kernel) (by decide +kernel)
theorem qm_1562 : (.instanceMethod yX14_seatedGuests : Cond) ∈ BIG := big_of (i := 1562) (by decide +kernel) (by decide +kernel)
theorem qm_1563 : (.selects RX14 yX14_seatedGuests yX14_seatedGuests : Cond) ∈ BIG := big_of (i := 1563) (by decide +kernel) (by decide +kernel)
theorem qm_1564 : (.code yX14_seatedGuests cX14_seatedGuests 1 (some .int) : Cond) ∈ BIG := big_of (i := 1564) (by decide +kernel) (by decide +kernel)
theorem qm_1565 : (.methodLink RX14 342 yX14_guestsWith : Cond) ∈ BIG := big_of (i := 1565) (by decide +kernel) (by decide +kernel)
theorem qm_1567 : (.instanceMethod yX14_guestsWith : Cond) ∈ BIG := big_of (i := 1567) (by decide +kernel) (by decide +kernel)
theorem qm_1568 : (.code yX14_guestsWith cX14_guestsWith 4 (some .int) : Cond) ∈ BIG := big_of (i := 1568) (by decide +kernel) (by decide +kernel)
theorem qm_1569 : (.methodLink RL 145 yX14_served : Cond) ∈ BIG := big_of (i := 1569) (by decide +kernel) (by decide +kernel)
theorem qm_1570 : (.instanceMethod yX14_served : Cond) ∈ BIG := big_of (i := 1570) (by decide +kernel) (by decide +kernel)
theorem qm_1571 : (.selects RX14 yX14_served yX14_served : Cond) ∈ BIG := big_of (i := 1571) (by decide +kernel) (by decide +kernel)
theorem qm_1572 : (.code yX14_served cX14_served 1 (some .int) : Cond) ∈ BIG := big_of (i := 1572) (by decide +kernel) (by decide +kernel)
theorem qm_1573 : (.methodLink RL 149 yX14_stormed : Cond) ∈ BIG := big_of (i := 1573) (by decide +kernel) (by decide +kernel)
theorem qm_1574 : (.instanceMethod yX14_stormed : Cond) ∈ BIG := big_of (i := 1574) (by decide +kernel) (by decide +kernel)
theorem qm_1575 : (.selects RX14 yX14_stormed yX14_stormed : Cond) ∈ BIG := big_of (i := 1575) (by decide +kernel) (by decide +kernel)
theorem qm_1576 : (.code yX14_stormed cX14_stormed 1 (some .int) : Cond) ∈ BIG := big_of (i := 1576) (by decide +kernel) (by decide +kernel)
theorem qm_1577 : (.methodLink RL 152 yX14_isWarm : Cond) ∈ BIG := big_of (i := 1577) (by decide +kernel) (by decide +kernel)
theorem qm_1578 : (.instanceMethod yX14_isWarm : Cond) ∈ BIG := big_of (i := 1578) (by decide +kernel) (by decide +kernel)
theorem qm_1579 : (.selects RX14 yX14_isWarm yX14_isWarm : Cond) ∈ BIG := big_of (i := 1579) (by decide +kernel) (by decide +kernel)
theorem qm_1580 : (.code yX14_isWarm cX14_isWarm 2 (some .boolean) : Cond) ∈ BIG := big_of (i := 1580) (by decide +kernel) (by decide +kernel)
theorem qm_1581 : (.methodLink RX14 345 yX14_isFront : Cond) ∈ BIG := big_of (i := 1581) (by decide +kernel) (by decide +kernel)
theorem qm_1583 : (.instanceMethod yX14_isFront : Cond) ∈ BIG := big_of (i := 1583) (by decide +kernel) (by decide +kernel)
theorem qm_1584 : (.code yX14_isFront cX14_isFront 2 (some .boolean) : Cond) ∈ BIG := big_of (i := 1584) (by decide +kernel) (by decide +kernel)
theorem qm_1585 : (.methodLink RL 155 yX14_forceOf : Cond) ∈ BIG := big_of (i := 1585) (by decide +kernel) (by decide +kernel)
theorem qm_1586 : (.instanceMethod yX14_forceOf : Cond) ∈ BIG := big_of (i := 1586) (by decide +kernel) (by decide +kernel)
theorem qm_1587 : (.selects RX14 yX14_forceOf yX14_forceOf : Cond) ∈ BIG := big_of (i := 1587) (by decide +kernel) (by decide +kernel)
theorem qm_1588 : (.code yX14_forceOf cX14_forceOf 2 (some .int) : Cond) ∈ BIG := big_of (i := 1588) (by decide +kernel) (by decide +kernel)
theorem qm_1589 : (.methodLink RL 158 yX14_isOver : Cond) ∈ BIG := big_of (i := 1589) (by decide +kernel) (by decide +kernel)
theorem qm_1590 : (.instanceMethod yX14_isOver : Cond) ∈ BIG := big_of (i := 1590) (by decide +kernel) (by decide +kernel)
theorem qm_1591 : (.selects RX14 yX14_isOver yX14_isOver : Cond) ∈ BIG := big_of (i := 1591) (by decide +kernel) (by decide +kernel)
theorem qm_1592 : (.code yX14_isOver cX14_isOver 2 (some .boolean) : Cond) ∈ BIG := big_of (i := 1592) (by decide +kernel) (by decide +kernel)
theorem qm_1593 : (.methodLink RL 161 yX14_isSteeped : Cond) ∈ BIG := big_of (i := 1593) (by decide +kernel) (by decide +kernel)
theorem qm_1594 : (.instanceMethod yX14_isSteeped : Cond) ∈ BIG := big_of (i := 1594) (by decide +kernel) (by decide +kernel)
theorem qm_1595 : (.selects RX14 yX14_isSteeped yX14_isSteeped : Cond) ∈ BIG := big_of (i := 1595) (by decide +kernel) (by decide +kernel)
theorem qm_1596 : (.code yX14_isSteeped cX14_isSteeped 2 (some .boolean) : Cond) ∈ BIG := big_of (i := 1596) (by decide +kernel) (by decide +kernel)
theorem qm_1597 : (.methodLink RL 164 yX14_isSeated : Cond) ∈ BIG := big_of (i := 1597) (by decide +kernel) (by decide +kernel)
theorem qm_1598 : (.instanceMethod yX14_isSeated : Cond) ∈ BIG := big_of (i := 1598) (by decide +kernel) (by decide +kernel)
theorem qm_1599 : (.selects RX14 yX14_isSeated yX14_isSeated : Cond) ∈ BIG := big_of (i := 1599) (by decide +kernel) (by decide +kernel)
theorem qm_1600 : (.code yX14_isSeated cX14_isSeated 2 (some .boolean) : Cond) ∈ BIG := big_of (i := 1600) (by decide +kernel) (by decide +kernel)
theorem qm_1601 : (.methodLink RX14 348 yX14_isGuest : Cond) ∈ BIG := big_of (i := 1601) (by decide +kernel) (by decide +kernel)
theorem qm_1603 : (.instanceMethod yX14_isGuest : Cond) ∈ BIG := big_of (i := 1603) (by decide +kernel) (by decide +kernel)
theorem qm_1604 : (.code yX14_isGuest cX14_isGuest 2 (some .boolean) : Cond) ∈ BIG := big_of (i := 1604) (by decide +kernel) (by decide +kernel)
theorem qm_1605 : (.methodLink RL 167 yX14_isContent : Cond) ∈ BIG := big_of (i := 1605) (by decide +kernel) (by decide +kernel)
theorem qm_1606 : (.instanceMethod yX14_isContent : Cond) ∈ BIG := big_of (i := 1606) (by decide +kernel) (by decide +kernel)
theorem qm_1607 : (.selects RX14 yX14_isContent yX14_isContent : Cond) ∈ BIG := big_of (i := 1607) (by decide +kernel) (by decide +kernel)
theorem qm_1608 : (.code yX14_isContent cX14_isContent 2 (some .boolean) : Cond) ∈ BIG := big_of (i := 1608) (by decide +kernel) (by decide +kernel)
theorem qm_1609 : (.methodLink RX14 295 yX14_likes : Cond) ∈ BIG := big_of (i := 1609) (by decide +kernel) (by decide +kernel)
theorem qm_1611 : (.instanceMethod yX14_likes : Cond) ∈ BIG := big_of (i := 1611) (by decide +kernel) (by decide +kernel)
theorem qm_1612 : (.code yX14_likes cX14_likes 2 (some .boolean) : Cond) ∈ BIG := big_of (i := 1612) (by decide +kernel) (by decide +kernel)
theorem qm_1613 : (.methodLink RL 170 yX14_wasServed : Cond) ∈ BIG := big_of (i := 1613) (by decide +kernel) (by decide +kernel)
theorem qm_1614 : (.instanceMethod yX14_wasServed : Cond) ∈ BIG := big_of (i := 1614) (by decide +kernel) (by decide +kernel)
theorem qm_1615 : (.selects RX14 yX14_wasServed yX14_wasServed : Cond) ∈ BIG := big_of (i := 1615) (by decide +kernel) (by decide +kernel)
theorem qm_1616 : (.code yX14_wasServed cX14_wasServed 2 (some .boolean) : Cond) ∈ BIG := big_of (i := 1616) (by decide +kernel) (by decide +kernel)
theorem qm_1617 : (.methodLink RL 173 yX14_wasStormed : Cond) ∈ BIG := big_of (i := 1617) (by decide +kernel) (by decide +kernel)
theorem qm_1618 : (.instanceMethod yX14_wasStormed : Cond) ∈ BIG := big_of (i := 1618) (by decide +kernel) (by decide +kernel)
theorem qm_1619 : (.selects RX14 yX14_wasStormed yX14_wasStormed : Cond) ∈ BIG := big_of (i := 1619) (by decide +kernel) (by decide +kernel)
theorem qm_1620 : (.code yX14_wasStormed cX14_wasStormed 2 (some .boolean) : Cond) ∈ BIG := big_of (i := 1620) (by decide +kernel) (by decide +kernel)
theorem qm_1621 : (.methodLink RL 176 yX14_steep : Cond) ∈ BIG := big_of (i := 1621) (by decide +kernel) (by decide +kernel)
theorem qm_1622 : (.instanceMethod yX14_steep : Cond) ∈ BIG := big_of (i := 1622) (by decide +kernel) (by decide +kernel)
theorem qm_1623 : (.selects RX14 yX14_steep yX14_steep : Cond) ∈ BIG := big_of (i := 1623) (by decide +kernel) (by decide +kernel)
theorem qm_1624 : (.code yX14_steep cX14_steep 2 (some .int) : Cond) ∈ BIG := big_of (i := 1624) (by decide +kernel) (by decide +kernel)
theorem qm_1625 : (.methodLink RX14 304 yX14_canSteep : Cond) ∈ BIG := big_of (i := 1625) (by decide +kernel) (by decide +kernel)
theorem qm_1627 : (.instanceMethod yX14_canSteep : Cond) ∈ BIG := big_of (i := 1627) (by decide +kernel) (by decide +kernel)
theorem qm_1628 : (.code yX14_canSteep cX14_canSteep 2 (some .boolean) : Cond) ∈ BIG := big_of (i := 1628) (by decide +kernel) (by decide +kernel)
theorem qm_1629 : (.methodLink RX14 307 yX14_steepIt : Cond) ∈ BIG := big_of (i := 1629) (by decide +kernel) (by decide +kernel)
theorem qm_1631 : (.instanceMethod yX14_steepIt : Cond) ∈ BIG := big_of (i := 1631) (by decide +kernel) (by decide +kernel)
theorem qm_1632 : (.code yX14_steepIt cX14_steepIt 2 none : Cond) ∈ BIG := big_of (i := 1632) (by decide +kernel) (by decide +kernel)
theorem qm_1633 : (.methodLink RL 180 yX14_lemon : Cond) ∈ BIG := big_of (i := 1633) (by decide +kernel) (by decide +kernel)
theorem qm_1634 : (.instanceMethod yX14_lemon : Cond) ∈ BIG := big_of (i := 1634) (by decide +kernel) (by decide +kernel)
theorem qm_1635 : (.selects RX14 yX14_lemon yX14_lemon : Cond) ∈ BIG := big_of (i := 1635) (by decide +kernel) (by decide +kernel)
theorem qm_1636 : (.code yX14_lemon cX14_lemon 1 (some .int) : Cond) ∈ BIG := big_of (i := 1636) (by decide +kernel) (by decide +kernel)
theorem qm_1637 : (.methodLink RX14 310 yX14_squeeze : Cond) ∈ BIG := big_of (i := 1637) (by decide +kernel) (by decide +kernel)
theorem qm_1639 : (.instanceMethod yX14_squeeze : Cond) ∈ BIG := big_of (i := 1639) (by decide +kernel) (by decide +kernel)
theorem qm_1640 : (.code yX14_squeeze cX14_squeeze 1 none : Cond) ∈ BIG := big_of (i := 1640) (by decide +kernel) (by decide +kernel)
theorem qm_1641 : (.methodLink RL 183 yX14_saucer : Cond) ∈ BIG := big_of (i := 1641) (by decide +kernel) (by decide +kernel)
theorem qm_1642 : (.instanceMethod yX14_saucer : Cond) ∈ BIG := big_of (i := 1642) (by decide +kernel) (by decide +kernel)
theorem qm_1643 : (.selects RX14 yX14_saucer yX14_saucer : Cond) ∈ BIG := big_of (i := 1643) (by decide +kernel) (by decide +kernel)
theorem qm_1644 : (.code yX14_saucer cX14_saucer 1 (some .int) : Cond) ∈ BIG := big_of (i := 1644) (by decide +kernel) (by decide +kernel)
theorem qm_1645 : (.methodLink RX14 313 yX14_calm : Cond) ∈ BIG := big_of (i := 1645) (by decide +kernel) (by decide +kernel)
theorem qm_1647 : (.instanceMethod yX14_calm : Cond) ∈ BIG := big_of (i := 1647) (by decide +kernel) (by decide +kernel)
theorem qm_1648 : (.code yX14_calm cX14_calm 1 none : Cond) ∈ BIG := big_of (i := 1648) (by decide +kernel) (by decide +kernel)
theorem qm_1649 : (.methodLink RL 186 yX14_serve : Cond) ∈ BIG := big_of (i := 1649) (by decide +kernel) (by decide +kernel)
theorem qm_1650 : (.instanceMethod yX14_serve : Cond) ∈ BIG := big_of (i := 1650) (by decide +kernel) (by decide +kernel)
theorem qm_1651 : (.selects RX14 yX14_serve yX14_serve : Cond) ∈ BIG := big_of (i := 1651) (by decide +kernel) (by decide +kernel)
theorem qm_1652 : (.code yX14_serve cX14_serve 2 (some .int) : Cond) ∈ BIG := big_of (i := 1652) (by decide +kernel) (by decide +kernel)
theorem qm_1653 : (.methodLink RX14 316 yX14_serveIt : Cond) ∈ BIG := big_of (i := 1653) (by decide +kernel) (by decide +kernel)
theorem qm_1655 : (.instanceMethod yX14_serveIt : Cond) ∈ BIG := big_of (i := 1655) (by decide +kernel) (by decide +kernel)
theorem qm_1656 : (.code yX14_serveIt cX14_serveIt 3 (some .int) : Cond) ∈ BIG := big_of (i := 1656) (by decide +kernel) (by decide +kernel)
theorem qm_1657 : (.methodLink RL 189 yX14_heat : Cond) ∈ BIG := big_of (i := 1657) (by decide +kernel) (by decide +kernel)
theorem qm_1658 : (.instanceMethod yX14_heat : Cond) ∈ BIG := big_of (i := 1658) (by decide +kernel) (by decide +kernel)
theorem qm_1659 : (.selects RX14 yX14_heat yX14_heat : Cond) ∈ BIG := big_of (i := 1659) (by decide +kernel) (by decide +kernel)
theorem qm_1660 : (.code yX14_heat cX14_heat 3 (some .int) : Cond) ∈ BIG := big_of (i := 1660) (by decide +kernel) (by decide +kernel)
theorem qm_1661 : (.methodLink RL 192 yX14_passHours : Cond) ∈ BIG := big_of (i := 1661) (by decide +kernel) (by decide +kernel)
theorem qm_1662 : (.instanceMethod yX14_passHours : Cond) ∈ BIG := big_of (i := 1662) (by decide +kernel) (by decide +kernel)
theorem qm_1663 : (.selects RX14 yX14_passHours yX14_passHours : Cond) ∈ BIG := big_of (i := 1663) (by decide +kernel) (by decide +kernel)
theorem qm_1664 : (.code yX14_passHours cX14_passHours 4 (some .int) : Cond) ∈ BIG := big_of (i := 1664) (by decide +kernel) (by decide +kernel)
theorem qm_1665 : (.methodLink RX14 351 yX14_hourOn : Cond) ∈ BIG := big_of (i := 1665) (by decide +kernel) (by decide +kernel)
theorem qm_1667 : (.instanceMethod yX14_hourOn : Cond) ∈ BIG := big_of (i := 1667) (by decide +kernel) (by decide +kernel)
theorem qm_1668 : (.code yX14_hourOn cX14_hourOn 2 none : Cond) ∈ BIG := big_of (i := 1668) (by decide +kernel) (by decide +kernel)
theorem qm_1669 : (.methodLink RX14 327 yX14_carryOut : Cond) ∈ BIG := big_of (i := 1669) (by decide +kernel) (by decide +kernel)
theorem qm_1671 : (.instanceMethod yX14_carryOut : Cond) ∈ BIG := big_of (i := 1671) (by decide +kernel) (by decide +kernel)
theorem qm_1672 : (.code yX14_carryOut cX14_carryOut 3 none : Cond) ∈ BIG := big_of (i := 1672) (by decide +kernel) (by decide +kernel)
theorem qm_1673 : (.methodLink RX14 301 yX14_reckon : Cond) ∈ BIG := big_of (i := 1673) (by decide +kernel) (by decide +kernel)
theorem qm_1675 : (.instanceMethod yX14_reckon : Cond) ∈ BIG := big_of (i := 1675) (by decide +kernel) (by decide +kernel)
theorem qm_1676 : (.code yX14_reckon cX14_reckon 4 (some .int) : Cond) ∈ BIG := big_of (i := 1676) (by decide +kernel) (by decide +kernel)
theorem qm_1677 : (.methodLink RX14 298 yX14_joined : Cond) ∈ BIG := big_of (i := 1677) (by decide +kernel) (by decide +kernel)
theorem qm_1678 : (.static yX14_joined : Cond) ∈ BIG := big_of (i := 1678) (by decide +kernel) (by decide +kernel)
theorem qm_1679 : (.code yX14_joined cX14_joined 3 (some .int) : Cond) ∈ BIG := big_of (i := 1679) (by decide +kernel) (by decide +kernel)
theorem qm_1680 : (.methodLink RX14 330 yX14_weather : Cond) ∈ BIG := big_of (i := 1680) (by decide +kernel) (by decide +kernel)
theorem qm_1682 : (.instanceMethod yX14_weather : Cond) ∈ BIG := big_of (i := 1682) (by decide +kernel) (by decide +kernel)
theorem qm_1683 : (.code yX14_weather cX14_weather 5 none : Cond) ∈ BIG := big_of (i := 1683) (by decide +kernel) (by decide +kernel)
theorem qm_1684 : (.methodLink RX14 319 yJ6_compare_7cf53 : Cond) ∈ BIG := big_of (i := 1684) (by decide +kernel) (by decide +kernel)
theorem qm_1685 : (.methodLink RX14 324 yX14_held : Cond) ∈ BIG := big_of (i := 1685) (by decide +kernel) (by decide +kernel)
theorem qm_1686 : (.static yX14_held : Cond) ∈ BIG := big_of (i := 1686) (by decide +kernel) (by decide +kernel)
theorem qm_1687 : (.code yX14_held cX14_held 2 (some .int) : Cond) ∈ BIG := big_of (i := 1687) (by decide +kernel) (by decide +kernel)
theorem qm_1688 : (.methodLink RX14 333 yX14_storm : Cond) ∈ BIG := big_of (i := 1688) (by decide +kernel) (by decide +kernel)
theorem qm_1690 : (.instanceMethod yX14_storm : Cond) ∈ BIG := big_of (i := 1690) (by decide +kernel) (by decide +kernel)
theorem qm_1691 : (.code yX14_storm cX14_storm 2 none : Cond) ∈ BIG := big_of (i := 1691) (by decide +kernel) (by decide +kernel)
theorem qm_1692 : (.methodLink RL 195 yX14_coinsAfter : Cond) ∈ BIG := big_of (i := 1692) (by decide +kernel) (by decide +kernel)
theorem qm_1693 : (.instanceMethod yX14_coinsAfter : Cond) ∈ BIG := big_of (i := 1693) (by decide +kernel) (by decide +kernel)
theorem qm_1694 : (.selects RX14 yX14_coinsAfter yX14_coinsAfter : Cond) ∈ BIG := big_of (i := 1694) (by decide +kernel) (by decide +kernel)
theorem qm_1695 : (.code yX14_coinsAfter cX14_coinsAfter 3 (some .int) : Cond) ∈ BIG := big_of (i := 1695) (by decide +kernel) (by decide +kernel)
theorem qm_1696 : (.methodLink RX14 354 yX14_keep : Cond) ∈ BIG := big_of (i := 1696) (by decide +kernel) (by decide +kernel)
theorem qm_1698 : (.instanceMethod yX14_keep : Cond) ∈ BIG := big_of (i := 1698) (by decide +kernel) (by decide +kernel)
theorem qm_1699 : (.code yX14_keep cX14_keep 1 none : Cond) ∈ BIG := big_of (i := 1699) (by decide +kernel) (by decide +kernel)
theorem qm_1700 : (.methodLink RX14 336 ⟨RJ10, "arraycopy", "(Ljava/lang/Object;ILjava/lang/Object;II)V"⟩ : Cond) ∈ BIG := big_of (i := 1700) (by decide +kernel) (by decide +kernel)
theorem qm_1701 : (.methodLink RX14 357 yX14_bringBack : Cond) ∈ BIG := big_of (i := 1701) (by decide +kernel) (by decide +kernel)
theorem qm_1703 : (.instanceMethod yX14_bringBack : Cond) ∈ BIG := big_of (i := 1703) (by decide +kernel) (by decide +kernel)
theorem qm_1704 : (.code yX14_bringBack cX14_bringBack 1 none : Cond) ∈ BIG := big_of (i := 1704) (by decide +kernel) (by decide +kernel)
theorem qm_1705 : (.methodLink RL 199 yX14_hoursUntilStorm : Cond) ∈ BIG := big_of (i := 1705) (by decide +kernel) (by decide +kernel)
theorem qm_1706 : (.instanceMethod yX14_hoursUntilStorm : Cond) ∈ BIG := big_of (i := 1706) (by decide +kernel) (by decide +kernel)
theorem qm_1707 : (.selects RX14 yX14_hoursUntilStorm yX14_hoursUntilStorm : Cond) ∈ BIG := big_of (i := 1707) (by decide +kernel) (by decide +kernel)
theorem qm_1708 : (.code yX14_hoursUntilStorm cX14_hoursUntilStorm 1 (some .int) : Cond) ∈ BIG := big_of (i := 1708) (by decide +kernel) (by decide +kernel)
theorem qm_1709 : (.methodLink RX14 360 yX14_until : Cond) ∈ BIG := big_of (i := 1709) (by decide +kernel) (by decide +kernel)
theorem qm_1711 : (.instanceMethod yX14_until : Cond) ∈ BIG := big_of (i := 1711) (by decide +kernel) (by decide +kernel)
theorem qm_1712 : (.code yX14_until cX14_until 4 (some .int) : Cond) ∈ BIG := big_of (i := 1712) (by decide +kernel) (by decide +kernel)
theorem qm_1713 : (.methodLink RL 202 yX14_hoursUntilServed : Cond) ∈ BIG := big_of (i := 1713) (by decide +kernel) (by decide +kernel)
theorem qm_1714 : (.instanceMethod yX14_hoursUntilServed : Cond) ∈ BIG := big_of (i := 1714) (by decide +kernel) (by decide +kernel)
theorem qm_1715 : (.selects RX14 yX14_hoursUntilServed yX14_hoursUntilServed : Cond) ∈ BIG := big_of (i := 1715) (by decide +kernel) (by decide +kernel)
theorem qm_1716 : (.code yX14_hoursUntilServed cX14_hoursUntilServed 2 (some .int) : Cond) ∈ BIG := big_of (i := 1716) (by decide +kernel) (by decide +kernel)
theorem qm_1717 : (.methodLink RL 206 yX14_bestToSteep : Cond) ∈ BIG := big_of (i := 1717) (by decide +kernel) (by decide +kernel)
theorem qm_1718 : (.instanceMethod yX14_bestToSteep : Cond) ∈ BIG := big_of (i := 1718) (by decide +kernel) (by decide +kernel)
theorem qm_1719 : (.selects RX14 yX14_bestToSteep yX14_bestToSteep : Cond) ∈ BIG := big_of (i := 1719) (by decide +kernel) (by decide +kernel)
theorem qm_1720 : (.code yX14_bestToSteep cX14_bestToSteep 1 (some .int) : Cond) ∈ BIG := big_of (i := 1720) (by decide +kernel) (by decide +kernel)
theorem qm_1721 : (.methodLink RX14 363 yX14_best : Cond) ∈ BIG := big_of (i := 1721) (by decide +kernel) (by decide +kernel)
theorem qm_1723 : (.instanceMethod yX14_best : Cond) ∈ BIG := big_of (i := 1723) (by decide +kernel) (by decide +kernel)
theorem qm_1724 : (.code yX14_best cX14_best 7 (some .int) : Cond) ∈ BIG := big_of (i := 1724) (by decide +kernel) (by decide +kernel)
theorem qm_1725 : (.methodLink RL 211 yX14_meanForce : Cond) ∈ BIG := big_of (i := 1725) (by decide +kernel) (by decide +kernel)
theorem qm_1726 : (.instanceMethod yX14_meanForce : Cond) ∈ BIG := big_of (i := 1726) (by decide +kernel) (by decide +kernel)
theorem qm_1727 : (.selects RX14 yX14_meanForce yX14_meanForce : Cond) ∈ BIG := big_of (i := 1727) (by decide +kernel) (by decide +kernel)
theorem qm_1728 : (.code yX14_meanForce cX14_meanForce 4 (some .double) : Cond) ∈ BIG := big_of (i := 1728) (by decide +kernel) (by decide +kernel)
theorem qm_1729 : (.methodLink RL 216 yX14_digest : Cond) ∈ BIG := big_of (i := 1729) (by decide +kernel) (by decide +kernel)
theorem qm_1730 : (.instanceMethod yX14_digest : Cond) ∈ BIG := big_of (i := 1730) (by decide +kernel) (by decide +kernel)
theorem qm_1731 : (.selects RX14 yX14_digest yX14_digest : Cond) ∈ BIG := big_of (i := 1731) (by decide +kernel) (by decide +kernel)
theorem qm_1732 : (.code yX14_digest cX14_digest 8 (some .long) : Cond) ∈ BIG := big_of (i := 1732) (by decide +kernel) (by decide +kernel)
theorem qm_1733 : (.constantLong RX14 366 1033 : Cond) ∈ BIG := big_of (i := 1733) (by decide +kernel) (by decide +kernel)
theorem qm_1734 : (.constantLong RX14 368 31 : Cond) ∈ BIG := big_of (i := 1734) (by decide +kernel) (by decide +kernel)
theorem qm_1735 : (.sameMethod "java/lang/Throwable" "java/lang/Throwable" "fillInStackTrace" "(I)Ljava/lang/Throwable;" : Cond) ∈ BIG := big_of (i := 1735) (by decide +kernel) (by decide +kernel)
theorem qm_1736 : (.fieldLink RX11 86 "WeatherTea$Kind" "text" "Ljava/lang/String;" : Cond) ∈ BIG := big_of (i := 1736) (by decide +kernel) (by decide +kernel)
theorem qm_1737 : (.fieldLink RJ0 9 "java/lang/String" "value" "[B" : Cond) ∈ BIG := big_of (i := 1737) (by decide +kernel) (by decide +kernel)
theorem qm_1738 : (.fieldLink RJ0 15 "java/lang/String" "coder" "B" : Cond) ∈ BIG := big_of (i := 1738) (by decide +kernel) (by decide +kernel)
theorem qm_1739 : (.fieldLink RJx29ce0 7 "java/lang/Enum" "ordinal" "I" : Cond) ∈ BIG := big_of (i := 1739) (by decide +kernel) (by decide +kernel)
theorem uX2 : ∀ w ∈ u_ws RX2 TX2 6, w ∈ BIG := by
  show ∀ w ∈ [u_lay RX2 TX2 0, u_lay RX2 TX2 1, u_lay RX2 TX2 2, u_lay RX2 TX2 3, u_lay RX2 TX2 4, u_lay RX2 TX2 5], w ∈ BIG
  exact List.forall_mem_cons.mpr ⟨qm_207, List.forall_mem_cons.mpr ⟨qm_209, List.forall_mem_cons.mpr ⟨qm_211, List.forall_mem_cons.mpr ⟨qm_213, List.forall_mem_cons.mpr ⟨qm_215, List.forall_mem_cons.mpr ⟨qm_217, fun _ h => absurd h List.not_mem_nil⟩⟩⟩⟩⟩⟩
theorem uX4 : ∀ w ∈ u_ws RX4 TX4 6, w ∈ BIG := by
  show ∀ w ∈ [u_lay RX4 TX4 0, u_lay RX4 TX4 1, u_lay RX4 TX4 2, u_lay RX4 TX4 3, u_lay RX4 TX4 4, u_lay RX4 TX4 5], w ∈ BIG
  exact List.forall_mem_cons.mpr ⟨qm_241, List.forall_mem_cons.mpr ⟨qm_243, List.forall_mem_cons.mpr ⟨qm_245, List.forall_mem_cons.mpr ⟨qm_247, List.forall_mem_cons.mpr ⟨qm_249, List.forall_mem_cons.mpr ⟨qm_251, fun _ h => absurd h List.not_mem_nil⟩⟩⟩⟩⟩⟩
theorem uX6 : ∀ w ∈ u_ws RX6 TX6 8, w ∈ BIG := by
  show ∀ w ∈ [u_lay RX6 TX6 0, u_lay RX6 TX6 1, u_lay RX6 TX6 2, u_lay RX6 TX6 3, u_lay RX6 TX6 4, u_lay RX6 TX6 5, u_lay RX6 TX6 6, u_lay RX6 TX6 7], w ∈ BIG
  exact List.forall_mem_cons.mpr ⟨qm_279, List.forall_mem_cons.mpr ⟨qm_281, List.forall_mem_cons.mpr ⟨qm_283, List.forall_mem_cons.mpr ⟨qm_285, List.forall_mem_cons.mpr ⟨qm_287, List.forall_mem_cons.mpr ⟨qm_289, List.forall_mem_cons.mpr ⟨qm_291, List.forall_mem_cons.mpr ⟨qm_293, fun _ h => absurd h List.not_mem_nil⟩⟩⟩⟩⟩⟩⟩⟩
theorem uX7 : ∀ w ∈ u_ws RX7 TX7 3, w ∈ BIG := by
  show ∀ w ∈ [u_lay RX7 TX7 0, u_lay RX7 TX7 1, u_lay RX7 TX7 2], w ∈ BIG
  exact List.forall_mem_cons.mpr ⟨qm_307, List.forall_mem_cons.mpr ⟨qm_309, List.forall_mem_cons.mpr ⟨qm_311, fun _ h => absurd h List.not_mem_nil⟩⟩⟩
theorem uX8 : ∀ w ∈ u_ws RX8 TX8 13, w ∈ BIG := by
  show ∀ w ∈ [u_lay RX8 TX8 0, u_lay RX8 TX8 1, u_lay RX8 TX8 2, u_lay RX8 TX8 3, u_lay RX8 TX8 4, u_lay RX8 TX8 5, u_lay RX8 TX8 6, u_lay RX8 TX8 7, u_lay RX8 TX8 8, u_lay RX8 TX8 9, u_lay RX8 TX8 10, u_lay RX8 TX8 11, u_lay RX8 TX8 12], w ∈ BIG
  exact List.forall_mem_cons.mpr ⟨qm_339, List.forall_mem_cons.mpr ⟨qm_341, List.forall_mem_cons.mpr ⟨qm_343, List.forall_mem_cons.mpr ⟨qm_345, List.forall_mem_cons.mpr ⟨qm_347, List.forall_mem_cons.mpr ⟨qm_349, List.forall_mem_cons.mpr ⟨qm_351, List.forall_mem_cons.mpr ⟨qm_353, List.forall_mem_cons.mpr ⟨qm_355, List.forall_mem_cons.mpr ⟨qm_357, List.forall_mem_cons.mpr ⟨qm_359, List.forall_mem_cons.mpr ⟨qm_361, List.forall_mem_cons.mpr ⟨qm_363, fun _ h => absurd h List.not_mem_nil⟩⟩⟩⟩⟩⟩⟩⟩⟩⟩⟩⟩⟩
theorem uX9 : ∀ w ∈ u_ws RX9 TX9 2, w ∈ BIG := by
  show ∀ w ∈ [u_lay RX9 TX9 0, u_lay RX9 TX9 1], w ∈ BIG
  exact List.forall_mem_cons.mpr ⟨qm_174, List.forall_mem_cons.mpr ⟨qm_176, fun _ h => absurd h List.not_mem_nil⟩⟩
theorem uX10 : ∀ w ∈ u_ws RX10 TX10 2, w ∈ BIG := by
  show ∀ w ∈ [u_lay RX10 TX10 0, u_lay RX10 TX10 1], w ∈ BIG
  exact List.forall_mem_cons.mpr ⟨qm_115, List.forall_mem_cons.mpr ⟨qm_117, fun _ h => absurd h List.not_mem_nil⟩⟩
theorem uX11 : ∀ w ∈ u_ws RX11 TX11 7, w ∈ BIG := by
  show ∀ w ∈ [u_lay RX11 TX11 0, u_lay RX11 TX11 1, u_lay RX11 TX11 2, u_lay RX11 TX11 3, u_lay RX11 TX11 4, u_lay RX11 TX11 5, u_lay RX11 TX11 6], w ∈ BIG
  exact List.forall_mem_cons.mpr ⟨qm_143, List.forall_mem_cons.mpr ⟨qm_145, List.forall_mem_cons.mpr ⟨qm_147, List.forall_mem_cons.mpr ⟨qm_149, List.forall_mem_cons.mpr ⟨qm_151, List.forall_mem_cons.mpr ⟨qm_153, List.forall_mem_cons.mpr ⟨qm_155, fun _ h => absurd h List.not_mem_nil⟩⟩⟩⟩⟩⟩⟩
theorem uX12 : ∀ w ∈ u_ws RX12 TX12 6, w ∈ BIG := by
  show ∀ w ∈ [u_lay RX12 TX12 0, u_lay RX12 TX12 1, u_lay RX12 TX12 2, u_lay RX12 TX12 3, u_lay RX12 TX12 4, u_lay RX12 TX12 5], w ∈ BIG
  exact List.forall_mem_cons.mpr ⟨qm_374, List.forall_mem_cons.mpr ⟨qm_376, List.forall_mem_cons.mpr ⟨qm_378, List.forall_mem_cons.mpr ⟨qm_380, List.forall_mem_cons.mpr ⟨qm_382, List.forall_mem_cons.mpr ⟨qm_384, fun _ h => absurd h List.not_mem_nil⟩⟩⟩⟩⟩⟩
theorem uX13 : ∀ w ∈ u_ws RX13 TX13 20, w ∈ BIG := by
  show ∀ w ∈ [u_lay RX13 TX13 0, u_lay RX13 TX13 1, u_lay RX13 TX13 2, u_lay RX13 TX13 3, u_lay RX13 TX13 4, u_lay RX13 TX13 5, u_lay RX13 TX13 6, u_lay RX13 TX13 7, u_lay RX13 TX13 8, u_lay RX13 TX13 9, u_lay RX13 TX13 10, u_lay RX13 TX13 11, u_lay RX13 TX13 12, u_lay RX13 TX13 13, u_lay RX13 TX13 14, u_lay RX13 TX13 15, u_lay RX13 TX13 16, u_lay RX13 TX13 17, u_lay RX13 TX13 18, u_lay RX13 TX13 19], w ∈ BIG
  exact List.forall_mem_cons.mpr ⟨qm_1219, List.forall_mem_cons.mpr ⟨qm_1221, List.forall_mem_cons.mpr ⟨qm_1223, List.forall_mem_cons.mpr ⟨qm_1225, List.forall_mem_cons.mpr ⟨qm_1227, List.forall_mem_cons.mpr ⟨qm_1229, List.forall_mem_cons.mpr ⟨qm_1231, List.forall_mem_cons.mpr ⟨qm_1233, List.forall_mem_cons.mpr ⟨qm_1235, List.forall_mem_cons.mpr ⟨qm_1237, List.forall_mem_cons.mpr ⟨qm_1239, List.forall_mem_cons.mpr ⟨qm_1241, List.forall_mem_cons.mpr ⟨qm_1243, List.forall_mem_cons.mpr ⟨qm_1245, List.forall_mem_cons.mpr ⟨qm_1247, List.forall_mem_cons.mpr ⟨qm_1249, List.forall_mem_cons.mpr ⟨qm_1251, List.forall_mem_cons.mpr ⟨qm_1253, List.forall_mem_cons.mpr ⟨qm_1255, List.forall_mem_cons.mpr ⟨qm_1257, fun _ h => absurd h List.not_mem_nil⟩⟩⟩⟩⟩⟩⟩⟩⟩⟩⟩⟩⟩⟩⟩⟩⟩⟩⟩⟩
theorem uX14 : ∀ w ∈ u_ws RX14 TX14 20, w ∈ BIG := by
  show ∀ w ∈ [u_lay RX14 TX14 0, u_lay RX14 TX14 1, u_lay RX14 TX14 2, u_lay RX14 TX14 3, u_lay RX14 TX14 4, u_lay RX14 TX14 5, u_lay RX14 TX14 6, u_lay RX14 TX14 7, u_lay RX14 TX14 8, u_lay RX14 TX14 9, u_lay RX14 TX14 10, u_lay RX14 TX14 11, u_lay RX14 TX14 12, u_lay RX14 TX14 13, u_lay RX14 TX14 14, u_lay RX14 TX14 15, u_lay RX14 TX14 16, u_lay RX14 TX14 17, u_lay RX14 TX14 18, u_lay RX14 TX14 19], w ∈ BIG
  exact List.forall_mem_cons.mpr ⟨qm_1288, List.forall_mem_cons.mpr ⟨qm_1290, List.forall_mem_cons.mpr ⟨qm_1292, List.forall_mem_cons.mpr ⟨qm_1294, List.forall_mem_cons.mpr ⟨qm_1296, List.forall_mem_cons.mpr ⟨qm_1298, List.forall_mem_cons.mpr ⟨qm_1300, List.forall_mem_cons.mpr ⟨qm_1302, List.forall_mem_cons.mpr ⟨qm_1304, List.forall_mem_cons.mpr ⟨qm_1306, List.forall_mem_cons.mpr ⟨qm_1308, List.forall_mem_cons.mpr ⟨qm_1310, List.forall_mem_cons.mpr ⟨qm_1312, List.forall_mem_cons.mpr ⟨qm_1314, List.forall_mem_cons.mpr ⟨qm_1316, List.forall_mem_cons.mpr ⟨qm_1318, List.forall_mem_cons.mpr ⟨qm_1320, List.forall_mem_cons.mpr ⟨qm_1322, List.forall_mem_cons.mpr ⟨qm_1324, List.forall_mem_cons.mpr ⟨qm_1326, fun _ h => absurd h List.not_mem_nil⟩⟩⟩⟩⟩⟩⟩⟩⟩⟩⟩⟩⟩⟩⟩⟩⟩⟩⟩⟩

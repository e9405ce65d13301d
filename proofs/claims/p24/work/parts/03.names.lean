def RX0 : String := "AtelierBook"
def TX0 : u_T := fun k => match k with
  | 0 => ("AtelierBook", "pigmentCount", "I", false)
  | 1 => ("AtelierBook", "tubeCount", "I", false)
  | 2 => ("AtelierBook", "potCount", "I", false)
  | 3 => ("AtelierBook", "pictureCount", "I", false)
  | 4 => ("AtelierBook", "today", "I", false)
  | 5 => ("AtelierBook", "pigmentColours", "[I", true)
  | 6 => ("AtelierBook", "pigmentOfTube", "[I", true)
  | 7 => ("AtelierBook", "gramsInTube", "[I", true)
  | 8 => ("AtelierBook", "ledger", "[I", true)
  | 9 => ("AtelierBook", "layerCounts", "[I", true)
  | 10 => ("AtelierBook", "crackCounts", "[I", true)
  | 11 => ("AtelierBook", "latestPrices", "[I", true)
  | 12 => ("AtelierBook", "loanDays", "[I", true)
  | 13 => ("AtelierBook", "loanHouses", "[I", true)
  | 14 => ("AtelierBook", "loanCosts", "[I", true)
  | 15 => ("AtelierBook", "houseDamps", "[I", true)
  | _ => ("AtelierBook", "housePayments", "[I", true)
def tyX0 : Nat → FieldType := fun k => match k with
  | 0 => .int
  | 1 => .int
  | 2 => .int
  | 3 => .int
  | 4 => .int
  | 5 => .array .int
  | 6 => .array .int
  | 7 => .array .int
  | 8 => .array .int
  | 9 => .array .int
  | 10 => .array .int
  | 11 => .array .int
  | 12 => .array .int
  | 13 => .array .int
  | 14 => .array .int
  | 15 => .array .int
  | _ => .array .int
abbrev wsX00 : List Cond := u_ws RX0 TX0 17
theorem nmX0 : ∀ a, a < 17 → ∀ b, b < 17 → a ≠ b → (TX0 a).2.1 ≠ (TX0 b).2.1 := by decide +kernel
theorem tyX0_ok : ∀ k, k < 17 → parseFieldDescriptor (TX0 k).2.2.1 = some (tyX0 k) := by decide +kernel
abbrev cX0_init : ByteArray := prog_1_method_1_code
def yX0_init : MethodName := ⟨RX0, "<init>", "()V"⟩
abbrev cX0_pigment : ByteArray := prog_1_method_2_code
def yX0_pigment : MethodName := ⟨RX0, "pigment", "(III)I"⟩
abbrev cX0_tube : ByteArray := prog_1_method_3_code
def yX0_tube : MethodName := ⟨RX0, "tube", "(II)I"⟩
abbrev cX0_pot : ByteArray := prog_1_method_4_code
def yX0_pot : MethodName := ⟨RX0, "pot", "()I"⟩
abbrev cX0_squeeze : ByteArray := prog_1_method_5_code
def yX0_squeeze : MethodName := ⟨RX0, "squeeze", "(III)I"⟩
abbrev cX0_pour : ByteArray := prog_1_method_6_code
def yX0_pour : MethodName := ⟨RX0, "pour", "(III)I"⟩
abbrev cX0_scrape : ByteArray := prog_1_method_7_code
def yX0_scrape : MethodName := ⟨RX0, "scrape", "(I)I"⟩
abbrev cX0_picture : ByteArray := prog_1_method_8_code
def yX0_picture : MethodName := ⟨RX0, "picture", "()I"⟩
abbrev cX0_paint : ByteArray := prog_1_method_9_code
def yX0_paint : MethodName := ⟨RX0, "paint", "(III)I"⟩
abbrev cX0_clean : ByteArray := prog_1_method_10_code
def yX0_clean : MethodName := ⟨RX0, "clean", "(II)I"⟩
abbrev cX0_damp : ByteArray := prog_1_method_11_code
def yX0_damp : MethodName := ⟨RX0, "damp", "(II)I"⟩
abbrev cX0_lend : ByteArray := prog_1_method_12_code
def yX0_lend : MethodName := ⟨RX0, "lend", "(III)I"⟩
abbrev cX0_sell : ByteArray := prog_1_method_13_code
def yX0_sell : MethodName := ⟨RX0, "sell", "(II)I"⟩
abbrev cX0_pass : ByteArray := prog_1_method_14_code
def yX0_pass : MethodName := ⟨RX0, "pass", "(I)I"⟩
abbrev cX0_left : ByteArray := prog_1_method_15_code
def yX0_left : MethodName := ⟨RX0, "left", "(I)I"⟩
abbrev cX0_has : ByteArray := prog_1_method_16_code
def yX0_has : MethodName := ⟨RX0, "has", "(II)I"⟩
abbrev cX0_colour : ByteArray := prog_1_method_17_code
def yX0_colour : MethodName := ⟨RX0, "colour", "(II)I"⟩
abbrev cX0_of : ByteArray := prog_1_method_18_code
def yX0_of : MethodName := ⟨RX0, "of", "(II)I"⟩
abbrev cX0_layer : ByteArray := prog_1_method_19_code
def yX0_layer : MethodName := ⟨RX0, "layer", "(III)I"⟩
abbrev cX0_where : ByteArray := prog_1_method_20_code
def yX0_where : MethodName := ⟨RX0, "where", "(II)I"⟩
abbrev cX0_recipe : ByteArray := prog_1_method_21_code
def yX0_recipe : MethodName := ⟨RX0, "recipe", "(III)I"⟩
abbrev cX0_paid : ByteArray := prog_1_method_22_code
def yX0_paid : MethodName := ⟨RX0, "paid", "(I)I"⟩
abbrev cX0_checkNumber : ByteArray := prog_1_method_23_code
def yX0_checkNumber : MethodName := ⟨RX0, "checkNumber", "(II)V"⟩
abbrev cX0_checkRange : ByteArray := prog_1_method_24_code
def yX0_checkRange : MethodName := ⟨RX0, "checkRange", "(III)V"⟩
abbrev cX0_checkColour : ByteArray := prog_1_method_25_code
def yX0_checkColour : MethodName := ⟨RX0, "checkColour", "(III)V"⟩
abbrev cX0_checkAtHome : ByteArray := prog_1_method_26_code
def yX0_checkAtHome : MethodName := ⟨RX0, "checkAtHome", "(I)V"⟩
abbrev cX0_potRow : ByteArray := prog_1_method_27_code
def yX0_potRow : MethodName := ⟨RX0, "potRow", "(I)I"⟩
abbrev cX0_layerRow : ByteArray := prog_1_method_28_code
def yX0_layerRow : MethodName := ⟨RX0, "layerRow", "(II)I"⟩
abbrev cX0_place : ByteArray := prog_1_method_29_code
def yX0_place : MethodName := ⟨RX0, "place", "(II)I"⟩
abbrev cX0_sumOfRow : ByteArray := prog_1_method_30_code
def yX0_sumOfRow : MethodName := ⟨RX0, "sumOfRow", "(I)I"⟩
abbrev cX0_sumOfTube : ByteArray := prog_1_method_31_code
def yX0_sumOfTube : MethodName := ⟨RX0, "sumOfTube", "(III)I"⟩
abbrev cX0_move : ByteArray := prog_1_method_32_code
def yX0_move : MethodName := ⟨RX0, "move", "(III)Z"⟩
abbrev cX0_waste : ByteArray := prog_1_method_33_code
def yX0_waste : MethodName := ⟨RX0, "waste", "(I)I"⟩
abbrev cX0_colourOfTube : ByteArray := prog_1_method_34_code
def yX0_colourOfTube : MethodName := ⟨RX0, "colourOfTube", "(II)I"⟩
abbrev cX0_colourOfRow : ByteArray := prog_1_method_35_code
def yX0_colourOfRow : MethodName := ⟨RX0, "colourOfRow", "(II)I"⟩
abbrev cX0_gramsOfPigment : ByteArray := prog_1_method_36_code
def yX0_gramsOfPigment : MethodName := ⟨RX0, "gramsOfPigment", "(II)I"⟩
abbrev cX0_mainPigmentOfRow : ByteArray := prog_1_method_37_code
def yX0_mainPigmentOfRow : MethodName := ⟨RX0, "mainPigmentOfRow", "(I)I"⟩
abbrev cX0_mixed : ByteArray := prog_1_method_38_code
def yX0_mixed : MethodName := ⟨RX0, "mixed", "(IIII)I"⟩
abbrev cX0_square : ByteArray := prog_1_method_39_code
def yX0_square : MethodName := ⟨RX0, "square", "(I)I"⟩
abbrev cX0_isLent : ByteArray := prog_1_method_40_code
def yX0_isLent : MethodName := ⟨RX0, "isLent", "(I)Z"⟩
abbrev cX0_mainPigmentOf : ByteArray := prog_1_method_41_code
def yX0_mainPigmentOf : MethodName := ⟨RX0, "mainPigmentOf", "(I)I"⟩
abbrev cX0_lookOf : ByteArray := prog_1_method_42_code
def yX0_lookOf : MethodName := ⟨RX0, "lookOf", "(II)I"⟩
abbrev cX0_valueOf : ByteArray := prog_1_method_43_code
def yX0_valueOf : MethodName := ⟨RX0, "valueOf", "(I)I"⟩
abbrev cX0_averagePriceOfAlike : ByteArray := prog_1_method_44_code
def yX0_averagePriceOfAlike : MethodName := ⟨RX0, "averagePriceOfAlike", "(I)I"⟩
abbrev cX0_passForLoan : ByteArray := prog_1_method_45_code
def yX0_passForLoan : MethodName := ⟨RX0, "passForLoan", "(II)V"⟩
def RX1 : String := "AtelierBookModel"
def TX1 : u_T := fun k => match k with
  | _ => ("", "", "", false)
def tyX1 : Nat → FieldType := fun k => match k with
  | _ => .int
abbrev wsX10 : List Cond := u_ws RX1 TX1 0
theorem nmX1 : ∀ a, a < 0 → ∀ b, b < 0 → a ≠ b → (TX1 a).2.1 ≠ (TX1 b).2.1 := by decide +kernel
theorem tyX1_ok : ∀ k, k < 0 → parseFieldDescriptor (TX1 k).2.2.1 = some (tyX1 k) := by decide +kernel
def RJ9 : String := "java/lang/Math"
def TJ9 : u_T := fun k => match k with
  | _ => ("", "", "", false)
def tyJ9 : Nat → FieldType := fun k => match k with
  | _ => .int
abbrev wsJ90 : List Cond := u_ws RJ9 TJ9 0
theorem nmJ9 : ∀ a, a < 0 → ∀ b, b < 0 → a ≠ b → (TJ9 a).2.1 ≠ (TJ9 b).2.1 := by decide +kernel
theorem tyJ9_ok : ∀ k, k < 0 → parseFieldDescriptor (TJ9 k).2.2.1 = some (tyJ9 k) := by decide +kernel
abbrev cJ9_abs_0f7a4 : ByteArray := prog_8_method_59_code
def yJ9_abs_0f7a4 : MethodName := ⟨RJ9, "abs", "(I)I"⟩
abbrev cJ9_max_7cf53 : ByteArray := prog_8_method_65_code
def yJ9_max_7cf53 : MethodName := ⟨RJ9, "max", "(II)I"⟩
abbrev cJ9_min_7cf53 : ByteArray := prog_8_method_69_code
def yJ9_min_7cf53 : MethodName := ⟨RJ9, "min", "(II)I"⟩
def RJ0 : String := "java/lang/String"
def TJ0 : u_T := fun k => match k with
  | _ => ("", "", "", false)
def tyJ0 : Nat → FieldType := fun k => match k with
  | _ => .int
abbrev wsJ00 : List Cond := u_ws RJ0 TJ0 0
theorem nmJ0 : ∀ a, a < 0 → ∀ b, b < 0 → a ≠ b → (TJ0 a).2.1 ≠ (TJ0 b).2.1 := by decide +kernel
theorem tyJ0_ok : ∀ k, k < 0 → parseFieldDescriptor (TJ0 k).2.2.1 = some (tyJ0 k) := by decide +kernel
def RL : String := "AtelierBookLaw"
abbrev cL_cell : ByteArray := method_2_code
def yL_cell : MethodName := ⟨RL, "cell", "([II)I"⟩
abbrev cL_low : ByteArray := method_3_code
def yL_low : MethodName := ⟨RL, "low", "(II)I"⟩
abbrev cL_calls : ByteArray := method_4_code
def yL_calls : MethodName := ⟨RL, "calls", "(LAtelierBook;IIII)I"⟩
abbrev cL_at : ByteArray := method_5_code
def yL_at : MethodName := ⟨RL, "at", "(II)I"⟩
abbrev cL_grams : ByteArray := method_6_code
def yL_grams : MethodName := ⟨RL, "grams", "(II[I[I)I"⟩
abbrev cL_total : ByteArray := method_7_code
def yL_total : MethodName := ⟨RL, "total", "(I[I)I"⟩
abbrev cL_flows : ByteArray := method_8_code
def yL_flows : MethodName := ⟨RL, "flows", "(II[I[I)V"⟩
abbrev cL_main : ByteArray := method_9_code
def yL_main : MethodName := ⟨RL, "main", "(I[I[I[I[I)I"⟩
abbrev cL_value : ByteArray := method_10_code
def yL_value : MethodName := ⟨RL, "value", "(I[I[I[I[I)I"⟩
abbrev cL_shade : ByteArray := method_11_code
def yL_shade : MethodName := ⟨RL, "shade", "(II)I"⟩
abbrev cL_recipe : ByteArray := method_12_code
def yL_recipe : MethodName := ⟨RL, "recipe", "(III[I[I)I"⟩
abbrev cL_mixes : ByteArray := method_13_code
def yL_mixes : MethodName := ⟨RL, "mixes", "(LAtelierBook;II[I[I[I[I[I[I)Z"⟩
abbrev cL_trades : ByteArray := method_14_code
def yL_trades : MethodName := ⟨RL, "trades", "(LAtelierBook;II[I[I[I[I[I)Z"⟩
abbrev cL_day : ByteArray := method_15_code
def yL_day : MethodName := ⟨RL, "day", "([I[I)V"⟩
abbrev cL_same : ByteArray := method_16_code
def yL_same : MethodName := ⟨RL, "same", "(LAtelierBook;I[I[I[I[I[I[I[I)Z"⟩
abbrev cL_law : ByteArray := code
def yL_law : MethodName := ⟨RL, "law", "([I)Z"⟩
def wsX0_init : List Cond := .code yX0_init cX0_init 2 none :: ([.methodLink RX0 3 objectInit, .instanceMethod objectInit, .code objectInit ⟨#[0xb1]⟩ 1 none, .arrayClass .int, .fieldLink RX0 9 "AtelierBook" "pigmentColours" "[I", .fieldLink RX0 13 "AtelierBook" "pigmentOfTube" "[I", .fieldLink RX0 16 "AtelierBook" "gramsInTube" "[I", .fieldLink RX0 19 "AtelierBook" "ledger" "[I", .fieldLink RX0 22 "AtelierBook" "layerCounts" "[I", .fieldLink RX0 25 "AtelierBook" "crackCounts" "[I", .fieldLink RX0 28 "AtelierBook" "latestPrices" "[I", .fieldLink RX0 31 "AtelierBook" "loanDays" "[I", .fieldLink RX0 34 "AtelierBook" "loanHouses" "[I", .fieldLink RX0 37 "AtelierBook" "loanCosts" "[I", .fieldLink RX0 40 "AtelierBook" "houseDamps" "[I", .fieldLink RX0 43 "AtelierBook" "housePayments" "[I"] ++ wsX00)
def wsX0_checkRange : List Cond := .code yX0_checkRange cX0_checkRange 3 none :: ([.classLink RX0 88 "java/lang/IllegalArgumentException", .initialized "java/lang/IllegalArgumentException"] ++ (vx_atS RX0 92 "java/lang/IllegalArgumentException" ["java/lang/RuntimeException", "java/lang/Exception"]).filter goodWord)
def wsX0_checkColour : List Cond := .code yX0_checkColour cX0_checkColour 3 none :: ([.methodLink RX0 65 yX0_checkRange, .static yX0_checkRange, .initialized RX0, .code yX0_checkRange cX0_checkRange 3 none, .classLink RX0 88 "java/lang/IllegalArgumentException", .initialized "java/lang/IllegalArgumentException"] ++ (vx_atS RX0 92 "java/lang/IllegalArgumentException" ["java/lang/RuntimeException", "java/lang/Exception"]).filter goodWord)
def wsX0_pigment : List Cond := .code yX0_pigment cX0_pigment 5 (some .int) :: ([.classLink RX0 54 "java/lang/IllegalStateException", .initialized "java/lang/IllegalStateException", .fieldLink RX0 50 "AtelierBook" "pigmentCount" "I", .fieldLink RX0 9 "AtelierBook" "pigmentColours" "[I", .methodLink RX0 46 yX0_checkColour, .static yX0_checkColour, .initialized RX0, .code yX0_checkColour cX0_checkColour 3 none, .methodLink RX0 65 yX0_checkRange, .static yX0_checkRange, .code yX0_checkRange cX0_checkRange 3 none, .classLink RX0 88 "java/lang/IllegalArgumentException", .initialized "java/lang/IllegalArgumentException"] ++ wsX00 ++ (vx_atS RX0 58 "java/lang/IllegalStateException" ["java/lang/RuntimeException", "java/lang/Exception"]).filter goodWord ++ (vx_atS RX0 92 "java/lang/IllegalArgumentException" ["java/lang/RuntimeException", "java/lang/Exception"]).filter goodWord)
def wsX0_checkNumber : List Cond := .code yX0_checkNumber cX0_checkNumber 2 none :: ([.classLink RX0 161 "java/lang/IndexOutOfBoundsException", .initialized "java/lang/IndexOutOfBoundsException"] ++ (vx_atS RX0 165 "java/lang/IndexOutOfBoundsException" ["java/lang/RuntimeException", "java/lang/Exception"]).filter goodWord)
def wsX0_tube : List Cond := .code yX0_tube cX0_tube 3 (some .int) :: ([.classLink RX0 54 "java/lang/IllegalStateException", .initialized "java/lang/IllegalStateException", .fieldLink RX0 50 "AtelierBook" "pigmentCount" "I", .fieldLink RX0 68 "AtelierBook" "tubeCount" "I", .fieldLink RX0 13 "AtelierBook" "pigmentOfTube" "[I", .fieldLink RX0 16 "AtelierBook" "gramsInTube" "[I", .methodLink RX0 61 yX0_checkNumber, .static yX0_checkNumber, .initialized RX0, .code yX0_checkNumber cX0_checkNumber 2 none, .classLink RX0 161 "java/lang/IndexOutOfBoundsException", .initialized "java/lang/IndexOutOfBoundsException", .methodLink RX0 65 yX0_checkRange, .static yX0_checkRange, .code yX0_checkRange cX0_checkRange 3 none, .classLink RX0 88 "java/lang/IllegalArgumentException", .initialized "java/lang/IllegalArgumentException"] ++ wsX00 ++ (vx_atS RX0 58 "java/lang/IllegalStateException" ["java/lang/RuntimeException", "java/lang/Exception"]).filter goodWord ++ (vx_atS RX0 165 "java/lang/IndexOutOfBoundsException" ["java/lang/RuntimeException", "java/lang/Exception"]).filter goodWord ++ (vx_atS RX0 92 "java/lang/IllegalArgumentException" ["java/lang/RuntimeException", "java/lang/Exception"]).filter goodWord)
def wsX0_pot : List Cond := .code yX0_pot cX0_pot 1 (some .int) :: ([.classLink RX0 54 "java/lang/IllegalStateException", .initialized "java/lang/IllegalStateException", .fieldLink RX0 73 "AtelierBook" "potCount" "I"] ++ wsX00 ++ (vx_atS RX0 58 "java/lang/IllegalStateException" ["java/lang/RuntimeException", "java/lang/Exception"]).filter goodWord)
def wsX0_potRow : List Cond := .code yX0_potRow cX0_potRow 1 (some .int) :: ([])
def wsX0_place : List Cond := .code yX0_place cX0_place 2 (some .int) :: ([])
def wsX0_squeeze : List Cond := .code yX0_squeeze cX0_squeeze 4 (some .int) :: ([.classLink RX0 54 "java/lang/IllegalStateException", .initialized "java/lang/IllegalStateException", .fieldLink RX0 73 "AtelierBook" "potCount" "I", .fieldLink RX0 68 "AtelierBook" "tubeCount" "I", .fieldLink RX0 16 "AtelierBook" "gramsInTube" "[I", .fieldLink RX0 19 "AtelierBook" "ledger" "[I", .methodLink RX0 61 yX0_checkNumber, .static yX0_checkNumber, .initialized RX0, .code yX0_checkNumber cX0_checkNumber 2 none, .classLink RX0 161 "java/lang/IndexOutOfBoundsException", .initialized "java/lang/IndexOutOfBoundsException", .methodLink RX0 65 yX0_checkRange, .static yX0_checkRange, .code yX0_checkRange cX0_checkRange 3 none, .classLink RX0 88 "java/lang/IllegalArgumentException", .initialized "java/lang/IllegalArgumentException", .methodLink RX0 80 yX0_potRow, .static yX0_potRow, .code yX0_potRow cX0_potRow 1 (some .int), .methodLink RX0 84 yX0_place, .static yX0_place, .code yX0_place cX0_place 2 (some .int)] ++ wsX00 ++ (vx_atS RX0 58 "java/lang/IllegalStateException" ["java/lang/RuntimeException", "java/lang/Exception"]).filter goodWord ++ (vx_atS RX0 165 "java/lang/IndexOutOfBoundsException" ["java/lang/RuntimeException", "java/lang/Exception"]).filter goodWord ++ (vx_atS RX0 92 "java/lang/IllegalArgumentException" ["java/lang/RuntimeException", "java/lang/Exception"]).filter goodWord)
def wsX0_sumOfRow : List Cond := .code yX0_sumOfRow cX0_sumOfRow 4 (some .int) :: ([.fieldLink RX0 68 "AtelierBook" "tubeCount" "I", .fieldLink RX0 19 "AtelierBook" "ledger" "[I", .methodLink RX0 84 yX0_place, .static yX0_place, .initialized RX0, .code yX0_place cX0_place 2 (some .int)] ++ wsX00)
def wsX0_move : List Cond := .code yX0_move cX0_move 9 (some .boolean) :: ([.fieldLink RX0 68 "AtelierBook" "tubeCount" "I", .fieldLink RX0 19 "AtelierBook" "ledger" "[I", .methodLink RX0 99 yX0_sumOfRow, .instanceMethod yX0_sumOfRow, .selects RX0 yX0_sumOfRow yX0_sumOfRow, .initialized RX0, .code yX0_sumOfRow cX0_sumOfRow 4 (some .int), .methodLink RX0 84 yX0_place, .static yX0_place, .code yX0_place cX0_place 2 (some .int)] ++ wsX00)
def wsX0_pour_r1 : List Cond := [Cond.classLink RX0 88 "java/lang/IllegalArgumentException", Cond.initialized "java/lang/IllegalArgumentException", Cond.classLink RX0 54 "java/lang/IllegalStateException", Cond.initialized "java/lang/IllegalStateException", Cond.fieldLink RX0 73 "AtelierBook" "potCount" "I", Cond.methodLink RX0 61 yX0_checkNumber, Cond.static yX0_checkNumber, Cond.initialized RX0, Cond.code yX0_checkNumber cX0_checkNumber 2 none, Cond.classLink RX0 161 "java/lang/IndexOutOfBoundsException", Cond.initialized "java/lang/IndexOutOfBoundsException", Cond.methodLink RX0 65 yX0_checkRange, Cond.static yX0_checkRange, Cond.code yX0_checkRange cX0_checkRange 3 none, Cond.methodLink RX0 80 yX0_potRow, Cond.static yX0_potRow, Cond.code yX0_potRow cX0_potRow 1 (some .int), Cond.methodLink RX0 93 yX0_move, Cond.instanceMethod yX0_move, Cond.selects RX0 yX0_move yX0_move, Cond.code yX0_move cX0_move 9 (some .boolean), Cond.fieldLink RX0 68 "AtelierBook" "tubeCount" "I", Cond.fieldLink RX0 19 "AtelierBook" "ledger" "[I", Cond.methodLink RX0 99 yX0_sumOfRow]
def wsX0_pour_r2 : List Cond := [Cond.instanceMethod yX0_sumOfRow, Cond.selects RX0 yX0_sumOfRow yX0_sumOfRow, Cond.code yX0_sumOfRow cX0_sumOfRow 4 (some .int), Cond.methodLink RX0 84 yX0_place, Cond.static yX0_place, Cond.code yX0_place cX0_place 2 (some .int)]
def wsX0_pour : List Cond := .code yX0_pour cX0_pour 4 (some .int) :: ((wsX0_pour_r1 ++ wsX0_pour_r2) ++ wsX00 ++ (vx_atS RX0 92 "java/lang/IllegalArgumentException" ["java/lang/RuntimeException", "java/lang/Exception"]).filter goodWord ++ (vx_atS RX0 58 "java/lang/IllegalStateException" ["java/lang/RuntimeException", "java/lang/Exception"]).filter goodWord ++ (vx_atS RX0 165 "java/lang/IndexOutOfBoundsException" ["java/lang/RuntimeException", "java/lang/Exception"]).filter goodWord)
def wsX0_waste : List Cond := .code yX0_waste cX0_waste 5 (some .int) :: ([.fieldLink RX0 68 "AtelierBook" "tubeCount" "I", .fieldLink RX0 19 "AtelierBook" "ledger" "[I", .methodLink RX0 84 yX0_place, .static yX0_place, .initialized RX0, .code yX0_place cX0_place 2 (some .int)] ++ wsX00)
def wsX0_scrape : List Cond := .code yX0_scrape cX0_scrape 2 (some .int) :: ([.fieldLink RX0 73 "AtelierBook" "potCount" "I", .methodLink RX0 61 yX0_checkNumber, .static yX0_checkNumber, .initialized RX0, .code yX0_checkNumber cX0_checkNumber 2 none, .classLink RX0 161 "java/lang/IndexOutOfBoundsException", .initialized "java/lang/IndexOutOfBoundsException", .methodLink RX0 80 yX0_potRow, .static yX0_potRow, .code yX0_potRow cX0_potRow 1 (some .int), .methodLink RX0 102 yX0_waste, .instanceMethod yX0_waste, .selects RX0 yX0_waste yX0_waste, .code yX0_waste cX0_waste 5 (some .int), .fieldLink RX0 68 "AtelierBook" "tubeCount" "I", .fieldLink RX0 19 "AtelierBook" "ledger" "[I", .methodLink RX0 84 yX0_place, .static yX0_place, .code yX0_place cX0_place 2 (some .int)] ++ wsX00 ++ (vx_atS RX0 165 "java/lang/IndexOutOfBoundsException" ["java/lang/RuntimeException", "java/lang/Exception"]).filter goodWord)
def wsX0_picture : List Cond := .code yX0_picture cX0_picture 1 (some .int) :: ([.classLink RX0 54 "java/lang/IllegalStateException", .initialized "java/lang/IllegalStateException", .fieldLink RX0 105 "AtelierBook" "pictureCount" "I"] ++ wsX00 ++ (vx_atS RX0 58 "java/lang/IllegalStateException" ["java/lang/RuntimeException", "java/lang/Exception"]).filter goodWord)
def wsX0_isLent : List Cond := .code yX0_isLent cX0_isLent 2 (some .boolean) :: ([.fieldLink RX0 31 "AtelierBook" "loanDays" "[I"] ++ wsX00)
def wsX0_checkAtHome : List Cond := .code yX0_checkAtHome cX0_checkAtHome 2 none :: ([.classLink RX0 54 "java/lang/IllegalStateException", .initialized "java/lang/IllegalStateException", .methodLink RX0 143 yX0_isLent, .instanceMethod yX0_isLent, .selects RX0 yX0_isLent yX0_isLent, .initialized RX0, .code yX0_isLent cX0_isLent 2 (some .boolean), .fieldLink RX0 31 "AtelierBook" "loanDays" "[I"] ++ wsX00 ++ (vx_atS RX0 58 "java/lang/IllegalStateException" ["java/lang/RuntimeException", "java/lang/Exception"]).filter goodWord)
def wsX0_layerRow : List Cond := .code yX0_layerRow cX0_layerRow 2 (some .int) :: ([])
def wsX0_paint_r1 : List Cond := [Cond.classLink RX0 54 "java/lang/IllegalStateException", Cond.initialized "java/lang/IllegalStateException", Cond.fieldLink RX0 105 "AtelierBook" "pictureCount" "I", Cond.fieldLink RX0 73 "AtelierBook" "potCount" "I", Cond.fieldLink RX0 22 "AtelierBook" "layerCounts" "[I", Cond.methodLink RX0 61 yX0_checkNumber, Cond.static yX0_checkNumber, Cond.initialized RX0, Cond.code yX0_checkNumber cX0_checkNumber 2 none, Cond.classLink RX0 161 "java/lang/IndexOutOfBoundsException", Cond.initialized "java/lang/IndexOutOfBoundsException", Cond.methodLink RX0 65 yX0_checkRange, Cond.static yX0_checkRange, Cond.code yX0_checkRange cX0_checkRange 3 none, Cond.classLink RX0 88 "java/lang/IllegalArgumentException", Cond.initialized "java/lang/IllegalArgumentException", Cond.methodLink RX0 110 yX0_checkAtHome, Cond.instanceMethod yX0_checkAtHome, Cond.selects RX0 yX0_checkAtHome yX0_checkAtHome, Cond.code yX0_checkAtHome cX0_checkAtHome 2 none, Cond.methodLink RX0 143 yX0_isLent, Cond.instanceMethod yX0_isLent, Cond.selects RX0 yX0_isLent yX0_isLent, Cond.code yX0_isLent cX0_isLent 2 (some .boolean)]
def wsX0_paint_r2 : List Cond := [Cond.fieldLink RX0 31 "AtelierBook" "loanDays" "[I", Cond.methodLink RX0 80 yX0_potRow, Cond.static yX0_potRow, Cond.code yX0_potRow cX0_potRow 1 (some .int), Cond.methodLink RX0 116 yX0_layerRow, Cond.static yX0_layerRow, Cond.code yX0_layerRow cX0_layerRow 2 (some .int), Cond.methodLink RX0 93 yX0_move, Cond.instanceMethod yX0_move, Cond.selects RX0 yX0_move yX0_move, Cond.code yX0_move cX0_move 9 (some .boolean), Cond.fieldLink RX0 68 "AtelierBook" "tubeCount" "I", Cond.fieldLink RX0 19 "AtelierBook" "ledger" "[I", Cond.methodLink RX0 99 yX0_sumOfRow, Cond.instanceMethod yX0_sumOfRow, Cond.selects RX0 yX0_sumOfRow yX0_sumOfRow, Cond.code yX0_sumOfRow cX0_sumOfRow 4 (some .int), Cond.methodLink RX0 84 yX0_place, Cond.static yX0_place, Cond.code yX0_place cX0_place 2 (some .int)]
def wsX0_paint : List Cond := .code yX0_paint cX0_paint 4 (some .int) :: ((wsX0_paint_r1 ++ wsX0_paint_r2) ++ wsX00 ++ (vx_atS RX0 58 "java/lang/IllegalStateException" ["java/lang/RuntimeException", "java/lang/Exception"]).filter goodWord ++ (vx_atS RX0 165 "java/lang/IndexOutOfBoundsException" ["java/lang/RuntimeException", "java/lang/Exception"]).filter goodWord ++ (vx_atS RX0 92 "java/lang/IllegalArgumentException" ["java/lang/RuntimeException", "java/lang/Exception"]).filter goodWord)
def wsX0_clean_r1 : List Cond := [Cond.classLink RX0 54 "java/lang/IllegalStateException", Cond.initialized "java/lang/IllegalStateException", Cond.fieldLink RX0 105 "AtelierBook" "pictureCount" "I", Cond.fieldLink RX0 22 "AtelierBook" "layerCounts" "[I", Cond.methodLink RX0 61 yX0_checkNumber, Cond.static yX0_checkNumber, Cond.initialized RX0, Cond.code yX0_checkNumber cX0_checkNumber 2 none, Cond.classLink RX0 161 "java/lang/IndexOutOfBoundsException", Cond.initialized "java/lang/IndexOutOfBoundsException", Cond.methodLink RX0 65 yX0_checkRange, Cond.static yX0_checkRange, Cond.code yX0_checkRange cX0_checkRange 3 none, Cond.classLink RX0 88 "java/lang/IllegalArgumentException", Cond.initialized "java/lang/IllegalArgumentException", Cond.methodLink RX0 110 yX0_checkAtHome, Cond.instanceMethod yX0_checkAtHome, Cond.selects RX0 yX0_checkAtHome yX0_checkAtHome, Cond.code yX0_checkAtHome cX0_checkAtHome 2 none, Cond.methodLink RX0 143 yX0_isLent, Cond.instanceMethod yX0_isLent, Cond.selects RX0 yX0_isLent yX0_isLent, Cond.code yX0_isLent cX0_isLent 2 (some .boolean), Cond.fieldLink RX0 31 "AtelierBook" "loanDays" "[I"]
def wsX0_clean_r2 : List Cond := [Cond.methodLink RX0 116 yX0_layerRow, Cond.static yX0_layerRow, Cond.code yX0_layerRow cX0_layerRow 2 (some .int), Cond.methodLink RX0 102 yX0_waste, Cond.instanceMethod yX0_waste, Cond.selects RX0 yX0_waste yX0_waste, Cond.code yX0_waste cX0_waste 5 (some .int), Cond.fieldLink RX0 68 "AtelierBook" "tubeCount" "I", Cond.fieldLink RX0 19 "AtelierBook" "ledger" "[I", Cond.methodLink RX0 84 yX0_place, Cond.static yX0_place, Cond.code yX0_place cX0_place 2 (some .int)]
def wsX0_clean : List Cond := .code yX0_clean cX0_clean 5 (some .int) :: ((wsX0_clean_r1 ++ wsX0_clean_r2) ++ wsX00 ++ (vx_atS RX0 58 "java/lang/IllegalStateException" ["java/lang/RuntimeException", "java/lang/Exception"]).filter goodWord ++ (vx_atS RX0 165 "java/lang/IndexOutOfBoundsException" ["java/lang/RuntimeException", "java/lang/Exception"]).filter goodWord ++ (vx_atS RX0 92 "java/lang/IllegalArgumentException" ["java/lang/RuntimeException", "java/lang/Exception"]).filter goodWord)
def wsX0_damp : List Cond := .code yX0_damp cX0_damp 4 (some .int) :: ([.fieldLink RX0 40 "AtelierBook" "houseDamps" "[I", .methodLink RX0 61 yX0_checkNumber, .static yX0_checkNumber, .initialized RX0, .code yX0_checkNumber cX0_checkNumber 2 none, .classLink RX0 161 "java/lang/IndexOutOfBoundsException", .initialized "java/lang/IndexOutOfBoundsException", .methodLink RX0 65 yX0_checkRange, .static yX0_checkRange, .code yX0_checkRange cX0_checkRange 3 none, .classLink RX0 88 "java/lang/IllegalArgumentException", .initialized "java/lang/IllegalArgumentException"] ++ wsX00 ++ (vx_atS RX0 165 "java/lang/IndexOutOfBoundsException" ["java/lang/RuntimeException", "java/lang/Exception"]).filter goodWord ++ (vx_atS RX0 92 "java/lang/IllegalArgumentException" ["java/lang/RuntimeException", "java/lang/Exception"]).filter goodWord)
def wsX0_gramsOfPigment : List Cond := .code yX0_gramsOfPigment cX0_gramsOfPigment 5 (some .int) :: ([.fieldLink RX0 68 "AtelierBook" "tubeCount" "I", .fieldLink RX0 13 "AtelierBook" "pigmentOfTube" "[I", .fieldLink RX0 19 "AtelierBook" "ledger" "[I", .methodLink RX0 84 yX0_place, .static yX0_place, .initialized RX0, .code yX0_place cX0_place 2 (some .int)] ++ wsX00)
def wsX0_mainPigmentOfRow : List Cond := .code yX0_mainPigmentOfRow cX0_mainPigmentOfRow 6 (some .int) :: ([.fieldLink RX0 50 "AtelierBook" "pigmentCount" "I", .methodLink RX0 173 yX0_gramsOfPigment, .instanceMethod yX0_gramsOfPigment, .selects RX0 yX0_gramsOfPigment yX0_gramsOfPigment, .initialized RX0, .code yX0_gramsOfPigment cX0_gramsOfPigment 5 (some .int), .fieldLink RX0 68 "AtelierBook" "tubeCount" "I", .fieldLink RX0 13 "AtelierBook" "pigmentOfTube" "[I", .fieldLink RX0 19 "AtelierBook" "ledger" "[I", .methodLink RX0 84 yX0_place, .static yX0_place, .code yX0_place cX0_place 2 (some .int)] ++ wsX00)
def wsX0_mainPigmentOf : List Cond := .code yX0_mainPigmentOf cX0_mainPigmentOf 3 (some .int) :: ([.fieldLink RX0 22 "AtelierBook" "layerCounts" "[I", .methodLink RX0 116 yX0_layerRow, .static yX0_layerRow, .initialized RX0, .code yX0_layerRow cX0_layerRow 2 (some .int), .methodLink RX0 176 yX0_mainPigmentOfRow, .instanceMethod yX0_mainPigmentOfRow, .selects RX0 yX0_mainPigmentOfRow yX0_mainPigmentOfRow, .code yX0_mainPigmentOfRow cX0_mainPigmentOfRow 6 (some .int), .fieldLink RX0 50 "AtelierBook" "pigmentCount" "I", .methodLink RX0 173 yX0_gramsOfPigment, .instanceMethod yX0_gramsOfPigment, .selects RX0 yX0_gramsOfPigment yX0_gramsOfPigment, .code yX0_gramsOfPigment cX0_gramsOfPigment 5 (some .int), .fieldLink RX0 68 "AtelierBook" "tubeCount" "I", .fieldLink RX0 13 "AtelierBook" "pigmentOfTube" "[I", .fieldLink RX0 19 "AtelierBook" "ledger" "[I", .methodLink RX0 84 yX0_place, .static yX0_place, .code yX0_place cX0_place 2 (some .int)] ++ wsX00)
def wsX0_averagePriceOfAlike_r1 : List Cond := [Cond.fieldLink RX0 105 "AtelierBook" "pictureCount" "I", Cond.fieldLink RX0 28 "AtelierBook" "latestPrices" "[I", Cond.methodLink RX0 140 yX0_mainPigmentOf, Cond.instanceMethod yX0_mainPigmentOf, Cond.selects RX0 yX0_mainPigmentOf yX0_mainPigmentOf, Cond.initialized RX0, Cond.code yX0_mainPigmentOf cX0_mainPigmentOf 3 (some .int), Cond.fieldLink RX0 22 "AtelierBook" "layerCounts" "[I", Cond.methodLink RX0 116 yX0_layerRow, Cond.static yX0_layerRow, Cond.code yX0_layerRow cX0_layerRow 2 (some .int), Cond.methodLink RX0 176 yX0_mainPigmentOfRow, Cond.instanceMethod yX0_mainPigmentOfRow, Cond.selects RX0 yX0_mainPigmentOfRow yX0_mainPigmentOfRow, Cond.code yX0_mainPigmentOfRow cX0_mainPigmentOfRow 6 (some .int), Cond.fieldLink RX0 50 "AtelierBook" "pigmentCount" "I", Cond.methodLink RX0 173 yX0_gramsOfPigment, Cond.instanceMethod yX0_gramsOfPigment, Cond.selects RX0 yX0_gramsOfPigment yX0_gramsOfPigment, Cond.code yX0_gramsOfPigment cX0_gramsOfPigment 5 (some .int), Cond.fieldLink RX0 68 "AtelierBook" "tubeCount" "I", Cond.fieldLink RX0 13 "AtelierBook" "pigmentOfTube" "[I", Cond.fieldLink RX0 19 "AtelierBook" "ledger" "[I", Cond.methodLink RX0 84 yX0_place]
def wsX0_averagePriceOfAlike_r2 : List Cond := [Cond.static yX0_place, Cond.code yX0_place cX0_place 2 (some .int)]
def wsX0_averagePriceOfAlike : List Cond := .code yX0_averagePriceOfAlike cX0_averagePriceOfAlike 6 (some .int) :: ((wsX0_averagePriceOfAlike_r1 ++ wsX0_averagePriceOfAlike_r2) ++ wsX00)
def wsX0_valueOf_r1 : List Cond := [Cond.fieldLink RX0 25 "AtelierBook" "crackCounts" "[I", Cond.methodLink RX0 182 Lib.Math.max.name, Cond.static Lib.Math.max.name, Cond.initialized "java/lang/Math", Cond.code Lib.Math.max.name Lib.Math.max.code 2 (some .int), Cond.methodLink RX0 179 yX0_averagePriceOfAlike, Cond.instanceMethod yX0_averagePriceOfAlike, Cond.selects RX0 yX0_averagePriceOfAlike yX0_averagePriceOfAlike, Cond.initialized RX0, Cond.code yX0_averagePriceOfAlike cX0_averagePriceOfAlike 6 (some .int), Cond.fieldLink RX0 105 "AtelierBook" "pictureCount" "I", Cond.fieldLink RX0 28 "AtelierBook" "latestPrices" "[I", Cond.methodLink RX0 140 yX0_mainPigmentOf, Cond.instanceMethod yX0_mainPigmentOf, Cond.selects RX0 yX0_mainPigmentOf yX0_mainPigmentOf, Cond.code yX0_mainPigmentOf cX0_mainPigmentOf 3 (some .int), Cond.fieldLink RX0 22 "AtelierBook" "layerCounts" "[I", Cond.methodLink RX0 116 yX0_layerRow, Cond.static yX0_layerRow, Cond.code yX0_layerRow cX0_layerRow 2 (some .int), Cond.methodLink RX0 176 yX0_mainPigmentOfRow, Cond.instanceMethod yX0_mainPigmentOfRow, Cond.selects RX0 yX0_mainPigmentOfRow yX0_mainPigmentOfRow, Cond.code yX0_mainPigmentOfRow cX0_mainPigmentOfRow 6 (some .int)]
def wsX0_valueOf_r2 : List Cond := [Cond.fieldLink RX0 50 "AtelierBook" "pigmentCount" "I", Cond.methodLink RX0 173 yX0_gramsOfPigment, Cond.instanceMethod yX0_gramsOfPigment, Cond.selects RX0 yX0_gramsOfPigment yX0_gramsOfPigment, Cond.code yX0_gramsOfPigment cX0_gramsOfPigment 5 (some .int), Cond.fieldLink RX0 68 "AtelierBook" "tubeCount" "I", Cond.fieldLink RX0 13 "AtelierBook" "pigmentOfTube" "[I", Cond.fieldLink RX0 19 "AtelierBook" "ledger" "[I", Cond.methodLink RX0 84 yX0_place, Cond.static yX0_place, Cond.code yX0_place cX0_place 2 (some .int)]
def wsX0_valueOf : List Cond := .code yX0_valueOf cX0_valueOf 3 (some .int) :: ((wsX0_valueOf_r1 ++ wsX0_valueOf_r2) ++ wsX00)
def wsX0_lend_r1 : List Cond := [Cond.classLink RX0 54 "java/lang/IllegalStateException", Cond.initialized "java/lang/IllegalStateException", Cond.fieldLink RX0 105 "AtelierBook" "pictureCount" "I", Cond.fieldLink RX0 25 "AtelierBook" "crackCounts" "[I", Cond.fieldLink RX0 37 "AtelierBook" "loanCosts" "[I", Cond.fieldLink RX0 34 "AtelierBook" "loanHouses" "[I", Cond.fieldLink RX0 31 "AtelierBook" "loanDays" "[I", Cond.methodLink RX0 61 yX0_checkNumber, Cond.static yX0_checkNumber, Cond.initialized RX0, Cond.code yX0_checkNumber cX0_checkNumber 2 none, Cond.classLink RX0 161 "java/lang/IndexOutOfBoundsException", Cond.initialized "java/lang/IndexOutOfBoundsException", Cond.methodLink RX0 65 yX0_checkRange, Cond.static yX0_checkRange, Cond.code yX0_checkRange cX0_checkRange 3 none, Cond.classLink RX0 88 "java/lang/IllegalArgumentException", Cond.initialized "java/lang/IllegalArgumentException", Cond.methodLink RX0 110 yX0_checkAtHome, Cond.instanceMethod yX0_checkAtHome, Cond.selects RX0 yX0_checkAtHome yX0_checkAtHome, Cond.code yX0_checkAtHome cX0_checkAtHome 2 none, Cond.methodLink RX0 143 yX0_isLent, Cond.instanceMethod yX0_isLent]
def wsX0_lend_r2 : List Cond := [Cond.selects RX0 yX0_isLent yX0_isLent, Cond.code yX0_isLent cX0_isLent 2 (some .boolean), Cond.methodLink RX0 123 yX0_valueOf, Cond.instanceMethod yX0_valueOf, Cond.selects RX0 yX0_valueOf yX0_valueOf, Cond.code yX0_valueOf cX0_valueOf 3 (some .int), Cond.methodLink RX0 182 Lib.Math.max.name, Cond.static Lib.Math.max.name, Cond.initialized "java/lang/Math", Cond.code Lib.Math.max.name Lib.Math.max.code 2 (some .int), Cond.methodLink RX0 179 yX0_averagePriceOfAlike, Cond.instanceMethod yX0_averagePriceOfAlike, Cond.selects RX0 yX0_averagePriceOfAlike yX0_averagePriceOfAlike, Cond.code yX0_averagePriceOfAlike cX0_averagePriceOfAlike 6 (some .int), Cond.fieldLink RX0 28 "AtelierBook" "latestPrices" "[I", Cond.methodLink RX0 140 yX0_mainPigmentOf, Cond.instanceMethod yX0_mainPigmentOf, Cond.selects RX0 yX0_mainPigmentOf yX0_mainPigmentOf, Cond.code yX0_mainPigmentOf cX0_mainPigmentOf 3 (some .int), Cond.fieldLink RX0 22 "AtelierBook" "layerCounts" "[I", Cond.methodLink RX0 116 yX0_layerRow, Cond.static yX0_layerRow, Cond.code yX0_layerRow cX0_layerRow 2 (some .int), Cond.methodLink RX0 176 yX0_mainPigmentOfRow]
def wsX0_lend_r3 : List Cond := [Cond.instanceMethod yX0_mainPigmentOfRow, Cond.selects RX0 yX0_mainPigmentOfRow yX0_mainPigmentOfRow, Cond.code yX0_mainPigmentOfRow cX0_mainPigmentOfRow 6 (some .int), Cond.fieldLink RX0 50 "AtelierBook" "pigmentCount" "I", Cond.methodLink RX0 173 yX0_gramsOfPigment, Cond.instanceMethod yX0_gramsOfPigment, Cond.selects RX0 yX0_gramsOfPigment yX0_gramsOfPigment, Cond.code yX0_gramsOfPigment cX0_gramsOfPigment 5 (some .int), Cond.fieldLink RX0 68 "AtelierBook" "tubeCount" "I", Cond.fieldLink RX0 13 "AtelierBook" "pigmentOfTube" "[I", Cond.fieldLink RX0 19 "AtelierBook" "ledger" "[I", Cond.methodLink RX0 84 yX0_place, Cond.static yX0_place, Cond.code yX0_place cX0_place 2 (some .int)]
def wsX0_lend : List Cond := .code yX0_lend cX0_lend 4 (some .int) :: ((wsX0_lend_r1 ++ (wsX0_lend_r2 ++ wsX0_lend_r3)) ++ wsX00 ++ (vx_atS RX0 58 "java/lang/IllegalStateException" ["java/lang/RuntimeException", "java/lang/Exception"]).filter goodWord ++ (vx_atS RX0 165 "java/lang/IndexOutOfBoundsException" ["java/lang/RuntimeException", "java/lang/Exception"]).filter goodWord ++ (vx_atS RX0 92 "java/lang/IllegalArgumentException" ["java/lang/RuntimeException", "java/lang/Exception"]).filter goodWord)
def wsX0_sell_r1 : List Cond := [Cond.classLink RX0 54 "java/lang/IllegalStateException", Cond.initialized "java/lang/IllegalStateException", Cond.fieldLink RX0 105 "AtelierBook" "pictureCount" "I", Cond.constant RX0 126 (100000), Cond.fieldLink RX0 22 "AtelierBook" "layerCounts" "[I", Cond.fieldLink RX0 28 "AtelierBook" "latestPrices" "[I", Cond.methodLink RX0 61 yX0_checkNumber, Cond.static yX0_checkNumber, Cond.initialized RX0, Cond.code yX0_checkNumber cX0_checkNumber 2 none, Cond.classLink RX0 161 "java/lang/IndexOutOfBoundsException", Cond.initialized "java/lang/IndexOutOfBoundsException", Cond.methodLink RX0 65 yX0_checkRange, Cond.static yX0_checkRange, Cond.code yX0_checkRange cX0_checkRange 3 none, Cond.classLink RX0 88 "java/lang/IllegalArgumentException", Cond.initialized "java/lang/IllegalArgumentException", Cond.methodLink RX0 110 yX0_checkAtHome, Cond.instanceMethod yX0_checkAtHome, Cond.selects RX0 yX0_checkAtHome yX0_checkAtHome, Cond.code yX0_checkAtHome cX0_checkAtHome 2 none, Cond.methodLink RX0 143 yX0_isLent, Cond.instanceMethod yX0_isLent, Cond.selects RX0 yX0_isLent yX0_isLent]
def wsX0_sell_r2 : List Cond := [Cond.code yX0_isLent cX0_isLent 2 (some .boolean), Cond.fieldLink RX0 31 "AtelierBook" "loanDays" "[I", Cond.methodLink RX0 123 yX0_valueOf, Cond.instanceMethod yX0_valueOf, Cond.selects RX0 yX0_valueOf yX0_valueOf, Cond.code yX0_valueOf cX0_valueOf 3 (some .int), Cond.fieldLink RX0 25 "AtelierBook" "crackCounts" "[I", Cond.methodLink RX0 182 Lib.Math.max.name, Cond.static Lib.Math.max.name, Cond.initialized "java/lang/Math", Cond.code Lib.Math.max.name Lib.Math.max.code 2 (some .int), Cond.methodLink RX0 179 yX0_averagePriceOfAlike, Cond.instanceMethod yX0_averagePriceOfAlike, Cond.selects RX0 yX0_averagePriceOfAlike yX0_averagePriceOfAlike, Cond.code yX0_averagePriceOfAlike cX0_averagePriceOfAlike 6 (some .int), Cond.methodLink RX0 140 yX0_mainPigmentOf, Cond.instanceMethod yX0_mainPigmentOf, Cond.selects RX0 yX0_mainPigmentOf yX0_mainPigmentOf, Cond.code yX0_mainPigmentOf cX0_mainPigmentOf 3 (some .int), Cond.methodLink RX0 116 yX0_layerRow, Cond.static yX0_layerRow, Cond.code yX0_layerRow cX0_layerRow 2 (some .int), Cond.methodLink RX0 176 yX0_mainPigmentOfRow, Cond.instanceMethod yX0_mainPigmentOfRow]
def wsX0_sell_r3 : List Cond := [Cond.selects RX0 yX0_mainPigmentOfRow yX0_mainPigmentOfRow, Cond.code yX0_mainPigmentOfRow cX0_mainPigmentOfRow 6 (some .int), Cond.fieldLink RX0 50 "AtelierBook" "pigmentCount" "I", Cond.methodLink RX0 173 yX0_gramsOfPigment, Cond.instanceMethod yX0_gramsOfPigment, Cond.selects RX0 yX0_gramsOfPigment yX0_gramsOfPigment, Cond.code yX0_gramsOfPigment cX0_gramsOfPigment 5 (some .int), Cond.fieldLink RX0 68 "AtelierBook" "tubeCount" "I", Cond.fieldLink RX0 13 "AtelierBook" "pigmentOfTube" "[I", Cond.fieldLink RX0 19 "AtelierBook" "ledger" "[I", Cond.methodLink RX0 84 yX0_place, Cond.static yX0_place, Cond.code yX0_place cX0_place 2 (some .int)]
def wsX0_sell : List Cond := .code yX0_sell cX0_sell 3 (some .int) :: ((wsX0_sell_r1 ++ (wsX0_sell_r2 ++ wsX0_sell_r3)) ++ wsX00 ++ (vx_atS RX0 58 "java/lang/IllegalStateException" ["java/lang/RuntimeException", "java/lang/Exception"]).filter goodWord ++ (vx_atS RX0 165 "java/lang/IndexOutOfBoundsException" ["java/lang/RuntimeException", "java/lang/Exception"]).filter goodWord ++ (vx_atS RX0 92 "java/lang/IllegalArgumentException" ["java/lang/RuntimeException", "java/lang/Exception"]).filter goodWord)
def wsX0_passForLoan : List Cond := .code yX0_passForLoan cX0_passForLoan 5 none :: ([.fieldLink RX0 31 "AtelierBook" "loanDays" "[I", .methodLink RX0 187 Lib.Math.min.name, .static Lib.Math.min.name, .initialized "java/lang/Math", .code Lib.Math.min.name Lib.Math.min.code 2 (some .int), .fieldLink RX0 34 "AtelierBook" "loanHouses" "[I", .fieldLink RX0 40 "AtelierBook" "houseDamps" "[I", .methodLink RX0 190 Lib.Math.abs.name, .static Lib.Math.abs.name, .code Lib.Math.abs.name Lib.Math.abs.code 1 (some .int), .fieldLink RX0 25 "AtelierBook" "crackCounts" "[I", .fieldLink RX0 43 "AtelierBook" "housePayments" "[I", .fieldLink RX0 37 "AtelierBook" "loanCosts" "[I"] ++ wsX00)
def wsX0_pass_r1 : List Cond := [Cond.classLink RX0 54 "java/lang/IllegalStateException", Cond.initialized "java/lang/IllegalStateException", Cond.fieldLink RX0 129 "AtelierBook" "today" "I", Cond.fieldLink RX0 105 "AtelierBook" "pictureCount" "I", Cond.methodLink RX0 65 yX0_checkRange, Cond.static yX0_checkRange, Cond.initialized RX0, Cond.code yX0_checkRange cX0_checkRange 3 none, Cond.classLink RX0 88 "java/lang/IllegalArgumentException", Cond.initialized "java/lang/IllegalArgumentException", Cond.methodLink RX0 134 yX0_passForLoan, Cond.instanceMethod yX0_passForLoan, Cond.selects RX0 yX0_passForLoan yX0_passForLoan, Cond.code yX0_passForLoan cX0_passForLoan 5 none, Cond.fieldLink RX0 31 "AtelierBook" "loanDays" "[I", Cond.methodLink RX0 187 Lib.Math.min.name, Cond.static Lib.Math.min.name, Cond.initialized "java/lang/Math", Cond.code Lib.Math.min.name Lib.Math.min.code 2 (some .int), Cond.fieldLink RX0 34 "AtelierBook" "loanHouses" "[I", Cond.fieldLink RX0 40 "AtelierBook" "houseDamps" "[I", Cond.methodLink RX0 190 Lib.Math.abs.name, Cond.static Lib.Math.abs.name, Cond.code Lib.Math.abs.name Lib.Math.abs.code 1 (some .int)]
def wsX0_pass_r2 : List Cond := [Cond.fieldLink RX0 25 "AtelierBook" "crackCounts" "[I", Cond.fieldLink RX0 43 "AtelierBook" "housePayments" "[I", Cond.fieldLink RX0 37 "AtelierBook" "loanCosts" "[I"]
def wsX0_pass : List Cond := .code yX0_pass cX0_pass 3 (some .int) :: ((wsX0_pass_r1 ++ wsX0_pass_r2) ++ wsX00 ++ (vx_atS RX0 58 "java/lang/IllegalStateException" ["java/lang/RuntimeException", "java/lang/Exception"]).filter goodWord ++ (vx_atS RX0 92 "java/lang/IllegalArgumentException" ["java/lang/RuntimeException", "java/lang/Exception"]).filter goodWord)
def wsX0_left : List Cond := .code yX0_left cX0_left 2 (some .int) :: ([.fieldLink RX0 68 "AtelierBook" "tubeCount" "I", .fieldLink RX0 16 "AtelierBook" "gramsInTube" "[I", .methodLink RX0 61 yX0_checkNumber, .static yX0_checkNumber, .initialized RX0, .code yX0_checkNumber cX0_checkNumber 2 none, .classLink RX0 161 "java/lang/IndexOutOfBoundsException", .initialized "java/lang/IndexOutOfBoundsException"] ++ wsX00 ++ (vx_atS RX0 165 "java/lang/IndexOutOfBoundsException" ["java/lang/RuntimeException", "java/lang/Exception"]).filter goodWord)
def wsX0_has : List Cond := .code yX0_has cX0_has 3 (some .int) :: ([.fieldLink RX0 73 "AtelierBook" "potCount" "I", .fieldLink RX0 68 "AtelierBook" "tubeCount" "I", .fieldLink RX0 19 "AtelierBook" "ledger" "[I", .methodLink RX0 61 yX0_checkNumber, .static yX0_checkNumber, .initialized RX0, .code yX0_checkNumber cX0_checkNumber 2 none, .classLink RX0 161 "java/lang/IndexOutOfBoundsException", .initialized "java/lang/IndexOutOfBoundsException", .methodLink RX0 80 yX0_potRow, .static yX0_potRow, .code yX0_potRow cX0_potRow 1 (some .int), .methodLink RX0 99 yX0_sumOfRow, .instanceMethod yX0_sumOfRow, .selects RX0 yX0_sumOfRow yX0_sumOfRow, .code yX0_sumOfRow cX0_sumOfRow 4 (some .int), .methodLink RX0 84 yX0_place, .static yX0_place, .code yX0_place cX0_place 2 (some .int)] ++ wsX00 ++ (vx_atS RX0 165 "java/lang/IndexOutOfBoundsException" ["java/lang/RuntimeException", "java/lang/Exception"]).filter goodWord)
def wsX0_colourOfTube : List Cond := .code yX0_colourOfTube cX0_colourOfTube 3 (some .int) :: ([.fieldLink RX0 9 "AtelierBook" "pigmentColours" "[I", .fieldLink RX0 13 "AtelierBook" "pigmentOfTube" "[I"] ++ wsX00)
def wsX0_colourOfRow : List Cond := .code yX0_colourOfRow cX0_colourOfRow 7 (some .int) :: ([.fieldLink RX0 68 "AtelierBook" "tubeCount" "I", .fieldLink RX0 19 "AtelierBook" "ledger" "[I", .methodLink RX0 84 yX0_place, .static yX0_place, .initialized RX0, .code yX0_place cX0_place 2 (some .int), .methodLink RX0 170 yX0_colourOfTube, .instanceMethod yX0_colourOfTube, .selects RX0 yX0_colourOfTube yX0_colourOfTube, .code yX0_colourOfTube cX0_colourOfTube 3 (some .int), .fieldLink RX0 9 "AtelierBook" "pigmentColours" "[I", .fieldLink RX0 13 "AtelierBook" "pigmentOfTube" "[I"] ++ wsX00)
def wsX0_colour_r1 : List Cond := [Cond.fieldLink RX0 73 "AtelierBook" "potCount" "I", Cond.methodLink RX0 61 yX0_checkNumber, Cond.static yX0_checkNumber, Cond.initialized RX0, Cond.code yX0_checkNumber cX0_checkNumber 2 none, Cond.classLink RX0 161 "java/lang/IndexOutOfBoundsException", Cond.initialized "java/lang/IndexOutOfBoundsException", Cond.methodLink RX0 65 yX0_checkRange, Cond.static yX0_checkRange, Cond.code yX0_checkRange cX0_checkRange 3 none, Cond.classLink RX0 88 "java/lang/IllegalArgumentException", Cond.initialized "java/lang/IllegalArgumentException", Cond.methodLink RX0 80 yX0_potRow, Cond.static yX0_potRow, Cond.code yX0_potRow cX0_potRow 1 (some .int), Cond.methodLink RX0 137 yX0_colourOfRow, Cond.instanceMethod yX0_colourOfRow, Cond.selects RX0 yX0_colourOfRow yX0_colourOfRow, Cond.code yX0_colourOfRow cX0_colourOfRow 7 (some .int), Cond.fieldLink RX0 68 "AtelierBook" "tubeCount" "I", Cond.fieldLink RX0 19 "AtelierBook" "ledger" "[I", Cond.methodLink RX0 84 yX0_place, Cond.static yX0_place, Cond.code yX0_place cX0_place 2 (some .int)]
def wsX0_colour_r2 : List Cond := [Cond.methodLink RX0 170 yX0_colourOfTube, Cond.instanceMethod yX0_colourOfTube, Cond.selects RX0 yX0_colourOfTube yX0_colourOfTube, Cond.code yX0_colourOfTube cX0_colourOfTube 3 (some .int), Cond.fieldLink RX0 9 "AtelierBook" "pigmentColours" "[I", Cond.fieldLink RX0 13 "AtelierBook" "pigmentOfTube" "[I"]
def wsX0_colour : List Cond := .code yX0_colour cX0_colour 3 (some .int) :: ((wsX0_colour_r1 ++ wsX0_colour_r2) ++ wsX00 ++ (vx_atS RX0 165 "java/lang/IndexOutOfBoundsException" ["java/lang/RuntimeException", "java/lang/Exception"]).filter goodWord ++ (vx_atS RX0 92 "java/lang/IllegalArgumentException" ["java/lang/RuntimeException", "java/lang/Exception"]).filter goodWord)
def wsX0_lookOf : List Cond := .code yX0_lookOf cX0_lookOf 4 (some .int) :: ([.fieldLink RX0 22 "AtelierBook" "layerCounts" "[I", .methodLink RX0 116 yX0_layerRow, .static yX0_layerRow, .initialized RX0, .code yX0_layerRow cX0_layerRow 2 (some .int), .methodLink RX0 137 yX0_colourOfRow, .instanceMethod yX0_colourOfRow, .selects RX0 yX0_colourOfRow yX0_colourOfRow, .code yX0_colourOfRow cX0_colourOfRow 7 (some .int), .fieldLink RX0 68 "AtelierBook" "tubeCount" "I", .fieldLink RX0 19 "AtelierBook" "ledger" "[I", .methodLink RX0 84 yX0_place, .static yX0_place, .code yX0_place cX0_place 2 (some .int), .methodLink RX0 170 yX0_colourOfTube, .instanceMethod yX0_colourOfTube, .selects RX0 yX0_colourOfTube yX0_colourOfTube, .code yX0_colourOfTube cX0_colourOfTube 3 (some .int), .fieldLink RX0 9 "AtelierBook" "pigmentColours" "[I", .fieldLink RX0 13 "AtelierBook" "pigmentOfTube" "[I"] ++ wsX00)
def wsX0_of_r1 : List Cond := [Cond.fieldLink RX0 105 "AtelierBook" "pictureCount" "I", Cond.fieldLink RX0 22 "AtelierBook" "layerCounts" "[I", Cond.fieldLink RX0 25 "AtelierBook" "crackCounts" "[I", Cond.fieldLink RX0 34 "AtelierBook" "loanHouses" "[I", Cond.fieldLink RX0 31 "AtelierBook" "loanDays" "[I", Cond.methodLink RX0 61 yX0_checkNumber, Cond.static yX0_checkNumber, Cond.initialized RX0, Cond.code yX0_checkNumber cX0_checkNumber 2 none, Cond.classLink RX0 161 "java/lang/IndexOutOfBoundsException", Cond.initialized "java/lang/IndexOutOfBoundsException", Cond.methodLink RX0 65 yX0_checkRange, Cond.static yX0_checkRange, Cond.code yX0_checkRange cX0_checkRange 3 none, Cond.classLink RX0 88 "java/lang/IllegalArgumentException", Cond.initialized "java/lang/IllegalArgumentException", Cond.methodLink RX0 123 yX0_valueOf, Cond.instanceMethod yX0_valueOf, Cond.selects RX0 yX0_valueOf yX0_valueOf, Cond.code yX0_valueOf cX0_valueOf 3 (some .int), Cond.methodLink RX0 182 Lib.Math.max.name, Cond.static Lib.Math.max.name, Cond.initialized "java/lang/Math", Cond.code Lib.Math.max.name Lib.Math.max.code 2 (some .int)]
def wsX0_of_r2 : List Cond := [Cond.methodLink RX0 179 yX0_averagePriceOfAlike, Cond.instanceMethod yX0_averagePriceOfAlike, Cond.selects RX0 yX0_averagePriceOfAlike yX0_averagePriceOfAlike, Cond.code yX0_averagePriceOfAlike cX0_averagePriceOfAlike 6 (some .int), Cond.fieldLink RX0 28 "AtelierBook" "latestPrices" "[I", Cond.methodLink RX0 140 yX0_mainPigmentOf, Cond.instanceMethod yX0_mainPigmentOf, Cond.selects RX0 yX0_mainPigmentOf yX0_mainPigmentOf, Cond.code yX0_mainPigmentOf cX0_mainPigmentOf 3 (some .int), Cond.methodLink RX0 116 yX0_layerRow, Cond.static yX0_layerRow, Cond.code yX0_layerRow cX0_layerRow 2 (some .int), Cond.methodLink RX0 176 yX0_mainPigmentOfRow, Cond.instanceMethod yX0_mainPigmentOfRow, Cond.selects RX0 yX0_mainPigmentOfRow yX0_mainPigmentOfRow, Cond.code yX0_mainPigmentOfRow cX0_mainPigmentOfRow 6 (some .int), Cond.fieldLink RX0 50 "AtelierBook" "pigmentCount" "I", Cond.methodLink RX0 173 yX0_gramsOfPigment, Cond.instanceMethod yX0_gramsOfPigment, Cond.selects RX0 yX0_gramsOfPigment yX0_gramsOfPigment, Cond.code yX0_gramsOfPigment cX0_gramsOfPigment 5 (some .int), Cond.fieldLink RX0 68 "AtelierBook" "tubeCount" "I", Cond.fieldLink RX0 13 "AtelierBook" "pigmentOfTube" "[I", Cond.fieldLink RX0 19 "AtelierBook" "ledger" "[I"]
def wsX0_of_r3 : List Cond := [Cond.methodLink RX0 84 yX0_place, Cond.static yX0_place, Cond.code yX0_place cX0_place 2 (some .int), Cond.methodLink RX0 143 yX0_isLent, Cond.instanceMethod yX0_isLent, Cond.selects RX0 yX0_isLent yX0_isLent, Cond.code yX0_isLent cX0_isLent 2 (some .boolean), Cond.methodLink RX0 147 yX0_lookOf, Cond.instanceMethod yX0_lookOf, Cond.selects RX0 yX0_lookOf yX0_lookOf, Cond.code yX0_lookOf cX0_lookOf 4 (some .int), Cond.methodLink RX0 137 yX0_colourOfRow, Cond.instanceMethod yX0_colourOfRow, Cond.selects RX0 yX0_colourOfRow yX0_colourOfRow, Cond.code yX0_colourOfRow cX0_colourOfRow 7 (some .int), Cond.methodLink RX0 170 yX0_colourOfTube, Cond.instanceMethod yX0_colourOfTube, Cond.selects RX0 yX0_colourOfTube yX0_colourOfTube, Cond.code yX0_colourOfTube cX0_colourOfTube 3 (some .int), Cond.fieldLink RX0 9 "AtelierBook" "pigmentColours" "[I"]
def wsX0_of : List Cond := .code yX0_of cX0_of 3 (some .int) :: ((wsX0_of_r1 ++ (wsX0_of_r2 ++ wsX0_of_r3)) ++ wsX00 ++ (vx_atS RX0 165 "java/lang/IndexOutOfBoundsException" ["java/lang/RuntimeException", "java/lang/Exception"]).filter goodWord ++ (vx_atS RX0 92 "java/lang/IllegalArgumentException" ["java/lang/RuntimeException", "java/lang/Exception"]).filter goodWord)
def wsX0_layer : List Cond := .code yX0_layer cX0_layer 4 (some .int) :: ([.fieldLink RX0 105 "AtelierBook" "pictureCount" "I", .fieldLink RX0 22 "AtelierBook" "layerCounts" "[I", .fieldLink RX0 68 "AtelierBook" "tubeCount" "I", .fieldLink RX0 19 "AtelierBook" "ledger" "[I", .methodLink RX0 61 yX0_checkNumber, .static yX0_checkNumber, .initialized RX0, .code yX0_checkNumber cX0_checkNumber 2 none, .classLink RX0 161 "java/lang/IndexOutOfBoundsException", .initialized "java/lang/IndexOutOfBoundsException", .methodLink RX0 116 yX0_layerRow, .static yX0_layerRow, .code yX0_layerRow cX0_layerRow 2 (some .int), .methodLink RX0 84 yX0_place, .static yX0_place, .code yX0_place cX0_place 2 (some .int)] ++ wsX00 ++ (vx_atS RX0 165 "java/lang/IndexOutOfBoundsException" ["java/lang/RuntimeException", "java/lang/Exception"]).filter goodWord)
def wsX0_sumOfTube : List Cond := .code yX0_sumOfTube cX0_sumOfTube 6 (some .int) :: ([.fieldLink RX0 19 "AtelierBook" "ledger" "[I", .methodLink RX0 84 yX0_place, .static yX0_place, .initialized RX0, .code yX0_place cX0_place 2 (some .int)] ++ wsX00)
def wsX0_where : List Cond := .code yX0_where cX0_where 3 (some .int) :: ([.fieldLink RX0 68 "AtelierBook" "tubeCount" "I", .fieldLink RX0 16 "AtelierBook" "gramsInTube" "[I", .methodLink RX0 61 yX0_checkNumber, .static yX0_checkNumber, .initialized RX0, .code yX0_checkNumber cX0_checkNumber 2 none, .classLink RX0 161 "java/lang/IndexOutOfBoundsException", .initialized "java/lang/IndexOutOfBoundsException", .methodLink RX0 65 yX0_checkRange, .static yX0_checkRange, .code yX0_checkRange cX0_checkRange 3 none, .classLink RX0 88 "java/lang/IllegalArgumentException", .initialized "java/lang/IllegalArgumentException", .methodLink RX0 150 yX0_sumOfTube, .instanceMethod yX0_sumOfTube, .selects RX0 yX0_sumOfTube yX0_sumOfTube, .code yX0_sumOfTube cX0_sumOfTube 6 (some .int), .fieldLink RX0 19 "AtelierBook" "ledger" "[I", .methodLink RX0 84 yX0_place, .static yX0_place, .code yX0_place cX0_place 2 (some .int)] ++ wsX00 ++ (vx_atS RX0 165 "java/lang/IndexOutOfBoundsException" ["java/lang/RuntimeException", "java/lang/Exception"]).filter goodWord ++ (vx_atS RX0 92 "java/lang/IllegalArgumentException" ["java/lang/RuntimeException", "java/lang/Exception"]).filter goodWord)
def wsX0_mixed : List Cond := .code yX0_mixed cX0_mixed 5 (some .int) :: ([.methodLink RX0 170 yX0_colourOfTube, .instanceMethod yX0_colourOfTube, .selects RX0 yX0_colourOfTube yX0_colourOfTube, .initialized RX0, .code yX0_colourOfTube cX0_colourOfTube 3 (some .int), .fieldLink RX0 9 "AtelierBook" "pigmentColours" "[I", .fieldLink RX0 13 "AtelierBook" "pigmentOfTube" "[I"] ++ wsX00)
def wsX0_square : List Cond := .code yX0_square cX0_square 1 (some .int) :: ([])
def wsX0_recipe : List Cond := .code yX0_recipe cX0_recipe 10 (some .int) :: ([.fieldLink RX0 68 "AtelierBook" "tubeCount" "I", .fieldLink RX0 16 "AtelierBook" "gramsInTube" "[I", .methodLink RX0 46 yX0_checkColour, .static yX0_checkColour, .initialized RX0, .code yX0_checkColour cX0_checkColour 3 none, .methodLink RX0 65 yX0_checkRange, .static yX0_checkRange, .code yX0_checkRange cX0_checkRange 3 none, .classLink RX0 88 "java/lang/IllegalArgumentException", .initialized "java/lang/IllegalArgumentException", .methodLink RX0 154 yX0_mixed, .instanceMethod yX0_mixed, .selects RX0 yX0_mixed yX0_mixed, .code yX0_mixed cX0_mixed 5 (some .int), .methodLink RX0 170 yX0_colourOfTube, .instanceMethod yX0_colourOfTube, .selects RX0 yX0_colourOfTube yX0_colourOfTube, .code yX0_colourOfTube cX0_colourOfTube 3 (some .int), .fieldLink RX0 9 "AtelierBook" "pigmentColours" "[I", .fieldLink RX0 13 "AtelierBook" "pigmentOfTube" "[I", .methodLink RX0 158 yX0_square, .static yX0_square, .code yX0_square cX0_square 1 (some .int)] ++ wsX00 ++ (vx_atS RX0 92 "java/lang/IllegalArgumentException" ["java/lang/RuntimeException", "java/lang/Exception"]).filter goodWord)
def wsX0_paid : List Cond := .code yX0_paid cX0_paid 2 (some .int) :: ([.fieldLink RX0 43 "AtelierBook" "housePayments" "[I", .methodLink RX0 61 yX0_checkNumber, .static yX0_checkNumber, .initialized RX0, .code yX0_checkNumber cX0_checkNumber 2 none, .classLink RX0 161 "java/lang/IndexOutOfBoundsException", .initialized "java/lang/IndexOutOfBoundsException"] ++ wsX00 ++ (vx_atS RX0 165 "java/lang/IndexOutOfBoundsException" ["java/lang/RuntimeException", "java/lang/Exception"]).filter goodWord)
def wsJ9_abs_0f7a4 : List Cond := .code yJ9_abs_0f7a4 cJ9_abs_0f7a4 1 (some .int) :: ([])
def wsJ9_max_7cf53 : List Cond := .code yJ9_max_7cf53 cJ9_max_7cf53 2 (some .int) :: ([])
def wsJ9_min_7cf53 : List Cond := .code yJ9_min_7cf53 cJ9_min_7cf53 2 (some .int) :: ([])
def wsL_cell : List Cond := .code yL_cell cL_cell 2 (some .int) :: ([.constant RL 7 (51257), .constant RL 8 (3087707)])
def wsL_low : List Cond := .code yL_low cL_low 2 (some .int) :: ([.constant RL 9 (2147483647)])
def wsL_calls_r1 : List Cond := [Cond.classLink RL 32 "java/lang/IllegalStateException", Cond.methodLink RL 10 yX0_squeeze, Cond.instanceMethod yX0_squeeze, Cond.selects RX0 yX0_squeeze yX0_squeeze, Cond.initialized RX0, Cond.code yX0_squeeze cX0_squeeze 4 (some .int), Cond.classLink RX0 54 "java/lang/IllegalStateException", Cond.initialized "java/lang/IllegalStateException", Cond.fieldLink RX0 73 "AtelierBook" "potCount" "I", Cond.fieldLink RX0 68 "AtelierBook" "tubeCount" "I", Cond.fieldLink RX0 16 "AtelierBook" "gramsInTube" "[I", Cond.fieldLink RX0 19 "AtelierBook" "ledger" "[I", Cond.methodLink RX0 61 yX0_checkNumber, Cond.static yX0_checkNumber, Cond.code yX0_checkNumber cX0_checkNumber 2 none, Cond.classLink RX0 161 "java/lang/IndexOutOfBoundsException", Cond.initialized "java/lang/IndexOutOfBoundsException", Cond.methodLink RX0 65 yX0_checkRange, Cond.static yX0_checkRange, Cond.code yX0_checkRange cX0_checkRange 3 none, Cond.classLink RX0 88 "java/lang/IllegalArgumentException", Cond.initialized "java/lang/IllegalArgumentException", Cond.methodLink RX0 80 yX0_potRow, Cond.static yX0_potRow]
def wsL_calls_r2 : List Cond := [Cond.code yX0_potRow cX0_potRow 1 (some .int), Cond.methodLink RX0 84 yX0_place, Cond.static yX0_place, Cond.code yX0_place cX0_place 2 (some .int), Cond.methodLink RL 16 yX0_pour, Cond.instanceMethod yX0_pour, Cond.selects RX0 yX0_pour yX0_pour, Cond.code yX0_pour cX0_pour 4 (some .int), Cond.methodLink RX0 93 yX0_move, Cond.instanceMethod yX0_move, Cond.selects RX0 yX0_move yX0_move, Cond.code yX0_move cX0_move 9 (some .boolean), Cond.methodLink RX0 99 yX0_sumOfRow, Cond.instanceMethod yX0_sumOfRow, Cond.selects RX0 yX0_sumOfRow yX0_sumOfRow, Cond.code yX0_sumOfRow cX0_sumOfRow 4 (some .int), Cond.methodLink RL 19 yX0_paint, Cond.instanceMethod yX0_paint, Cond.selects RX0 yX0_paint yX0_paint, Cond.code yX0_paint cX0_paint 4 (some .int), Cond.fieldLink RX0 105 "AtelierBook" "pictureCount" "I", Cond.fieldLink RX0 22 "AtelierBook" "layerCounts" "[I", Cond.methodLink RX0 110 yX0_checkAtHome, Cond.instanceMethod yX0_checkAtHome]
def wsL_calls_r3 : List Cond := [Cond.selects RX0 yX0_checkAtHome yX0_checkAtHome, Cond.code yX0_checkAtHome cX0_checkAtHome 2 none, Cond.methodLink RX0 143 yX0_isLent, Cond.instanceMethod yX0_isLent, Cond.selects RX0 yX0_isLent yX0_isLent, Cond.code yX0_isLent cX0_isLent 2 (some .boolean), Cond.fieldLink RX0 31 "AtelierBook" "loanDays" "[I", Cond.methodLink RX0 116 yX0_layerRow, Cond.static yX0_layerRow, Cond.code yX0_layerRow cX0_layerRow 2 (some .int), Cond.methodLink RL 22 yX0_clean, Cond.instanceMethod yX0_clean, Cond.selects RX0 yX0_clean yX0_clean, Cond.code yX0_clean cX0_clean 5 (some .int), Cond.methodLink RX0 102 yX0_waste, Cond.instanceMethod yX0_waste, Cond.selects RX0 yX0_waste yX0_waste, Cond.code yX0_waste cX0_waste 5 (some .int), Cond.methodLink RL 26 yX0_lend, Cond.instanceMethod yX0_lend, Cond.selects RX0 yX0_lend yX0_lend, Cond.code yX0_lend cX0_lend 4 (some .int), Cond.fieldLink RX0 25 "AtelierBook" "crackCounts" "[I", Cond.fieldLink RX0 37 "AtelierBook" "loanCosts" "[I"]
def wsL_calls_r4 : List Cond := [Cond.fieldLink RX0 34 "AtelierBook" "loanHouses" "[I", Cond.methodLink RX0 123 yX0_valueOf, Cond.instanceMethod yX0_valueOf, Cond.selects RX0 yX0_valueOf yX0_valueOf, Cond.code yX0_valueOf cX0_valueOf 3 (some .int), Cond.methodLink RX0 182 Lib.Math.max.name, Cond.static Lib.Math.max.name, Cond.initialized "java/lang/Math", Cond.code Lib.Math.max.name Lib.Math.max.code 2 (some .int), Cond.methodLink RX0 179 yX0_averagePriceOfAlike, Cond.instanceMethod yX0_averagePriceOfAlike, Cond.selects RX0 yX0_averagePriceOfAlike yX0_averagePriceOfAlike, Cond.code yX0_averagePriceOfAlike cX0_averagePriceOfAlike 6 (some .int), Cond.fieldLink RX0 28 "AtelierBook" "latestPrices" "[I", Cond.methodLink RX0 140 yX0_mainPigmentOf, Cond.instanceMethod yX0_mainPigmentOf, Cond.selects RX0 yX0_mainPigmentOf yX0_mainPigmentOf, Cond.code yX0_mainPigmentOf cX0_mainPigmentOf 3 (some .int), Cond.methodLink RX0 176 yX0_mainPigmentOfRow, Cond.instanceMethod yX0_mainPigmentOfRow, Cond.selects RX0 yX0_mainPigmentOfRow yX0_mainPigmentOfRow, Cond.code yX0_mainPigmentOfRow cX0_mainPigmentOfRow 6 (some .int), Cond.fieldLink RX0 50 "AtelierBook" "pigmentCount" "I", Cond.methodLink RX0 173 yX0_gramsOfPigment]
def wsL_calls_r5 : List Cond := [Cond.instanceMethod yX0_gramsOfPigment, Cond.selects RX0 yX0_gramsOfPigment yX0_gramsOfPigment, Cond.code yX0_gramsOfPigment cX0_gramsOfPigment 5 (some .int), Cond.fieldLink RX0 13 "AtelierBook" "pigmentOfTube" "[I", Cond.methodLink RL 29 yX0_sell, Cond.instanceMethod yX0_sell, Cond.selects RX0 yX0_sell yX0_sell, Cond.code yX0_sell cX0_sell 3 (some .int), Cond.constant RX0 126 (100000)]
def wsL_calls : List Cond := .codeWith yL_calls cL_calls 6 (some .int) [(0, 83, 84, 32)] :: ((wsL_calls_r1 ++ (wsL_calls_r2 ++ (wsL_calls_r3 ++ (wsL_calls_r4 ++ wsL_calls_r5)))) ++ wsX00 ++ (vx_atS RX0 58 "java/lang/IllegalStateException" ["java/lang/RuntimeException", "java/lang/Exception"]).filter goodWord ++ (vx_atS RX0 165 "java/lang/IndexOutOfBoundsException" ["java/lang/RuntimeException", "java/lang/Exception"]).filter goodWord ++ (vx_atS RX0 92 "java/lang/IllegalArgumentException" ["java/lang/RuntimeException", "java/lang/Exception"]).filter goodWord)
def wsL_at : List Cond := .code yL_at cL_at 2 (some .int) :: ([])
def wsL_grams : List Cond := .code yL_grams cL_grams 5 (some .int) :: ([])
def wsL_total : List Cond := .code yL_total cL_total 4 (some .int) :: ([])
def wsL_flows : List Cond := .code yL_flows cL_flows 9 none :: ([.methodLink RL 34 yL_total, .static yL_total, .initialized RL, .code yL_total cL_total 4 (some .int)])
def wsL_main : List Cond := .code yL_main cL_main 10 (some .int) :: ([.methodLink RL 40 yL_at, .static yL_at, .initialized RL, .code yL_at cL_at 2 (some .int), .methodLink RL 43 yL_grams, .static yL_grams, .code yL_grams cL_grams 5 (some .int)])
def wsL_value : List Cond := .code yL_value cL_value 11 (some .int) :: ([.methodLink RL 47 yL_main, .static yL_main, .initialized RL, .code yL_main cL_main 10 (some .int), .methodLink RL 40 yL_at, .static yL_at, .code yL_at cL_at 2 (some .int), .methodLink RL 43 yL_grams, .static yL_grams, .code yL_grams cL_grams 5 (some .int)])
def wsL_shade : List Cond := .code yL_shade cL_shade 2 (some .int) :: ([])
def wsL_recipe : List Cond := .code yL_recipe cL_recipe 16 (some .int) :: ([.constant RL 9 (2147483647)])
def wsL_mixes_r1 : List Cond := [Cond.constant RL 66 (1048576), Cond.methodLink RL 51 yL_low, Cond.static yL_low, Cond.initialized RL, Cond.code yL_low cL_low 2 (some .int), Cond.constant RL 9 (2147483647), Cond.methodLink RL 54 yL_calls, Cond.static yL_calls, Cond.codeWith yL_calls cL_calls 6 (some .int) [(0, 83, 84, 32)], Cond.classLink RL 32 "java/lang/IllegalStateException", Cond.methodLink RL 10 yX0_squeeze, Cond.instanceMethod yX0_squeeze, Cond.selects RX0 yX0_squeeze yX0_squeeze, Cond.initialized RX0, Cond.code yX0_squeeze cX0_squeeze 4 (some .int), Cond.classLink RX0 54 "java/lang/IllegalStateException", Cond.initialized "java/lang/IllegalStateException", Cond.fieldLink RX0 73 "AtelierBook" "potCount" "I", Cond.fieldLink RX0 68 "AtelierBook" "tubeCount" "I", Cond.fieldLink RX0 16 "AtelierBook" "gramsInTube" "[I", Cond.fieldLink RX0 19 "AtelierBook" "ledger" "[I", Cond.methodLink RX0 61 yX0_checkNumber, Cond.static yX0_checkNumber, Cond.code yX0_checkNumber cX0_checkNumber 2 none]
def wsL_mixes_r2 : List Cond := [Cond.classLink RX0 161 "java/lang/IndexOutOfBoundsException", Cond.initialized "java/lang/IndexOutOfBoundsException", Cond.methodLink RX0 65 yX0_checkRange, Cond.static yX0_checkRange, Cond.code yX0_checkRange cX0_checkRange 3 none, Cond.classLink RX0 88 "java/lang/IllegalArgumentException", Cond.initialized "java/lang/IllegalArgumentException", Cond.methodLink RX0 80 yX0_potRow, Cond.static yX0_potRow, Cond.code yX0_potRow cX0_potRow 1 (some .int), Cond.methodLink RX0 84 yX0_place, Cond.static yX0_place, Cond.code yX0_place cX0_place 2 (some .int), Cond.methodLink RL 16 yX0_pour, Cond.instanceMethod yX0_pour, Cond.selects RX0 yX0_pour yX0_pour, Cond.code yX0_pour cX0_pour 4 (some .int), Cond.methodLink RX0 93 yX0_move, Cond.instanceMethod yX0_move, Cond.selects RX0 yX0_move yX0_move, Cond.code yX0_move cX0_move 9 (some .boolean), Cond.methodLink RX0 99 yX0_sumOfRow, Cond.instanceMethod yX0_sumOfRow, Cond.selects RX0 yX0_sumOfRow yX0_sumOfRow]
def wsL_mixes_r3 : List Cond := [Cond.code yX0_sumOfRow cX0_sumOfRow 4 (some .int), Cond.methodLink RL 19 yX0_paint, Cond.instanceMethod yX0_paint, Cond.selects RX0 yX0_paint yX0_paint, Cond.code yX0_paint cX0_paint 4 (some .int), Cond.fieldLink RX0 105 "AtelierBook" "pictureCount" "I", Cond.fieldLink RX0 22 "AtelierBook" "layerCounts" "[I", Cond.methodLink RX0 110 yX0_checkAtHome, Cond.instanceMethod yX0_checkAtHome, Cond.selects RX0 yX0_checkAtHome yX0_checkAtHome, Cond.code yX0_checkAtHome cX0_checkAtHome 2 none, Cond.methodLink RX0 143 yX0_isLent, Cond.instanceMethod yX0_isLent, Cond.selects RX0 yX0_isLent yX0_isLent, Cond.code yX0_isLent cX0_isLent 2 (some .boolean), Cond.fieldLink RX0 31 "AtelierBook" "loanDays" "[I", Cond.methodLink RX0 116 yX0_layerRow, Cond.static yX0_layerRow, Cond.code yX0_layerRow cX0_layerRow 2 (some .int), Cond.methodLink RL 22 yX0_clean, Cond.instanceMethod yX0_clean, Cond.selects RX0 yX0_clean yX0_clean, Cond.code yX0_clean cX0_clean 5 (some .int), Cond.methodLink RX0 102 yX0_waste]
def wsL_mixes_r4 : List Cond := [Cond.instanceMethod yX0_waste, Cond.selects RX0 yX0_waste yX0_waste, Cond.code yX0_waste cX0_waste 5 (some .int), Cond.methodLink RL 26 yX0_lend, Cond.instanceMethod yX0_lend, Cond.selects RX0 yX0_lend yX0_lend, Cond.code yX0_lend cX0_lend 4 (some .int), Cond.fieldLink RX0 25 "AtelierBook" "crackCounts" "[I", Cond.fieldLink RX0 37 "AtelierBook" "loanCosts" "[I", Cond.fieldLink RX0 34 "AtelierBook" "loanHouses" "[I", Cond.methodLink RX0 123 yX0_valueOf, Cond.instanceMethod yX0_valueOf, Cond.selects RX0 yX0_valueOf yX0_valueOf, Cond.code yX0_valueOf cX0_valueOf 3 (some .int), Cond.methodLink RX0 182 Lib.Math.max.name, Cond.static Lib.Math.max.name, Cond.initialized "java/lang/Math", Cond.code Lib.Math.max.name Lib.Math.max.code 2 (some .int), Cond.methodLink RX0 179 yX0_averagePriceOfAlike, Cond.instanceMethod yX0_averagePriceOfAlike, Cond.selects RX0 yX0_averagePriceOfAlike yX0_averagePriceOfAlike, Cond.code yX0_averagePriceOfAlike cX0_averagePriceOfAlike 6 (some .int), Cond.fieldLink RX0 28 "AtelierBook" "latestPrices" "[I", Cond.methodLink RX0 140 yX0_mainPigmentOf]
def wsL_mixes_r5 : List Cond := [Cond.instanceMethod yX0_mainPigmentOf, Cond.selects RX0 yX0_mainPigmentOf yX0_mainPigmentOf, Cond.code yX0_mainPigmentOf cX0_mainPigmentOf 3 (some .int), Cond.methodLink RX0 176 yX0_mainPigmentOfRow, Cond.instanceMethod yX0_mainPigmentOfRow, Cond.selects RX0 yX0_mainPigmentOfRow yX0_mainPigmentOfRow, Cond.code yX0_mainPigmentOfRow cX0_mainPigmentOfRow 6 (some .int), Cond.fieldLink RX0 50 "AtelierBook" "pigmentCount" "I", Cond.methodLink RX0 173 yX0_gramsOfPigment, Cond.instanceMethod yX0_gramsOfPigment, Cond.selects RX0 yX0_gramsOfPigment yX0_gramsOfPigment, Cond.code yX0_gramsOfPigment cX0_gramsOfPigment 5 (some .int), Cond.fieldLink RX0 13 "AtelierBook" "pigmentOfTube" "[I", Cond.methodLink RL 29 yX0_sell, Cond.instanceMethod yX0_sell, Cond.selects RX0 yX0_sell yX0_sell, Cond.code yX0_sell cX0_sell 3 (some .int), Cond.constant RX0 126 (100000), Cond.methodLink RL 34 yL_total, Cond.static yL_total, Cond.code yL_total cL_total 4 (some .int), Cond.methodLink RL 58 yL_flows, Cond.static yL_flows, Cond.code yL_flows cL_flows 9 none]
def wsL_mixes_r6 : List Cond := [Cond.methodLink RL 62 yX0_scrape, Cond.instanceMethod yX0_scrape, Cond.selects RX0 yX0_scrape yX0_scrape, Cond.code yX0_scrape cX0_scrape 2 (some .int), Cond.methodLink RL 40 yL_at, Cond.static yL_at, Cond.code yL_at cL_at 2 (some .int), Cond.methodLink RL 43 yL_grams, Cond.static yL_grams, Cond.code yL_grams cL_grams 5 (some .int)]
def wsL_mixes : List Cond := .code yL_mixes cL_mixes 19 (some .boolean) :: ((wsL_mixes_r1 ++ (wsL_mixes_r2 ++ (wsL_mixes_r3 ++ (wsL_mixes_r4 ++ (wsL_mixes_r5 ++ wsL_mixes_r6))))) ++ wsX00 ++ (vx_atS RX0 58 "java/lang/IllegalStateException" ["java/lang/RuntimeException", "java/lang/Exception"]).filter goodWord ++ (vx_atS RX0 165 "java/lang/IndexOutOfBoundsException" ["java/lang/RuntimeException", "java/lang/Exception"]).filter goodWord ++ (vx_atS RX0 92 "java/lang/IllegalArgumentException" ["java/lang/RuntimeException", "java/lang/Exception"]).filter goodWord)
def wsL_trades_r1 : List Cond := [Cond.methodLink RL 51 yL_low, Cond.static yL_low, Cond.initialized RL, Cond.code yL_low cL_low 2 (some .int), Cond.constant RL 9 (2147483647), Cond.methodLink RL 67 yL_value, Cond.static yL_value, Cond.code yL_value cL_value 11 (some .int), Cond.methodLink RL 47 yL_main, Cond.static yL_main, Cond.code yL_main cL_main 10 (some .int), Cond.methodLink RL 40 yL_at, Cond.static yL_at, Cond.code yL_at cL_at 2 (some .int), Cond.methodLink RL 43 yL_grams, Cond.static yL_grams, Cond.code yL_grams cL_grams 5 (some .int), Cond.methodLink RL 54 yL_calls, Cond.static yL_calls, Cond.codeWith yL_calls cL_calls 6 (some .int) [(0, 83, 84, 32)], Cond.classLink RL 32 "java/lang/IllegalStateException", Cond.methodLink RL 10 yX0_squeeze, Cond.instanceMethod yX0_squeeze, Cond.selects RX0 yX0_squeeze yX0_squeeze]
def wsL_trades_r2 : List Cond := [Cond.initialized RX0, Cond.code yX0_squeeze cX0_squeeze 4 (some .int), Cond.classLink RX0 54 "java/lang/IllegalStateException", Cond.initialized "java/lang/IllegalStateException", Cond.fieldLink RX0 73 "AtelierBook" "potCount" "I", Cond.fieldLink RX0 68 "AtelierBook" "tubeCount" "I", Cond.fieldLink RX0 16 "AtelierBook" "gramsInTube" "[I", Cond.fieldLink RX0 19 "AtelierBook" "ledger" "[I", Cond.methodLink RX0 61 yX0_checkNumber, Cond.static yX0_checkNumber, Cond.code yX0_checkNumber cX0_checkNumber 2 none, Cond.classLink RX0 161 "java/lang/IndexOutOfBoundsException", Cond.initialized "java/lang/IndexOutOfBoundsException", Cond.methodLink RX0 65 yX0_checkRange, Cond.static yX0_checkRange, Cond.code yX0_checkRange cX0_checkRange 3 none, Cond.classLink RX0 88 "java/lang/IllegalArgumentException", Cond.initialized "java/lang/IllegalArgumentException", Cond.methodLink RX0 80 yX0_potRow, Cond.static yX0_potRow, Cond.code yX0_potRow cX0_potRow 1 (some .int), Cond.methodLink RX0 84 yX0_place, Cond.static yX0_place, Cond.code yX0_place cX0_place 2 (some .int)]
def wsL_trades_r3 : List Cond := [Cond.methodLink RL 16 yX0_pour, Cond.instanceMethod yX0_pour, Cond.selects RX0 yX0_pour yX0_pour, Cond.code yX0_pour cX0_pour 4 (some .int), Cond.methodLink RX0 93 yX0_move, Cond.instanceMethod yX0_move, Cond.selects RX0 yX0_move yX0_move, Cond.code yX0_move cX0_move 9 (some .boolean), Cond.methodLink RX0 99 yX0_sumOfRow, Cond.instanceMethod yX0_sumOfRow, Cond.selects RX0 yX0_sumOfRow yX0_sumOfRow, Cond.code yX0_sumOfRow cX0_sumOfRow 4 (some .int), Cond.methodLink RL 19 yX0_paint, Cond.instanceMethod yX0_paint, Cond.selects RX0 yX0_paint yX0_paint, Cond.code yX0_paint cX0_paint 4 (some .int), Cond.fieldLink RX0 105 "AtelierBook" "pictureCount" "I", Cond.fieldLink RX0 22 "AtelierBook" "layerCounts" "[I", Cond.methodLink RX0 110 yX0_checkAtHome, Cond.instanceMethod yX0_checkAtHome, Cond.selects RX0 yX0_checkAtHome yX0_checkAtHome, Cond.code yX0_checkAtHome cX0_checkAtHome 2 none, Cond.methodLink RX0 143 yX0_isLent, Cond.instanceMethod yX0_isLent]
def wsL_trades_r4 : List Cond := [Cond.selects RX0 yX0_isLent yX0_isLent, Cond.code yX0_isLent cX0_isLent 2 (some .boolean), Cond.fieldLink RX0 31 "AtelierBook" "loanDays" "[I", Cond.methodLink RX0 116 yX0_layerRow, Cond.static yX0_layerRow, Cond.code yX0_layerRow cX0_layerRow 2 (some .int), Cond.methodLink RL 22 yX0_clean, Cond.instanceMethod yX0_clean, Cond.selects RX0 yX0_clean yX0_clean, Cond.code yX0_clean cX0_clean 5 (some .int), Cond.methodLink RX0 102 yX0_waste, Cond.instanceMethod yX0_waste, Cond.selects RX0 yX0_waste yX0_waste, Cond.code yX0_waste cX0_waste 5 (some .int), Cond.methodLink RL 26 yX0_lend, Cond.instanceMethod yX0_lend, Cond.selects RX0 yX0_lend yX0_lend, Cond.code yX0_lend cX0_lend 4 (some .int), Cond.fieldLink RX0 25 "AtelierBook" "crackCounts" "[I", Cond.fieldLink RX0 37 "AtelierBook" "loanCosts" "[I", Cond.fieldLink RX0 34 "AtelierBook" "loanHouses" "[I", Cond.methodLink RX0 123 yX0_valueOf, Cond.instanceMethod yX0_valueOf, Cond.selects RX0 yX0_valueOf yX0_valueOf]
def wsL_trades_r5 : List Cond := [Cond.code yX0_valueOf cX0_valueOf 3 (some .int), Cond.methodLink RX0 182 Lib.Math.max.name, Cond.static Lib.Math.max.name, Cond.initialized "java/lang/Math", Cond.code Lib.Math.max.name Lib.Math.max.code 2 (some .int), Cond.methodLink RX0 179 yX0_averagePriceOfAlike, Cond.instanceMethod yX0_averagePriceOfAlike, Cond.selects RX0 yX0_averagePriceOfAlike yX0_averagePriceOfAlike, Cond.code yX0_averagePriceOfAlike cX0_averagePriceOfAlike 6 (some .int), Cond.fieldLink RX0 28 "AtelierBook" "latestPrices" "[I", Cond.methodLink RX0 140 yX0_mainPigmentOf, Cond.instanceMethod yX0_mainPigmentOf, Cond.selects RX0 yX0_mainPigmentOf yX0_mainPigmentOf, Cond.code yX0_mainPigmentOf cX0_mainPigmentOf 3 (some .int), Cond.methodLink RX0 176 yX0_mainPigmentOfRow, Cond.instanceMethod yX0_mainPigmentOfRow, Cond.selects RX0 yX0_mainPigmentOfRow yX0_mainPigmentOfRow, Cond.code yX0_mainPigmentOfRow cX0_mainPigmentOfRow 6 (some .int), Cond.fieldLink RX0 50 "AtelierBook" "pigmentCount" "I", Cond.methodLink RX0 173 yX0_gramsOfPigment, Cond.instanceMethod yX0_gramsOfPigment, Cond.selects RX0 yX0_gramsOfPigment yX0_gramsOfPigment, Cond.code yX0_gramsOfPigment cX0_gramsOfPigment 5 (some .int), Cond.fieldLink RX0 13 "AtelierBook" "pigmentOfTube" "[I"]
def wsL_trades_r6 : List Cond := [Cond.methodLink RL 29 yX0_sell, Cond.instanceMethod yX0_sell, Cond.selects RX0 yX0_sell yX0_sell, Cond.code yX0_sell cX0_sell 3 (some .int), Cond.constant RX0 126 (100000), Cond.methodLink RL 70 yX0_damp, Cond.instanceMethod yX0_damp, Cond.selects RX0 yX0_damp yX0_damp, Cond.code yX0_damp cX0_damp 4 (some .int), Cond.fieldLink RX0 40 "AtelierBook" "houseDamps" "[I"]
def wsL_trades : List Cond := .code yL_trades cL_trades 13 (some .boolean) :: ((wsL_trades_r1 ++ (wsL_trades_r2 ++ (wsL_trades_r3 ++ (wsL_trades_r4 ++ (wsL_trades_r5 ++ wsL_trades_r6))))) ++ wsX00 ++ (vx_atS RX0 58 "java/lang/IllegalStateException" ["java/lang/RuntimeException", "java/lang/Exception"]).filter goodWord ++ (vx_atS RX0 165 "java/lang/IndexOutOfBoundsException" ["java/lang/RuntimeException", "java/lang/Exception"]).filter goodWord ++ (vx_atS RX0 92 "java/lang/IllegalArgumentException" ["java/lang/RuntimeException", "java/lang/Exception"]).filter goodWord)
def wsL_day : List Cond := .code yL_day cL_day 4 none :: ([])
def wsL_same_r1 : List Cond := [Cond.methodLink RL 51 yL_low, Cond.static yL_low, Cond.initialized RL, Cond.code yL_low cL_low 2 (some .int), Cond.constant RL 9 (2147483647), Cond.methodLink RL 40 yL_at, Cond.static yL_at, Cond.code yL_at cL_at 2 (some .int), Cond.methodLink RL 43 yL_grams, Cond.static yL_grams, Cond.code yL_grams cL_grams 5 (some .int), Cond.methodLink RL 73 yX0_has, Cond.instanceMethod yX0_has, Cond.selects RX0 yX0_has yX0_has, Cond.initialized RX0, Cond.code yX0_has cX0_has 3 (some .int), Cond.fieldLink RX0 73 "AtelierBook" "potCount" "I", Cond.fieldLink RX0 68 "AtelierBook" "tubeCount" "I", Cond.fieldLink RX0 19 "AtelierBook" "ledger" "[I", Cond.methodLink RX0 61 yX0_checkNumber, Cond.static yX0_checkNumber, Cond.code yX0_checkNumber cX0_checkNumber 2 none, Cond.classLink RX0 161 "java/lang/IndexOutOfBoundsException", Cond.initialized "java/lang/IndexOutOfBoundsException"]
def wsL_same_r2 : List Cond := [Cond.methodLink RX0 80 yX0_potRow, Cond.static yX0_potRow, Cond.code yX0_potRow cX0_potRow 1 (some .int), Cond.methodLink RX0 99 yX0_sumOfRow, Cond.instanceMethod yX0_sumOfRow, Cond.selects RX0 yX0_sumOfRow yX0_sumOfRow, Cond.code yX0_sumOfRow cX0_sumOfRow 4 (some .int), Cond.methodLink RX0 84 yX0_place, Cond.static yX0_place, Cond.code yX0_place cX0_place 2 (some .int), Cond.methodLink RL 76 yX0_layer, Cond.instanceMethod yX0_layer, Cond.selects RX0 yX0_layer yX0_layer, Cond.code yX0_layer cX0_layer 4 (some .int), Cond.fieldLink RX0 105 "AtelierBook" "pictureCount" "I", Cond.fieldLink RX0 22 "AtelierBook" "layerCounts" "[I", Cond.methodLink RX0 116 yX0_layerRow, Cond.static yX0_layerRow, Cond.code yX0_layerRow cX0_layerRow 2 (some .int), Cond.methodLink RL 34 yL_total, Cond.static yL_total, Cond.code yL_total cL_total 4 (some .int), Cond.methodLink RL 79 yX0_colour, Cond.instanceMethod yX0_colour]
def wsL_same_r3 : List Cond := [Cond.selects RX0 yX0_colour yX0_colour, Cond.code yX0_colour cX0_colour 3 (some .int), Cond.methodLink RX0 65 yX0_checkRange, Cond.static yX0_checkRange, Cond.code yX0_checkRange cX0_checkRange 3 none, Cond.classLink RX0 88 "java/lang/IllegalArgumentException", Cond.initialized "java/lang/IllegalArgumentException", Cond.methodLink RX0 137 yX0_colourOfRow, Cond.instanceMethod yX0_colourOfRow, Cond.selects RX0 yX0_colourOfRow yX0_colourOfRow, Cond.code yX0_colourOfRow cX0_colourOfRow 7 (some .int), Cond.methodLink RX0 170 yX0_colourOfTube, Cond.instanceMethod yX0_colourOfTube, Cond.selects RX0 yX0_colourOfTube yX0_colourOfTube, Cond.code yX0_colourOfTube cX0_colourOfTube 3 (some .int), Cond.fieldLink RX0 9 "AtelierBook" "pigmentColours" "[I", Cond.fieldLink RX0 13 "AtelierBook" "pigmentOfTube" "[I", Cond.methodLink RL 82 yL_shade, Cond.static yL_shade, Cond.code yL_shade cL_shade 2 (some .int), Cond.methodLink RL 85 yX0_of, Cond.instanceMethod yX0_of, Cond.selects RX0 yX0_of yX0_of, Cond.code yX0_of cX0_of 3 (some .int)]
def wsL_same_r4 : List Cond := [Cond.fieldLink RX0 25 "AtelierBook" "crackCounts" "[I", Cond.fieldLink RX0 34 "AtelierBook" "loanHouses" "[I", Cond.fieldLink RX0 31 "AtelierBook" "loanDays" "[I", Cond.methodLink RX0 123 yX0_valueOf, Cond.instanceMethod yX0_valueOf, Cond.selects RX0 yX0_valueOf yX0_valueOf, Cond.code yX0_valueOf cX0_valueOf 3 (some .int), Cond.methodLink RX0 182 Lib.Math.max.name, Cond.static Lib.Math.max.name, Cond.initialized "java/lang/Math", Cond.code Lib.Math.max.name Lib.Math.max.code 2 (some .int), Cond.methodLink RX0 179 yX0_averagePriceOfAlike, Cond.instanceMethod yX0_averagePriceOfAlike, Cond.selects RX0 yX0_averagePriceOfAlike yX0_averagePriceOfAlike, Cond.code yX0_averagePriceOfAlike cX0_averagePriceOfAlike 6 (some .int), Cond.fieldLink RX0 28 "AtelierBook" "latestPrices" "[I", Cond.methodLink RX0 140 yX0_mainPigmentOf, Cond.instanceMethod yX0_mainPigmentOf, Cond.selects RX0 yX0_mainPigmentOf yX0_mainPigmentOf, Cond.code yX0_mainPigmentOf cX0_mainPigmentOf 3 (some .int), Cond.methodLink RX0 176 yX0_mainPigmentOfRow, Cond.instanceMethod yX0_mainPigmentOfRow, Cond.selects RX0 yX0_mainPigmentOfRow yX0_mainPigmentOfRow, Cond.code yX0_mainPigmentOfRow cX0_mainPigmentOfRow 6 (some .int)]
def wsL_same_r5 : List Cond := [Cond.fieldLink RX0 50 "AtelierBook" "pigmentCount" "I", Cond.methodLink RX0 173 yX0_gramsOfPigment, Cond.instanceMethod yX0_gramsOfPigment, Cond.selects RX0 yX0_gramsOfPigment yX0_gramsOfPigment, Cond.code yX0_gramsOfPigment cX0_gramsOfPigment 5 (some .int), Cond.methodLink RX0 143 yX0_isLent, Cond.instanceMethod yX0_isLent, Cond.selects RX0 yX0_isLent yX0_isLent, Cond.code yX0_isLent cX0_isLent 2 (some .boolean), Cond.methodLink RX0 147 yX0_lookOf, Cond.instanceMethod yX0_lookOf, Cond.selects RX0 yX0_lookOf yX0_lookOf, Cond.code yX0_lookOf cX0_lookOf 4 (some .int), Cond.methodLink RL 67 yL_value, Cond.static yL_value, Cond.code yL_value cL_value 11 (some .int), Cond.methodLink RL 47 yL_main, Cond.static yL_main, Cond.code yL_main cL_main 10 (some .int), Cond.methodLink RL 88 yX0_paid, Cond.instanceMethod yX0_paid, Cond.selects RX0 yX0_paid yX0_paid, Cond.code yX0_paid cX0_paid 2 (some .int), Cond.fieldLink RX0 43 "AtelierBook" "housePayments" "[I"]
def wsL_same_r6 : List Cond := [Cond.methodLink RL 91 yX0_left, Cond.instanceMethod yX0_left, Cond.selects RX0 yX0_left yX0_left, Cond.code yX0_left cX0_left 2 (some .int), Cond.fieldLink RX0 16 "AtelierBook" "gramsInTube" "[I", Cond.methodLink RL 94 yX0_where, Cond.instanceMethod yX0_where, Cond.selects RX0 yX0_where yX0_where, Cond.code yX0_where cX0_where 3 (some .int), Cond.methodLink RX0 150 yX0_sumOfTube, Cond.instanceMethod yX0_sumOfTube, Cond.selects RX0 yX0_sumOfTube yX0_sumOfTube, Cond.code yX0_sumOfTube cX0_sumOfTube 6 (some .int), Cond.methodLink RL 97 yX0_recipe, Cond.instanceMethod yX0_recipe, Cond.selects RX0 yX0_recipe yX0_recipe, Cond.code yX0_recipe cX0_recipe 10 (some .int), Cond.methodLink RX0 46 yX0_checkColour, Cond.static yX0_checkColour, Cond.code yX0_checkColour cX0_checkColour 3 none, Cond.methodLink RX0 154 yX0_mixed, Cond.instanceMethod yX0_mixed, Cond.selects RX0 yX0_mixed yX0_mixed, Cond.code yX0_mixed cX0_mixed 5 (some .int)]
def wsL_same_r7 : List Cond := [Cond.methodLink RX0 158 yX0_square, Cond.static yX0_square, Cond.code yX0_square cX0_square 1 (some .int), Cond.methodLink RL 100 yL_recipe, Cond.static yL_recipe, Cond.code yL_recipe cL_recipe 16 (some .int)]
def wsL_same : List Cond := .code yL_same cL_same 17 (some .boolean) :: ((wsL_same_r1 ++ (wsL_same_r2 ++ (wsL_same_r3 ++ (wsL_same_r4 ++ (wsL_same_r5 ++ (wsL_same_r6 ++ wsL_same_r7)))))) ++ wsX00 ++ (vx_atS RX0 165 "java/lang/IndexOutOfBoundsException" ["java/lang/RuntimeException", "java/lang/Exception"]).filter goodWord ++ (vx_atS RX0 92 "java/lang/IllegalArgumentException" ["java/lang/RuntimeException", "java/lang/Exception"]).filter goodWord)
def wsL_law0_r1 : List Cond := [Cond.classLink RL 11 RX0, Cond.instantiable RX0 17, Cond.initialized RX0, Cond.arrayClass .int, Cond.methodLink RL 103 yX0_init, Cond.instanceMethod yX0_init, Cond.code yX0_init cX0_init 2 none, Cond.methodLink RX0 3 objectInit, Cond.instanceMethod objectInit, Cond.code objectInit ⟨#[0xb1]⟩ 1 none, Cond.fieldLink RX0 9 "AtelierBook" "pigmentColours" "[I", Cond.fieldLink RX0 13 "AtelierBook" "pigmentOfTube" "[I", Cond.fieldLink RX0 16 "AtelierBook" "gramsInTube" "[I", Cond.fieldLink RX0 19 "AtelierBook" "ledger" "[I", Cond.fieldLink RX0 22 "AtelierBook" "layerCounts" "[I", Cond.fieldLink RX0 25 "AtelierBook" "crackCounts" "[I", Cond.fieldLink RX0 28 "AtelierBook" "latestPrices" "[I", Cond.fieldLink RX0 31 "AtelierBook" "loanDays" "[I", Cond.fieldLink RX0 34 "AtelierBook" "loanHouses" "[I", Cond.fieldLink RX0 37 "AtelierBook" "loanCosts" "[I", Cond.fieldLink RX0 40 "AtelierBook" "houseDamps" "[I", Cond.fieldLink RX0 43 "AtelierBook" "housePayments" "[I", Cond.methodLink RL 104 yL_cell, Cond.static yL_cell]
def wsL_law0_r2 : List Cond := [Cond.initialized RL, Cond.code yL_cell cL_cell 2 (some .int), Cond.constant RL 7 (51257), Cond.constant RL 8 (3087707), Cond.methodLink RL 51 yL_low, Cond.static yL_low, Cond.code yL_low cL_low 2 (some .int), Cond.constant RL 9 (2147483647), Cond.methodLink RL 108 yX0_pigment, Cond.instanceMethod yX0_pigment, Cond.selects RX0 yX0_pigment yX0_pigment, Cond.code yX0_pigment cX0_pigment 5 (some .int), Cond.classLink RX0 54 "java/lang/IllegalStateException", Cond.initialized "java/lang/IllegalStateException", Cond.fieldLink RX0 50 "AtelierBook" "pigmentCount" "I", Cond.methodLink RX0 46 yX0_checkColour, Cond.static yX0_checkColour, Cond.code yX0_checkColour cX0_checkColour 3 none, Cond.methodLink RX0 65 yX0_checkRange, Cond.static yX0_checkRange, Cond.code yX0_checkRange cX0_checkRange 3 none, Cond.classLink RX0 88 "java/lang/IllegalArgumentException", Cond.initialized "java/lang/IllegalArgumentException", Cond.methodLink RL 111 yX0_pot]
def wsL_law0_r3 : List Cond := [Cond.instanceMethod yX0_pot, Cond.selects RX0 yX0_pot yX0_pot, Cond.code yX0_pot cX0_pot 1 (some .int), Cond.fieldLink RX0 73 "AtelierBook" "potCount" "I", Cond.methodLink RL 115 yX0_picture, Cond.instanceMethod yX0_picture, Cond.selects RX0 yX0_picture yX0_picture, Cond.code yX0_picture cX0_picture 1 (some .int), Cond.fieldLink RX0 105 "AtelierBook" "pictureCount" "I", Cond.methodLink RL 118 yX0_tube, Cond.instanceMethod yX0_tube, Cond.selects RX0 yX0_tube yX0_tube, Cond.code yX0_tube cX0_tube 3 (some .int), Cond.fieldLink RX0 68 "AtelierBook" "tubeCount" "I", Cond.methodLink RX0 61 yX0_checkNumber, Cond.static yX0_checkNumber, Cond.code yX0_checkNumber cX0_checkNumber 2 none, Cond.classLink RX0 161 "java/lang/IndexOutOfBoundsException", Cond.initialized "java/lang/IndexOutOfBoundsException", Cond.methodLink RL 121 yL_mixes, Cond.static yL_mixes, Cond.code yL_mixes cL_mixes 19 (some .boolean), Cond.constant RL 66 (1048576), Cond.methodLink RL 54 yL_calls]
def wsL_law0_r4 : List Cond := [Cond.static yL_calls, Cond.codeWith yL_calls cL_calls 6 (some .int) [(0, 83, 84, 32)], Cond.classLink RL 32 "java/lang/IllegalStateException", Cond.methodLink RL 10 yX0_squeeze, Cond.instanceMethod yX0_squeeze, Cond.selects RX0 yX0_squeeze yX0_squeeze, Cond.code yX0_squeeze cX0_squeeze 4 (some .int), Cond.methodLink RX0 80 yX0_potRow, Cond.static yX0_potRow, Cond.code yX0_potRow cX0_potRow 1 (some .int), Cond.methodLink RX0 84 yX0_place, Cond.static yX0_place, Cond.code yX0_place cX0_place 2 (some .int), Cond.methodLink RL 16 yX0_pour, Cond.instanceMethod yX0_pour, Cond.selects RX0 yX0_pour yX0_pour, Cond.code yX0_pour cX0_pour 4 (some .int), Cond.methodLink RX0 93 yX0_move, Cond.instanceMethod yX0_move, Cond.selects RX0 yX0_move yX0_move, Cond.code yX0_move cX0_move 9 (some .boolean), Cond.methodLink RX0 99 yX0_sumOfRow, Cond.instanceMethod yX0_sumOfRow, Cond.selects RX0 yX0_sumOfRow yX0_sumOfRow]
def wsL_law0_r5 : List Cond := [Cond.code yX0_sumOfRow cX0_sumOfRow 4 (some .int), Cond.methodLink RL 19 yX0_paint, Cond.instanceMethod yX0_paint, Cond.selects RX0 yX0_paint yX0_paint, Cond.code yX0_paint cX0_paint 4 (some .int), Cond.methodLink RX0 110 yX0_checkAtHome, Cond.instanceMethod yX0_checkAtHome, Cond.selects RX0 yX0_checkAtHome yX0_checkAtHome, Cond.code yX0_checkAtHome cX0_checkAtHome 2 none, Cond.methodLink RX0 143 yX0_isLent, Cond.instanceMethod yX0_isLent, Cond.selects RX0 yX0_isLent yX0_isLent, Cond.code yX0_isLent cX0_isLent 2 (some .boolean), Cond.methodLink RX0 116 yX0_layerRow, Cond.static yX0_layerRow, Cond.code yX0_layerRow cX0_layerRow 2 (some .int), Cond.methodLink RL 22 yX0_clean, Cond.instanceMethod yX0_clean, Cond.selects RX0 yX0_clean yX0_clean, Cond.code yX0_clean cX0_clean 5 (some .int), Cond.methodLink RX0 102 yX0_waste, Cond.instanceMethod yX0_waste, Cond.selects RX0 yX0_waste yX0_waste, Cond.code yX0_waste cX0_waste 5 (some .int)]
def wsL_law0_r6 : List Cond := [Cond.methodLink RL 26 yX0_lend, Cond.instanceMethod yX0_lend, Cond.selects RX0 yX0_lend yX0_lend, Cond.code yX0_lend cX0_lend 4 (some .int), Cond.methodLink RX0 123 yX0_valueOf, Cond.instanceMethod yX0_valueOf, Cond.selects RX0 yX0_valueOf yX0_valueOf, Cond.code yX0_valueOf cX0_valueOf 3 (some .int), Cond.methodLink RX0 182 Lib.Math.max.name, Cond.static Lib.Math.max.name, Cond.initialized "java/lang/Math", Cond.code Lib.Math.max.name Lib.Math.max.code 2 (some .int), Cond.methodLink RX0 179 yX0_averagePriceOfAlike, Cond.instanceMethod yX0_averagePriceOfAlike, Cond.selects RX0 yX0_averagePriceOfAlike yX0_averagePriceOfAlike, Cond.code yX0_averagePriceOfAlike cX0_averagePriceOfAlike 6 (some .int), Cond.methodLink RX0 140 yX0_mainPigmentOf, Cond.instanceMethod yX0_mainPigmentOf, Cond.selects RX0 yX0_mainPigmentOf yX0_mainPigmentOf, Cond.code yX0_mainPigmentOf cX0_mainPigmentOf 3 (some .int), Cond.methodLink RX0 176 yX0_mainPigmentOfRow, Cond.instanceMethod yX0_mainPigmentOfRow, Cond.selects RX0 yX0_mainPigmentOfRow yX0_mainPigmentOfRow, Cond.code yX0_mainPigmentOfRow cX0_mainPigmentOfRow 6 (some .int)]
def wsL_law0_r7 : List Cond := [Cond.methodLink RX0 173 yX0_gramsOfPigment, Cond.instanceMethod yX0_gramsOfPigment, Cond.selects RX0 yX0_gramsOfPigment yX0_gramsOfPigment, Cond.code yX0_gramsOfPigment cX0_gramsOfPigment 5 (some .int), Cond.methodLink RL 29 yX0_sell, Cond.instanceMethod yX0_sell, Cond.selects RX0 yX0_sell yX0_sell, Cond.code yX0_sell cX0_sell 3 (some .int), Cond.constant RX0 126 (100000), Cond.methodLink RL 34 yL_total, Cond.static yL_total, Cond.code yL_total cL_total 4 (some .int), Cond.methodLink RL 58 yL_flows, Cond.static yL_flows, Cond.code yL_flows cL_flows 9 none, Cond.methodLink RL 62 yX0_scrape, Cond.instanceMethod yX0_scrape, Cond.selects RX0 yX0_scrape yX0_scrape, Cond.code yX0_scrape cX0_scrape 2 (some .int), Cond.methodLink RL 40 yL_at, Cond.static yL_at, Cond.code yL_at cL_at 2 (some .int), Cond.methodLink RL 43 yL_grams, Cond.static yL_grams]
def wsL_law0_r8 : List Cond := [Cond.code yL_grams cL_grams 5 (some .int), Cond.methodLink RL 125 yL_trades, Cond.static yL_trades, Cond.code yL_trades cL_trades 13 (some .boolean), Cond.methodLink RL 67 yL_value, Cond.static yL_value, Cond.code yL_value cL_value 11 (some .int), Cond.methodLink RL 47 yL_main, Cond.static yL_main, Cond.code yL_main cL_main 10 (some .int), Cond.methodLink RL 70 yX0_damp, Cond.instanceMethod yX0_damp, Cond.selects RX0 yX0_damp yX0_damp, Cond.code yX0_damp cX0_damp 4 (some .int), Cond.methodLink RL 129 yL_day, Cond.static yL_day, Cond.code yL_day cL_day 4 none, Cond.methodLink RL 133 yX0_pass, Cond.instanceMethod yX0_pass, Cond.selects RX0 yX0_pass yX0_pass, Cond.code yX0_pass cX0_pass 3 (some .int), Cond.fieldLink RX0 129 "AtelierBook" "today" "I", Cond.methodLink RX0 134 yX0_passForLoan, Cond.instanceMethod yX0_passForLoan]
def wsL_law0_r9 : List Cond := [Cond.selects RX0 yX0_passForLoan yX0_passForLoan, Cond.code yX0_passForLoan cX0_passForLoan 5 none, Cond.methodLink RX0 187 Lib.Math.min.name, Cond.static Lib.Math.min.name, Cond.code Lib.Math.min.name Lib.Math.min.code 2 (some .int), Cond.methodLink RX0 190 Lib.Math.abs.name, Cond.static Lib.Math.abs.name, Cond.code Lib.Math.abs.name Lib.Math.abs.code 1 (some .int), Cond.methodLink RL 136 yL_same, Cond.static yL_same, Cond.code yL_same cL_same 17 (some .boolean), Cond.methodLink RL 73 yX0_has, Cond.instanceMethod yX0_has, Cond.selects RX0 yX0_has yX0_has, Cond.code yX0_has cX0_has 3 (some .int), Cond.methodLink RL 76 yX0_layer, Cond.instanceMethod yX0_layer, Cond.selects RX0 yX0_layer yX0_layer, Cond.code yX0_layer cX0_layer 4 (some .int), Cond.methodLink RL 79 yX0_colour, Cond.instanceMethod yX0_colour, Cond.selects RX0 yX0_colour yX0_colour, Cond.code yX0_colour cX0_colour 3 (some .int), Cond.methodLink RX0 137 yX0_colourOfRow]
def wsL_law0_r10 : List Cond := [Cond.instanceMethod yX0_colourOfRow, Cond.selects RX0 yX0_colourOfRow yX0_colourOfRow, Cond.code yX0_colourOfRow cX0_colourOfRow 7 (some .int), Cond.methodLink RX0 170 yX0_colourOfTube, Cond.instanceMethod yX0_colourOfTube, Cond.selects RX0 yX0_colourOfTube yX0_colourOfTube, Cond.code yX0_colourOfTube cX0_colourOfTube 3 (some .int), Cond.methodLink RL 82 yL_shade, Cond.static yL_shade, Cond.code yL_shade cL_shade 2 (some .int), Cond.methodLink RL 85 yX0_of, Cond.instanceMethod yX0_of, Cond.selects RX0 yX0_of yX0_of, Cond.code yX0_of cX0_of 3 (some .int), Cond.methodLink RX0 147 yX0_lookOf, Cond.instanceMethod yX0_lookOf, Cond.selects RX0 yX0_lookOf yX0_lookOf, Cond.code yX0_lookOf cX0_lookOf 4 (some .int), Cond.methodLink RL 88 yX0_paid, Cond.instanceMethod yX0_paid, Cond.selects RX0 yX0_paid yX0_paid, Cond.code yX0_paid cX0_paid 2 (some .int), Cond.methodLink RL 91 yX0_left, Cond.instanceMethod yX0_left]
def wsL_law0_r11 : List Cond := [Cond.selects RX0 yX0_left yX0_left, Cond.code yX0_left cX0_left 2 (some .int), Cond.methodLink RL 94 yX0_where, Cond.instanceMethod yX0_where, Cond.selects RX0 yX0_where yX0_where, Cond.code yX0_where cX0_where 3 (some .int), Cond.methodLink RX0 150 yX0_sumOfTube, Cond.instanceMethod yX0_sumOfTube, Cond.selects RX0 yX0_sumOfTube yX0_sumOfTube, Cond.code yX0_sumOfTube cX0_sumOfTube 6 (some .int), Cond.methodLink RL 97 yX0_recipe, Cond.instanceMethod yX0_recipe, Cond.selects RX0 yX0_recipe yX0_recipe, Cond.code yX0_recipe cX0_recipe 10 (some .int), Cond.methodLink RX0 154 yX0_mixed, Cond.instanceMethod yX0_mixed, Cond.selects RX0 yX0_mixed yX0_mixed, Cond.code yX0_mixed cX0_mixed 5 (some .int), Cond.methodLink RX0 158 yX0_square, Cond.static yX0_square, Cond.code yX0_square cX0_square 1 (some .int), Cond.methodLink RL 100 yL_recipe, Cond.static yL_recipe, Cond.code yL_recipe cL_recipe 16 (some .int)]
def wsL_law0 : List Cond := (wsL_law0_r1 ++ (wsL_law0_r2 ++ (wsL_law0_r3 ++ (wsL_law0_r4 ++ (wsL_law0_r5 ++ (wsL_law0_r6 ++ (wsL_law0_r7 ++ (wsL_law0_r8 ++ (wsL_law0_r9 ++ (wsL_law0_r10 ++ wsL_law0_r11)))))))))) ++ wsX00 ++ ([] : List Cond)
def wsL_law : List Cond := wsL_law0 ++ (vx_atS RX0 58 "java/lang/IllegalStateException" ["java/lang/RuntimeException", "java/lang/Exception"]).filter goodWord ++ (vx_atS RX0 92 "java/lang/IllegalArgumentException" ["java/lang/RuntimeException", "java/lang/Exception"]).filter goodWord ++ (vx_atS RX0 165 "java/lang/IndexOutOfBoundsException" ["java/lang/RuntimeException", "java/lang/Exception"]).filter goodWord
set_option maxRecDepth 20000 in
theorem ggX0_pigment_X0_checkColour : GoodIn wsX0_pigment wsX0_checkColour := goodIn_ca (goodIn_r _ [8, 9, 10, 7, 11, 12, 13] (by decide +kernel) (by decide +kernel)) (goodIn_sub (fun _ h => List.mem_cons_of_mem _ (List.mem_append_right _ h)) (by decide +kernel))
set_option maxRecDepth 20000 in
theorem gX0_pigment_X0_checkColour : GoodIn wsX0_pigment (va_wsS RX0 46 yX0_checkColour wsX0_checkColour) := goodIn_app (goodIn_of _ (by decide +kernel)) ggX0_pigment_X0_checkColour
set_option maxRecDepth 20000 in
theorem ggX0_tube_X0_checkNumber : GoodIn wsX0_tube wsX0_checkNumber := goodIn_ca (goodIn_r _ [10, 11, 12] (by decide +kernel) (by decide +kernel)) (goodIn_sub (fun _ h => List.mem_cons_of_mem _ (List.mem_append_left _ (List.mem_append_right _ h))) (by decide +kernel))
set_option maxRecDepth 20000 in
theorem gX0_tube_X0_checkNumber : GoodIn wsX0_tube (va_wsS RX0 61 yX0_checkNumber wsX0_checkNumber) := goodIn_app (goodIn_of _ (by decide +kernel)) ggX0_tube_X0_checkNumber
set_option maxRecDepth 20000 in
theorem ggX0_tube_X0_checkRange : GoodIn wsX0_tube wsX0_checkRange := goodIn_ca (goodIn_r _ [15, 16, 17] (by decide +kernel) (by decide +kernel)) (goodIn_sub (fun _ h => List.mem_cons_of_mem _ (List.mem_append_right _ h)) (by decide +kernel))
set_option maxRecDepth 20000 in
theorem gX0_tube_X0_checkRange : GoodIn wsX0_tube (va_wsS RX0 65 yX0_checkRange wsX0_checkRange) := goodIn_app (goodIn_of _ (by decide +kernel)) ggX0_tube_X0_checkRange
set_option maxRecDepth 20000 in
theorem ggX0_squeeze_X0_checkNumber : GoodIn wsX0_squeeze wsX0_checkNumber := goodIn_ca (goodIn_r _ [10, 11, 12] (by decide +kernel) (by decide +kernel)) (goodIn_sub (fun _ h => List.mem_cons_of_mem _ (List.mem_append_left _ (List.mem_append_right _ h))) (by decide +kernel))
set_option maxRecDepth 20000 in
theorem gX0_squeeze_X0_checkNumber : GoodIn wsX0_squeeze (va_wsS RX0 61 yX0_checkNumber wsX0_checkNumber) := goodIn_app (goodIn_of _ (by decide +kernel)) ggX0_squeeze_X0_checkNumber
set_option maxRecDepth 20000 in
theorem ggX0_squeeze_X0_checkRange : GoodIn wsX0_squeeze wsX0_checkRange := goodIn_ca (goodIn_r _ [15, 16, 17] (by decide +kernel) (by decide +kernel)) (goodIn_sub (fun _ h => List.mem_cons_of_mem _ (List.mem_append_right _ h)) (by decide +kernel))
set_option maxRecDepth 20000 in
theorem gX0_squeeze_X0_checkRange : GoodIn wsX0_squeeze (va_wsS RX0 65 yX0_checkRange wsX0_checkRange) := goodIn_app (goodIn_of _ (by decide +kernel)) ggX0_squeeze_X0_checkRange
set_option maxRecDepth 20000 in
theorem ggX0_squeeze_X0_potRow : GoodIn wsX0_squeeze wsX0_potRow := goodIn_r _ [20] (by decide +kernel) (by decide +kernel)
set_option maxRecDepth 20000 in
theorem gX0_squeeze_X0_potRow : GoodIn wsX0_squeeze (va_wsS RX0 80 yX0_potRow wsX0_potRow) := goodIn_app (goodIn_of _ (by decide +kernel)) ggX0_squeeze_X0_potRow
set_option maxRecDepth 20000 in
theorem ggX0_squeeze_X0_place : GoodIn wsX0_squeeze wsX0_place := goodIn_r _ [23] (by decide +kernel) (by decide +kernel)
set_option maxRecDepth 20000 in
theorem gX0_squeeze_X0_place : GoodIn wsX0_squeeze (va_wsS RX0 84 yX0_place wsX0_place) := goodIn_app (goodIn_of _ (by decide +kernel)) ggX0_squeeze_X0_place
set_option maxRecDepth 20000 in
theorem ggX0_pour_X0_checkNumber : GoodIn wsX0_pour wsX0_checkNumber := goodIn_ca (goodIn_r _ [9, 10, 11] (by decide +kernel) (by decide +kernel)) (goodIn_sub (fun _ h => List.mem_cons_of_mem _ (List.mem_append_right _ h)) (by decide +kernel))
set_option maxRecDepth 20000 in
theorem gX0_pour_X0_checkNumber : GoodIn wsX0_pour (va_wsS RX0 61 yX0_checkNumber wsX0_checkNumber) := goodIn_app (goodIn_of _ (by decide +kernel)) ggX0_pour_X0_checkNumber
set_option maxRecDepth 20000 in
theorem ggX0_pour_X0_checkRange : GoodIn wsX0_pour wsX0_checkRange := goodIn_ca (goodIn_r _ [14, 1, 2] (by decide +kernel) (by decide +kernel)) (goodIn_sub (fun _ h => List.mem_cons_of_mem _ (List.mem_append_left _ (List.mem_append_left _ (List.mem_append_right _ h)))) (by decide +kernel))
set_option maxRecDepth 20000 in
theorem gX0_pour_X0_checkRange : GoodIn wsX0_pour (va_wsS RX0 65 yX0_checkRange wsX0_checkRange) := goodIn_app (goodIn_of _ (by decide +kernel)) ggX0_pour_X0_checkRange
set_option maxRecDepth 20000 in
theorem ggX0_pour_X0_potRow : GoodIn wsX0_pour wsX0_potRow := goodIn_r _ [17] (by decide +kernel) (by decide +kernel)
set_option maxRecDepth 20000 in
theorem gX0_pour_X0_potRow : GoodIn wsX0_pour (va_wsS RX0 80 yX0_potRow wsX0_potRow) := goodIn_app (goodIn_of _ (by decide +kernel)) ggX0_pour_X0_potRow
set_option maxRecDepth 20000 in
theorem ggX0_pour_X0_move : GoodIn wsX0_pour wsX0_move := goodIn_r _ [21, 22, 23, 24, 25, 26, 8, 27, 28, 29, 30, 31, 32, 33, 34, 35, 36, 37, 38, 39, 40, 41, 42, 43, 44, 45, 46, 47] (by decide +kernel) (by decide +kernel)
set_option maxRecDepth 20000 in
theorem gX0_pour_X0_move : GoodIn wsX0_pour (wsV RX0 93 RX0 yX0_move wsX0_move) := goodIn_app (goodIn_of _ (by decide +kernel)) ggX0_pour_X0_move
set_option maxRecDepth 20000 in
theorem ggX0_pour_X0_sumOfRow : GoodIn wsX0_pour wsX0_sumOfRow := goodIn_r _ [27, 22, 23, 28, 29, 8, 30, 31, 32, 33, 34, 35, 36, 37, 38, 39, 40, 41, 42, 43, 44, 45, 46, 47] (by decide +kernel) (by decide +kernel)
set_option maxRecDepth 20000 in
theorem gX0_pour_X0_sumOfRow : GoodIn wsX0_pour (wsV RX0 99 RX0 yX0_sumOfRow wsX0_sumOfRow) := goodIn_app (goodIn_of _ (by decide +kernel)) ggX0_pour_X0_sumOfRow
set_option maxRecDepth 20000 in
theorem ggX0_scrape_X0_checkNumber : GoodIn wsX0_scrape wsX0_checkNumber := goodIn_ca (goodIn_r _ [5, 6, 7] (by decide +kernel) (by decide +kernel)) (goodIn_sub (fun _ h => List.mem_cons_of_mem _ (List.mem_append_right _ h)) (by decide +kernel))
set_option maxRecDepth 20000 in
theorem gX0_scrape_X0_checkNumber : GoodIn wsX0_scrape (va_wsS RX0 61 yX0_checkNumber wsX0_checkNumber) := goodIn_app (goodIn_of _ (by decide +kernel)) ggX0_scrape_X0_checkNumber
set_option maxRecDepth 20000 in
theorem ggX0_scrape_X0_potRow : GoodIn wsX0_scrape wsX0_potRow := goodIn_r _ [10] (by decide +kernel) (by decide +kernel)
set_option maxRecDepth 20000 in
theorem gX0_scrape_X0_potRow : GoodIn wsX0_scrape (va_wsS RX0 80 yX0_potRow wsX0_potRow) := goodIn_app (goodIn_of _ (by decide +kernel)) ggX0_scrape_X0_potRow
set_option maxRecDepth 20000 in
theorem ggX0_scrape_X0_waste : GoodIn wsX0_scrape wsX0_waste := goodIn_r _ [14, 15, 16, 17, 18, 4, 19, 20, 21, 22, 23, 24, 25, 26, 27, 28, 29, 30, 31, 32, 33, 34, 35, 36] (by decide +kernel) (by decide +kernel)
set_option maxRecDepth 20000 in
theorem gX0_scrape_X0_waste : GoodIn wsX0_scrape (wsV RX0 102 RX0 yX0_waste wsX0_waste) := goodIn_app (goodIn_of _ (by decide +kernel)) ggX0_scrape_X0_waste
set_option maxRecDepth 20000 in
theorem ggX0_paint_X0_checkNumber : GoodIn wsX0_paint wsX0_checkNumber := goodIn_ca (goodIn_r _ [9, 10, 11] (by decide +kernel) (by decide +kernel)) (goodIn_sub (fun _ h => List.mem_cons_of_mem _ (List.mem_append_left _ (List.mem_append_right _ h))) (by decide +kernel))
set_option maxRecDepth 20000 in
theorem gX0_paint_X0_checkNumber : GoodIn wsX0_paint (va_wsS RX0 61 yX0_checkNumber wsX0_checkNumber) := goodIn_app (goodIn_of _ (by decide +kernel)) ggX0_paint_X0_checkNumber
set_option maxRecDepth 20000 in
theorem ggX0_paint_X0_checkRange : GoodIn wsX0_paint wsX0_checkRange := goodIn_ca (goodIn_r _ [14, 15, 16] (by decide +kernel) (by decide +kernel)) (goodIn_sub (fun _ h => List.mem_cons_of_mem _ (List.mem_append_right _ h)) (by decide +kernel))
set_option maxRecDepth 20000 in
theorem gX0_paint_X0_checkRange : GoodIn wsX0_paint (va_wsS RX0 65 yX0_checkRange wsX0_checkRange) := goodIn_app (goodIn_of _ (by decide +kernel)) ggX0_paint_X0_checkRange
set_option maxRecDepth 20000 in
theorem ggX0_paint_X0_checkAtHome : GoodIn wsX0_paint wsX0_checkAtHome := goodIn_ca (goodIn_r _ [20, 1, 2, 21, 22, 23, 8, 24, 25, 45, 46, 47, 48, 49, 50, 51, 52, 53, 54, 55, 56, 57, 58, 59, 60, 61] (by decide +kernel) (by decide +kernel)) (goodIn_sub (fun _ h => List.mem_cons_of_mem _ (List.mem_append_left _ (List.mem_append_left _ (List.mem_append_right _ h)))) (by decide +kernel))
set_option maxRecDepth 20000 in
theorem gX0_paint_X0_checkAtHome : GoodIn wsX0_paint (wsV RX0 110 RX0 yX0_checkAtHome wsX0_checkAtHome) := goodIn_app (goodIn_of _ (by decide +kernel)) ggX0_paint_X0_checkAtHome
set_option maxRecDepth 20000 in
theorem ggX0_paint_X0_potRow : GoodIn wsX0_paint wsX0_potRow := goodIn_r _ [28] (by decide +kernel) (by decide +kernel)
set_option maxRecDepth 20000 in
theorem gX0_paint_X0_potRow : GoodIn wsX0_paint (va_wsS RX0 80 yX0_potRow wsX0_potRow) := goodIn_app (goodIn_of _ (by decide +kernel)) ggX0_paint_X0_potRow
set_option maxRecDepth 20000 in
theorem ggX0_paint_X0_layerRow : GoodIn wsX0_paint wsX0_layerRow := goodIn_r _ [31] (by decide +kernel) (by decide +kernel)
set_option maxRecDepth 20000 in
theorem gX0_paint_X0_layerRow : GoodIn wsX0_paint (va_wsS RX0 116 yX0_layerRow wsX0_layerRow) := goodIn_app (goodIn_of _ (by decide +kernel)) ggX0_paint_X0_layerRow
set_option maxRecDepth 20000 in
theorem ggX0_paint_X0_move : GoodIn wsX0_paint wsX0_move := goodIn_r _ [35, 36, 37, 38, 39, 40, 8, 41, 42, 43, 44, 45, 46, 47, 48, 49, 50, 51, 52, 53, 54, 55, 56, 57, 58, 59, 60, 61] (by decide +kernel) (by decide +kernel)
set_option maxRecDepth 20000 in
theorem gX0_paint_X0_move : GoodIn wsX0_paint (wsV RX0 93 RX0 yX0_move wsX0_move) := goodIn_app (goodIn_of _ (by decide +kernel)) ggX0_paint_X0_move
set_option maxRecDepth 20000 in
theorem ggX0_clean_X0_checkNumber : GoodIn wsX0_clean wsX0_checkNumber := goodIn_ca (goodIn_r _ [8, 9, 10] (by decide +kernel) (by decide +kernel)) (goodIn_sub (fun _ h => List.mem_cons_of_mem _ (List.mem_append_left _ (List.mem_append_right _ h))) (by decide +kernel))
set_option maxRecDepth 20000 in
theorem gX0_clean_X0_checkNumber : GoodIn wsX0_clean (va_wsS RX0 61 yX0_checkNumber wsX0_checkNumber) := goodIn_app (goodIn_of _ (by decide +kernel)) ggX0_clean_X0_checkNumber
set_option maxRecDepth 20000 in
theorem ggX0_clean_X0_checkRange : GoodIn wsX0_clean wsX0_checkRange := goodIn_ca (goodIn_r _ [13, 14, 15] (by decide +kernel) (by decide +kernel)) (goodIn_sub (fun _ h => List.mem_cons_of_mem _ (List.mem_append_right _ h)) (by decide +kernel))
set_option maxRecDepth 20000 in
theorem gX0_clean_X0_checkRange : GoodIn wsX0_clean (va_wsS RX0 65 yX0_checkRange wsX0_checkRange) := goodIn_app (goodIn_of _ (by decide +kernel)) ggX0_clean_X0_checkRange
set_option maxRecDepth 20000 in
theorem ggX0_clean_X0_checkAtHome : GoodIn wsX0_clean wsX0_checkAtHome := goodIn_ca (goodIn_r _ [19, 1, 2, 20, 21, 22, 7, 23, 24, 37, 38, 39, 40, 41, 42, 43, 44, 45, 46, 47, 48, 49, 50, 51, 52, 53] (by decide +kernel) (by decide +kernel)) (goodIn_sub (fun _ h => List.mem_cons_of_mem _ (List.mem_append_left _ (List.mem_append_left _ (List.mem_append_right _ h)))) (by decide +kernel))
set_option maxRecDepth 20000 in
theorem gX0_clean_X0_checkAtHome : GoodIn wsX0_clean (wsV RX0 110 RX0 yX0_checkAtHome wsX0_checkAtHome) := goodIn_app (goodIn_of _ (by decide +kernel)) ggX0_clean_X0_checkAtHome
set_option maxRecDepth 20000 in
theorem ggX0_clean_X0_layerRow : GoodIn wsX0_clean wsX0_layerRow := goodIn_r _ [27] (by decide +kernel) (by decide +kernel)
set_option maxRecDepth 20000 in
theorem gX0_clean_X0_layerRow : GoodIn wsX0_clean (va_wsS RX0 116 yX0_layerRow wsX0_layerRow) := goodIn_app (goodIn_of _ (by decide +kernel)) ggX0_clean_X0_layerRow
set_option maxRecDepth 20000 in
theorem ggX0_clean_X0_waste : GoodIn wsX0_clean wsX0_waste := goodIn_r _ [31, 32, 33, 34, 35, 7, 36, 37, 38, 39, 40, 41, 42, 43, 44, 45, 46, 47, 48, 49, 50, 51, 52, 53] (by decide +kernel) (by decide +kernel)
set_option maxRecDepth 20000 in
theorem gX0_clean_X0_waste : GoodIn wsX0_clean (wsV RX0 102 RX0 yX0_waste wsX0_waste) := goodIn_app (goodIn_of _ (by decide +kernel)) ggX0_clean_X0_waste
set_option maxRecDepth 20000 in
theorem ggX0_damp_X0_checkNumber : GoodIn wsX0_damp wsX0_checkNumber := goodIn_ca (goodIn_r _ [5, 6, 7] (by decide +kernel) (by decide +kernel)) (goodIn_sub (fun _ h => List.mem_cons_of_mem _ (List.mem_append_left _ (List.mem_append_right _ h))) (by decide +kernel))
set_option maxRecDepth 20000 in
theorem gX0_damp_X0_checkNumber : GoodIn wsX0_damp (va_wsS RX0 61 yX0_checkNumber wsX0_checkNumber) := goodIn_app (goodIn_of _ (by decide +kernel)) ggX0_damp_X0_checkNumber
set_option maxRecDepth 20000 in
theorem ggX0_damp_X0_checkRange : GoodIn wsX0_damp wsX0_checkRange := goodIn_ca (goodIn_r _ [10, 11, 12] (by decide +kernel) (by decide +kernel)) (goodIn_sub (fun _ h => List.mem_cons_of_mem _ (List.mem_append_right _ h)) (by decide +kernel))
set_option maxRecDepth 20000 in
theorem gX0_damp_X0_checkRange : GoodIn wsX0_damp (va_wsS RX0 65 yX0_checkRange wsX0_checkRange) := goodIn_app (goodIn_of _ (by decide +kernel)) ggX0_damp_X0_checkRange
set_option maxRecDepth 20000 in
theorem ggX0_lend_X0_checkNumber : GoodIn wsX0_lend wsX0_checkNumber := goodIn_ca (goodIn_r _ [11, 12, 13] (by decide +kernel) (by decide +kernel)) (goodIn_sub (fun _ h => List.mem_cons_of_mem _ (List.mem_append_left _ (List.mem_append_right _ h))) (by decide +kernel))
set_option maxRecDepth 20000 in
theorem gX0_lend_X0_checkNumber : GoodIn wsX0_lend (va_wsS RX0 61 yX0_checkNumber wsX0_checkNumber) := goodIn_app (goodIn_of _ (by decide +kernel)) ggX0_lend_X0_checkNumber
set_option maxRecDepth 20000 in
theorem ggX0_lend_X0_checkRange : GoodIn wsX0_lend wsX0_checkRange := goodIn_ca (goodIn_r _ [16, 17, 18] (by decide +kernel) (by decide +kernel)) (goodIn_sub (fun _ h => List.mem_cons_of_mem _ (List.mem_append_right _ h)) (by decide +kernel))
set_option maxRecDepth 20000 in
theorem gX0_lend_X0_checkRange : GoodIn wsX0_lend (va_wsS RX0 65 yX0_checkRange wsX0_checkRange) := goodIn_app (goodIn_of _ (by decide +kernel)) ggX0_lend_X0_checkRange
set_option maxRecDepth 20000 in
theorem ggX0_lend_X0_checkAtHome : GoodIn wsX0_lend wsX0_checkAtHome := goodIn_ca (goodIn_r _ [22, 1, 2, 23, 24, 25, 10, 26, 7, 63, 64, 65, 66, 67, 68, 69, 70, 71, 72, 73, 74, 75, 76, 77, 78, 79] (by decide +kernel) (by decide +kernel)) (goodIn_sub (fun _ h => List.mem_cons_of_mem _ (List.mem_append_left _ (List.mem_append_left _ (List.mem_append_right _ h)))) (by decide +kernel))
set_option maxRecDepth 20000 in
theorem gX0_lend_X0_checkAtHome : GoodIn wsX0_lend (wsV RX0 110 RX0 yX0_checkAtHome wsX0_checkAtHome) := goodIn_app (goodIn_of _ (by decide +kernel)) ggX0_lend_X0_checkAtHome
set_option maxRecDepth 20000 in
theorem ggX0_lend_X0_valueOf : GoodIn wsX0_lend wsX0_valueOf := goodIn_r _ [30, 4, 31, 32, 33, 34, 35, 36, 37, 10, 38, 3, 39, 40, 41, 42, 43, 44, 45, 46, 47, 48, 49, 50, 51, 52, 53, 54, 55, 56, 57, 58, 59, 60, 61, 62, 63, 64, 65, 66, 67, 68, 69, 70, 71, 72, 73, 74, 75, 76, 77, 78, 79] (by decide +kernel) (by decide +kernel)
set_option maxRecDepth 20000 in
theorem gX0_lend_X0_valueOf : GoodIn wsX0_lend (wsV RX0 123 RX0 yX0_valueOf wsX0_valueOf) := goodIn_app (goodIn_of _ (by decide +kernel)) ggX0_lend_X0_valueOf
set_option maxRecDepth 20000 in
theorem ggX0_sell_X0_checkNumber : GoodIn wsX0_sell wsX0_checkNumber := goodIn_ca (goodIn_r _ [10, 11, 12] (by decide +kernel) (by decide +kernel)) (goodIn_sub (fun _ h => List.mem_cons_of_mem _ (List.mem_append_left _ (List.mem_append_right _ h))) (by decide +kernel))
set_option maxRecDepth 20000 in
theorem gX0_sell_X0_checkNumber : GoodIn wsX0_sell (va_wsS RX0 61 yX0_checkNumber wsX0_checkNumber) := goodIn_app (goodIn_of _ (by decide +kernel)) ggX0_sell_X0_checkNumber
set_option maxRecDepth 20000 in
theorem ggX0_sell_X0_checkRange : GoodIn wsX0_sell wsX0_checkRange := goodIn_ca (goodIn_r _ [15, 16, 17] (by decide +kernel) (by decide +kernel)) (goodIn_sub (fun _ h => List.mem_cons_of_mem _ (List.mem_append_right _ h)) (by decide +kernel))
set_option maxRecDepth 20000 in
theorem gX0_sell_X0_checkRange : GoodIn wsX0_sell (va_wsS RX0 65 yX0_checkRange wsX0_checkRange) := goodIn_app (goodIn_of _ (by decide +kernel)) ggX0_sell_X0_checkRange
set_option maxRecDepth 20000 in
theorem ggX0_sell_X0_checkAtHome : GoodIn wsX0_sell wsX0_checkAtHome := goodIn_ca (goodIn_r _ [21, 1, 2, 22, 23, 24, 9, 25, 26, 62, 63, 64, 65, 66, 67, 68, 69, 70, 71, 72, 73, 74, 75, 76, 77, 78] (by decide +kernel) (by decide +kernel)) (goodIn_sub (fun _ h => List.mem_cons_of_mem _ (List.mem_append_left _ (List.mem_append_left _ (List.mem_append_right _ h)))) (by decide +kernel))
set_option maxRecDepth 20000 in
theorem gX0_sell_X0_checkAtHome : GoodIn wsX0_sell (wsV RX0 110 RX0 yX0_checkAtHome wsX0_checkAtHome) := goodIn_app (goodIn_of _ (by decide +kernel)) ggX0_sell_X0_checkAtHome
set_option maxRecDepth 20000 in
theorem ggX0_sell_X0_valueOf : GoodIn wsX0_sell wsX0_valueOf := goodIn_r _ [30, 31, 32, 33, 34, 35, 36, 37, 38, 9, 39, 3, 6, 40, 41, 42, 43, 5, 44, 45, 46, 47, 48, 49, 50, 51, 52, 53, 54, 55, 56, 57, 58, 59, 60, 61, 62, 63, 64, 65, 66, 67, 68, 69, 70, 71, 72, 73, 74, 75, 76, 77, 78] (by decide +kernel) (by decide +kernel)
set_option maxRecDepth 20000 in
theorem gX0_sell_X0_valueOf : GoodIn wsX0_sell (wsV RX0 123 RX0 yX0_valueOf wsX0_valueOf) := goodIn_app (goodIn_of _ (by decide +kernel)) ggX0_sell_X0_valueOf
set_option maxRecDepth 20000 in
theorem ggX0_pass_X0_checkRange : GoodIn wsX0_pass wsX0_checkRange := goodIn_ca (goodIn_r _ [8, 9, 10] (by decide +kernel) (by decide +kernel)) (goodIn_sub (fun _ h => List.mem_cons_of_mem _ (List.mem_append_right _ h)) (by decide +kernel))
set_option maxRecDepth 20000 in
theorem gX0_pass_X0_checkRange : GoodIn wsX0_pass (va_wsS RX0 65 yX0_checkRange wsX0_checkRange) := goodIn_app (goodIn_of _ (by decide +kernel)) ggX0_pass_X0_checkRange
set_option maxRecDepth 20000 in
theorem ggX0_pass_X0_passForLoan : GoodIn wsX0_pass wsX0_passForLoan := goodIn_r _ [14, 15, 16, 17, 18, 19, 20, 21, 22, 23, 24, 25, 26, 27, 28, 29, 30, 31, 32, 33, 34, 35, 36, 37, 38, 39, 40, 41, 42, 43, 44] (by decide +kernel) (by decide +kernel)
set_option maxRecDepth 20000 in
theorem gX0_pass_X0_passForLoan : GoodIn wsX0_pass (wsV RX0 134 RX0 yX0_passForLoan wsX0_passForLoan) := goodIn_app (goodIn_of _ (by decide +kernel)) ggX0_pass_X0_passForLoan
set_option maxRecDepth 20000 in
theorem ggX0_left_X0_checkNumber : GoodIn wsX0_left wsX0_checkNumber := goodIn_ca (goodIn_r _ [6, 7, 8] (by decide +kernel) (by decide +kernel)) (goodIn_sub (fun _ h => List.mem_cons_of_mem _ (List.mem_append_right _ h)) (by decide +kernel))
set_option maxRecDepth 20000 in
theorem gX0_left_X0_checkNumber : GoodIn wsX0_left (va_wsS RX0 61 yX0_checkNumber wsX0_checkNumber) := goodIn_app (goodIn_of _ (by decide +kernel)) ggX0_left_X0_checkNumber
set_option maxRecDepth 20000 in
theorem ggX0_has_X0_checkNumber : GoodIn wsX0_has wsX0_checkNumber := goodIn_ca (goodIn_r _ [7, 8, 9] (by decide +kernel) (by decide +kernel)) (goodIn_sub (fun _ h => List.mem_cons_of_mem _ (List.mem_append_right _ h)) (by decide +kernel))
set_option maxRecDepth 20000 in
theorem gX0_has_X0_checkNumber : GoodIn wsX0_has (va_wsS RX0 61 yX0_checkNumber wsX0_checkNumber) := goodIn_app (goodIn_of _ (by decide +kernel)) ggX0_has_X0_checkNumber
set_option maxRecDepth 20000 in
theorem ggX0_has_X0_potRow : GoodIn wsX0_has wsX0_potRow := goodIn_r _ [12] (by decide +kernel) (by decide +kernel)
set_option maxRecDepth 20000 in
theorem gX0_has_X0_potRow : GoodIn wsX0_has (va_wsS RX0 80 yX0_potRow wsX0_potRow) := goodIn_app (goodIn_of _ (by decide +kernel)) ggX0_has_X0_potRow
set_option maxRecDepth 20000 in
theorem ggX0_has_X0_sumOfRow : GoodIn wsX0_has wsX0_sumOfRow := goodIn_r _ [16, 2, 3, 17, 18, 6, 19, 20, 21, 22, 23, 24, 25, 26, 27, 28, 29, 30, 31, 32, 33, 34, 35, 36] (by decide +kernel) (by decide +kernel)
set_option maxRecDepth 20000 in
theorem gX0_has_X0_sumOfRow : GoodIn wsX0_has (wsV RX0 99 RX0 yX0_sumOfRow wsX0_sumOfRow) := goodIn_app (goodIn_of _ (by decide +kernel)) ggX0_has_X0_sumOfRow
set_option maxRecDepth 20000 in
theorem ggX0_has_X0_place : GoodIn wsX0_has wsX0_place := goodIn_r _ [19] (by decide +kernel) (by decide +kernel)
set_option maxRecDepth 20000 in
theorem gX0_has_X0_place : GoodIn wsX0_has (va_wsS RX0 84 yX0_place wsX0_place) := goodIn_app (goodIn_of _ (by decide +kernel)) ggX0_has_X0_place
set_option maxRecDepth 20000 in
theorem ggX0_colour_X0_checkNumber : GoodIn wsX0_colour wsX0_checkNumber := goodIn_ca (goodIn_r _ [5, 6, 7] (by decide +kernel) (by decide +kernel)) (goodIn_sub (fun _ h => List.mem_cons_of_mem _ (List.mem_append_left _ (List.mem_append_right _ h))) (by decide +kernel))
set_option maxRecDepth 20000 in
theorem gX0_colour_X0_checkNumber : GoodIn wsX0_colour (va_wsS RX0 61 yX0_checkNumber wsX0_checkNumber) := goodIn_app (goodIn_of _ (by decide +kernel)) ggX0_colour_X0_checkNumber
set_option maxRecDepth 20000 in
theorem ggX0_colour_X0_checkRange : GoodIn wsX0_colour wsX0_checkRange := goodIn_ca (goodIn_r _ [10, 11, 12] (by decide +kernel) (by decide +kernel)) (goodIn_sub (fun _ h => List.mem_cons_of_mem _ (List.mem_append_right _ h)) (by decide +kernel))
set_option maxRecDepth 20000 in
theorem gX0_colour_X0_checkRange : GoodIn wsX0_colour (va_wsS RX0 65 yX0_checkRange wsX0_checkRange) := goodIn_app (goodIn_of _ (by decide +kernel)) ggX0_colour_X0_checkRange
set_option maxRecDepth 20000 in
theorem ggX0_colour_X0_potRow : GoodIn wsX0_colour wsX0_potRow := goodIn_r _ [15] (by decide +kernel) (by decide +kernel)
set_option maxRecDepth 20000 in
theorem gX0_colour_X0_potRow : GoodIn wsX0_colour (va_wsS RX0 80 yX0_potRow wsX0_potRow) := goodIn_app (goodIn_of _ (by decide +kernel)) ggX0_colour_X0_potRow
set_option maxRecDepth 20000 in
theorem ggX0_colour_X0_colourOfRow : GoodIn wsX0_colour wsX0_colourOfRow := goodIn_r _ [19, 20, 21, 22, 23, 4, 24, 25, 26, 27, 28, 29, 30, 31, 32, 33, 34, 35, 36, 37, 38, 39, 40, 41, 42, 43, 44, 45, 46, 47] (by decide +kernel) (by decide +kernel)
set_option maxRecDepth 20000 in
theorem gX0_colour_X0_colourOfRow : GoodIn wsX0_colour (wsV RX0 137 RX0 yX0_colourOfRow wsX0_colourOfRow) := goodIn_app (goodIn_of _ (by decide +kernel)) ggX0_colour_X0_colourOfRow
set_option maxRecDepth 20000 in
theorem ggX0_of_X0_checkNumber : GoodIn wsX0_of wsX0_checkNumber := goodIn_ca (goodIn_r _ [9, 10, 11] (by decide +kernel) (by decide +kernel)) (goodIn_sub (fun _ h => List.mem_cons_of_mem _ (List.mem_append_left _ (List.mem_append_right _ h))) (by decide +kernel))
set_option maxRecDepth 20000 in
theorem gX0_of_X0_checkNumber : GoodIn wsX0_of (va_wsS RX0 61 yX0_checkNumber wsX0_checkNumber) := goodIn_app (goodIn_of _ (by decide +kernel)) ggX0_of_X0_checkNumber
set_option maxRecDepth 20000 in
theorem ggX0_of_X0_checkRange : GoodIn wsX0_of wsX0_checkRange := goodIn_ca (goodIn_r _ [14, 15, 16] (by decide +kernel) (by decide +kernel)) (goodIn_sub (fun _ h => List.mem_cons_of_mem _ (List.mem_append_right _ h)) (by decide +kernel))
set_option maxRecDepth 20000 in
theorem gX0_of_X0_checkRange : GoodIn wsX0_of (va_wsS RX0 65 yX0_checkRange wsX0_checkRange) := goodIn_app (goodIn_of _ (by decide +kernel)) ggX0_of_X0_checkRange
set_option maxRecDepth 20000 in
theorem ggX0_of_X0_valueOf : GoodIn wsX0_of wsX0_valueOf := goodIn_r _ [20, 3, 21, 22, 23, 24, 25, 26, 27, 8, 28, 1, 29, 30, 31, 32, 33, 2, 34, 35, 36, 37, 38, 39, 40, 41, 42, 43, 44, 45, 46, 47, 48, 49, 50, 51, 69, 70, 71, 72, 73, 74, 75, 76, 77, 78, 79, 80, 81, 82, 83, 84, 85] (by decide +kernel) (by decide +kernel)
set_option maxRecDepth 20000 in
theorem gX0_of_X0_valueOf : GoodIn wsX0_of (wsV RX0 123 RX0 yX0_valueOf wsX0_valueOf) := goodIn_app (goodIn_of _ (by decide +kernel)) ggX0_of_X0_valueOf
set_option maxRecDepth 20000 in
theorem ggX0_of_X0_mainPigmentOf : GoodIn wsX0_of wsX0_mainPigmentOf := goodIn_r _ [33, 2, 34, 35, 8, 36, 37, 38, 39, 40, 41, 42, 43, 44, 45, 46, 47, 48, 49, 50, 51, 69, 70, 71, 72, 73, 74, 75, 76, 77, 78, 79, 80, 81, 82, 83, 84, 85] (by decide +kernel) (by decide +kernel)
set_option maxRecDepth 20000 in
theorem gX0_of_X0_mainPigmentOf : GoodIn wsX0_of (wsV RX0 140 RX0 yX0_mainPigmentOf wsX0_mainPigmentOf) := goodIn_app (goodIn_of _ (by decide +kernel)) ggX0_of_X0_mainPigmentOf
set_option maxRecDepth 20000 in
theorem ggX0_of_X0_isLent : GoodIn wsX0_of wsX0_isLent := goodIn_r _ [55, 5, 69, 70, 71, 72, 73, 74, 75, 76, 77, 78, 79, 80, 81, 82, 83, 84, 85] (by decide +kernel) (by decide +kernel)
set_option maxRecDepth 20000 in
theorem gX0_of_X0_isLent : GoodIn wsX0_of (wsV RX0 143 RX0 yX0_isLent wsX0_isLent) := goodIn_app (goodIn_of _ (by decide +kernel)) ggX0_of_X0_isLent
set_option maxRecDepth 20000 in
theorem ggX0_of_X0_lookOf : GoodIn wsX0_of wsX0_lookOf := goodIn_r _ [59, 2, 34, 35, 8, 36, 60, 61, 62, 63, 46, 48, 49, 50, 51, 64, 65, 66, 67, 68, 47, 69, 70, 71, 72, 73, 74, 75, 76, 77, 78, 79, 80, 81, 82, 83, 84, 85] (by decide +kernel) (by decide +kernel)
set_option maxRecDepth 20000 in
theorem gX0_of_X0_lookOf : GoodIn wsX0_of (wsV RX0 147 RX0 yX0_lookOf wsX0_lookOf) := goodIn_app (goodIn_of _ (by decide +kernel)) ggX0_of_X0_lookOf
set_option maxRecDepth 20000 in
theorem ggX0_layer_X0_checkNumber : GoodIn wsX0_layer wsX0_checkNumber := goodIn_ca (goodIn_r _ [8, 9, 10] (by decide +kernel) (by decide +kernel)) (goodIn_sub (fun _ h => List.mem_cons_of_mem _ (List.mem_append_right _ h)) (by decide +kernel))
set_option maxRecDepth 20000 in
theorem gX0_layer_X0_checkNumber : GoodIn wsX0_layer (va_wsS RX0 61 yX0_checkNumber wsX0_checkNumber) := goodIn_app (goodIn_of _ (by decide +kernel)) ggX0_layer_X0_checkNumber
set_option maxRecDepth 20000 in
theorem ggX0_layer_X0_layerRow : GoodIn wsX0_layer wsX0_layerRow := goodIn_r _ [13] (by decide +kernel) (by decide +kernel)
set_option maxRecDepth 20000 in
theorem gX0_layer_X0_layerRow : GoodIn wsX0_layer (va_wsS RX0 116 yX0_layerRow wsX0_layerRow) := goodIn_app (goodIn_of _ (by decide +kernel)) ggX0_layer_X0_layerRow
set_option maxRecDepth 20000 in
theorem ggX0_layer_X0_place : GoodIn wsX0_layer wsX0_place := goodIn_r _ [16] (by decide +kernel) (by decide +kernel)
set_option maxRecDepth 20000 in
theorem gX0_layer_X0_place : GoodIn wsX0_layer (va_wsS RX0 84 yX0_place wsX0_place) := goodIn_app (goodIn_of _ (by decide +kernel)) ggX0_layer_X0_place
set_option maxRecDepth 20000 in
theorem ggX0_where_X0_checkNumber : GoodIn wsX0_where wsX0_checkNumber := goodIn_ca (goodIn_r _ [6, 7, 8] (by decide +kernel) (by decide +kernel)) (goodIn_sub (fun _ h => List.mem_cons_of_mem _ (List.mem_append_left _ (List.mem_append_right _ h))) (by decide +kernel))
set_option maxRecDepth 20000 in
theorem gX0_where_X0_checkNumber : GoodIn wsX0_where (va_wsS RX0 61 yX0_checkNumber wsX0_checkNumber) := goodIn_app (goodIn_of _ (by decide +kernel)) ggX0_where_X0_checkNumber
set_option maxRecDepth 20000 in
theorem ggX0_where_X0_checkRange : GoodIn wsX0_where wsX0_checkRange := goodIn_ca (goodIn_r _ [11, 12, 13] (by decide +kernel) (by decide +kernel)) (goodIn_sub (fun _ h => List.mem_cons_of_mem _ (List.mem_append_right _ h)) (by decide +kernel))
set_option maxRecDepth 20000 in
theorem gX0_where_X0_checkRange : GoodIn wsX0_where (va_wsS RX0 65 yX0_checkRange wsX0_checkRange) := goodIn_app (goodIn_of _ (by decide +kernel)) ggX0_where_X0_checkRange
set_option maxRecDepth 20000 in
theorem ggX0_where_X0_sumOfTube : GoodIn wsX0_where wsX0_sumOfTube := goodIn_r _ [17, 18, 19, 20, 5, 21, 22, 23, 24, 25, 26, 27, 28, 29, 30, 31, 32, 33, 34, 35, 36, 37, 38] (by decide +kernel) (by decide +kernel)
set_option maxRecDepth 20000 in
theorem gX0_where_X0_sumOfTube : GoodIn wsX0_where (wsV RX0 150 RX0 yX0_sumOfTube wsX0_sumOfTube) := goodIn_app (goodIn_of _ (by decide +kernel)) ggX0_where_X0_sumOfTube
set_option maxRecDepth 20000 in
theorem ggX0_recipe_X0_checkColour : GoodIn wsX0_recipe wsX0_checkColour := goodIn_ca (goodIn_r _ [6, 7, 8, 5, 9, 10, 11] (by decide +kernel) (by decide +kernel)) (goodIn_sub (fun _ h => List.mem_cons_of_mem _ (List.mem_append_right _ h)) (by decide +kernel))
set_option maxRecDepth 20000 in
theorem gX0_recipe_X0_checkColour : GoodIn wsX0_recipe (va_wsS RX0 46 yX0_checkColour wsX0_checkColour) := goodIn_app (goodIn_of _ (by decide +kernel)) ggX0_recipe_X0_checkColour
set_option maxRecDepth 20000 in
theorem ggX0_recipe_X0_mixed : GoodIn wsX0_recipe wsX0_mixed := goodIn_r _ [15, 16, 17, 18, 5, 19, 20, 21, 25, 26, 27, 28, 29, 30, 31, 32, 33, 34, 35, 36, 37, 38, 39, 40, 41] (by decide +kernel) (by decide +kernel)
set_option maxRecDepth 20000 in
theorem gX0_recipe_X0_mixed : GoodIn wsX0_recipe (wsV RX0 154 RX0 yX0_mixed wsX0_mixed) := goodIn_app (goodIn_of _ (by decide +kernel)) ggX0_recipe_X0_mixed
set_option maxRecDepth 20000 in
theorem ggX0_recipe_X0_square : GoodIn wsX0_recipe wsX0_square := goodIn_r _ [24] (by decide +kernel) (by decide +kernel)
set_option maxRecDepth 20000 in
theorem gX0_recipe_X0_square : GoodIn wsX0_recipe (va_wsS RX0 158 yX0_square wsX0_square) := goodIn_app (goodIn_of _ (by decide +kernel)) ggX0_recipe_X0_square
set_option maxRecDepth 20000 in
theorem ggX0_paid_X0_checkNumber : GoodIn wsX0_paid wsX0_checkNumber := goodIn_ca (goodIn_r _ [5, 6, 7] (by decide +kernel) (by decide +kernel)) (goodIn_sub (fun _ h => List.mem_cons_of_mem _ (List.mem_append_right _ h)) (by decide +kernel))
set_option maxRecDepth 20000 in
theorem gX0_paid_X0_checkNumber : GoodIn wsX0_paid (va_wsS RX0 61 yX0_checkNumber wsX0_checkNumber) := goodIn_app (goodIn_of _ (by decide +kernel)) ggX0_paid_X0_checkNumber
set_option maxRecDepth 20000 in
theorem ggX0_checkColour_X0_checkRange : GoodIn wsX0_checkColour wsX0_checkRange := goodIn_ca (goodIn_r _ [4, 5, 6] (by decide +kernel) (by decide +kernel)) (goodIn_sub (fun _ h => List.mem_cons_of_mem _ (List.mem_append_right _ h)) (by decide +kernel))
set_option maxRecDepth 20000 in
theorem gX0_checkColour_X0_checkRange : GoodIn wsX0_checkColour (va_wsS RX0 65 yX0_checkRange wsX0_checkRange) := goodIn_app (goodIn_of _ (by decide +kernel)) ggX0_checkColour_X0_checkRange
set_option maxRecDepth 20000 in
theorem ggX0_checkAtHome_X0_isLent : GoodIn wsX0_checkAtHome wsX0_isLent := goodIn_r _ [7, 8, 9, 10, 11, 12, 13, 14, 15, 16, 17, 18, 19, 20, 21, 22, 23, 24, 25] (by decide +kernel) (by decide +kernel)
set_option maxRecDepth 20000 in
theorem gX0_checkAtHome_X0_isLent : GoodIn wsX0_checkAtHome (wsV RX0 143 RX0 yX0_isLent wsX0_isLent) := goodIn_app (goodIn_of _ (by decide +kernel)) ggX0_checkAtHome_X0_isLent
set_option maxRecDepth 20000 in
theorem ggX0_sumOfRow_X0_place : GoodIn wsX0_sumOfRow wsX0_place := goodIn_r _ [6] (by decide +kernel) (by decide +kernel)
set_option maxRecDepth 20000 in
theorem gX0_sumOfRow_X0_place : GoodIn wsX0_sumOfRow (va_wsS RX0 84 yX0_place wsX0_place) := goodIn_app (goodIn_of _ (by decide +kernel)) ggX0_sumOfRow_X0_place
set_option maxRecDepth 20000 in
theorem ggX0_sumOfTube_X0_place : GoodIn wsX0_sumOfTube wsX0_place := goodIn_r _ [5] (by decide +kernel) (by decide +kernel)
set_option maxRecDepth 20000 in
theorem gX0_sumOfTube_X0_place : GoodIn wsX0_sumOfTube (va_wsS RX0 84 yX0_place wsX0_place) := goodIn_app (goodIn_of _ (by decide +kernel)) ggX0_sumOfTube_X0_place
set_option maxRecDepth 20000 in
theorem ggX0_move_X0_sumOfRow : GoodIn wsX0_move wsX0_sumOfRow := goodIn_r _ [7, 1, 2, 8, 9, 6, 10, 11, 12, 13, 14, 15, 16, 17, 18, 19, 20, 21, 22, 23, 24, 25, 26, 27] (by decide +kernel) (by decide +kernel)
set_option maxRecDepth 20000 in
theorem gX0_move_X0_sumOfRow : GoodIn wsX0_move (wsV RX0 99 RX0 yX0_sumOfRow wsX0_sumOfRow) := goodIn_app (goodIn_of _ (by decide +kernel)) ggX0_move_X0_sumOfRow
set_option maxRecDepth 20000 in
theorem ggX0_move_X0_place : GoodIn wsX0_move wsX0_place := goodIn_r _ [10] (by decide +kernel) (by decide +kernel)
set_option maxRecDepth 20000 in
theorem gX0_move_X0_place : GoodIn wsX0_move (va_wsS RX0 84 yX0_place wsX0_place) := goodIn_app (goodIn_of _ (by decide +kernel)) ggX0_move_X0_place
set_option maxRecDepth 20000 in
theorem ggX0_waste_X0_place : GoodIn wsX0_waste wsX0_place := goodIn_r _ [6] (by decide +kernel) (by decide +kernel)
set_option maxRecDepth 20000 in
theorem gX0_waste_X0_place : GoodIn wsX0_waste (va_wsS RX0 84 yX0_place wsX0_place) := goodIn_app (goodIn_of _ (by decide +kernel)) ggX0_waste_X0_place
set_option maxRecDepth 20000 in
theorem ggX0_colourOfRow_X0_place : GoodIn wsX0_colourOfRow wsX0_place := goodIn_r _ [6] (by decide +kernel) (by decide +kernel)
set_option maxRecDepth 20000 in
theorem gX0_colourOfRow_X0_place : GoodIn wsX0_colourOfRow (va_wsS RX0 84 yX0_place wsX0_place) := goodIn_app (goodIn_of _ (by decide +kernel)) ggX0_colourOfRow_X0_place
set_option maxRecDepth 20000 in
theorem ggX0_colourOfRow_X0_colourOfTube : GoodIn wsX0_colourOfRow wsX0_colourOfTube := goodIn_r _ [10, 11, 12, 13, 14, 15, 16, 17, 18, 19, 20, 21, 22, 23, 24, 25, 26, 27, 28, 29] (by decide +kernel) (by decide +kernel)
set_option maxRecDepth 20000 in
theorem gX0_colourOfRow_X0_colourOfTube : GoodIn wsX0_colourOfRow (wsV RX0 170 RX0 yX0_colourOfTube wsX0_colourOfTube) := goodIn_app (goodIn_of _ (by decide +kernel)) ggX0_colourOfRow_X0_colourOfTube
set_option maxRecDepth 20000 in
theorem ggX0_gramsOfPigment_X0_place : GoodIn wsX0_gramsOfPigment wsX0_place := goodIn_r _ [7] (by decide +kernel) (by decide +kernel)
set_option maxRecDepth 20000 in
theorem gX0_gramsOfPigment_X0_place : GoodIn wsX0_gramsOfPigment (va_wsS RX0 84 yX0_place wsX0_place) := goodIn_app (goodIn_of _ (by decide +kernel)) ggX0_gramsOfPigment_X0_place
set_option maxRecDepth 20000 in
theorem ggX0_mainPigmentOfRow_X0_gramsOfPigment : GoodIn wsX0_mainPigmentOfRow wsX0_gramsOfPigment := goodIn_r _ [6, 7, 8, 9, 10, 11, 5, 12, 13, 14, 15, 16, 17, 18, 19, 20, 21, 22, 23, 24, 25, 26, 27, 28, 29] (by decide +kernel) (by decide +kernel)
set_option maxRecDepth 20000 in
theorem gX0_mainPigmentOfRow_X0_gramsOfPigment : GoodIn wsX0_mainPigmentOfRow (wsV RX0 173 RX0 yX0_gramsOfPigment wsX0_gramsOfPigment) := goodIn_app (goodIn_of _ (by decide +kernel)) ggX0_mainPigmentOfRow_X0_gramsOfPigment
set_option maxRecDepth 20000 in
theorem ggX0_mixed_X0_colourOfTube : GoodIn wsX0_mixed wsX0_colourOfTube := goodIn_r _ [5, 6, 7, 8, 9, 10, 11, 12, 13, 14, 15, 16, 17, 18, 19, 20, 21, 22, 23, 24] (by decide +kernel) (by decide +kernel)
set_option maxRecDepth 20000 in
theorem gX0_mixed_X0_colourOfTube : GoodIn wsX0_mixed (wsV RX0 170 RX0 yX0_colourOfTube wsX0_colourOfTube) := goodIn_app (goodIn_of _ (by decide +kernel)) ggX0_mixed_X0_colourOfTube
set_option maxRecDepth 20000 in
theorem ggX0_mainPigmentOf_X0_layerRow : GoodIn wsX0_mainPigmentOf wsX0_layerRow := goodIn_r _ [5] (by decide +kernel) (by decide +kernel)
set_option maxRecDepth 20000 in
theorem gX0_mainPigmentOf_X0_layerRow : GoodIn wsX0_mainPigmentOf (va_wsS RX0 116 yX0_layerRow wsX0_layerRow) := goodIn_app (goodIn_of _ (by decide +kernel)) ggX0_mainPigmentOf_X0_layerRow
set_option maxRecDepth 20000 in
theorem ggX0_mainPigmentOf_X0_mainPigmentOfRow : GoodIn wsX0_mainPigmentOf wsX0_mainPigmentOfRow := goodIn_r _ [9, 10, 11, 12, 13, 4, 14, 15, 16, 17, 18, 19, 20, 21, 22, 23, 24, 25, 26, 27, 28, 29, 30, 31, 32, 33, 34, 35, 36, 37] (by decide +kernel) (by decide +kernel)
set_option maxRecDepth 20000 in
theorem gX0_mainPigmentOf_X0_mainPigmentOfRow : GoodIn wsX0_mainPigmentOf (wsV RX0 176 RX0 yX0_mainPigmentOfRow wsX0_mainPigmentOfRow) := goodIn_app (goodIn_of _ (by decide +kernel)) ggX0_mainPigmentOf_X0_mainPigmentOfRow
set_option maxRecDepth 20000 in
theorem ggX0_lookOf_X0_layerRow : GoodIn wsX0_lookOf wsX0_layerRow := goodIn_r _ [5] (by decide +kernel) (by decide +kernel)
set_option maxRecDepth 20000 in
theorem gX0_lookOf_X0_layerRow : GoodIn wsX0_lookOf (va_wsS RX0 116 yX0_layerRow wsX0_layerRow) := goodIn_app (goodIn_of _ (by decide +kernel)) ggX0_lookOf_X0_layerRow
set_option maxRecDepth 20000 in
theorem ggX0_lookOf_X0_colourOfRow : GoodIn wsX0_lookOf wsX0_colourOfRow := goodIn_r _ [9, 10, 11, 12, 13, 4, 14, 15, 16, 17, 18, 19, 20, 21, 22, 23, 24, 25, 26, 27, 28, 29, 30, 31, 32, 33, 34, 35, 36, 37] (by decide +kernel) (by decide +kernel)
set_option maxRecDepth 20000 in
theorem gX0_lookOf_X0_colourOfRow : GoodIn wsX0_lookOf (wsV RX0 137 RX0 yX0_colourOfRow wsX0_colourOfRow) := goodIn_app (goodIn_of _ (by decide +kernel)) ggX0_lookOf_X0_colourOfRow
set_option maxRecDepth 20000 in
theorem ggX0_valueOf_X0_averagePriceOfAlike : GoodIn wsX0_valueOf wsX0_averagePriceOfAlike := goodIn_r _ [10, 11, 12, 13, 14, 15, 9, 16, 17, 18, 19, 20, 21, 22, 23, 24, 25, 26, 27, 28, 29, 30, 31, 32, 33, 34, 35, 36, 37, 38, 39, 40, 41, 42, 43, 44, 45, 46, 47, 48, 49, 50, 51, 52] (by decide +kernel) (by decide +kernel)
set_option maxRecDepth 20000 in
theorem gX0_valueOf_X0_averagePriceOfAlike : GoodIn wsX0_valueOf (wsV RX0 179 RX0 yX0_averagePriceOfAlike wsX0_averagePriceOfAlike) := goodIn_app (goodIn_of _ (by decide +kernel)) ggX0_valueOf_X0_averagePriceOfAlike
set_option maxRecDepth 20000 in
theorem ggX0_averagePriceOfAlike_X0_mainPigmentOf : GoodIn wsX0_averagePriceOfAlike wsX0_mainPigmentOf := goodIn_r _ [7, 8, 9, 10, 6, 11, 12, 13, 14, 15, 16, 17, 18, 19, 20, 21, 22, 23, 24, 25, 26, 27, 28, 29, 30, 31, 32, 33, 34, 35, 36, 37, 38, 39, 40, 41, 42, 43] (by decide +kernel) (by decide +kernel)
set_option maxRecDepth 20000 in
theorem gX0_averagePriceOfAlike_X0_mainPigmentOf : GoodIn wsX0_averagePriceOfAlike (wsV RX0 140 RX0 yX0_mainPigmentOf wsX0_mainPigmentOf) := goodIn_app (goodIn_of _ (by decide +kernel)) ggX0_averagePriceOfAlike_X0_mainPigmentOf
set_option maxRecDepth 20000 in
theorem ggL_calls_X0_squeeze : GoodIn wsL_calls wsX0_squeeze := goodIn_ca (goodIn_ca (goodIn_ca (goodIn_r _ [6, 7, 8, 9, 10, 11, 12, 13, 14, 5, 15, 16, 17, 18, 19, 20, 21, 22, 23, 24, 25, 26, 27, 28, 106, 107, 108, 109, 110, 111, 112, 113, 114, 115, 116, 117, 118, 119, 120, 121, 122] (by decide +kernel) (by decide +kernel)) (goodIn_sub (fun _ h => List.mem_cons_of_mem _ (List.mem_append_left _ (List.mem_append_left _ (List.mem_append_right _ h)))) (by decide +kernel))) (goodIn_sub (fun _ h => List.mem_cons_of_mem _ (List.mem_append_left _ (List.mem_append_right _ h))) (by decide +kernel))) (goodIn_sub (fun _ h => List.mem_cons_of_mem _ (List.mem_append_right _ h)) (by decide +kernel))
set_option maxRecDepth 20000 in
theorem gL_calls_X0_squeeze : GoodIn wsL_calls (wsV RL 10 RX0 yX0_squeeze wsX0_squeeze) := goodIn_app (goodIn_of _ (by decide +kernel)) ggL_calls_X0_squeeze
set_option maxRecDepth 20000 in
theorem ggL_calls_X0_pour : GoodIn wsL_calls wsX0_pour := goodIn_ca (goodIn_ca (goodIn_ca (goodIn_r _ [32, 21, 22, 7, 8, 9, 13, 14, 5, 15, 16, 17, 18, 19, 20, 23, 24, 25, 33, 34, 35, 36, 10, 12, 37, 38, 39, 40, 26, 27, 28, 106, 107, 108, 109, 110, 111, 112, 113, 114, 115, 116, 117, 118, 119, 120, 121, 122] (by decide +kernel) (by decide +kernel)) (goodIn_sub (fun _ h => List.mem_cons_of_mem _ (List.mem_append_right _ h)) (by decide +kernel))) (goodIn_sub (fun _ h => List.mem_cons_of_mem _ (List.mem_append_left _ (List.mem_append_left _ (List.mem_append_right _ h)))) (by decide +kernel))) (goodIn_sub (fun _ h => List.mem_cons_of_mem _ (List.mem_append_left _ (List.mem_append_right _ h))) (by decide +kernel))
set_option maxRecDepth 20000 in
theorem gL_calls_X0_pour : GoodIn wsL_calls (wsV RL 16 RX0 yX0_pour wsX0_pour) := goodIn_app (goodIn_of _ (by decide +kernel)) ggL_calls_X0_pour
set_option maxRecDepth 20000 in
theorem ggL_calls_X0_paint : GoodIn wsL_calls wsX0_paint := goodIn_ca (goodIn_ca (goodIn_ca (goodIn_r _ [44, 7, 8, 45, 9, 46, 13, 14, 5, 15, 16, 17, 18, 19, 20, 21, 22, 47, 48, 49, 50, 51, 52, 53, 54, 55, 23, 24, 25, 56, 57, 58, 33, 34, 35, 36, 10, 12, 37, 38, 39, 40, 26, 27, 28, 106, 107, 108, 109, 110, 111, 112, 113, 114, 115, 116, 117, 118, 119, 120, 121, 122] (by decide +kernel) (by decide +kernel)) (goodIn_sub (fun _ h => List.mem_cons_of_mem _ (List.mem_append_left _ (List.mem_append_left _ (List.mem_append_right _ h)))) (by decide +kernel))) (goodIn_sub (fun _ h => List.mem_cons_of_mem _ (List.mem_append_left _ (List.mem_append_right _ h))) (by decide +kernel))) (goodIn_sub (fun _ h => List.mem_cons_of_mem _ (List.mem_append_right _ h)) (by decide +kernel))
set_option maxRecDepth 20000 in
theorem gL_calls_X0_paint : GoodIn wsL_calls (wsV RL 19 RX0 yX0_paint wsX0_paint) := goodIn_app (goodIn_of _ (by decide +kernel)) ggL_calls_X0_paint
set_option maxRecDepth 20000 in
theorem ggL_calls_X0_clean : GoodIn wsL_calls wsX0_clean := goodIn_ca (goodIn_ca (goodIn_ca (goodIn_r _ [62, 7, 8, 45, 46, 13, 14, 5, 15, 16, 17, 18, 19, 20, 21, 22, 47, 48, 49, 50, 51, 52, 53, 54, 55, 56, 57, 58, 63, 64, 65, 66, 10, 12, 26, 27, 28, 106, 107, 108, 109, 110, 111, 112, 113, 114, 115, 116, 117, 118, 119, 120, 121, 122] (by decide +kernel) (by decide +kernel)) (goodIn_sub (fun _ h => List.mem_cons_of_mem _ (List.mem_append_left _ (List.mem_append_left _ (List.mem_append_right _ h)))) (by decide +kernel))) (goodIn_sub (fun _ h => List.mem_cons_of_mem _ (List.mem_append_left _ (List.mem_append_right _ h))) (by decide +kernel))) (goodIn_sub (fun _ h => List.mem_cons_of_mem _ (List.mem_append_right _ h)) (by decide +kernel))
set_option maxRecDepth 20000 in
theorem gL_calls_X0_clean : GoodIn wsL_calls (wsV RL 22 RX0 yX0_clean wsX0_clean) := goodIn_app (goodIn_of _ (by decide +kernel)) ggL_calls_X0_clean
set_option maxRecDepth 20000 in
theorem ggL_calls_X0_lend : GoodIn wsL_calls wsX0_lend := goodIn_ca (goodIn_ca (goodIn_ca (goodIn_r _ [70, 7, 8, 45, 71, 72, 73, 55, 13, 14, 5, 15, 16, 17, 18, 19, 20, 21, 22, 47, 48, 49, 50, 51, 52, 53, 54, 74, 75, 76, 77, 78, 79, 80, 81, 82, 83, 84, 85, 86, 87, 88, 89, 90, 46, 56, 57, 58, 91, 92, 93, 94, 95, 96, 97, 98, 99, 10, 100, 12, 26, 27, 28, 106, 107, 108, 109, 110, 111, 112, 113, 114, 115, 116, 117, 118, 119, 120, 121, 122] (by decide +kernel) (by decide +kernel)) (goodIn_sub (fun _ h => List.mem_cons_of_mem _ (List.mem_append_left _ (List.mem_append_left _ (List.mem_append_right _ h)))) (by decide +kernel))) (goodIn_sub (fun _ h => List.mem_cons_of_mem _ (List.mem_append_left _ (List.mem_append_right _ h))) (by decide +kernel))) (goodIn_sub (fun _ h => List.mem_cons_of_mem _ (List.mem_append_right _ h)) (by decide +kernel))
set_option maxRecDepth 20000 in
theorem gL_calls_X0_lend : GoodIn wsL_calls (wsV RL 26 RX0 yX0_lend wsX0_lend) := goodIn_app (goodIn_of _ (by decide +kernel)) ggL_calls_X0_lend
set_option maxRecDepth 20000 in
theorem ggL_calls_X0_sell : GoodIn wsL_calls wsX0_sell := goodIn_ca (goodIn_ca (goodIn_ca (goodIn_r _ [104, 7, 8, 45, 105, 46, 86, 13, 14, 5, 15, 16, 17, 18, 19, 20, 21, 22, 47, 48, 49, 50, 51, 52, 53, 54, 55, 74, 75, 76, 77, 71, 78, 79, 80, 81, 82, 83, 84, 85, 87, 88, 89, 90, 56, 57, 58, 91, 92, 93, 94, 95, 96, 97, 98, 99, 10, 100, 12, 26, 27, 28, 106, 107, 108, 109, 110, 111, 112, 113, 114, 115, 116, 117, 118, 119, 120, 121, 122] (by decide +kernel) (by decide +kernel)) (goodIn_sub (fun _ h => List.mem_cons_of_mem _ (List.mem_append_left _ (List.mem_append_left _ (List.mem_append_right _ h)))) (by decide +kernel))) (goodIn_sub (fun _ h => List.mem_cons_of_mem _ (List.mem_append_left _ (List.mem_append_right _ h))) (by decide +kernel))) (goodIn_sub (fun _ h => List.mem_cons_of_mem _ (List.mem_append_right _ h)) (by decide +kernel))
set_option maxRecDepth 20000 in
theorem gL_calls_X0_sell : GoodIn wsL_calls (wsV RL 29 RX0 yX0_sell wsX0_sell) := goodIn_app (goodIn_of _ (by decide +kernel)) ggL_calls_X0_sell
set_option maxRecDepth 20000 in
theorem ggL_flows_L_total : GoodIn wsL_flows wsL_total := goodIn_r _ [4] (by decide +kernel) (by decide +kernel)
set_option maxRecDepth 20000 in
theorem gL_flows_L_total : GoodIn wsL_flows (va_wsS RL 34 yL_total wsL_total) := goodIn_app (goodIn_of _ (by decide +kernel)) ggL_flows_L_total
set_option maxRecDepth 20000 in
theorem ggL_main_L_at : GoodIn wsL_main wsL_at := goodIn_r _ [4] (by decide +kernel) (by decide +kernel)
set_option maxRecDepth 20000 in
theorem gL_main_L_at : GoodIn wsL_main (va_wsS RL 40 yL_at wsL_at) := goodIn_app (goodIn_of _ (by decide +kernel)) ggL_main_L_at
set_option maxRecDepth 20000 in
theorem ggL_main_L_grams : GoodIn wsL_main wsL_grams := goodIn_r _ [7] (by decide +kernel) (by decide +kernel)
set_option maxRecDepth 20000 in
theorem gL_main_L_grams : GoodIn wsL_main (va_wsS RL 43 yL_grams wsL_grams) := goodIn_app (goodIn_of _ (by decide +kernel)) ggL_main_L_grams
set_option maxRecDepth 20000 in
theorem ggL_value_L_main : GoodIn wsL_value wsL_main := goodIn_r _ [4, 5, 6, 3, 7, 8, 9, 10] (by decide +kernel) (by decide +kernel)
set_option maxRecDepth 20000 in
theorem gL_value_L_main : GoodIn wsL_value (va_wsS RL 47 yL_main wsL_main) := goodIn_app (goodIn_of _ (by decide +kernel)) ggL_value_L_main
set_option maxRecDepth 20000 in
theorem ggL_mixes_L_low : GoodIn wsL_mixes wsL_low := goodIn_r _ [5, 6] (by decide +kernel) (by decide +kernel)
set_option maxRecDepth 20000 in
theorem gL_mixes_L_low : GoodIn wsL_mixes (va_wsS RL 51 yL_low wsL_low) := goodIn_app (goodIn_of _ (by decide +kernel)) ggL_mixes_L_low
set_option maxRecDepth 20000 in
theorem ggL_mixes_L_calls : GoodIn wsL_mixes wsL_calls := goodIn_ca (goodIn_ca (goodIn_ca (goodIn_r _ [9, 10, 11, 12, 13, 14, 15, 16, 17, 18, 19, 20, 21, 22, 23, 24, 25, 26, 27, 28, 29, 30, 31, 32, 33, 34, 35, 36, 37, 38, 39, 40, 41, 42, 43, 44, 45, 46, 47, 48, 49, 50, 51, 52, 53, 54, 55, 56, 57, 58, 59, 60, 61, 62, 63, 64, 65, 66, 67, 68, 69, 70, 71, 72, 73, 74, 75, 76, 77, 78, 79, 80, 81, 82, 83, 84, 85, 86, 87, 88, 89, 90, 91, 92, 93, 94, 95, 96, 97, 98, 99, 100, 101, 102, 103, 104, 105, 106, 107, 108, 109, 110, 111, 112, 113, 114, 131, 132, 133, 134, 135, 136, 137, 138, 139, 140, 141, 142, 143, 144, 145, 146, 147] (by decide +kernel) (by decide +kernel)) (goodIn_sub (fun _ h => List.mem_cons_of_mem _ (List.mem_append_left _ (List.mem_append_left _ (List.mem_append_right _ h)))) (by decide +kernel))) (goodIn_sub (fun _ h => List.mem_cons_of_mem _ (List.mem_append_left _ (List.mem_append_right _ h))) (by decide +kernel))) (goodIn_sub (fun _ h => List.mem_cons_of_mem _ (List.mem_append_right _ h)) (by decide +kernel))
set_option maxRecDepth 20000 in
theorem gL_mixes_L_calls : GoodIn wsL_mixes (va_wsS RL 54 yL_calls wsL_calls) := goodIn_app (goodIn_of _ (by decide +kernel)) ggL_mixes_L_calls
set_option maxRecDepth 20000 in
theorem ggL_mixes_L_total : GoodIn wsL_mixes wsL_total := goodIn_r _ [117] (by decide +kernel) (by decide +kernel)
set_option maxRecDepth 20000 in
theorem gL_mixes_L_total : GoodIn wsL_mixes (va_wsS RL 34 yL_total wsL_total) := goodIn_app (goodIn_of _ (by decide +kernel)) ggL_mixes_L_total
set_option maxRecDepth 20000 in
theorem ggL_mixes_L_flows : GoodIn wsL_mixes wsL_flows := goodIn_r _ [120, 115, 116, 4, 117] (by decide +kernel) (by decide +kernel)
set_option maxRecDepth 20000 in
theorem gL_mixes_L_flows : GoodIn wsL_mixes (va_wsS RL 58 yL_flows wsL_flows) := goodIn_app (goodIn_of _ (by decide +kernel)) ggL_mixes_L_flows
set_option maxRecDepth 20000 in
theorem ggL_mixes_X0_scrape : GoodIn wsL_mixes wsX0_scrape := goodIn_ca (goodIn_r _ [124, 18, 22, 23, 14, 24, 25, 26, 32, 33, 34, 72, 73, 74, 75, 19, 21, 35, 36, 37, 131, 132, 133, 134, 135, 136, 137, 138, 139, 140, 141, 142, 143, 144, 145, 146, 147] (by decide +kernel) (by decide +kernel)) (goodIn_sub (fun _ h => List.mem_cons_of_mem _ (List.mem_append_left _ (List.mem_append_right _ h))) (by decide +kernel))
set_option maxRecDepth 20000 in
theorem gL_mixes_X0_scrape : GoodIn wsL_mixes (wsV RL 62 RX0 yX0_scrape wsX0_scrape) := goodIn_app (goodIn_of _ (by decide +kernel)) ggL_mixes_X0_scrape
set_option maxRecDepth 20000 in
theorem ggL_mixes_L_at : GoodIn wsL_mixes wsL_at := goodIn_r _ [127] (by decide +kernel) (by decide +kernel)
set_option maxRecDepth 20000 in
theorem gL_mixes_L_at : GoodIn wsL_mixes (va_wsS RL 40 yL_at wsL_at) := goodIn_app (goodIn_of _ (by decide +kernel)) ggL_mixes_L_at
set_option maxRecDepth 20000 in
theorem ggL_mixes_L_grams : GoodIn wsL_mixes wsL_grams := goodIn_r _ [130] (by decide +kernel) (by decide +kernel)
set_option maxRecDepth 20000 in
theorem gL_mixes_L_grams : GoodIn wsL_mixes (va_wsS RL 43 yL_grams wsL_grams) := goodIn_app (goodIn_of _ (by decide +kernel)) ggL_mixes_L_grams
set_option maxRecDepth 20000 in
theorem ggL_trades_L_low : GoodIn wsL_trades wsL_low := goodIn_r _ [4, 5] (by decide +kernel) (by decide +kernel)
set_option maxRecDepth 20000 in
theorem gL_trades_L_low : GoodIn wsL_trades (va_wsS RL 51 yL_low wsL_low) := goodIn_app (goodIn_of _ (by decide +kernel)) ggL_trades_L_low
set_option maxRecDepth 20000 in
theorem ggL_trades_L_value : GoodIn wsL_trades wsL_value := goodIn_r _ [8, 9, 10, 3, 11, 12, 13, 14, 15, 16, 17] (by decide +kernel) (by decide +kernel)
set_option maxRecDepth 20000 in
theorem gL_trades_L_value : GoodIn wsL_trades (va_wsS RL 67 yL_value wsL_value) := goodIn_app (goodIn_of _ (by decide +kernel)) ggL_trades_L_value
set_option maxRecDepth 20000 in
theorem ggL_trades_L_calls : GoodIn wsL_trades wsL_calls := goodIn_ca (goodIn_ca (goodIn_ca (goodIn_r _ [20, 21, 22, 23, 24, 25, 26, 27, 28, 29, 30, 31, 32, 33, 34, 35, 36, 37, 38, 39, 40, 41, 42, 43, 44, 45, 46, 47, 48, 49, 50, 51, 52, 53, 54, 55, 56, 57, 58, 59, 60, 61, 62, 63, 64, 65, 66, 67, 68, 69, 70, 71, 72, 73, 74, 75, 76, 77, 78, 79, 80, 81, 82, 83, 84, 85, 86, 87, 88, 89, 90, 91, 92, 93, 94, 95, 96, 97, 98, 99, 100, 101, 102, 103, 104, 105, 106, 107, 108, 109, 110, 111, 112, 113, 114, 115, 116, 117, 118, 119, 120, 121, 122, 123, 124, 125, 131, 132, 133, 134, 135, 136, 137, 138, 139, 140, 141, 142, 143, 144, 145, 146, 147] (by decide +kernel) (by decide +kernel)) (goodIn_sub (fun _ h => List.mem_cons_of_mem _ (List.mem_append_left _ (List.mem_append_left _ (List.mem_append_right _ h)))) (by decide +kernel))) (goodIn_sub (fun _ h => List.mem_cons_of_mem _ (List.mem_append_left _ (List.mem_append_right _ h))) (by decide +kernel))) (goodIn_sub (fun _ h => List.mem_cons_of_mem _ (List.mem_append_right _ h)) (by decide +kernel))
set_option maxRecDepth 20000 in
theorem gL_trades_L_calls : GoodIn wsL_trades (va_wsS RL 54 yL_calls wsL_calls) := goodIn_app (goodIn_of _ (by decide +kernel)) ggL_trades_L_calls
set_option maxRecDepth 20000 in
theorem ggL_trades_X0_damp : GoodIn wsL_trades wsX0_damp := goodIn_ca (goodIn_ca (goodIn_r _ [129, 130, 33, 34, 25, 35, 36, 37, 38, 39, 40, 41, 42, 131, 132, 133, 134, 135, 136, 137, 138, 139, 140, 141, 142, 143, 144, 145, 146, 147] (by decide +kernel) (by decide +kernel)) (goodIn_sub (fun _ h => List.mem_cons_of_mem _ (List.mem_append_left _ (List.mem_append_right _ h))) (by decide +kernel))) (goodIn_sub (fun _ h => List.mem_cons_of_mem _ (List.mem_append_right _ h)) (by decide +kernel))
set_option maxRecDepth 20000 in
theorem gL_trades_X0_damp : GoodIn wsL_trades (wsV RL 70 RX0 yX0_damp wsX0_damp) := goodIn_app (goodIn_of _ (by decide +kernel)) ggL_trades_X0_damp
set_option maxRecDepth 20000 in
theorem ggL_same_L_low : GoodIn wsL_same wsL_low := goodIn_r _ [4, 5] (by decide +kernel) (by decide +kernel)
set_option maxRecDepth 20000 in
theorem gL_same_L_low : GoodIn wsL_same (va_wsS RL 51 yL_low wsL_low) := goodIn_app (goodIn_of _ (by decide +kernel)) ggL_same_L_low
set_option maxRecDepth 20000 in
theorem ggL_same_L_at : GoodIn wsL_same wsL_at := goodIn_r _ [8] (by decide +kernel) (by decide +kernel)
set_option maxRecDepth 20000 in
theorem gL_same_L_at : GoodIn wsL_same (va_wsS RL 40 yL_at wsL_at) := goodIn_app (goodIn_of _ (by decide +kernel)) ggL_same_L_at
set_option maxRecDepth 20000 in
theorem ggL_same_L_grams : GoodIn wsL_same wsL_grams := goodIn_r _ [11] (by decide +kernel) (by decide +kernel)
set_option maxRecDepth 20000 in
theorem gL_same_L_grams : GoodIn wsL_same (va_wsS RL 43 yL_grams wsL_grams) := goodIn_app (goodIn_of _ (by decide +kernel)) ggL_same_L_grams
set_option maxRecDepth 20000 in
theorem ggL_same_X0_has : GoodIn wsL_same wsX0_has := goodIn_ca (goodIn_r _ [16, 17, 18, 19, 20, 21, 15, 22, 23, 24, 25, 26, 27, 28, 29, 30, 31, 32, 33, 34, 151, 152, 153, 154, 155, 156, 157, 158, 159, 160, 161, 162, 163, 164, 165, 166, 167] (by decide +kernel) (by decide +kernel)) (goodIn_sub (fun _ h => List.mem_cons_of_mem _ (List.mem_append_left _ (List.mem_append_right _ h))) (by decide +kernel))
set_option maxRecDepth 20000 in
theorem gL_same_X0_has : GoodIn wsL_same (wsV RL 73 RX0 yX0_has wsX0_has) := goodIn_app (goodIn_of _ (by decide +kernel)) ggL_same_X0_has
set_option maxRecDepth 20000 in
theorem ggL_same_X0_layer : GoodIn wsL_same wsX0_layer := goodIn_ca (goodIn_r _ [38, 39, 40, 18, 19, 20, 21, 15, 22, 23, 24, 41, 42, 43, 32, 33, 34, 151, 152, 153, 154, 155, 156, 157, 158, 159, 160, 161, 162, 163, 164, 165, 166, 167] (by decide +kernel) (by decide +kernel)) (goodIn_sub (fun _ h => List.mem_cons_of_mem _ (List.mem_append_left _ (List.mem_append_right _ h))) (by decide +kernel))
set_option maxRecDepth 20000 in
theorem gL_same_X0_layer : GoodIn wsL_same (wsV RL 76 RX0 yX0_layer wsX0_layer) := goodIn_app (goodIn_of _ (by decide +kernel)) ggL_same_X0_layer
set_option maxRecDepth 20000 in
theorem ggL_same_L_total : GoodIn wsL_same wsL_total := goodIn_r _ [46] (by decide +kernel) (by decide +kernel)
set_option maxRecDepth 20000 in
theorem gL_same_L_total : GoodIn wsL_same (va_wsS RL 34 yL_total wsL_total) := goodIn_app (goodIn_of _ (by decide +kernel)) ggL_same_L_total
set_option maxRecDepth 20000 in
theorem ggL_same_X0_colour : GoodIn wsL_same wsX0_colour := goodIn_ca (goodIn_ca (goodIn_r _ [50, 17, 20, 21, 15, 22, 23, 24, 51, 52, 53, 54, 55, 25, 26, 27, 56, 57, 58, 59, 18, 19, 32, 33, 34, 60, 61, 62, 63, 64, 65, 151, 152, 153, 154, 155, 156, 157, 158, 159, 160, 161, 162, 163, 164, 165, 166, 167] (by decide +kernel) (by decide +kernel)) (goodIn_sub (fun _ h => List.mem_cons_of_mem _ (List.mem_append_left _ (List.mem_append_right _ h))) (by decide +kernel))) (goodIn_sub (fun _ h => List.mem_cons_of_mem _ (List.mem_append_right _ h)) (by decide +kernel))
set_option maxRecDepth 20000 in
theorem gL_same_X0_colour : GoodIn wsL_same (wsV RL 79 RX0 yX0_colour wsX0_colour) := goodIn_app (goodIn_of _ (by decide +kernel)) ggL_same_X0_colour
set_option maxRecDepth 20000 in
theorem ggL_same_L_shade : GoodIn wsL_same wsL_shade := goodIn_r _ [68] (by decide +kernel) (by decide +kernel)
set_option maxRecDepth 20000 in
theorem gL_same_L_shade : GoodIn wsL_same (va_wsS RL 82 yL_shade wsL_shade) := goodIn_app (goodIn_of _ (by decide +kernel)) ggL_same_L_shade
set_option maxRecDepth 20000 in
theorem ggL_same_X0_of : GoodIn wsL_same wsX0_of := goodIn_ca (goodIn_ca (goodIn_r _ [72, 39, 40, 73, 74, 75, 20, 21, 15, 22, 23, 24, 51, 52, 53, 54, 55, 76, 77, 78, 79, 80, 81, 82, 83, 84, 85, 86, 87, 88, 89, 90, 91, 92, 41, 42, 43, 93, 94, 95, 96, 97, 98, 99, 100, 101, 18, 65, 19, 32, 33, 34, 102, 103, 104, 105, 106, 107, 108, 109, 56, 57, 58, 59, 60, 61, 62, 63, 64, 151, 152, 153, 154, 155, 156, 157, 158, 159, 160, 161, 162, 163, 164, 165, 166, 167] (by decide +kernel) (by decide +kernel)) (goodIn_sub (fun _ h => List.mem_cons_of_mem _ (List.mem_append_left _ (List.mem_append_right _ h))) (by decide +kernel))) (goodIn_sub (fun _ h => List.mem_cons_of_mem _ (List.mem_append_right _ h)) (by decide +kernel))
set_option maxRecDepth 20000 in
theorem gL_same_X0_of : GoodIn wsL_same (wsV RL 85 RX0 yX0_of wsX0_of) := goodIn_app (goodIn_of _ (by decide +kernel)) ggL_same_X0_of
set_option maxRecDepth 20000 in
theorem ggL_same_L_value : GoodIn wsL_same wsL_value := goodIn_r _ [112, 113, 114, 3, 115, 6, 7, 8, 9, 10, 11] (by decide +kernel) (by decide +kernel)
set_option maxRecDepth 20000 in
theorem gL_same_L_value : GoodIn wsL_same (va_wsS RL 67 yL_value wsL_value) := goodIn_app (goodIn_of _ (by decide +kernel)) ggL_same_L_value
set_option maxRecDepth 20000 in
theorem ggL_same_L_main : GoodIn wsL_same wsL_main := goodIn_r _ [115, 6, 7, 3, 8, 9, 10, 11] (by decide +kernel) (by decide +kernel)
set_option maxRecDepth 20000 in
theorem gL_same_L_main : GoodIn wsL_same (va_wsS RL 47 yL_main wsL_main) := goodIn_app (goodIn_of _ (by decide +kernel)) ggL_same_L_main
set_option maxRecDepth 20000 in
theorem ggL_same_X0_paid : GoodIn wsL_same wsX0_paid := goodIn_ca (goodIn_r _ [119, 120, 20, 21, 15, 22, 23, 24, 151, 152, 153, 154, 155, 156, 157, 158, 159, 160, 161, 162, 163, 164, 165, 166, 167] (by decide +kernel) (by decide +kernel)) (goodIn_sub (fun _ h => List.mem_cons_of_mem _ (List.mem_append_left _ (List.mem_append_right _ h))) (by decide +kernel))
set_option maxRecDepth 20000 in
theorem gL_same_X0_paid : GoodIn wsL_same (wsV RL 88 RX0 yX0_paid wsX0_paid) := goodIn_app (goodIn_of _ (by decide +kernel)) ggL_same_X0_paid
set_option maxRecDepth 20000 in
theorem ggL_same_X0_left : GoodIn wsL_same wsX0_left := goodIn_ca (goodIn_r _ [124, 18, 125, 20, 21, 15, 22, 23, 24, 151, 152, 153, 154, 155, 156, 157, 158, 159, 160, 161, 162, 163, 164, 165, 166, 167] (by decide +kernel) (by decide +kernel)) (goodIn_sub (fun _ h => List.mem_cons_of_mem _ (List.mem_append_left _ (List.mem_append_right _ h))) (by decide +kernel))
set_option maxRecDepth 20000 in
theorem gL_same_X0_left : GoodIn wsL_same (wsV RL 91 RX0 yX0_left wsX0_left) := goodIn_app (goodIn_of _ (by decide +kernel)) ggL_same_X0_left
set_option maxRecDepth 20000 in
theorem ggL_same_X0_where : GoodIn wsL_same wsX0_where := goodIn_ca (goodIn_ca (goodIn_r _ [129, 18, 125, 20, 21, 15, 22, 23, 24, 51, 52, 53, 54, 55, 130, 131, 132, 133, 19, 32, 33, 34, 151, 152, 153, 154, 155, 156, 157, 158, 159, 160, 161, 162, 163, 164, 165, 166, 167] (by decide +kernel) (by decide +kernel)) (goodIn_sub (fun _ h => List.mem_cons_of_mem _ (List.mem_append_left _ (List.mem_append_right _ h))) (by decide +kernel))) (goodIn_sub (fun _ h => List.mem_cons_of_mem _ (List.mem_append_right _ h)) (by decide +kernel))
set_option maxRecDepth 20000 in
theorem gL_same_X0_where : GoodIn wsL_same (wsV RL 94 RX0 yX0_where wsX0_where) := goodIn_app (goodIn_of _ (by decide +kernel)) ggL_same_X0_where
set_option maxRecDepth 20000 in
theorem ggL_same_X0_recipe : GoodIn wsL_same wsX0_recipe := goodIn_ca (goodIn_r _ [137, 18, 125, 138, 139, 15, 140, 51, 52, 53, 54, 55, 141, 142, 143, 144, 60, 61, 62, 63, 64, 65, 145, 146, 147, 151, 152, 153, 154, 155, 156, 157, 158, 159, 160, 161, 162, 163, 164, 165, 166, 167] (by decide +kernel) (by decide +kernel)) (goodIn_sub (fun _ h => List.mem_cons_of_mem _ (List.mem_append_right _ h)) (by decide +kernel))
set_option maxRecDepth 20000 in
theorem gL_same_X0_recipe : GoodIn wsL_same (wsV RL 97 RX0 yX0_recipe wsX0_recipe) := goodIn_app (goodIn_of _ (by decide +kernel)) ggL_same_X0_recipe
set_option maxRecDepth 20000 in
theorem ggL_same_L_recipe : GoodIn wsL_same wsL_recipe := goodIn_r _ [150, 5] (by decide +kernel) (by decide +kernel)
set_option maxRecDepth 20000 in
theorem gL_same_L_recipe : GoodIn wsL_same (va_wsS RL 100 yL_recipe wsL_recipe) := goodIn_app (goodIn_of _ (by decide +kernel)) ggL_same_L_recipe
abbrev vwCl : List vw_C := [(RX0, TX0, 17)]

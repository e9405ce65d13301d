def RX0 : String := "AtelierBook"
def TX0 : u_T := fun k => match k with
  | 0 => ("AtelierBook", "pigmentCount", "I", false)
  | 1 => ("AtelierBook", "tubeCount", "I", false)
  | 2 => ("AtelierBook", "potCount", "I", false)
  | 3 => ("AtelierBook", "pictureCount", "I", false)
  | 4 => ("AtelierBook", "today", "I", false)
  | 5 => ("AtelierBook", "pigmentColours", "[I", true)
  | 6 => ("AtelierBook", "pigmentOfTube", "[I", true)
  | 7 => ("AtelierBook", "gramsInTube", "[I", true)
  | 8 => ("AtelierBook", "ledger", "[I", true)
  | 9 => ("AtelierBook", "layerCounts", "[I", true)
  | 10 => ("AtelierBook", "crackCounts", "[I", true)
  | 11 => ("AtelierBook", "latestPrices", "[I", true)
  | 12 => ("AtelierBook", "loanDays", "[I", true)
  | 13 => ("AtelierBook", "loanHouses", "[I", true)
  | 14 => ("AtelierBook", "loanCosts", "[I", true)
  | 15 => ("AtelierBook", "houseDamps", "[I", true)
  | _ => ("AtelierBook", "housePayments", "[I", true)
def tyX0 : Nat → FieldType := fun k => match k with
  | 0 => .int
  | 1 => .int
  | 2 => .int
  | 3 => .int
  | 4 => .int
  | 5 => .array .int
  | 6 => .array .int
  | 7 => .array .int
  | 8 => .array .int
  | 9 => .array .int
  | 10 => .array .int
  | 11 => .array .int
  | 12 => .array .int
  | 13 => .array .int
  | 14 => .array .int
  | 15 => .array .int
  | _ => .array .int
abbrev wsX00 : List Cond := u_ws RX0 TX0 17
theorem nmX0 : ∀ a, a < 17 → ∀ b, b < 17 → a ≠ b → (TX0 a).2.1 ≠ (TX0 b).2.1 := by decide +kernel
theorem tyX0_ok : ∀ k, k < 17 → parseFieldDescriptor (TX0 k).2.2.1 = some (tyX0 k) := by decide +kernel
abbrev cX0_init : ByteArray := prog_1_method_1_code
def yX0_init : MethodName := ⟨RX0, "<init>", "()V"⟩
abbrev cX0_pigment : ByteArray := prog_1_method_2_code
def yX0_pigment : MethodName := ⟨RX0, "pigment", "(III)I"⟩
abbrev cX0_tube : ByteArray := prog_1_method_3_code
def yX0_tube : MethodName := ⟨RX0, "tube", "(II)I"⟩
abbrev cX0_pot : ByteArray := prog_1_method_4_code
def yX0_pot : MethodName := ⟨RX0, "pot", "()I"⟩
abbrev cX0_squeeze : ByteArray := prog_1_method_5_code
def yX0_squeeze : MethodName := ⟨RX0, "squeeze", "(III)I"⟩
abbrev cX0_pour : ByteArray := prog_1_method_6_code
def yX0_pour : MethodName := ⟨RX0, "pour", "(III)I"⟩
abbrev cX0_scrape : ByteArray := prog_1_method_7_code
def yX0_scrape : MethodName := ⟨RX0, "scrape", "(I)I"⟩
abbrev cX0_picture : ByteArray := prog_1_method_8_code
def yX0_picture : MethodName := ⟨RX0, "picture", "()I"⟩
abbrev cX0_paint : ByteArray := prog_1_method_9_code
def yX0_paint : MethodName := ⟨RX0, "paint", "(III)I"⟩
abbrev cX0_clean : ByteArray := prog_1_method_10_code
def yX0_clean : MethodName := ⟨RX0, "clean", "(II)I"⟩
abbrev cX0_damp : ByteArray := prog_1_method_11_code
def yX0_damp : MethodName := ⟨RX0, "damp", "(II)I"⟩
abbrev cX0_lend : ByteArray := prog_1_method_12_code
def yX0_lend : MethodName := ⟨RX0, "lend", "(III)I"⟩
abbrev cX0_sell : ByteArray := prog_1_method_13_code
def yX0_sell : MethodName := ⟨RX0, "sell", "(II)I"⟩
abbrev cX0_pass : ByteArray := prog_1_method_14_code
def yX0_pass : MethodName := ⟨RX0, "pass", "(I)I"⟩
abbrev cX0_left : ByteArray := prog_1_method_15_code
def yX0_left : MethodName := ⟨RX0, "left", "(I)I"⟩
abbrev cX0_has : ByteArray := prog_1_method_16_code
def yX0_has : MethodName := ⟨RX0, "has", "(II)I"⟩
abbrev cX0_colour : ByteArray := prog_1_method_17_code
def yX0_colour : MethodName := ⟨RX0, "colour", "(II)I"⟩
abbrev cX0_of : ByteArray := prog_1_method_18_code
def yX0_of : MethodName := ⟨RX0, "of", "(II)I"⟩
abbrev cX0_layer : ByteArray := prog_1_method_19_code
def yX0_layer : MethodName := ⟨RX0, "layer", "(III)I"⟩
abbrev cX0_where : ByteArray := prog_1_method_20_code
def yX0_where : MethodName := ⟨RX0, "where", "(II)I"⟩
abbrev cX0_recipe : ByteArray := prog_1_method_21_code
def yX0_recipe : MethodName := ⟨RX0, "recipe", "(III)I"⟩
abbrev cX0_paid : ByteArray := prog_1_method_22_code
def yX0_paid : MethodName := ⟨RX0, "paid", "(I)I"⟩
abbrev cX0_checkNumber : ByteArray := prog_1_method_23_code
def yX0_checkNumber : MethodName := ⟨RX0, "checkNumber", "(II)V"⟩
abbrev cX0_checkRange : ByteArray := prog_1_method_24_code
def yX0_checkRange : MethodName := ⟨RX0, "checkRange", "(III)V"⟩
abbrev cX0_checkColour : ByteArray := prog_1_method_25_code
def yX0_checkColour : MethodName := ⟨RX0, "checkColour", "(III)V"⟩
abbrev cX0_checkAtHome : ByteArray := prog_1_method_26_code
def yX0_checkAtHome : MethodName := ⟨RX0, "checkAtHome", "(I)V"⟩
abbrev cX0_potRow : ByteArray := prog_1_method_27_code
def yX0_potRow : MethodName := ⟨RX0, "potRow", "(I)I"⟩
abbrev cX0_layerRow : ByteArray := prog_1_method_28_code
def yX0_layerRow : MethodName := ⟨RX0, "layerRow", "(II)I"⟩
abbrev cX0_place : ByteArray := prog_1_method_29_code
def yX0_place : MethodName := ⟨RX0, "place", "(II)I"⟩
abbrev cX0_sumOfRow : ByteArray := prog_1_method_30_code
def yX0_sumOfRow : MethodName := ⟨RX0, "sumOfRow", "(I)I"⟩
abbrev cX0_sumOfTube : ByteArray := prog_1_method_31_code
def yX0_sumOfTube : MethodName := ⟨RX0, "sumOfTube", "(III)I"⟩
abbrev cX0_move : ByteArray := prog_1_method_32_code
def yX0_move : MethodName := ⟨RX0, "move", "(III)Z"⟩
abbrev cX0_waste : ByteArray := prog_1_method_33_code
def yX0_waste : MethodName := ⟨RX0, "waste", "(I)I"⟩
abbrev cX0_colourOfTube : ByteArray := prog_1_method_34_code
def yX0_colourOfTube : MethodName := ⟨RX0, "colourOfTube", "(II)I"⟩
abbrev cX0_colourOfRow : ByteArray := prog_1_method_35_code
def yX0_colourOfRow : MethodName := ⟨RX0, "colourOfRow", "(II)I"⟩
abbrev cX0_gramsOfPigment : ByteArray := prog_1_method_36_code
def yX0_gramsOfPigment : MethodName := ⟨RX0, "gramsOfPigment", "(II)I"⟩
abbrev cX0_mainPigmentOfRow : ByteArray := prog_1_method_37_code
def yX0_mainPigmentOfRow : MethodName := ⟨RX0, "mainPigmentOfRow", "(I)I"⟩
abbrev cX0_mixed : ByteArray := prog_1_method_38_code
def yX0_mixed : MethodName := ⟨RX0, "mixed", "(IIII)I"⟩
abbrev cX0_square : ByteArray := prog_1_method_39_code
def yX0_square : MethodName := ⟨RX0, "square", "(I)I"⟩
abbrev cX0_isLent : ByteArray := prog_1_method_40_code
def yX0_isLent : MethodName := ⟨RX0, "isLent", "(I)Z"⟩
abbrev cX0_mainPigmentOf : ByteArray := prog_1_method_41_code
def yX0_mainPigmentOf : MethodName := ⟨RX0, "mainPigmentOf", "(I)I"⟩
abbrev cX0_lookOf : ByteArray := prog_1_method_42_code
def yX0_lookOf : MethodName := ⟨RX0, "lookOf", "(II)I"⟩
abbrev cX0_valueOf : ByteArray := prog_1_method_43_code
def yX0_valueOf : MethodName := ⟨RX0, "valueOf", "(I)I"⟩
abbrev cX0_averagePriceOfAlike : ByteArray := prog_1_method_44_code
def yX0_averagePriceOfAlike : MethodName := ⟨RX0, "averagePriceOfAlike", "(I)I"⟩
abbrev cX0_passForLoan : ByteArray := prog_1_method_45_code
def yX0_passForLoan : MethodName := ⟨RX0, "passForLoan", "(II)V"⟩
def RX1 : String := "AtelierBookModel"
def TX1 : u_T := fun k => match k with
  | 0 => ("AtelierBookModel", "thrown", "I", false)
  | 1 => ("AtelierBookModel", "pigments", "I", false)
  | 2 => ("AtelierBookModel", "shade", "[I", true)
  | 3 => ("AtelierBookModel", "tubes", "I", false)
  | 4 => ("AtelierBookModel", "pigmentOf", "[I", true)
  | 5 => ("AtelierBookModel", "left", "[I", true)
  | 6 => ("AtelierBookModel", "wasted", "[I", true)
  | 7 => ("AtelierBookModel", "pots", "I", false)
  | 8 => ("AtelierBookModel", "inPot", "[I", true)
  | 9 => ("AtelierBookModel", "pictures", "I", false)
  | 10 => ("AtelierBookModel", "layers", "[I", true)
  | 11 => ("AtelierBookModel", "inLayer", "[I", true)
  | 12 => ("AtelierBookModel", "cracks", "[I", true)
  | 13 => ("AtelierBookModel", "price", "[I", true)
  | 14 => ("AtelierBookModel", "house", "[I", true)
  | 15 => ("AtelierBookModel", "days", "[I", true)
  | 16 => ("AtelierBookModel", "cost", "[I", true)
  | 17 => ("AtelierBookModel", "damp", "[I", true)
  | 18 => ("AtelierBookModel", "paid", "[I", true)
  | 19 => ("AtelierBookModel", "today", "I", false)
  | 20 => ("AtelierBookModel", "flow", "[I", true)
  | _ => ("AtelierBookModel", "sums", "[I", true)
def tyX1 : Nat → FieldType := fun k => match k with
  | 0 => .int
  | 1 => .int
  | 2 => .array .int
  | 3 => .int
  | 4 => .array .int
  | 5 => .array .int
  | 6 => .array .int
  | 7 => .int
  | 8 => .array .int
  | 9 => .int
  | 10 => .array .int
  | 11 => .array .int
  | 12 => .array .int
  | 13 => .array .int
  | 14 => .array .int
  | 15 => .array .int
  | 16 => .array .int
  | 17 => .array .int
  | 18 => .array .int
  | 19 => .int
  | 20 => .array .int
  | _ => .array .int
abbrev wsX10 : List Cond := u_ws RX1 TX1 22
theorem nmX1 : ∀ a, a < 22 → ∀ b, b < 22 → a ≠ b → (TX1 a).2.1 ≠ (TX1 b).2.1 := by decide +kernel
theorem tyX1_ok : ∀ k, k < 22 → parseFieldDescriptor (TX1 k).2.2.1 = some (tyX1 k) := by decide +kernel
abbrev cX1_init : ByteArray := prog_3_method_1_code
def yX1_init : MethodName := ⟨RX1, "<init>", "()V"⟩
abbrev cX1_thrown : ByteArray := prog_3_method_2_code
def yX1_thrown : MethodName := ⟨RX1, "thrown", "()I"⟩
abbrev cX1_in : ByteArray := prog_3_method_3_code
def yX1_in : MethodName := ⟨RX1, "in", "(III)Z"⟩
abbrev cX1_areShades : ByteArray := prog_3_method_4_code
def yX1_areShades : MethodName := ⟨RX1, "areShades", "(III)Z"⟩
abbrev cX1_isTube : ByteArray := prog_3_method_5_code
def yX1_isTube : MethodName := ⟨RX1, "isTube", "(I)Z"⟩
abbrev cX1_isPot : ByteArray := prog_3_method_6_code
def yX1_isPot : MethodName := ⟨RX1, "isPot", "(I)Z"⟩
abbrev cX1_isPicture : ByteArray := prog_3_method_7_code
def yX1_isPicture : MethodName := ⟨RX1, "isPicture", "(I)Z"⟩
abbrev cX1_isHouse : ByteArray := prog_3_method_8_code
def yX1_isHouse : MethodName := ⟨RX1, "isHouse", "(I)Z"⟩
abbrev cX1_pigment : ByteArray := prog_3_method_9_code
def yX1_pigment : MethodName := ⟨RX1, "pigment", "(III)I"⟩
abbrev cX1_tube : ByteArray := prog_3_method_10_code
def yX1_tube : MethodName := ⟨RX1, "tube", "(II)I"⟩
abbrev cX1_pot : ByteArray := prog_3_method_11_code
def yX1_pot : MethodName := ⟨RX1, "pot", "()I"⟩
abbrev cX1_gramsOf : ByteArray := prog_3_method_12_code
def yX1_gramsOf : MethodName := ⟨RX1, "gramsOf", "(I)I"⟩
abbrev cX1_squeeze : ByteArray := prog_3_method_13_code
def yX1_squeeze : MethodName := ⟨RX1, "squeeze", "(III)I"⟩
abbrev cX1_flows : ByteArray := prog_3_method_14_code
def yX1_flows : MethodName := ⟨RX1, "flows", "(II)V"⟩
abbrev cX1_pour : ByteArray := prog_3_method_15_code
def yX1_pour : MethodName := ⟨RX1, "pour", "(III)I"⟩
abbrev cX1_scrape : ByteArray := prog_3_method_16_code
def yX1_scrape : MethodName := ⟨RX1, "scrape", "(I)I"⟩
abbrev cX1_picture : ByteArray := prog_3_method_17_code
def yX1_picture : MethodName := ⟨RX1, "picture", "()I"⟩
abbrev cX1_layerAt : ByteArray := prog_3_method_18_code
def yX1_layerAt : MethodName := ⟨RX1, "layerAt", "(II)I"⟩
abbrev cX1_paint : ByteArray := prog_3_method_19_code
def yX1_paint : MethodName := ⟨RX1, "paint", "(III)I"⟩
abbrev cX1_clean : ByteArray := prog_3_method_20_code
def yX1_clean : MethodName := ⟨RX1, "clean", "(II)I"⟩
abbrev cX1_main : ByteArray := prog_3_method_21_code
def yX1_main : MethodName := ⟨RX1, "main", "(I)I"⟩
abbrev cX1_look : ByteArray := prog_3_method_22_code
def yX1_look : MethodName := ⟨RX1, "look", "(II)I"⟩
abbrev cX1_value : ByteArray := prog_3_method_23_code
def yX1_value : MethodName := ⟨RX1, "value", "(I)I"⟩
abbrev cX1_damp : ByteArray := prog_3_method_24_code
def yX1_damp : MethodName := ⟨RX1, "damp", "(II)I"⟩
abbrev cX1_lend : ByteArray := prog_3_method_25_code
def yX1_lend : MethodName := ⟨RX1, "lend", "(III)I"⟩
abbrev cX1_sell : ByteArray := prog_3_method_26_code
def yX1_sell : MethodName := ⟨RX1, "sell", "(II)I"⟩
abbrev cX1_passOne : ByteArray := prog_3_method_27_code
def yX1_passOne : MethodName := ⟨RX1, "passOne", "()V"⟩
abbrev cX1_pass : ByteArray := prog_3_method_28_code
def yX1_pass : MethodName := ⟨RX1, "pass", "(I)I"⟩
abbrev cX1_left : ByteArray := prog_3_method_29_code
def yX1_left : MethodName := ⟨RX1, "left", "(I)I"⟩
abbrev cX1_has : ByteArray := prog_3_method_30_code
def yX1_has : MethodName := ⟨RX1, "has", "(II)I"⟩
abbrev cX1_colour : ByteArray := prog_3_method_31_code
def yX1_colour : MethodName := ⟨RX1, "colour", "(II)I"⟩
abbrev cX1_of : ByteArray := prog_3_method_32_code
def yX1_of : MethodName := ⟨RX1, "of", "(II)I"⟩
abbrev cX1_layer : ByteArray := prog_3_method_33_code
def yX1_layer : MethodName := ⟨RX1, "layer", "(III)I"⟩
abbrev cX1_onPictures : ByteArray := prog_3_method_34_code
def yX1_onPictures : MethodName := ⟨RX1, "onPictures", "(I)I"⟩
abbrev cX1_inPots : ByteArray := prog_3_method_35_code
def yX1_inPots : MethodName := ⟨RX1, "inPots", "(I)I"⟩
abbrev cX1_where : ByteArray := prog_3_method_36_code
def yX1_where : MethodName := ⟨RX1, "where", "(II)I"⟩
abbrev cX1_far : ByteArray := prog_3_method_37_code
def yX1_far : MethodName := ⟨RX1, "far", "(IIIII)I"⟩
abbrev cX1_recipe : ByteArray := prog_3_method_38_code
def yX1_recipe : MethodName := ⟨RX1, "recipe", "(III)I"⟩
abbrev cX1_paid : ByteArray := prog_3_method_39_code
def yX1_paid : MethodName := ⟨RX1, "paid", "(I)I"⟩
def RJ9 : String := "java/lang/Math"
def TJ9 : u_T := fun k => match k with
  | _ => ("", "", "", false)
def tyJ9 : Nat → FieldType := fun k => match k with
  | _ => .int
abbrev wsJ90 : List Cond := u_ws RJ9 TJ9 0
theorem nmJ9 : ∀ a, a < 0 → ∀ b, b < 0 → a ≠ b → (TJ9 a).2.1 ≠ (TJ9 b).2.1 := by decide +kernel
theorem tyJ9_ok : ∀ k, k < 0 → parseFieldDescriptor (TJ9 k).2.2.1 = some (tyJ9 k) := by decide +kernel
abbrev cJ9_abs_0f7a4 : ByteArray := prog_8_method_59_code
def yJ9_abs_0f7a4 : MethodName := ⟨RJ9, "abs", "(I)I"⟩
abbrev cJ9_max_7cf53 : ByteArray := prog_8_method_65_code
def yJ9_max_7cf53 : MethodName := ⟨RJ9, "max", "(II)I"⟩
abbrev cJ9_min_7cf53 : ByteArray := prog_8_method_69_code
def yJ9_min_7cf53 : MethodName := ⟨RJ9, "min", "(II)I"⟩
def RJ0 : String := "java/lang/String"
def TJ0 : u_T := fun k => match k with
  | _ => ("", "", "", false)
def tyJ0 : Nat → FieldType := fun k => match k with
  | _ => .int
abbrev wsJ00 : List Cond := u_ws RJ0 TJ0 0
theorem nmJ0 : ∀ a, a < 0 → ∀ b, b < 0 → a ≠ b → (TJ0 a).2.1 ≠ (TJ0 b).2.1 := by decide +kernel
theorem tyJ0_ok : ∀ k, k < 0 → parseFieldDescriptor (TJ0 k).2.2.1 = some (tyJ0 k) := by decide +kernel
def RL : String := "AtelierBookLaw"
abbrev cL_pigment : ByteArray := method_3_code
def yL_pigment : MethodName := ⟨RL, "pigment", "(LAtelierBook;III[J)I"⟩
abbrev cL_tube : ByteArray := method_4_code
def yL_tube : MethodName := ⟨RL, "tube", "(LAtelierBook;II[J)I"⟩
abbrev cL_pot : ByteArray := method_5_code
def yL_pot : MethodName := ⟨RL, "pot", "(LAtelierBook;[J)I"⟩
abbrev cL_squeeze : ByteArray := method_6_code
def yL_squeeze : MethodName := ⟨RL, "squeeze", "(LAtelierBook;III[J)I"⟩
abbrev cL_pour : ByteArray := method_7_code
def yL_pour : MethodName := ⟨RL, "pour", "(LAtelierBook;III[J)I"⟩
abbrev cL_scrape : ByteArray := method_8_code
def yL_scrape : MethodName := ⟨RL, "scrape", "(LAtelierBook;I[J)I"⟩
abbrev cL_picture : ByteArray := method_9_code
def yL_picture : MethodName := ⟨RL, "picture", "(LAtelierBook;[J)I"⟩
abbrev cL_paint : ByteArray := method_10_code
def yL_paint : MethodName := ⟨RL, "paint", "(LAtelierBook;III[J)I"⟩
abbrev cL_clean : ByteArray := method_11_code
def yL_clean : MethodName := ⟨RL, "clean", "(LAtelierBook;II[J)I"⟩
abbrev cL_damp : ByteArray := method_12_code
def yL_damp : MethodName := ⟨RL, "damp", "(LAtelierBook;II[J)I"⟩
abbrev cL_lend : ByteArray := method_13_code
def yL_lend : MethodName := ⟨RL, "lend", "(LAtelierBook;III[J)I"⟩
abbrev cL_sell : ByteArray := method_14_code
def yL_sell : MethodName := ⟨RL, "sell", "(LAtelierBook;II[J)I"⟩
abbrev cL_pass : ByteArray := method_15_code
def yL_pass : MethodName := ⟨RL, "pass", "(LAtelierBook;I[J)I"⟩
abbrev cL_left : ByteArray := method_16_code
def yL_left : MethodName := ⟨RL, "left", "(LAtelierBook;I[J)I"⟩
abbrev cL_has : ByteArray := method_17_code
def yL_has : MethodName := ⟨RL, "has", "(LAtelierBook;II[J)I"⟩
abbrev cL_colour : ByteArray := method_18_code
def yL_colour : MethodName := ⟨RL, "colour", "(LAtelierBook;II[J)I"⟩
abbrev cL_of : ByteArray := method_19_code
def yL_of : MethodName := ⟨RL, "of", "(LAtelierBook;II[J)I"⟩
abbrev cL_layer : ByteArray := method_20_code
def yL_layer : MethodName := ⟨RL, "layer", "(LAtelierBook;III[J)I"⟩
abbrev cL_where : ByteArray := method_21_code
def yL_where : MethodName := ⟨RL, "where", "(LAtelierBook;II[J)I"⟩
abbrev cL_recipe : ByteArray := method_22_code
def yL_recipe : MethodName := ⟨RL, "recipe", "(LAtelierBook;III[J)I"⟩
abbrev cL_paid : ByteArray := method_23_code
def yL_paid : MethodName := ⟨RL, "paid", "(LAtelierBook;I[J)I"⟩
abbrev cL_law : ByteArray := code
def yL_law : MethodName := ⟨RL, "law", "([I)Z"⟩
def wsX0_init : List Cond := .code yX0_init cX0_init 2 none :: ([.methodLink RX0 3 objectInit, .instanceMethod objectInit, .code objectInit ⟨#[0xb1]⟩ 1 none, .arrayClass .int, .fieldLink RX0 9 "AtelierBook" "pigmentColours" "[I", .fieldLink RX0 13 "AtelierBook" "pigmentOfTube" "[I", .fieldLink RX0 16 "AtelierBook" "gramsInTube" "[I", .fieldLink RX0 19 "AtelierBook" "ledger" "[I", .fieldLink RX0 22 "AtelierBook" "layerCounts" "[I", .fieldLink RX0 25 "AtelierBook" "crackCounts" "[I", .fieldLink RX0 28 "AtelierBook" "latestPrices" "[I", .fieldLink RX0 31 "AtelierBook" "loanDays" "[I", .fieldLink RX0 34 "AtelierBook" "loanHouses" "[I", .fieldLink RX0 37 "AtelierBook" "loanCosts" "[I", .fieldLink RX0 40 "AtelierBook" "houseDamps" "[I", .fieldLink RX0 43 "AtelierBook" "housePayments" "[I"] ++ wsX00)
def wsX0_checkRange : List Cond := .code yX0_checkRange cX0_checkRange 3 none :: ([.classLink RX0 88 "java/lang/IllegalArgumentException", .initialized "java/lang/IllegalArgumentException"] ++ (vx_atS RX0 92 "java/lang/IllegalArgumentException" ["java/lang/RuntimeException", "java/lang/Exception"]).filter goodWord)
def wsX0_checkColour : List Cond := .code yX0_checkColour cX0_checkColour 3 none :: ([.methodLink RX0 65 yX0_checkRange, .static yX0_checkRange, .initialized RX0, .code yX0_checkRange cX0_checkRange 3 none, .classLink RX0 88 "java/lang/IllegalArgumentException", .initialized "java/lang/IllegalArgumentException"] ++ (vx_atS RX0 92 "java/lang/IllegalArgumentException" ["java/lang/RuntimeException", "java/lang/Exception"]).filter goodWord)
def wsX0_pigment : List Cond := .code yX0_pigment cX0_pigment 5 (some .int) :: ([.classLink RX0 54 "java/lang/IllegalStateException", .initialized "java/lang/IllegalStateException", .fieldLink RX0 50 "AtelierBook" "pigmentCount" "I", .fieldLink RX0 9 "AtelierBook" "pigmentColours" "[I", .methodLink RX0 46 yX0_checkColour, .static yX0_checkColour, .initialized RX0, .code yX0_checkColour cX0_checkColour 3 none, .methodLink RX0 65 yX0_checkRange, .static yX0_checkRange, .code yX0_checkRange cX0_checkRange 3 none, .classLink RX0 88 "java/lang/IllegalArgumentException", .initialized "java/lang/IllegalArgumentException"] ++ wsX00 ++ (vx_atS RX0 58 "java/lang/IllegalStateException" ["java/lang/RuntimeException", "java/lang/Exception"]).filter goodWord ++ (vx_atS RX0 92 "java/lang/IllegalArgumentException" ["java/lang/RuntimeException", "java/lang/Exception"]).filter goodWord)
def wsX0_checkNumber : List Cond := .code yX0_checkNumber cX0_checkNumber 2 none :: ([.classLink RX0 161 "java/lang/IndexOutOfBoundsException", .initialized "java/lang/IndexOutOfBoundsException"] ++ (vx_atS RX0 165 "java/lang/IndexOutOfBoundsException" ["java/lang/RuntimeException", "java/lang/Exception"]).filter goodWord)
def wsX0_tube : List Cond := .code yX0_tube cX0_tube 3 (some .int) :: ([.classLink RX0 54 "java/lang/IllegalStateException", .initialized "java/lang/IllegalStateException", .fieldLink RX0 50 "AtelierBook" "pigmentCount" "I", .fieldLink RX0 68 "AtelierBook" "tubeCount" "I", .fieldLink RX0 13 "AtelierBook" "pigmentOfTube" "[I", .fieldLink RX0 16 "AtelierBook" "gramsInTube" "[I", .methodLink RX0 61 yX0_checkNumber, .static yX0_checkNumber, .initialized RX0, .code yX0_checkNumber cX0_checkNumber 2 none, .classLink RX0 161 "java/lang/IndexOutOfBoundsException", .initialized "java/lang/IndexOutOfBoundsException", .methodLink RX0 65 yX0_checkRange, .static yX0_checkRange, .code yX0_checkRange cX0_checkRange 3 none, .classLink RX0 88 "java/lang/IllegalArgumentException", .initialized "java/lang/IllegalArgumentException"] ++ wsX00 ++ (vx_atS RX0 58 "java/lang/IllegalStateException" ["java/lang/RuntimeException", "java/lang/Exception"]).filter goodWord ++ (vx_atS RX0 165 "java/lang/IndexOutOfBoundsException" ["java/lang/RuntimeException", "java/lang/Exception"]).filter goodWord ++ (vx_atS RX0 92 "java/lang/IllegalArgumentException" ["java/lang/RuntimeException", "java/lang/Exception"]).filter goodWord)
def wsX0_pot : List Cond := .code yX0_pot cX0_pot 1 (some .int) :: ([.classLink RX0 54 "java/lang/IllegalStateException", .initialized "java/lang/IllegalStateException", .fieldLink RX0 73 "AtelierBook" "potCount" "I"] ++ wsX00 ++ (vx_atS RX0 58 "java/lang/IllegalStateException" ["java/lang/RuntimeException", "java/lang/Exception"]).filter goodWord)
def wsX0_potRow : List Cond := .code yX0_potRow cX0_potRow 1 (some .int) :: ([])
def wsX0_place : List Cond := .code yX0_place cX0_place 2 (some .int) :: ([])
def wsX0_squeeze : List Cond := .code yX0_squeeze cX0_squeeze 4 (some .int) :: ([.classLink RX0 54 "java/lang/IllegalStateException", .initialized "java/lang/IllegalStateException", .fieldLink RX0 73 "AtelierBook" "potCount" "I", .fieldLink RX0 68 "AtelierBook" "tubeCount" "I", .fieldLink RX0 16 "AtelierBook" "gramsInTube" "[I", .fieldLink RX0 19 "AtelierBook" "ledger" "[I", .methodLink RX0 61 yX0_checkNumber, .static yX0_checkNumber, .initialized RX0, .code yX0_checkNumber cX0_checkNumber 2 none, .classLink RX0 161 "java/lang/IndexOutOfBoundsException", .initialized "java/lang/IndexOutOfBoundsException", .methodLink RX0 65 yX0_checkRange, .static yX0_checkRange, .code yX0_checkRange cX0_checkRange 3 none, .classLink RX0 88 "java/lang/IllegalArgumentException", .initialized "java/lang/IllegalArgumentException", .methodLink RX0 80 yX0_potRow, .static yX0_potRow, .code yX0_potRow cX0_potRow 1 (some .int), .methodLink RX0 84 yX0_place, .static yX0_place, .code yX0_place cX0_place 2 (some .int)] ++ wsX00 ++ (vx_atS RX0 58 "java/lang/IllegalStateException" ["java/lang/RuntimeException", "java/lang/Exception"]).filter goodWord ++ (vx_atS RX0 165 "java/lang/IndexOutOfBoundsException" ["java/lang/RuntimeException", "java/lang/Exception"]).filter goodWord ++ (vx_atS RX0 92 "java/lang/IllegalArgumentException" ["java/lang/RuntimeException", "java/lang/Exception"]).filter goodWord)
def wsX0_sumOfRow : List Cond := .code yX0_sumOfRow cX0_sumOfRow 4 (some .int) :: ([.fieldLink RX0 68 "AtelierBook" "tubeCount" "I", .fieldLink RX0 19 "AtelierBook" "ledger" "[I", .methodLink RX0 84 yX0_place, .static yX0_place, .initialized RX0, .code yX0_place cX0_place 2 (some .int)] ++ wsX00)
def wsX0_move : List Cond := .code yX0_move cX0_move 9 (some .boolean) :: ([.fieldLink RX0 68 "AtelierBook" "tubeCount" "I", .fieldLink RX0 19 "AtelierBook" "ledger" "[I", .methodLink RX0 99 yX0_sumOfRow, .instanceMethod yX0_sumOfRow, .selects RX0 yX0_sumOfRow yX0_sumOfRow, .initialized RX0, .code yX0_sumOfRow cX0_sumOfRow 4 (some .int), .methodLink RX0 84 yX0_place, .static yX0_place, .code yX0_place cX0_place 2 (some .int)] ++ wsX00)
def wsX0_pour_r1 : List Cond := [Cond.classLink RX0 88 "java/lang/IllegalArgumentException", Cond.initialized "java/lang/IllegalArgumentException", Cond.classLink RX0 54 "java/lang/IllegalStateException", Cond.initialized "java/lang/IllegalStateException", Cond.fieldLink RX0 73 "AtelierBook" "potCount" "I", Cond.methodLink RX0 61 yX0_checkNumber, Cond.static yX0_checkNumber, Cond.initialized RX0, Cond.code yX0_checkNumber cX0_checkNumber 2 none, Cond.classLink RX0 161 "java/lang/IndexOutOfBoundsException", Cond.initialized "java/lang/IndexOutOfBoundsException", Cond.methodLink RX0 65 yX0_checkRange, Cond.static yX0_checkRange, Cond.code yX0_checkRange cX0_checkRange 3 none, Cond.methodLink RX0 80 yX0_potRow, Cond.static yX0_potRow, Cond.code yX0_potRow cX0_potRow 1 (some .int), Cond.methodLink RX0 93 yX0_move, Cond.instanceMethod yX0_move, Cond.selects RX0 yX0_move yX0_move, Cond.code yX0_move cX0_move 9 (some .boolean), Cond.fieldLink RX0 68 "AtelierBook" "tubeCount" "I", Cond.fieldLink RX0 19 "AtelierBook" "ledger" "[I", Cond.methodLink RX0 99 yX0_sumOfRow]
def wsX0_pour_r2 : List Cond := [Cond.instanceMethod yX0_sumOfRow, Cond.selects RX0 yX0_sumOfRow yX0_sumOfRow, Cond.code yX0_sumOfRow cX0_sumOfRow 4 (some .int), Cond.methodLink RX0 84 yX0_place, Cond.static yX0_place, Cond.code yX0_place cX0_place 2 (some .int)]
def wsX0_pour : List Cond := .code yX0_pour cX0_pour 4 (some .int) :: ((wsX0_pour_r1 ++ wsX0_pour_r2) ++ wsX00 ++ (vx_atS RX0 92 "java/lang/IllegalArgumentException" ["java/lang/RuntimeException", "java/lang/Exception"]).filter goodWord ++ (vx_atS RX0 58 "java/lang/IllegalStateException" ["java/lang/RuntimeException", "java/lang/Exception"]).filter goodWord ++ (vx_atS RX0 165 "java/lang/IndexOutOfBoundsException" ["java/lang/RuntimeException", "java/lang/Exception"]).filter goodWord)
def wsX0_waste : List Cond := .code yX0_waste cX0_waste 5 (some .int) :: ([.fieldLink RX0 68 "AtelierBook" "tubeCount" "I", .fieldLink RX0 19 "AtelierBook" "ledger" "[I", .methodLink RX0 84 yX0_place, .static yX0_place, .initialized RX0, .code yX0_place cX0_place 2 (some .int)] ++ wsX00)
def wsX0_scrape : List Cond := .code yX0_scrape cX0_scrape 2 (some .int) :: ([.fieldLink RX0 73 "AtelierBook" "potCount" "I", .methodLink RX0 61 yX0_checkNumber, .static yX0_checkNumber, .initialized RX0, .code yX0_checkNumber cX0_checkNumber 2 none, .classLink RX0 161 "java/lang/IndexOutOfBoundsException", .initialized "java/lang/IndexOutOfBoundsException", .methodLink RX0 80 yX0_potRow, .static yX0_potRow, .code yX0_potRow cX0_potRow 1 (some .int), .methodLink RX0 102 yX0_waste, .instanceMethod yX0_waste, .selects RX0 yX0_waste yX0_waste, .code yX0_waste cX0_waste 5 (some .int), .fieldLink RX0 68 "AtelierBook" "tubeCount" "I", .fieldLink RX0 19 "AtelierBook" "ledger" "[I", .methodLink RX0 84 yX0_place, .static yX0_place, .code yX0_place cX0_place 2 (some .int)] ++ wsX00 ++ (vx_atS RX0 165 "java/lang/IndexOutOfBoundsException" ["java/lang/RuntimeException", "java/lang/Exception"]).filter goodWord)
def wsX0_picture : List Cond := .code yX0_picture cX0_picture 1 (some .int) :: ([.classLink RX0 54 "java/lang/IllegalStateException", .initialized "java/lang/IllegalStateException", .fieldLink RX0 105 "AtelierBook" "pictureCount" "I"] ++ wsX00 ++ (vx_atS RX0 58 "java/lang/IllegalStateException" ["java/lang/RuntimeException", "java/lang/Exception"]).filter goodWord)
def wsX0_isLent : List Cond := .code yX0_isLent cX0_isLent 2 (some .boolean) :: ([.fieldLink RX0 31 "AtelierBook" "loanDays" "[I"] ++ wsX00)
def wsX0_checkAtHome : List Cond := .code yX0_checkAtHome cX0_checkAtHome 2 none :: ([.classLink RX0 54 "java/lang/IllegalStateException", .initialized "java/lang/IllegalStateException", .methodLink RX0 143 yX0_isLent, .instanceMethod yX0_isLent, .selects RX0 yX0_isLent yX0_isLent, .initialized RX0, .code yX0_isLent cX0_isLent 2 (some .boolean), .fieldLink RX0 31 "AtelierBook" "loanDays" "[I"] ++ wsX00 ++ (vx_atS RX0 58 "java/lang/IllegalStateException" ["java/lang/RuntimeException", "java/lang/Exception"]).filter goodWord)
def wsX0_layerRow : List Cond := .code yX0_layerRow cX0_layerRow 2 (some .int) :: ([])
def wsX0_paint_r1 : List Cond := [Cond.classLink RX0 54 "java/lang/IllegalStateException", Cond.initialized "java/lang/IllegalStateException", Cond.fieldLink RX0 105 "AtelierBook" "pictureCount" "I", Cond.fieldLink RX0 73 "AtelierBook" "potCount" "I", Cond.fieldLink RX0 22 "AtelierBook" "layerCounts" "[I", Cond.methodLink RX0 61 yX0_checkNumber, Cond.static yX0_checkNumber, Cond.initialized RX0, Cond.code yX0_checkNumber cX0_checkNumber 2 none, Cond.classLink RX0 161 "java/lang/IndexOutOfBoundsException", Cond.initialized "java/lang/IndexOutOfBoundsException", Cond.methodLink RX0 65 yX0_checkRange, Cond.static yX0_checkRange, Cond.code yX0_checkRange cX0_checkRange 3 none, Cond.classLink RX0 88 "java/lang/IllegalArgumentException", Cond.initialized "java/lang/IllegalArgumentException", Cond.methodLink RX0 110 yX0_checkAtHome, Cond.instanceMethod yX0_checkAtHome, Cond.selects RX0 yX0_checkAtHome yX0_checkAtHome, Cond.code yX0_checkAtHome cX0_checkAtHome 2 none, Cond.methodLink RX0 143 yX0_isLent, Cond.instanceMethod yX0_isLent, Cond.selects RX0 yX0_isLent yX0_isLent, Cond.code yX0_isLent cX0_isLent 2 (some .boolean)]
def wsX0_paint_r2 : List Cond := [Cond.fieldLink RX0 31 "AtelierBook" "loanDays" "[I", Cond.methodLink RX0 80 yX0_potRow, Cond.static yX0_potRow, Cond.code yX0_potRow cX0_potRow 1 (some .int), Cond.methodLink RX0 116 yX0_layerRow, Cond.static yX0_layerRow, Cond.code yX0_layerRow cX0_layerRow 2 (some .int), Cond.methodLink RX0 93 yX0_move, Cond.instanceMethod yX0_move, Cond.selects RX0 yX0_move yX0_move, Cond.code yX0_move cX0_move 9 (some .boolean), Cond.fieldLink RX0 68 "AtelierBook" "tubeCount" "I", Cond.fieldLink RX0 19 "AtelierBook" "ledger" "[I", Cond.methodLink RX0 99 yX0_sumOfRow, Cond.instanceMethod yX0_sumOfRow, Cond.selects RX0 yX0_sumOfRow yX0_sumOfRow, Cond.code yX0_sumOfRow cX0_sumOfRow 4 (some .int), Cond.methodLink RX0 84 yX0_place, Cond.static yX0_place, Cond.code yX0_place cX0_place 2 (some .int)]
def wsX0_paint : List Cond := .code yX0_paint cX0_paint 4 (some .int) :: ((wsX0_paint_r1 ++ wsX0_paint_r2) ++ wsX00 ++ (vx_atS RX0 58 "java/lang/IllegalStateException" ["java/lang/RuntimeException", "java/lang/Exception"]).filter goodWord ++ (vx_atS RX0 165 "java/lang/IndexOutOfBoundsException" ["java/lang/RuntimeException", "java/lang/Exception"]).filter goodWord ++ (vx_atS RX0 92 "java/lang/IllegalArgumentException" ["java/lang/RuntimeException", "java/lang/Exception"]).filter goodWord)
def wsX0_clean_r1 : List Cond := [Cond.classLink RX0 54 "java/lang/IllegalStateException", Cond.initialized "java/lang/IllegalStateException", Cond.fieldLink RX0 105 "AtelierBook" "pictureCount" "I", Cond.fieldLink RX0 22 "AtelierBook" "layerCounts" "[I", Cond.methodLink RX0 61 yX0_checkNumber, Cond.static yX0_checkNumber, Cond.initialized RX0, Cond.code yX0_checkNumber cX0_checkNumber 2 none, Cond.classLink RX0 161 "java/lang/IndexOutOfBoundsException", Cond.initialized "java/lang/IndexOutOfBoundsException", Cond.methodLink RX0 65 yX0_checkRange, Cond.static yX0_checkRange, Cond.code yX0_checkRange cX0_checkRange 3 none, Cond.classLink RX0 88 "java/lang/IllegalArgumentException", Cond.initialized "java/lang/IllegalArgumentException", Cond.methodLink RX0 110 yX0_checkAtHome, Cond.instanceMethod yX0_checkAtHome, Cond.selects RX0 yX0_checkAtHome yX0_checkAtHome, Cond.code yX0_checkAtHome cX0_checkAtHome 2 none, Cond.methodLink RX0 143 yX0_isLent, Cond.instanceMethod yX0_isLent, Cond.selects RX0 yX0_isLent yX0_isLent, Cond.code yX0_isLent cX0_isLent 2 (some .boolean), Cond.fieldLink RX0 31 "AtelierBook" "loanDays" "[I"]
def wsX0_clean_r2 : List Cond := [Cond.methodLink RX0 116 yX0_layerRow, Cond.static yX0_layerRow, Cond.code yX0_layerRow cX0_layerRow 2 (some .int), Cond.methodLink RX0 102 yX0_waste, Cond.instanceMethod yX0_waste, Cond.selects RX0 yX0_waste yX0_waste, Cond.code yX0_waste cX0_waste 5 (some .int), Cond.fieldLink RX0 68 "AtelierBook" "tubeCount" "I", Cond.fieldLink RX0 19 "AtelierBook" "ledger" "[I", Cond.methodLink RX0 84 yX0_place, Cond.static yX0_place, Cond.code yX0_place cX0_place 2 (some .int)]
def wsX0_clean : List Cond := .code yX0_clean cX0_clean 5 (some .int) :: ((wsX0_clean_r1 ++ wsX0_clean_r2) ++ wsX00 ++ (vx_atS RX0 58 "java/lang/IllegalStateException" ["java/lang/RuntimeException", "java/lang/Exception"]).filter goodWord ++ (vx_atS RX0 165 "java/lang/IndexOutOfBoundsException" ["java/lang/RuntimeException", "java/lang/Exception"]).filter goodWord ++ (vx_atS RX0 92 "java/lang/IllegalArgumentException" ["java/lang/RuntimeException", "java/lang/Exception"]).filter goodWord)
def wsX0_damp : List Cond := .code yX0_damp cX0_damp 4 (some .int) :: ([.fieldLink RX0 40 "AtelierBook" "houseDamps" "[I", .methodLink RX0 61 yX0_checkNumber, .static yX0_checkNumber, .initialized RX0, .code yX0_checkNumber cX0_checkNumber 2 none, .classLink RX0 161 "java/lang/IndexOutOfBoundsException", .initialized "java/lang/IndexOutOfBoundsException", .methodLink RX0 65 yX0_checkRange, .static yX0_checkRange, .code yX0_checkRange cX0_checkRange 3 none, .classLink RX0 88 "java/lang/IllegalArgumentException", .initialized "java/lang/IllegalArgumentException"] ++ wsX00 ++ (vx_atS RX0 165 "java/lang/IndexOutOfBoundsException" ["java/lang/RuntimeException", "java/lang/Exception"]).filter goodWord ++ (vx_atS RX0 92 "java/lang/IllegalArgumentException" ["java/lang/RuntimeException", "java/lang/Exception"]).filter goodWord)
def wsX0_gramsOfPigment : List Cond := .code yX0_gramsOfPigment cX0_gramsOfPigment 5 (some .int) :: ([.fieldLink RX0 68 "AtelierBook" "tubeCount" "I", .fieldLink RX0 13 "AtelierBook" "pigmentOfTube" "[I", .fieldLink RX0 19 "AtelierBook" "ledger" "[I", .methodLink RX0 84 yX0_place, .static yX0_place, .initialized RX0, .code yX0_place cX0_place 2 (some .int)] ++ wsX00)
def wsX0_mainPigmentOfRow : List Cond := .code yX0_mainPigmentOfRow cX0_mainPigmentOfRow 6 (some .int) :: ([.fieldLink RX0 50 "AtelierBook" "pigmentCount" "I", .methodLink RX0 173 yX0_gramsOfPigment, .instanceMethod yX0_gramsOfPigment, .selects RX0 yX0_gramsOfPigment yX0_gramsOfPigment, .initialized RX0, .code yX0_gramsOfPigment cX0_gramsOfPigment 5 (some .int), .fieldLink RX0 68 "AtelierBook" "tubeCount" "I", .fieldLink RX0 13 "AtelierBook" "pigmentOfTube" "[I", .fieldLink RX0 19 "AtelierBook" "ledger" "[I", .methodLink RX0 84 yX0_place, .static yX0_place, .code yX0_place cX0_place 2 (some .int)] ++ wsX00)
def wsX0_mainPigmentOf : List Cond := .code yX0_mainPigmentOf cX0_mainPigmentOf 3 (some .int) :: ([.fieldLink RX0 22 "AtelierBook" "layerCounts" "[I", .methodLink RX0 116 yX0_layerRow, .static yX0_layerRow, .initialized RX0, .code yX0_layerRow cX0_layerRow 2 (some .int), .methodLink RX0 176 yX0_mainPigmentOfRow, .instanceMethod yX0_mainPigmentOfRow, .selects RX0 yX0_mainPigmentOfRow yX0_mainPigmentOfRow, .code yX0_mainPigmentOfRow cX0_mainPigmentOfRow 6 (some .int), .fieldLink RX0 50 "AtelierBook" "pigmentCount" "I", .methodLink RX0 173 yX0_gramsOfPigment, .instanceMethod yX0_gramsOfPigment, .selects RX0 yX0_gramsOfPigment yX0_gramsOfPigment, .code yX0_gramsOfPigment cX0_gramsOfPigment 5 (some .int), .fieldLink RX0 68 "AtelierBook" "tubeCount" "I", .fieldLink RX0 13 "AtelierBook" "pigmentOfTube" "[I", .fieldLink RX0 19 "AtelierBook" "ledger" "[I", .methodLink RX0 84 yX0_place, .static yX0_place, .code yX0_place cX0_place 2 (some .int)] ++ wsX00)
def wsX0_averagePriceOfAlike_r1 : List Cond := [Cond.fieldLink RX0 105 "AtelierBook" "pictureCount" "I", Cond.fieldLink RX0 28 "AtelierBook" "latestPrices" "[I", Cond.methodLink RX0 140 yX0_mainPigmentOf, Cond.instanceMethod yX0_mainPigmentOf, Cond.selects RX0 yX0_mainPigmentOf yX0_mainPigmentOf, Cond.initialized RX0, Cond.code yX0_mainPigmentOf cX0_mainPigmentOf 3 (some .int), Cond.fieldLink RX0 22 "AtelierBook" "layerCounts" "[I", Cond.methodLink RX0 116 yX0_layerRow, Cond.static yX0_layerRow, Cond.code yX0_layerRow cX0_layerRow 2 (some .int), Cond.methodLink RX0 176 yX0_mainPigmentOfRow, Cond.instanceMethod yX0_mainPigmentOfRow, Cond.selects RX0 yX0_mainPigmentOfRow yX0_mainPigmentOfRow, Cond.code yX0_mainPigmentOfRow cX0_mainPigmentOfRow 6 (some .int), Cond.fieldLink RX0 50 "AtelierBook" "pigmentCount" "I", Cond.methodLink RX0 173 yX0_gramsOfPigment, Cond.instanceMethod yX0_gramsOfPigment, Cond.selects RX0 yX0_gramsOfPigment yX0_gramsOfPigment, Cond.code yX0_gramsOfPigment cX0_gramsOfPigment 5 (some .int), Cond.fieldLink RX0 68 "AtelierBook" "tubeCount" "I", Cond.fieldLink RX0 13 "AtelierBook" "pigmentOfTube" "[I", Cond.fieldLink RX0 19 "AtelierBook" "ledger" "[I", Cond.methodLink RX0 84 yX0_place]
def wsX0_averagePriceOfAlike_r2 : List Cond := [Cond.static yX0_place, Cond.code yX0_place cX0_place 2 (some .int)]
def wsX0_averagePriceOfAlike : List Cond := .code yX0_averagePriceOfAlike cX0_averagePriceOfAlike 6 (some .int) :: ((wsX0_averagePriceOfAlike_r1 ++ wsX0_averagePriceOfAlike_r2) ++ wsX00)
def wsX0_valueOf_r1 : List Cond := [Cond.fieldLink RX0 25 "AtelierBook" "crackCounts" "[I", Cond.methodLink RX0 182 Lib.Math.max.name, Cond.static Lib.Math.max.name, Cond.initialized "java/lang/Math", Cond.code Lib.Math.max.name Lib.Math.max.code 2 (some .int), Cond.methodLink RX0 179 yX0_averagePriceOfAlike, Cond.instanceMethod yX0_averagePriceOfAlike, Cond.selects RX0 yX0_averagePriceOfAlike yX0_averagePriceOfAlike, Cond.initialized RX0, Cond.code yX0_averagePriceOfAlike cX0_averagePriceOfAlike 6 (some .int), Cond.fieldLink RX0 105 "AtelierBook" "pictureCount" "I", Cond.fieldLink RX0 28 "AtelierBook" "latestPrices" "[I", Cond.methodLink RX0 140 yX0_mainPigmentOf, Cond.instanceMethod yX0_mainPigmentOf, Cond.selects RX0 yX0_mainPigmentOf yX0_mainPigmentOf, Cond.code yX0_mainPigmentOf cX0_mainPigmentOf 3 (some .int), Cond.fieldLink RX0 22 "AtelierBook" "layerCounts" "[I", Cond.methodLink RX0 116 yX0_layerRow, Cond.static yX0_layerRow, Cond.code yX0_layerRow cX0_layerRow 2 (some .int), Cond.methodLink RX0 176 yX0_mainPigmentOfRow, Cond.instanceMethod yX0_mainPigmentOfRow, Cond.selects RX0 yX0_mainPigmentOfRow yX0_mainPigmentOfRow, Cond.code yX0_mainPigmentOfRow cX0_mainPigmentOfRow 6 (some .int)]
def wsX0_valueOf_r2 : List Cond := [Cond.fieldLink RX0 50 "AtelierBook" "pigmentCount" "I", Cond.methodLink RX0 173 yX0_gramsOfPigment, Cond.instanceMethod yX0_gramsOfPigment, Cond.selects RX0 yX0_gramsOfPigment yX0_gramsOfPigment, Cond.code yX0_gramsOfPigment cX0_gramsOfPigment 5 (some .int), Cond.fieldLink RX0 68 "AtelierBook" "tubeCount" "I", Cond.fieldLink RX0 13 "AtelierBook" "pigmentOfTube" "[I", Cond.fieldLink RX0 19 "AtelierBook" "ledger" "[I", Cond.methodLink RX0 84 yX0_place, Cond.static yX0_place, Cond.code yX0_place cX0_place 2 (some .int)]
def wsX0_valueOf : List Cond := .code yX0_valueOf cX0_valueOf 3 (some .int) :: ((wsX0_valueOf_r1 ++ wsX0_valueOf_r2) ++ wsX00)
def wsX0_lend_r1 : List Cond := [Cond.classLink RX0 54 "java/lang/IllegalStateException", Cond.initialized "java/lang/IllegalStateException", Cond.fieldLink RX0 105 "AtelierBook" "pictureCount" "I", Cond.fieldLink RX0 25 "AtelierBook" "crackCounts" "[I", Cond.fieldLink RX0 37 "AtelierBook" "loanCosts" "[I", Cond.fieldLink RX0 34 "AtelierBook" "loanHouses" "[I", Cond.fieldLink RX0 31 "AtelierBook" "loanDays" "[I", Cond.methodLink RX0 61 yX0_checkNumber, Cond.static yX0_checkNumber, Cond.initialized RX0, Cond.code yX0_checkNumber cX0_checkNumber 2 none, Cond.classLink RX0 161 "java/lang/IndexOutOfBoundsException", Cond.initialized "java/lang/IndexOutOfBoundsException", Cond.methodLink RX0 65 yX0_checkRange, Cond.static yX0_checkRange, Cond.code yX0_checkRange cX0_checkRange 3 none, Cond.classLink RX0 88 "java/lang/IllegalArgumentException", Cond.initialized "java/lang/IllegalArgumentException", Cond.methodLink RX0 110 yX0_checkAtHome, Cond.instanceMethod yX0_checkAtHome, Cond.selects RX0 yX0_checkAtHome yX0_checkAtHome, Cond.code yX0_checkAtHome cX0_checkAtHome 2 none, Cond.methodLink RX0 143 yX0_isLent, Cond.instanceMethod yX0_isLent]
def wsX0_lend_r2 : List Cond := [Cond.selects RX0 yX0_isLent yX0_isLent, Cond.code yX0_isLent cX0_isLent 2 (some .boolean), Cond.methodLink RX0 123 yX0_valueOf, Cond.instanceMethod yX0_valueOf, Cond.selects RX0 yX0_valueOf yX0_valueOf, Cond.code yX0_valueOf cX0_valueOf 3 (some .int), Cond.methodLink RX0 182 Lib.Math.max.name, Cond.static Lib.Math.max.name, Cond.initialized "java/lang/Math", Cond.code Lib.Math.max.name Lib.Math.max.code 2 (some .int), Cond.methodLink RX0 179 yX0_averagePriceOfAlike, Cond.instanceMethod yX0_averagePriceOfAlike, Cond.selects RX0 yX0_averagePriceOfAlike yX0_averagePriceOfAlike, Cond.code yX0_averagePriceOfAlike cX0_averagePriceOfAlike 6 (some .int), Cond.fieldLink RX0 28 "AtelierBook" "latestPrices" "[I", Cond.methodLink RX0 140 yX0_mainPigmentOf, Cond.instanceMethod yX0_mainPigmentOf, Cond.selects RX0 yX0_mainPigmentOf yX0_mainPigmentOf, Cond.code yX0_mainPigmentOf cX0_mainPigmentOf 3 (some .int), Cond.fieldLink RX0 22 "AtelierBook" "layerCounts" "[I", Cond.methodLink RX0 116 yX0_layerRow, Cond.static yX0_layerRow, Cond.code yX0_layerRow cX0_layerRow 2 (some .int), Cond.methodLink RX0 176 yX0_mainPigmentOfRow]
def wsX0_lend_r3 : List Cond := [Cond.instanceMethod yX0_mainPigmentOfRow, Cond.selects RX0 yX0_mainPigmentOfRow yX0_mainPigmentOfRow, Cond.code yX0_mainPigmentOfRow cX0_mainPigmentOfRow 6 (some .int), Cond.fieldLink RX0 50 "AtelierBook" "pigmentCount" "I", Cond.methodLink RX0 173 yX0_gramsOfPigment, Cond.instanceMethod yX0_gramsOfPigment, Cond.selects RX0 yX0_gramsOfPigment yX0_gramsOfPigment, Cond.code yX0_gramsOfPigment cX0_gramsOfPigment 5 (some .int), Cond.fieldLink RX0 68 "AtelierBook" "tubeCount" "I", Cond.fieldLink RX0 13 "AtelierBook" "pigmentOfTube" "[I", Cond.fieldLink RX0 19 "AtelierBook" "ledger" "[I", Cond.methodLink RX0 84 yX0_place, Cond.static yX0_place, Cond.code yX0_place cX0_place 2 (some .int)]
def wsX0_lend : List Cond := .code yX0_lend cX0_lend 4 (some .int) :: ((wsX0_lend_r1 ++ (wsX0_lend_r2 ++ wsX0_lend_r3)) ++ wsX00 ++ (vx_atS RX0 58 "java/lang/IllegalStateException" ["java/lang/RuntimeException", "java/lang/Exception"]).filter goodWord ++ (vx_atS RX0 165 "java/lang/IndexOutOfBoundsException" ["java/lang/RuntimeException", "java/lang/Exception"]).filter goodWord ++ (vx_atS RX0 92 "java/lang/IllegalArgumentException" ["java/lang/RuntimeException", "java/lang/Exception"]).filter goodWord)
def wsX0_sell_r1 : List Cond := [Cond.classLink RX0 54 "java/lang/IllegalStateException", Cond.initialized "java/lang/IllegalStateException", Cond.fieldLink RX0 105 "AtelierBook" "pictureCount" "I", Cond.constant RX0 126 (100000), Cond.fieldLink RX0 22 "AtelierBook" "layerCounts" "[I", Cond.fieldLink RX0 28 "AtelierBook" "latestPrices" "[I", Cond.methodLink RX0 61 yX0_checkNumber, Cond.static yX0_checkNumber, Cond.initialized RX0, Cond.code yX0_checkNumber cX0_checkNumber 2 none, Cond.classLink RX0 161 "java/lang/IndexOutOfBoundsException", Cond.initialized "java/lang/IndexOutOfBoundsException", Cond.methodLink RX0 65 yX0_checkRange, Cond.static yX0_checkRange, Cond.code yX0_checkRange cX0_checkRange 3 none, Cond.classLink RX0 88 "java/lang/IllegalArgumentException", Cond.initialized "java/lang/IllegalArgumentException", Cond.methodLink RX0 110 yX0_checkAtHome, Cond.instanceMethod yX0_checkAtHome, Cond.selects RX0 yX0_checkAtHome yX0_checkAtHome, Cond.code yX0_checkAtHome cX0_checkAtHome 2 none, Cond.methodLink RX0 143 yX0_isLent, Cond.instanceMethod yX0_isLent, Cond.selects RX0 yX0_isLent yX0_isLent]
def wsX0_sell_r2 : List Cond := [Cond.code yX0_isLent cX0_isLent 2 (some .boolean), Cond.fieldLink RX0 31 "AtelierBook" "loanDays" "[I", Cond.methodLink RX0 123 yX0_valueOf, Cond.instanceMethod yX0_valueOf, Cond.selects RX0 yX0_valueOf yX0_valueOf, Cond.code yX0_valueOf cX0_valueOf 3 (some .int), Cond.fieldLink RX0 25 "AtelierBook" "crackCounts" "[I", Cond.methodLink RX0 182 Lib.Math.max.name, Cond.static Lib.Math.max.name, Cond.initialized "java/lang/Math", Cond.code Lib.Math.max.name Lib.Math.max.code 2 (some .int), Cond.methodLink RX0 179 yX0_averagePriceOfAlike, Cond.instanceMethod yX0_averagePriceOfAlike, Cond.selects RX0 yX0_averagePriceOfAlike yX0_averagePriceOfAlike, Cond.code yX0_averagePriceOfAlike cX0_averagePriceOfAlike 6 (some .int), Cond.methodLink RX0 140 yX0_mainPigmentOf, Cond.instanceMethod yX0_mainPigmentOf, Cond.selects RX0 yX0_mainPigmentOf yX0_mainPigmentOf, Cond.code yX0_mainPigmentOf cX0_mainPigmentOf 3 (some .int), Cond.methodLink RX0 116 yX0_layerRow, Cond.static yX0_layerRow, Cond.code yX0_layerRow cX0_layerRow 2 (some .int), Cond.methodLink RX0 176 yX0_mainPigmentOfRow, Cond.instanceMethod yX0_mainPigmentOfRow]
def wsX0_sell_r3 : List Cond := [Cond.selects RX0 yX0_mainPigmentOfRow yX0_mainPigmentOfRow, Cond.code yX0_mainPigmentOfRow cX0_mainPigmentOfRow 6 (some .int), Cond.fieldLink RX0 50 "AtelierBook" "pigmentCount" "I", Cond.methodLink RX0 173 yX0_gramsOfPigment, Cond.instanceMethod yX0_gramsOfPigment, Cond.selects RX0 yX0_gramsOfPigment yX0_gramsOfPigment, Cond.code yX0_gramsOfPigment cX0_gramsOfPigment 5 (some .int), Cond.fieldLink RX0 68 "AtelierBook" "tubeCount" "I", Cond.fieldLink RX0 13 "AtelierBook" "pigmentOfTube" "[I", Cond.fieldLink RX0 19 "AtelierBook" "ledger" "[I", Cond.methodLink RX0 84 yX0_place, Cond.static yX0_place, Cond.code yX0_place cX0_place 2 (some .int)]
def wsX0_sell : List Cond := .code yX0_sell cX0_sell 3 (some .int) :: ((wsX0_sell_r1 ++ (wsX0_sell_r2 ++ wsX0_sell_r3)) ++ wsX00 ++ (vx_atS RX0 58 "java/lang/IllegalStateException" ["java/lang/RuntimeException", "java/lang/Exception"]).filter goodWord ++ (vx_atS RX0 165 "java/lang/IndexOutOfBoundsException" ["java/lang/RuntimeException", "java/lang/Exception"]).filter goodWord ++ (vx_atS RX0 92 "java/lang/IllegalArgumentException" ["java/lang/RuntimeException", "java/lang/Exception"]).filter goodWord)
def wsX0_passForLoan : List Cond := .code yX0_passForLoan cX0_passForLoan 5 none :: ([.fieldLink RX0 31 "AtelierBook" "loanDays" "[I", .methodLink RX0 187 Lib.Math.min.name, .static Lib.Math.min.name, .initialized "java/lang/Math", .code Lib.Math.min.name Lib.Math.min.code 2 (some .int), .fieldLink RX0 34 "AtelierBook" "loanHouses" "[I", .fieldLink RX0 40 "AtelierBook" "houseDamps" "[I", .methodLink RX0 190 Lib.Math.abs.name, .static Lib.Math.abs.name, .code Lib.Math.abs.name Lib.Math.abs.code 1 (some .int), .fieldLink RX0 25 "AtelierBook" "crackCounts" "[I", .fieldLink RX0 43 "AtelierBook" "housePayments" "[I", .fieldLink RX0 37 "AtelierBook" "loanCosts" "[I"] ++ wsX00)
def wsX0_pass_r1 : List Cond := [Cond.classLink RX0 54 "java/lang/IllegalStateException", Cond.initialized "java/lang/IllegalStateException", Cond.fieldLink RX0 129 "AtelierBook" "today" "I", Cond.fieldLink RX0 105 "AtelierBook" "pictureCount" "I", Cond.methodLink RX0 65 yX0_checkRange, Cond.static yX0_checkRange, Cond.initialized RX0, Cond.code yX0_checkRange cX0_checkRange 3 none, Cond.classLink RX0 88 "java/lang/IllegalArgumentException", Cond.initialized "java/lang/IllegalArgumentException", Cond.methodLink RX0 134 yX0_passForLoan, Cond.instanceMethod yX0_passForLoan, Cond.selects RX0 yX0_passForLoan yX0_passForLoan, Cond.code yX0_passForLoan cX0_passForLoan 5 none, Cond.fieldLink RX0 31 "AtelierBook" "loanDays" "[I", Cond.methodLink RX0 187 Lib.Math.min.name, Cond.static Lib.Math.min.name, Cond.initialized "java/lang/Math", Cond.code Lib.Math.min.name Lib.Math.min.code 2 (some .int), Cond.fieldLink RX0 34 "AtelierBook" "loanHouses" "[I", Cond.fieldLink RX0 40 "AtelierBook" "houseDamps" "[I", Cond.methodLink RX0 190 Lib.Math.abs.name, Cond.static Lib.Math.abs.name, Cond.code Lib.Math.abs.name Lib.Math.abs.code 1 (some .int)]
def wsX0_pass_r2 : List Cond := [Cond.fieldLink RX0 25 "AtelierBook" "crackCounts" "[I", Cond.fieldLink RX0 43 "AtelierBook" "housePayments" "[I", Cond.fieldLink RX0 37 "AtelierBook" "loanCosts" "[I"]
def wsX0_pass : List Cond := .code yX0_pass cX0_pass 3 (some .int) :: ((wsX0_pass_r1 ++ wsX0_pass_r2) ++ wsX00 ++ (vx_atS RX0 58 "java/lang/IllegalStateException" ["java/lang/RuntimeException", "java/lang/Exception"]).filter goodWord ++ (vx_atS RX0 92 "java/lang/IllegalArgumentException" ["java/lang/RuntimeException", "java/lang/Exception"]).filter goodWord)
def wsX0_left : List Cond := .code yX0_left cX0_left 2 (some .int) :: ([.fieldLink RX0 68 "AtelierBook" "tubeCount" "I", .fieldLink RX0 16 "AtelierBook" "gramsInTube" "[I", .methodLink RX0 61 yX0_checkNumber, .static yX0_checkNumber, .initialized RX0, .code yX0_checkNumber cX0_checkNumber 2 none, .classLink RX0 161 "java/lang/IndexOutOfBoundsException", .initialized "java/lang/IndexOutOfBoundsException"] ++ wsX00 ++ (vx_atS RX0 165 "java/lang/IndexOutOfBoundsException" ["java/lang/RuntimeException", "java/lang/Exception"]).filter goodWord)
def wsX0_has : List Cond := .code yX0_has cX0_has 3 (some .int) :: ([.fieldLink RX0 73 "AtelierBook" "potCount" "I", .fieldLink RX0 68 "AtelierBook" "tubeCount" "I", .fieldLink RX0 19 "AtelierBook" "ledger" "[I", .methodLink RX0 61 yX0_checkNumber, .static yX0_checkNumber, .initialized RX0, .code yX0_checkNumber cX0_checkNumber 2 none, .classLink RX0 161 "java/lang/IndexOutOfBoundsException", .initialized "java/lang/IndexOutOfBoundsException", .methodLink RX0 80 yX0_potRow, .static yX0_potRow, .code yX0_potRow cX0_potRow 1 (some .int), .methodLink RX0 99 yX0_sumOfRow, .instanceMethod yX0_sumOfRow, .selects RX0 yX0_sumOfRow yX0_sumOfRow, .code yX0_sumOfRow cX0_sumOfRow 4 (some .int), .methodLink RX0 84 yX0_place, .static yX0_place, .code yX0_place cX0_place 2 (some .int)] ++ wsX00 ++ (vx_atS RX0 165 "java/lang/IndexOutOfBoundsException" ["java/lang/RuntimeException", "java/lang/Exception"]).filter goodWord)
def wsX0_colourOfTube : List Cond := .code yX0_colourOfTube cX0_colourOfTube 3 (some .int) :: ([.fieldLink RX0 9 "AtelierBook" "pigmentColours" "[I", .fieldLink RX0 13 "AtelierBook" "pigmentOfTube" "[I"] ++ wsX00)
def wsX0_colourOfRow : List Cond := .code yX0_colourOfRow cX0_colourOfRow 7 (some .int) :: ([.fieldLink RX0 68 "AtelierBook" "tubeCount" "I", .fieldLink RX0 19 "AtelierBook" "ledger" "[I", .methodLink RX0 84 yX0_place, .static yX0_place, .initialized RX0, .code yX0_place cX0_place 2 (some .int), .methodLink RX0 170 yX0_colourOfTube, .instanceMethod yX0_colourOfTube, .selects RX0 yX0_colourOfTube yX0_colourOfTube, .code yX0_colourOfTube cX0_colourOfTube 3 (some .int), .fieldLink RX0 9 "AtelierBook" "pigmentColours" "[I", .fieldLink RX0 13 "AtelierBook" "pigmentOfTube" "[I"] ++ wsX00)
def wsX0_colour_r1 : List Cond := [Cond.fieldLink RX0 73 "AtelierBook" "potCount" "I", Cond.methodLink RX0 61 yX0_checkNumber, Cond.static yX0_checkNumber, Cond.initialized RX0, Cond.code yX0_checkNumber cX0_checkNumber 2 none, Cond.classLink RX0 161 "java/lang/IndexOutOfBoundsException", Cond.initialized "java/lang/IndexOutOfBoundsException", Cond.methodLink RX0 65 yX0_checkRange, Cond.static yX0_checkRange, Cond.code yX0_checkRange cX0_checkRange 3 none, Cond.classLink RX0 88 "java/lang/IllegalArgumentException", Cond.initialized "java/lang/IllegalArgumentException", Cond.methodLink RX0 80 yX0_potRow, Cond.static yX0_potRow, Cond.code yX0_potRow cX0_potRow 1 (some .int), Cond.methodLink RX0 137 yX0_colourOfRow, Cond.instanceMethod yX0_colourOfRow, Cond.selects RX0 yX0_colourOfRow yX0_colourOfRow, Cond.code yX0_colourOfRow cX0_colourOfRow 7 (some .int), Cond.fieldLink RX0 68 "AtelierBook" "tubeCount" "I", Cond.fieldLink RX0 19 "AtelierBook" "ledger" "[I", Cond.methodLink RX0 84 yX0_place, Cond.static yX0_place, Cond.code yX0_place cX0_place 2 (some .int)]
def wsX0_colour_r2 : List Cond := [Cond.methodLink RX0 170 yX0_colourOfTube, Cond.instanceMethod yX0_colourOfTube, Cond.selects RX0 yX0_colourOfTube yX0_colourOfTube, Cond.code yX0_colourOfTube cX0_colourOfTube 3 (some .int), Cond.fieldLink RX0 9 "AtelierBook" "pigmentColours" "[I", Cond.fieldLink RX0 13 "AtelierBook" "pigmentOfTube" "[I"]
def wsX0_colour : List Cond := .code yX0_colour cX0_colour 3 (some .int) :: ((wsX0_colour_r1 ++ wsX0_colour_r2) ++ wsX00 ++ (vx_atS RX0 165 "java/lang/IndexOutOfBoundsException" ["java/lang/RuntimeException", "java/lang/Exception"]).filter goodWord ++ (vx_atS RX0 92 "java/lang/IllegalArgumentException" ["java/lang/RuntimeException", "java/lang/Exception"]).filter goodWord)
def wsX0_lookOf : List Cond := .code yX0_lookOf cX0_lookOf 4 (some .int) :: ([.fieldLink RX0 22 "AtelierBook" "layerCounts" "[I", .methodLink RX0 116 yX0_layerRow, .static yX0_layerRow, .initialized RX0, .code yX0_layerRow cX0_layerRow 2 (some .int), .methodLink RX0 137 yX0_colourOfRow, .instanceMethod yX0_colourOfRow, .selects RX0 yX0_colourOfRow yX0_colourOfRow, .code yX0_colourOfRow cX0_colourOfRow 7 (some .int), .fieldLink RX0 68 "AtelierBook" "tubeCount" "I", .fieldLink RX0 19 "AtelierBook" "ledger" "[I", .methodLink RX0 84 yX0_place, .static yX0_place, .code yX0_place cX0_place 2 (some .int), .methodLink RX0 170 yX0_colourOfTube, .instanceMethod yX0_colourOfTube, .selects RX0 yX0_colourOfTube yX0_colourOfTube, .code yX0_colourOfTube cX0_colourOfTube 3 (some .int), .fieldLink RX0 9 "AtelierBook" "pigmentColours" "[I", .fieldLink RX0 13 "AtelierBook" "pigmentOfTube" "[I"] ++ wsX00)
def wsX0_of_r1 : List Cond := [Cond.fieldLink RX0 105 "AtelierBook" "pictureCount" "I", Cond.fieldLink RX0 22 "AtelierBook" "layerCounts" "[I", Cond.fieldLink RX0 25 "AtelierBook" "crackCounts" "[I", Cond.fieldLink RX0 34 "AtelierBook" "loanHouses" "[I", Cond.fieldLink RX0 31 "AtelierBook" "loanDays" "[I", Cond.methodLink RX0 61 yX0_checkNumber, Cond.static yX0_checkNumber, Cond.initialized RX0, Cond.code yX0_checkNumber cX0_checkNumber 2 none, Cond.classLink RX0 161 "java/lang/IndexOutOfBoundsException", Cond.initialized "java/lang/IndexOutOfBoundsException", Cond.methodLink RX0 65 yX0_checkRange, Cond.static yX0_checkRange, Cond.code yX0_checkRange cX0_checkRange 3 none, Cond.classLink RX0 88 "java/lang/IllegalArgumentException", Cond.initialized "java/lang/IllegalArgumentException", Cond.methodLink RX0 123 yX0_valueOf, Cond.instanceMethod yX0_valueOf, Cond.selects RX0 yX0_valueOf yX0_valueOf, Cond.code yX0_valueOf cX0_valueOf 3 (some .int), Cond.methodLink RX0 182 Lib.Math.max.name, Cond.static Lib.Math.max.name, Cond.initialized "java/lang/Math", Cond.code Lib.Math.max.name Lib.Math.max.code 2 (some .int)]
def wsX0_of_r2 : List Cond := [Cond.methodLink RX0 179 yX0_averagePriceOfAlike, Cond.instanceMethod yX0_averagePriceOfAlike, Cond.selects RX0 yX0_averagePriceOfAlike yX0_averagePriceOfAlike, Cond.code yX0_averagePriceOfAlike cX0_averagePriceOfAlike 6 (some .int), Cond.fieldLink RX0 28 "AtelierBook" "latestPrices" "[I", Cond.methodLink RX0 140 yX0_mainPigmentOf, Cond.instanceMethod yX0_mainPigmentOf, Cond.selects RX0 yX0_mainPigmentOf yX0_mainPigmentOf, Cond.code yX0_mainPigmentOf cX0_mainPigmentOf 3 (some .int), Cond.methodLink RX0 116 yX0_layerRow, Cond.static yX0_layerRow, Cond.code yX0_layerRow cX0_layerRow 2 (some .int), Cond.methodLink RX0 176 yX0_mainPigmentOfRow, Cond.instanceMethod yX0_mainPigmentOfRow, Cond.selects RX0 yX0_mainPigmentOfRow yX0_mainPigmentOfRow, Cond.code yX0_mainPigmentOfRow cX0_mainPigmentOfRow 6 (some .int), Cond.fieldLink RX0 50 "AtelierBook" "pigmentCount" "I", Cond.methodLink RX0 173 yX0_gramsOfPigment, Cond.instanceMethod yX0_gramsOfPigment, Cond.selects RX0 yX0_gramsOfPigment yX0_gramsOfPigment, Cond.code yX0_gramsOfPigment cX0_gramsOfPigment 5 (some .int), Cond.fieldLink RX0 68 "AtelierBook" "tubeCount" "I", Cond.fieldLink RX0 13 "AtelierBook" "pigmentOfTube" "[I", Cond.fieldLink RX0 19 "AtelierBook" "ledger" "[I"]
def wsX0_of_r3 : List Cond := [Cond.methodLink RX0 84 yX0_place, Cond.static yX0_place, Cond.code yX0_place cX0_place 2 (some .int), Cond.methodLink RX0 143 yX0_isLent, Cond.instanceMethod yX0_isLent, Cond.selects RX0 yX0_isLent yX0_isLent, Cond.code yX0_isLent cX0_isLent 2 (some .boolean), Cond.methodLink RX0 147 yX0_lookOf, Cond.instanceMethod yX0_lookOf, Cond.selects RX0 yX0_lookOf yX0_lookOf, Cond.code yX0_lookOf cX0_lookOf 4 (some .int), Cond.methodLink RX0 137 yX0_colourOfRow, Cond.instanceMethod yX0_colourOfRow, Cond.selects RX0 yX0_colourOfRow yX0_colourOfRow, Cond.code yX0_colourOfRow cX0_colourOfRow 7 (some .int), Cond.methodLink RX0 170 yX0_colourOfTube, Cond.instanceMethod yX0_colourOfTube, Cond.selects RX0 yX0_colourOfTube yX0_colourOfTube, Cond.code yX0_colourOfTube cX0_colourOfTube 3 (some .int), Cond.fieldLink RX0 9 "AtelierBook" "pigmentColours" "[I"]
def wsX0_of : List Cond := .code yX0_of cX0_of 3 (some .int) :: ((wsX0_of_r1 ++ (wsX0_of_r2 ++ wsX0_of_r3)) ++ wsX00 ++ (vx_atS RX0 165 "java/lang/IndexOutOfBoundsException" ["java/lang/RuntimeException", "java/lang/Exception"]).filter goodWord ++ (vx_atS RX0 92 "java/lang/IllegalArgumentException" ["java/lang/RuntimeException", "java/lang/Exception"]).filter goodWord)
def wsX0_layer : List Cond := .code yX0_layer cX0_layer 4 (some .int) :: ([.fieldLink RX0 105 "AtelierBook" "pictureCount" "I", .fieldLink RX0 22 "AtelierBook" "layerCounts" "[I", .fieldLink RX0 68 "AtelierBook" "tubeCount" "I", .fieldLink RX0 19 "AtelierBook" "ledger" "[I", .methodLink RX0 61 yX0_checkNumber, .static yX0_checkNumber, .initialized RX0, .code yX0_checkNumber cX0_checkNumber 2 none, .classLink RX0 161 "java/lang/IndexOutOfBoundsException", .initialized "java/lang/IndexOutOfBoundsException", .methodLink RX0 116 yX0_layerRow, .static yX0_layerRow, .code yX0_layerRow cX0_layerRow 2 (some .int), .methodLink RX0 84 yX0_place, .static yX0_place, .code yX0_place cX0_place 2 (some .int)] ++ wsX00 ++ (vx_atS RX0 165 "java/lang/IndexOutOfBoundsException" ["java/lang/RuntimeException", "java/lang/Exception"]).filter goodWord)
def wsX0_sumOfTube : List Cond := .code yX0_sumOfTube cX0_sumOfTube 6 (some .int) :: ([.fieldLink RX0 19 "AtelierBook" "ledger" "[I", .methodLink RX0 84 yX0_place, .static yX0_place, .initialized RX0, .code yX0_place cX0_place 2 (some .int)] ++ wsX00)
def wsX0_where : List Cond := .code yX0_where cX0_where 3 (some .int) :: ([.fieldLink RX0 68 "AtelierBook" "tubeCount" "I", .fieldLink RX0 16 "AtelierBook" "gramsInTube" "[I", .methodLink RX0 61 yX0_checkNumber, .static yX0_checkNumber, .initialized RX0, .code yX0_checkNumber cX0_checkNumber 2 none, .classLink RX0 161 "java/lang/IndexOutOfBoundsException", .initialized "java/lang/IndexOutOfBoundsException", .methodLink RX0 65 yX0_checkRange, .static yX0_checkRange, .code yX0_checkRange cX0_checkRange 3 none, .classLink RX0 88 "java/lang/IllegalArgumentException", .initialized "java/lang/IllegalArgumentException", .methodLink RX0 150 yX0_sumOfTube, .instanceMethod yX0_sumOfTube, .selects RX0 yX0_sumOfTube yX0_sumOfTube, .code yX0_sumOfTube cX0_sumOfTube 6 (some .int), .fieldLink RX0 19 "AtelierBook" "ledger" "[I", .methodLink RX0 84 yX0_place, .static yX0_place, .code yX0_place cX0_place 2 (some .int)] ++ wsX00 ++ (vx_atS RX0 165 "java/lang/IndexOutOfBoundsException" ["java/lang/RuntimeException", "java/lang/Exception"]).filter goodWord ++ (vx_atS RX0 92 "java/lang/IllegalArgumentException" ["java/lang/RuntimeException", "java/lang/Exception"]).filter goodWord)
def wsX0_mixed : List Cond := .code yX0_mixed cX0_mixed 5 (some .int) :: ([.methodLink RX0 170 yX0_colourOfTube, .instanceMethod yX0_colourOfTube, .selects RX0 yX0_colourOfTube yX0_colourOfTube, .initialized RX0, .code yX0_colourOfTube cX0_colourOfTube 3 (some .int), .fieldLink RX0 9 "AtelierBook" "pigmentColours" "[I", .fieldLink RX0 13 "AtelierBook" "pigmentOfTube" "[I"] ++ wsX00)
def wsX0_square : List Cond := .code yX0_square cX0_square 1 (some .int) :: ([])
def wsX0_recipe : List Cond := .code yX0_recipe cX0_recipe 10 (some .int) :: ([.fieldLink RX0 68 "AtelierBook" "tubeCount" "I", .fieldLink RX0 16 "AtelierBook" "gramsInTube" "[I", .methodLink RX0 46 yX0_checkColour, .static yX0_checkColour, .initialized RX0, .code yX0_checkColour cX0_checkColour 3 none, .methodLink RX0 65 yX0_checkRange, .static yX0_checkRange, .code yX0_checkRange cX0_checkRange 3 none, .classLink RX0 88 "java/lang/IllegalArgumentException", .initialized "java/lang/IllegalArgumentException", .methodLink RX0 154 yX0_mixed, .instanceMethod yX0_mixed, .selects RX0 yX0_mixed yX0_mixed, .code yX0_mixed cX0_mixed 5 (some .int), .methodLink RX0 170 yX0_colourOfTube, .instanceMethod yX0_colourOfTube, .selects RX0 yX0_colourOfTube yX0_colourOfTube, .code yX0_colourOfTube cX0_colourOfTube 3 (some .int), .fieldLink RX0 9 "AtelierBook" "pigmentColours" "[I", .fieldLink RX0 13 "AtelierBook" "pigmentOfTube" "[I", .methodLink RX0 158 yX0_square, .static yX0_square, .code yX0_square cX0_square 1 (some .int)] ++ wsX00 ++ (vx_atS RX0 92 "java/lang/IllegalArgumentException" ["java/lang/RuntimeException", "java/lang/Exception"]).filter goodWord)
def wsX0_paid : List Cond := .code yX0_paid cX0_paid 2 (some .int) :: ([.fieldLink RX0 43 "AtelierBook" "housePayments" "[I", .methodLink RX0 61 yX0_checkNumber, .static yX0_checkNumber, .initialized RX0, .code yX0_checkNumber cX0_checkNumber 2 none, .classLink RX0 161 "java/lang/IndexOutOfBoundsException", .initialized "java/lang/IndexOutOfBoundsException"] ++ wsX00 ++ (vx_atS RX0 165 "java/lang/IndexOutOfBoundsException" ["java/lang/RuntimeException", "java/lang/Exception"]).filter goodWord)
def wsX1_init : List Cond := .code yX1_init cX1_init 2 none :: ([.methodLink RX1 1 objectInit, .instanceMethod objectInit, .code objectInit ⟨#[0xb1]⟩ 1 none, .arrayClass .int, .fieldLink RX1 7 "AtelierBookModel" "shade" "[I", .fieldLink RX1 13 "AtelierBookModel" "pigmentOf" "[I", .fieldLink RX1 16 "AtelierBookModel" "left" "[I", .fieldLink RX1 19 "AtelierBookModel" "wasted" "[I", .fieldLink RX1 22 "AtelierBookModel" "inPot" "[I", .fieldLink RX1 25 "AtelierBookModel" "layers" "[I", .fieldLink RX1 28 "AtelierBookModel" "inLayer" "[I", .fieldLink RX1 31 "AtelierBookModel" "cracks" "[I", .fieldLink RX1 34 "AtelierBookModel" "price" "[I", .fieldLink RX1 37 "AtelierBookModel" "house" "[I", .fieldLink RX1 40 "AtelierBookModel" "days" "[I", .fieldLink RX1 43 "AtelierBookModel" "cost" "[I", .fieldLink RX1 46 "AtelierBookModel" "damp" "[I", .fieldLink RX1 49 "AtelierBookModel" "paid" "[I", .fieldLink RX1 52 "AtelierBookModel" "flow" "[I", .fieldLink RX1 55 "AtelierBookModel" "sums" "[I"] ++ wsX10)
def wsX1_thrown : List Cond := .code yX1_thrown cX1_thrown 1 (some .int) :: ([.fieldLink RX1 58 "AtelierBookModel" "thrown" "I"] ++ wsX10)
def wsX1_in : List Cond := .code yX1_in cX1_in 3 (some .boolean) :: ([])
def wsX1_areShades : List Cond := .code yX1_areShades cX1_areShades 3 (some .boolean) :: ([.methodLink RX1 62 yX1_in, .static yX1_in, .initialized RX1, .code yX1_in cX1_in 3 (some .boolean)])
def wsX1_isTube : List Cond := .code yX1_isTube cX1_isTube 2 (some .boolean) :: ([.fieldLink RX1 66 "AtelierBookModel" "tubes" "I", .methodLink RX1 62 yX1_in, .static yX1_in, .initialized RX1, .code yX1_in cX1_in 3 (some .boolean)] ++ wsX10)
def wsX1_isPot : List Cond := .code yX1_isPot cX1_isPot 2 (some .boolean) :: ([.fieldLink RX1 69 "AtelierBookModel" "pots" "I", .methodLink RX1 62 yX1_in, .static yX1_in, .initialized RX1, .code yX1_in cX1_in 3 (some .boolean)] ++ wsX10)
def wsX1_isPicture : List Cond := .code yX1_isPicture cX1_isPicture 2 (some .boolean) :: ([.fieldLink RX1 72 "AtelierBookModel" "pictures" "I", .methodLink RX1 62 yX1_in, .static yX1_in, .initialized RX1, .code yX1_in cX1_in 3 (some .boolean)] ++ wsX10)
def wsX1_isHouse : List Cond := .code yX1_isHouse cX1_isHouse 1 (some .boolean) :: ([.methodLink RX1 62 yX1_in, .static yX1_in, .initialized RX1, .code yX1_in cX1_in 3 (some .boolean)])
def wsX1_pigment : List Cond := .code yX1_pigment cX1_pigment 4 (some .int) :: ([.fieldLink RX1 78 "AtelierBookModel" "pigments" "I", .fieldLink RX1 58 "AtelierBookModel" "thrown" "I", .fieldLink RX1 7 "AtelierBookModel" "shade" "[I", .methodLink RX1 75 yX1_areShades, .static yX1_areShades, .initialized RX1, .code yX1_areShades cX1_areShades 3 (some .boolean), .methodLink RX1 62 yX1_in, .static yX1_in, .code yX1_in cX1_in 3 (some .boolean)] ++ wsX10)
def wsX1_tube : List Cond := .code yX1_tube cX1_tube 3 (some .int) :: ([.fieldLink RX1 78 "AtelierBookModel" "pigments" "I", .fieldLink RX1 66 "AtelierBookModel" "tubes" "I", .fieldLink RX1 58 "AtelierBookModel" "thrown" "I", .fieldLink RX1 13 "AtelierBookModel" "pigmentOf" "[I", .fieldLink RX1 16 "AtelierBookModel" "left" "[I", .methodLink RX1 62 yX1_in, .static yX1_in, .initialized RX1, .code yX1_in cX1_in 3 (some .boolean)] ++ wsX10)
def wsX1_pot : List Cond := .code yX1_pot cX1_pot 1 (some .int) :: ([.fieldLink RX1 69 "AtelierBookModel" "pots" "I", .fieldLink RX1 58 "AtelierBookModel" "thrown" "I"] ++ wsX10)
def wsX1_gramsOf : List Cond := .code yX1_gramsOf cX1_gramsOf 4 (some .int) :: ([.fieldLink RX1 22 "AtelierBookModel" "inPot" "[I"] ++ wsX10)
def wsX1_squeeze : List Cond := .code yX1_squeeze cX1_squeeze 4 (some .int) :: ([.fieldLink RX1 16 "AtelierBookModel" "left" "[I", .fieldLink RX1 58 "AtelierBookModel" "thrown" "I", .fieldLink RX1 22 "AtelierBookModel" "inPot" "[I", .methodLink RX1 81 yX1_isPot, .instanceMethod yX1_isPot, .selects RX1 yX1_isPot yX1_isPot, .initialized RX1, .code yX1_isPot cX1_isPot 2 (some .boolean), .fieldLink RX1 69 "AtelierBookModel" "pots" "I", .methodLink RX1 62 yX1_in, .static yX1_in, .code yX1_in cX1_in 3 (some .boolean), .methodLink RX1 85 yX1_isTube, .instanceMethod yX1_isTube, .selects RX1 yX1_isTube yX1_isTube, .code yX1_isTube cX1_isTube 2 (some .boolean), .fieldLink RX1 66 "AtelierBookModel" "tubes" "I"] ++ wsX10)
def wsX1_flows : List Cond := .code yX1_flows cX1_flows 7 none :: ([.fieldLink RX1 22 "AtelierBookModel" "inPot" "[I", .fieldLink RX1 52 "AtelierBookModel" "flow" "[I", .methodLink RX1 88 yX1_gramsOf, .instanceMethod yX1_gramsOf, .selects RX1 yX1_gramsOf yX1_gramsOf, .initialized RX1, .code yX1_gramsOf cX1_gramsOf 4 (some .int)] ++ wsX10)
def wsX1_pour : List Cond := .code yX1_pour cX1_pour 5 (some .int) :: ([.fieldLink RX1 58 "AtelierBookModel" "thrown" "I", .fieldLink RX1 22 "AtelierBookModel" "inPot" "[I", .fieldLink RX1 52 "AtelierBookModel" "flow" "[I", .methodLink RX1 81 yX1_isPot, .instanceMethod yX1_isPot, .selects RX1 yX1_isPot yX1_isPot, .initialized RX1, .code yX1_isPot cX1_isPot 2 (some .boolean), .fieldLink RX1 69 "AtelierBookModel" "pots" "I", .methodLink RX1 62 yX1_in, .static yX1_in, .code yX1_in cX1_in 3 (some .boolean), .methodLink RX1 88 yX1_gramsOf, .instanceMethod yX1_gramsOf, .selects RX1 yX1_gramsOf yX1_gramsOf, .code yX1_gramsOf cX1_gramsOf 4 (some .int), .methodLink RX1 92 yX1_flows, .instanceMethod yX1_flows, .selects RX1 yX1_flows yX1_flows, .code yX1_flows cX1_flows 7 none] ++ wsX10)
def wsX1_scrape : List Cond := .code yX1_scrape cX1_scrape 4 (some .int) :: ([.fieldLink RX1 58 "AtelierBookModel" "thrown" "I", .fieldLink RX1 19 "AtelierBookModel" "wasted" "[I", .fieldLink RX1 22 "AtelierBookModel" "inPot" "[I", .methodLink RX1 81 yX1_isPot, .instanceMethod yX1_isPot, .selects RX1 yX1_isPot yX1_isPot, .initialized RX1, .code yX1_isPot cX1_isPot 2 (some .boolean), .fieldLink RX1 69 "AtelierBookModel" "pots" "I", .methodLink RX1 62 yX1_in, .static yX1_in, .code yX1_in cX1_in 3 (some .boolean), .methodLink RX1 88 yX1_gramsOf, .instanceMethod yX1_gramsOf, .selects RX1 yX1_gramsOf yX1_gramsOf, .code yX1_gramsOf cX1_gramsOf 4 (some .int)] ++ wsX10)
def wsX1_picture : List Cond := .code yX1_picture cX1_picture 1 (some .int) :: ([.fieldLink RX1 72 "AtelierBookModel" "pictures" "I", .fieldLink RX1 58 "AtelierBookModel" "thrown" "I"] ++ wsX10)
def wsX1_layerAt : List Cond := .code yX1_layerAt cX1_layerAt 2 (some .int) :: ([])
def wsX1_paint_r1 : List Cond := [Cond.fieldLink RX1 37 "AtelierBookModel" "house" "[I", Cond.fieldLink RX1 25 "AtelierBookModel" "layers" "[I", Cond.fieldLink RX1 58 "AtelierBookModel" "thrown" "I", Cond.fieldLink RX1 28 "AtelierBookModel" "inLayer" "[I", Cond.fieldLink RX1 52 "AtelierBookModel" "flow" "[I", Cond.methodLink RX1 96 yX1_isPicture, Cond.instanceMethod yX1_isPicture, Cond.selects RX1 yX1_isPicture yX1_isPicture, Cond.initialized RX1, Cond.code yX1_isPicture cX1_isPicture 2 (some .boolean), Cond.fieldLink RX1 72 "AtelierBookModel" "pictures" "I", Cond.methodLink RX1 62 yX1_in, Cond.static yX1_in, Cond.code yX1_in cX1_in 3 (some .boolean), Cond.methodLink RX1 81 yX1_isPot, Cond.instanceMethod yX1_isPot, Cond.selects RX1 yX1_isPot yX1_isPot, Cond.code yX1_isPot cX1_isPot 2 (some .boolean), Cond.fieldLink RX1 69 "AtelierBookModel" "pots" "I", Cond.methodLink RX1 88 yX1_gramsOf, Cond.instanceMethod yX1_gramsOf, Cond.selects RX1 yX1_gramsOf yX1_gramsOf, Cond.code yX1_gramsOf cX1_gramsOf 4 (some .int), Cond.fieldLink RX1 22 "AtelierBookModel" "inPot" "[I"]
def wsX1_paint_r2 : List Cond := [Cond.methodLink RX1 92 yX1_flows, Cond.instanceMethod yX1_flows, Cond.selects RX1 yX1_flows yX1_flows, Cond.code yX1_flows cX1_flows 7 none, Cond.methodLink RX1 99 yX1_layerAt, Cond.static yX1_layerAt, Cond.code yX1_layerAt cX1_layerAt 2 (some .int)]
def wsX1_paint : List Cond := .code yX1_paint cX1_paint 5 (some .int) :: ((wsX1_paint_r1 ++ wsX1_paint_r2) ++ wsX10)
def wsX1_clean : List Cond := .code yX1_clean cX1_clean 7 (some .int) :: ([.fieldLink RX1 37 "AtelierBookModel" "house" "[I", .fieldLink RX1 25 "AtelierBookModel" "layers" "[I", .fieldLink RX1 58 "AtelierBookModel" "thrown" "I", .fieldLink RX1 28 "AtelierBookModel" "inLayer" "[I", .fieldLink RX1 19 "AtelierBookModel" "wasted" "[I", .methodLink RX1 96 yX1_isPicture, .instanceMethod yX1_isPicture, .selects RX1 yX1_isPicture yX1_isPicture, .initialized RX1, .code yX1_isPicture cX1_isPicture 2 (some .boolean), .fieldLink RX1 72 "AtelierBookModel" "pictures" "I", .methodLink RX1 62 yX1_in, .static yX1_in, .code yX1_in cX1_in 3 (some .boolean), .methodLink RX1 99 yX1_layerAt, .static yX1_layerAt, .code yX1_layerAt cX1_layerAt 2 (some .int)] ++ wsX10)
def wsX1_main : List Cond := .code yX1_main cX1_main 4 (some .int) :: ([.fieldLink RX1 25 "AtelierBookModel" "layers" "[I", .fieldLink RX1 55 "AtelierBookModel" "sums" "[I", .fieldLink RX1 66 "AtelierBookModel" "tubes" "I", .fieldLink RX1 13 "AtelierBookModel" "pigmentOf" "[I", .fieldLink RX1 28 "AtelierBookModel" "inLayer" "[I", .methodLink RX1 99 yX1_layerAt, .static yX1_layerAt, .initialized RX1, .code yX1_layerAt cX1_layerAt 2 (some .int)] ++ wsX10)
def wsX1_look : List Cond := .code yX1_look cX1_look 7 (some .int) :: ([.fieldLink RX1 25 "AtelierBookModel" "layers" "[I", .fieldLink RX1 66 "AtelierBookModel" "tubes" "I", .fieldLink RX1 28 "AtelierBookModel" "inLayer" "[I", .fieldLink RX1 7 "AtelierBookModel" "shade" "[I", .fieldLink RX1 13 "AtelierBookModel" "pigmentOf" "[I", .methodLink RX1 99 yX1_layerAt, .static yX1_layerAt, .initialized RX1, .code yX1_layerAt cX1_layerAt 2 (some .int)] ++ wsX10)
def wsX1_value : List Cond := .code yX1_value cX1_value 7 (some .int) :: ([.fieldLink RX1 72 "AtelierBookModel" "pictures" "I", .fieldLink RX1 34 "AtelierBookModel" "price" "[I", .fieldLink RX1 31 "AtelierBookModel" "cracks" "[I", .methodLink RX1 103 yX1_main, .instanceMethod yX1_main, .selects RX1 yX1_main yX1_main, .initialized RX1, .code yX1_main cX1_main 4 (some .int), .fieldLink RX1 25 "AtelierBookModel" "layers" "[I", .fieldLink RX1 55 "AtelierBookModel" "sums" "[I", .fieldLink RX1 66 "AtelierBookModel" "tubes" "I", .fieldLink RX1 13 "AtelierBookModel" "pigmentOf" "[I", .fieldLink RX1 28 "AtelierBookModel" "inLayer" "[I", .methodLink RX1 99 yX1_layerAt, .static yX1_layerAt, .code yX1_layerAt cX1_layerAt 2 (some .int)] ++ wsX10)
def wsX1_damp : List Cond := .code yX1_damp cX1_damp 4 (some .int) :: ([.fieldLink RX1 58 "AtelierBookModel" "thrown" "I", .fieldLink RX1 46 "AtelierBookModel" "damp" "[I", .methodLink RX1 106 yX1_isHouse, .static yX1_isHouse, .initialized RX1, .code yX1_isHouse cX1_isHouse 1 (some .boolean), .methodLink RX1 62 yX1_in, .static yX1_in, .code yX1_in cX1_in 3 (some .boolean)] ++ wsX10)
def wsX1_lend_r1 : List Cond := [Cond.fieldLink RX1 37 "AtelierBookModel" "house" "[I", Cond.fieldLink RX1 31 "AtelierBookModel" "cracks" "[I", Cond.fieldLink RX1 58 "AtelierBookModel" "thrown" "I", Cond.fieldLink RX1 40 "AtelierBookModel" "days" "[I", Cond.fieldLink RX1 43 "AtelierBookModel" "cost" "[I", Cond.methodLink RX1 96 yX1_isPicture, Cond.instanceMethod yX1_isPicture, Cond.selects RX1 yX1_isPicture yX1_isPicture, Cond.initialized RX1, Cond.code yX1_isPicture cX1_isPicture 2 (some .boolean), Cond.fieldLink RX1 72 "AtelierBookModel" "pictures" "I", Cond.methodLink RX1 62 yX1_in, Cond.static yX1_in, Cond.code yX1_in cX1_in 3 (some .boolean), Cond.methodLink RX1 106 yX1_isHouse, Cond.static yX1_isHouse, Cond.code yX1_isHouse cX1_isHouse 1 (some .boolean), Cond.methodLink RX1 109 yX1_value, Cond.instanceMethod yX1_value, Cond.selects RX1 yX1_value yX1_value, Cond.code yX1_value cX1_value 7 (some .int), Cond.fieldLink RX1 34 "AtelierBookModel" "price" "[I", Cond.methodLink RX1 103 yX1_main, Cond.instanceMethod yX1_main]
def wsX1_lend_r2 : List Cond := [Cond.selects RX1 yX1_main yX1_main, Cond.code yX1_main cX1_main 4 (some .int), Cond.fieldLink RX1 25 "AtelierBookModel" "layers" "[I", Cond.fieldLink RX1 55 "AtelierBookModel" "sums" "[I", Cond.fieldLink RX1 66 "AtelierBookModel" "tubes" "I", Cond.fieldLink RX1 13 "AtelierBookModel" "pigmentOf" "[I", Cond.fieldLink RX1 28 "AtelierBookModel" "inLayer" "[I", Cond.methodLink RX1 99 yX1_layerAt, Cond.static yX1_layerAt, Cond.code yX1_layerAt cX1_layerAt 2 (some .int)]
def wsX1_lend : List Cond := .code yX1_lend cX1_lend 4 (some .int) :: ((wsX1_lend_r1 ++ wsX1_lend_r2) ++ wsX10)
def wsX1_sell_r1 : List Cond := [Cond.constant RX1 112 (100000), Cond.fieldLink RX1 37 "AtelierBookModel" "house" "[I", Cond.fieldLink RX1 25 "AtelierBookModel" "layers" "[I", Cond.fieldLink RX1 58 "AtelierBookModel" "thrown" "I", Cond.fieldLink RX1 34 "AtelierBookModel" "price" "[I", Cond.methodLink RX1 96 yX1_isPicture, Cond.instanceMethod yX1_isPicture, Cond.selects RX1 yX1_isPicture yX1_isPicture, Cond.initialized RX1, Cond.code yX1_isPicture cX1_isPicture 2 (some .boolean), Cond.fieldLink RX1 72 "AtelierBookModel" "pictures" "I", Cond.methodLink RX1 62 yX1_in, Cond.static yX1_in, Cond.code yX1_in cX1_in 3 (some .boolean), Cond.methodLink RX1 109 yX1_value, Cond.instanceMethod yX1_value, Cond.selects RX1 yX1_value yX1_value, Cond.code yX1_value cX1_value 7 (some .int), Cond.fieldLink RX1 31 "AtelierBookModel" "cracks" "[I", Cond.methodLink RX1 103 yX1_main, Cond.instanceMethod yX1_main, Cond.selects RX1 yX1_main yX1_main, Cond.code yX1_main cX1_main 4 (some .int), Cond.fieldLink RX1 55 "AtelierBookModel" "sums" "[I"]
def wsX1_sell_r2 : List Cond := [Cond.fieldLink RX1 66 "AtelierBookModel" "tubes" "I", Cond.fieldLink RX1 13 "AtelierBookModel" "pigmentOf" "[I", Cond.fieldLink RX1 28 "AtelierBookModel" "inLayer" "[I", Cond.methodLink RX1 99 yX1_layerAt, Cond.static yX1_layerAt, Cond.code yX1_layerAt cX1_layerAt 2 (some .int)]
def wsX1_sell : List Cond := .code yX1_sell cX1_sell 3 (some .int) :: ((wsX1_sell_r1 ++ wsX1_sell_r2) ++ wsX10)
def wsX1_passOne : List Cond := .code yX1_passOne cX1_passOne 3 none :: ([.fieldLink RX1 113 "AtelierBookModel" "today" "I", .fieldLink RX1 72 "AtelierBookModel" "pictures" "I", .fieldLink RX1 37 "AtelierBookModel" "house" "[I", .fieldLink RX1 49 "AtelierBookModel" "paid" "[I", .fieldLink RX1 43 "AtelierBookModel" "cost" "[I", .fieldLink RX1 31 "AtelierBookModel" "cracks" "[I", .fieldLink RX1 46 "AtelierBookModel" "damp" "[I", .fieldLink RX1 40 "AtelierBookModel" "days" "[I", .methodLink RX1 62 yX1_in, .static yX1_in, .initialized RX1, .code yX1_in cX1_in 3 (some .boolean)] ++ wsX10)
def wsX1_pass : List Cond := .code yX1_pass cX1_pass 3 (some .int) :: ([.fieldLink RX1 113 "AtelierBookModel" "today" "I", .fieldLink RX1 58 "AtelierBookModel" "thrown" "I", .methodLink RX1 62 yX1_in, .static yX1_in, .initialized RX1, .code yX1_in cX1_in 3 (some .boolean), .methodLink RX1 116 yX1_passOne, .instanceMethod yX1_passOne, .selects RX1 yX1_passOne yX1_passOne, .code yX1_passOne cX1_passOne 3 none, .fieldLink RX1 72 "AtelierBookModel" "pictures" "I", .fieldLink RX1 37 "AtelierBookModel" "house" "[I", .fieldLink RX1 49 "AtelierBookModel" "paid" "[I", .fieldLink RX1 43 "AtelierBookModel" "cost" "[I", .fieldLink RX1 31 "AtelierBookModel" "cracks" "[I", .fieldLink RX1 46 "AtelierBookModel" "damp" "[I", .fieldLink RX1 40 "AtelierBookModel" "days" "[I"] ++ wsX10)
def wsX1_left : List Cond := .code yX1_left cX1_left 2 (some .int) :: ([.fieldLink RX1 58 "AtelierBookModel" "thrown" "I", .fieldLink RX1 16 "AtelierBookModel" "left" "[I", .methodLink RX1 85 yX1_isTube, .instanceMethod yX1_isTube, .selects RX1 yX1_isTube yX1_isTube, .initialized RX1, .code yX1_isTube cX1_isTube 2 (some .boolean), .fieldLink RX1 66 "AtelierBookModel" "tubes" "I", .methodLink RX1 62 yX1_in, .static yX1_in, .code yX1_in cX1_in 3 (some .boolean)] ++ wsX10)
def wsX1_has : List Cond := .code yX1_has cX1_has 3 (some .int) :: ([.fieldLink RX1 58 "AtelierBookModel" "thrown" "I", .fieldLink RX1 22 "AtelierBookModel" "inPot" "[I", .methodLink RX1 81 yX1_isPot, .instanceMethod yX1_isPot, .selects RX1 yX1_isPot yX1_isPot, .initialized RX1, .code yX1_isPot cX1_isPot 2 (some .boolean), .fieldLink RX1 69 "AtelierBookModel" "pots" "I", .methodLink RX1 62 yX1_in, .static yX1_in, .code yX1_in cX1_in 3 (some .boolean), .methodLink RX1 85 yX1_isTube, .instanceMethod yX1_isTube, .selects RX1 yX1_isTube yX1_isTube, .code yX1_isTube cX1_isTube 2 (some .boolean), .fieldLink RX1 66 "AtelierBookModel" "tubes" "I", .methodLink RX1 88 yX1_gramsOf, .instanceMethod yX1_gramsOf, .selects RX1 yX1_gramsOf yX1_gramsOf, .code yX1_gramsOf cX1_gramsOf 4 (some .int)] ++ wsX10)
def wsX1_colour : List Cond := .code yX1_colour cX1_colour 6 (some .int) :: ([.fieldLink RX1 58 "AtelierBookModel" "thrown" "I", .fieldLink RX1 66 "AtelierBookModel" "tubes" "I", .fieldLink RX1 22 "AtelierBookModel" "inPot" "[I", .fieldLink RX1 7 "AtelierBookModel" "shade" "[I", .fieldLink RX1 13 "AtelierBookModel" "pigmentOf" "[I", .methodLink RX1 81 yX1_isPot, .instanceMethod yX1_isPot, .selects RX1 yX1_isPot yX1_isPot, .initialized RX1, .code yX1_isPot cX1_isPot 2 (some .boolean), .fieldLink RX1 69 "AtelierBookModel" "pots" "I", .methodLink RX1 62 yX1_in, .static yX1_in, .code yX1_in cX1_in 3 (some .boolean), .methodLink RX1 88 yX1_gramsOf, .instanceMethod yX1_gramsOf, .selects RX1 yX1_gramsOf yX1_gramsOf, .code yX1_gramsOf cX1_gramsOf 4 (some .int)] ++ wsX10)
def wsX1_of_r1 : List Cond := [Cond.fieldLink RX1 58 "AtelierBookModel" "thrown" "I", Cond.fieldLink RX1 25 "AtelierBookModel" "layers" "[I", Cond.fieldLink RX1 31 "AtelierBookModel" "cracks" "[I", Cond.fieldLink RX1 37 "AtelierBookModel" "house" "[I", Cond.fieldLink RX1 40 "AtelierBookModel" "days" "[I", Cond.methodLink RX1 96 yX1_isPicture, Cond.instanceMethod yX1_isPicture, Cond.selects RX1 yX1_isPicture yX1_isPicture, Cond.initialized RX1, Cond.code yX1_isPicture cX1_isPicture 2 (some .boolean), Cond.fieldLink RX1 72 "AtelierBookModel" "pictures" "I", Cond.methodLink RX1 62 yX1_in, Cond.static yX1_in, Cond.code yX1_in cX1_in 3 (some .boolean), Cond.methodLink RX1 109 yX1_value, Cond.instanceMethod yX1_value, Cond.selects RX1 yX1_value yX1_value, Cond.code yX1_value cX1_value 7 (some .int), Cond.fieldLink RX1 34 "AtelierBookModel" "price" "[I", Cond.methodLink RX1 103 yX1_main, Cond.instanceMethod yX1_main, Cond.selects RX1 yX1_main yX1_main, Cond.code yX1_main cX1_main 4 (some .int), Cond.fieldLink RX1 55 "AtelierBookModel" "sums" "[I"]
def wsX1_of_r2 : List Cond := [Cond.fieldLink RX1 66 "AtelierBookModel" "tubes" "I", Cond.fieldLink RX1 13 "AtelierBookModel" "pigmentOf" "[I", Cond.fieldLink RX1 28 "AtelierBookModel" "inLayer" "[I", Cond.methodLink RX1 99 yX1_layerAt, Cond.static yX1_layerAt, Cond.code yX1_layerAt cX1_layerAt 2 (some .int), Cond.methodLink RX1 119 yX1_look, Cond.instanceMethod yX1_look, Cond.selects RX1 yX1_look yX1_look, Cond.code yX1_look cX1_look 7 (some .int), Cond.fieldLink RX1 7 "AtelierBookModel" "shade" "[I"]
def wsX1_of : List Cond := .code yX1_of cX1_of 3 (some .int) :: ((wsX1_of_r1 ++ wsX1_of_r2) ++ wsX10)
def wsX1_layer : List Cond := .code yX1_layer cX1_layer 4 (some .int) :: ([.fieldLink RX1 25 "AtelierBookModel" "layers" "[I", .fieldLink RX1 58 "AtelierBookModel" "thrown" "I", .fieldLink RX1 28 "AtelierBookModel" "inLayer" "[I", .methodLink RX1 96 yX1_isPicture, .instanceMethod yX1_isPicture, .selects RX1 yX1_isPicture yX1_isPicture, .initialized RX1, .code yX1_isPicture cX1_isPicture 2 (some .boolean), .fieldLink RX1 72 "AtelierBookModel" "pictures" "I", .methodLink RX1 62 yX1_in, .static yX1_in, .code yX1_in cX1_in 3 (some .boolean), .methodLink RX1 85 yX1_isTube, .instanceMethod yX1_isTube, .selects RX1 yX1_isTube yX1_isTube, .code yX1_isTube cX1_isTube 2 (some .boolean), .fieldLink RX1 66 "AtelierBookModel" "tubes" "I", .methodLink RX1 99 yX1_layerAt, .static yX1_layerAt, .code yX1_layerAt cX1_layerAt 2 (some .int)] ++ wsX10)
def wsX1_onPictures : List Cond := .code yX1_onPictures cX1_onPictures 4 (some .int) :: ([.fieldLink RX1 28 "AtelierBookModel" "inLayer" "[I"] ++ wsX10)
def wsX1_inPots : List Cond := .code yX1_inPots cX1_inPots 4 (some .int) :: ([.fieldLink RX1 69 "AtelierBookModel" "pots" "I", .fieldLink RX1 22 "AtelierBookModel" "inPot" "[I"] ++ wsX10)
def wsX1_where : List Cond := .code yX1_where cX1_where 3 (some .int) :: ([.fieldLink RX1 58 "AtelierBookModel" "thrown" "I", .fieldLink RX1 16 "AtelierBookModel" "left" "[I", .fieldLink RX1 19 "AtelierBookModel" "wasted" "[I", .methodLink RX1 85 yX1_isTube, .instanceMethod yX1_isTube, .selects RX1 yX1_isTube yX1_isTube, .initialized RX1, .code yX1_isTube cX1_isTube 2 (some .boolean), .fieldLink RX1 66 "AtelierBookModel" "tubes" "I", .methodLink RX1 62 yX1_in, .static yX1_in, .code yX1_in cX1_in 3 (some .boolean), .methodLink RX1 122 yX1_inPots, .instanceMethod yX1_inPots, .selects RX1 yX1_inPots yX1_inPots, .code yX1_inPots cX1_inPots 4 (some .int), .fieldLink RX1 69 "AtelierBookModel" "pots" "I", .fieldLink RX1 22 "AtelierBookModel" "inPot" "[I", .methodLink RX1 125 yX1_onPictures, .instanceMethod yX1_onPictures, .selects RX1 yX1_onPictures yX1_onPictures, .code yX1_onPictures cX1_onPictures 4 (some .int), .fieldLink RX1 28 "AtelierBookModel" "inLayer" "[I"] ++ wsX10)
def wsX1_far : List Cond := .code yX1_far cX1_far 7 (some .int) :: ([.fieldLink RX1 7 "AtelierBookModel" "shade" "[I", .fieldLink RX1 13 "AtelierBookModel" "pigmentOf" "[I"] ++ wsX10)
def wsX1_recipe : List Cond := .code yX1_recipe cX1_recipe 10 (some .int) :: ([.fieldLink RX1 58 "AtelierBookModel" "thrown" "I", .fieldLink RX1 66 "AtelierBookModel" "tubes" "I", .fieldLink RX1 16 "AtelierBookModel" "left" "[I", .methodLink RX1 75 yX1_areShades, .static yX1_areShades, .initialized RX1, .code yX1_areShades cX1_areShades 3 (some .boolean), .methodLink RX1 62 yX1_in, .static yX1_in, .code yX1_in cX1_in 3 (some .boolean), .methodLink RX1 128 yX1_far, .instanceMethod yX1_far, .selects RX1 yX1_far yX1_far, .code yX1_far cX1_far 7 (some .int), .fieldLink RX1 7 "AtelierBookModel" "shade" "[I", .fieldLink RX1 13 "AtelierBookModel" "pigmentOf" "[I"] ++ wsX10)
def wsX1_paid : List Cond := .code yX1_paid cX1_paid 2 (some .int) :: ([.fieldLink RX1 58 "AtelierBookModel" "thrown" "I", .fieldLink RX1 49 "AtelierBookModel" "paid" "[I", .methodLink RX1 106 yX1_isHouse, .static yX1_isHouse, .initialized RX1, .code yX1_isHouse cX1_isHouse 1 (some .boolean), .methodLink RX1 62 yX1_in, .static yX1_in, .code yX1_in cX1_in 3 (some .boolean)] ++ wsX10)
def wsJ9_abs_0f7a4 : List Cond := .code yJ9_abs_0f7a4 cJ9_abs_0f7a4 1 (some .int) :: ([])
def wsJ9_max_7cf53 : List Cond := .code yJ9_max_7cf53 cJ9_max_7cf53 2 (some .int) :: ([])
def wsJ9_min_7cf53 : List Cond := .code yJ9_min_7cf53 cJ9_min_7cf53 2 (some .int) :: ([])
def wsL_pigment : List Cond := .codeWith yL_pigment cL_pigment 6 (some .int) [(0, 12, 15, 13), (0, 12, 19, 15)] :: ([.classLink RL 13 "java/lang/IllegalArgumentException", .classLink RL 15 "java/lang/IllegalStateException", .methodLink RL 7 yX0_pigment, .instanceMethod yX0_pigment, .selects RX0 yX0_pigment yX0_pigment, .initialized RX0, .code yX0_pigment cX0_pigment 5 (some .int), .classLink RX0 54 "java/lang/IllegalStateException", .initialized "java/lang/IllegalStateException", .fieldLink RX0 50 "AtelierBook" "pigmentCount" "I", .fieldLink RX0 9 "AtelierBook" "pigmentColours" "[I", .methodLink RX0 46 yX0_checkColour, .static yX0_checkColour, .code yX0_checkColour cX0_checkColour 3 none, .methodLink RX0 65 yX0_checkRange, .static yX0_checkRange, .code yX0_checkRange cX0_checkRange 3 none, .classLink RX0 88 "java/lang/IllegalArgumentException", .initialized "java/lang/IllegalArgumentException"] ++ wsX00 ++ (vx_atS RX0 58 "java/lang/IllegalStateException" ["java/lang/RuntimeException", "java/lang/Exception"]).filter goodWord ++ (vx_atS RX0 92 "java/lang/IllegalArgumentException" ["java/lang/RuntimeException", "java/lang/Exception"]).filter goodWord)
def wsL_tube : List Cond := .codeWith yL_tube cL_tube 5 (some .int) [(0, 10, 13, 21), (0, 10, 17, 13), (0, 10, 21, 15)] :: ([.classLink RL 21 "java/lang/IndexOutOfBoundsException", .classLink RL 13 "java/lang/IllegalArgumentException", .classLink RL 15 "java/lang/IllegalStateException", .methodLink RL 17 yX0_tube, .instanceMethod yX0_tube, .selects RX0 yX0_tube yX0_tube, .initialized RX0, .code yX0_tube cX0_tube 3 (some .int), .classLink RX0 54 "java/lang/IllegalStateException", .initialized "java/lang/IllegalStateException", .fieldLink RX0 50 "AtelierBook" "pigmentCount" "I", .fieldLink RX0 68 "AtelierBook" "tubeCount" "I", .fieldLink RX0 13 "AtelierBook" "pigmentOfTube" "[I", .fieldLink RX0 16 "AtelierBook" "gramsInTube" "[I", .methodLink RX0 61 yX0_checkNumber, .static yX0_checkNumber, .code yX0_checkNumber cX0_checkNumber 2 none, .classLink RX0 161 "java/lang/IndexOutOfBoundsException", .initialized "java/lang/IndexOutOfBoundsException", .methodLink RX0 65 yX0_checkRange, .static yX0_checkRange, .code yX0_checkRange cX0_checkRange 3 none, .classLink RX0 88 "java/lang/IllegalArgumentException", .initialized "java/lang/IllegalArgumentException"] ++ wsX00 ++ (vx_atS RX0 58 "java/lang/IllegalStateException" ["java/lang/RuntimeException", "java/lang/Exception"]).filter goodWord ++ (vx_atS RX0 165 "java/lang/IndexOutOfBoundsException" ["java/lang/RuntimeException", "java/lang/Exception"]).filter goodWord ++ (vx_atS RX0 92 "java/lang/IllegalArgumentException" ["java/lang/RuntimeException", "java/lang/Exception"]).filter goodWord)
def wsL_pot : List Cond := .codeWith yL_pot cL_pot 3 (some .int) [(0, 8, 11, 15)] :: ([.classLink RL 15 "java/lang/IllegalStateException", .methodLink RL 23 yX0_pot, .instanceMethod yX0_pot, .selects RX0 yX0_pot yX0_pot, .initialized RX0, .code yX0_pot cX0_pot 1 (some .int), .classLink RX0 54 "java/lang/IllegalStateException", .initialized "java/lang/IllegalStateException", .fieldLink RX0 73 "AtelierBook" "potCount" "I"] ++ wsX00 ++ (vx_atS RX0 58 "java/lang/IllegalStateException" ["java/lang/RuntimeException", "java/lang/Exception"]).filter goodWord)
def wsL_squeeze_r1 : List Cond := [Cond.classLink RL 21 "java/lang/IndexOutOfBoundsException", Cond.classLink RL 13 "java/lang/IllegalArgumentException", Cond.classLink RL 15 "java/lang/IllegalStateException", Cond.methodLink RL 27 yX0_squeeze, Cond.instanceMethod yX0_squeeze, Cond.selects RX0 yX0_squeeze yX0_squeeze, Cond.initialized RX0, Cond.code yX0_squeeze cX0_squeeze 4 (some .int), Cond.classLink RX0 54 "java/lang/IllegalStateException", Cond.initialized "java/lang/IllegalStateException", Cond.fieldLink RX0 73 "AtelierBook" "potCount" "I", Cond.fieldLink RX0 68 "AtelierBook" "tubeCount" "I", Cond.fieldLink RX0 16 "AtelierBook" "gramsInTube" "[I", Cond.fieldLink RX0 19 "AtelierBook" "ledger" "[I", Cond.methodLink RX0 61 yX0_checkNumber, Cond.static yX0_checkNumber, Cond.code yX0_checkNumber cX0_checkNumber 2 none, Cond.classLink RX0 161 "java/lang/IndexOutOfBoundsException", Cond.initialized "java/lang/IndexOutOfBoundsException", Cond.methodLink RX0 65 yX0_checkRange, Cond.static yX0_checkRange, Cond.code yX0_checkRange cX0_checkRange 3 none, Cond.classLink RX0 88 "java/lang/IllegalArgumentException", Cond.initialized "java/lang/IllegalArgumentException"]
def wsL_squeeze_r2 : List Cond := [Cond.methodLink RX0 80 yX0_potRow, Cond.static yX0_potRow, Cond.code yX0_potRow cX0_potRow 1 (some .int), Cond.methodLink RX0 84 yX0_place, Cond.static yX0_place, Cond.code yX0_place cX0_place 2 (some .int)]
def wsL_squeeze : List Cond := .codeWith yL_squeeze cL_squeeze 6 (some .int) [(0, 12, 15, 21), (0, 12, 19, 13), (0, 12, 23, 15)] :: ((wsL_squeeze_r1 ++ wsL_squeeze_r2) ++ wsX00 ++ (vx_atS RX0 58 "java/lang/IllegalStateException" ["java/lang/RuntimeException", "java/lang/Exception"]).filter goodWord ++ (vx_atS RX0 165 "java/lang/IndexOutOfBoundsException" ["java/lang/RuntimeException", "java/lang/Exception"]).filter goodWord ++ (vx_atS RX0 92 "java/lang/IllegalArgumentException" ["java/lang/RuntimeException", "java/lang/Exception"]).filter goodWord)
def wsL_pour_r1 : List Cond := [Cond.classLink RL 21 "java/lang/IndexOutOfBoundsException", Cond.classLink RL 13 "java/lang/IllegalArgumentException", Cond.classLink RL 15 "java/lang/IllegalStateException", Cond.methodLink RL 30 yX0_pour, Cond.instanceMethod yX0_pour, Cond.selects RX0 yX0_pour yX0_pour, Cond.initialized RX0, Cond.code yX0_pour cX0_pour 4 (some .int), Cond.classLink RX0 88 "java/lang/IllegalArgumentException", Cond.initialized "java/lang/IllegalArgumentException", Cond.classLink RX0 54 "java/lang/IllegalStateException", Cond.initialized "java/lang/IllegalStateException", Cond.fieldLink RX0 73 "AtelierBook" "potCount" "I", Cond.methodLink RX0 61 yX0_checkNumber, Cond.static yX0_checkNumber, Cond.code yX0_checkNumber cX0_checkNumber 2 none, Cond.classLink RX0 161 "java/lang/IndexOutOfBoundsException", Cond.initialized "java/lang/IndexOutOfBoundsException", Cond.methodLink RX0 65 yX0_checkRange, Cond.static yX0_checkRange, Cond.code yX0_checkRange cX0_checkRange 3 none, Cond.methodLink RX0 80 yX0_potRow, Cond.static yX0_potRow, Cond.code yX0_potRow cX0_potRow 1 (some .int)]
def wsL_pour_r2 : List Cond := [Cond.methodLink RX0 93 yX0_move, Cond.instanceMethod yX0_move, Cond.selects RX0 yX0_move yX0_move, Cond.code yX0_move cX0_move 9 (some .boolean), Cond.fieldLink RX0 68 "AtelierBook" "tubeCount" "I", Cond.fieldLink RX0 19 "AtelierBook" "ledger" "[I", Cond.methodLink RX0 99 yX0_sumOfRow, Cond.instanceMethod yX0_sumOfRow, Cond.selects RX0 yX0_sumOfRow yX0_sumOfRow, Cond.code yX0_sumOfRow cX0_sumOfRow 4 (some .int), Cond.methodLink RX0 84 yX0_place, Cond.static yX0_place, Cond.code yX0_place cX0_place 2 (some .int)]
def wsL_pour : List Cond := .codeWith yL_pour cL_pour 6 (some .int) [(0, 12, 15, 21), (0, 12, 19, 13), (0, 12, 23, 15)] :: ((wsL_pour_r1 ++ wsL_pour_r2) ++ wsX00 ++ (vx_atS RX0 92 "java/lang/IllegalArgumentException" ["java/lang/RuntimeException", "java/lang/Exception"]).filter goodWord ++ (vx_atS RX0 58 "java/lang/IllegalStateException" ["java/lang/RuntimeException", "java/lang/Exception"]).filter goodWord ++ (vx_atS RX0 165 "java/lang/IndexOutOfBoundsException" ["java/lang/RuntimeException", "java/lang/Exception"]).filter goodWord)
def wsL_scrape : List Cond := .codeWith yL_scrape cL_scrape 4 (some .int) [(0, 9, 12, 21)] :: ([.classLink RL 21 "java/lang/IndexOutOfBoundsException", .methodLink RL 33 yX0_scrape, .instanceMethod yX0_scrape, .selects RX0 yX0_scrape yX0_scrape, .initialized RX0, .code yX0_scrape cX0_scrape 2 (some .int), .fieldLink RX0 73 "AtelierBook" "potCount" "I", .methodLink RX0 61 yX0_checkNumber, .static yX0_checkNumber, .code yX0_checkNumber cX0_checkNumber 2 none, .classLink RX0 161 "java/lang/IndexOutOfBoundsException", .initialized "java/lang/IndexOutOfBoundsException", .methodLink RX0 80 yX0_potRow, .static yX0_potRow, .code yX0_potRow cX0_potRow 1 (some .int), .methodLink RX0 102 yX0_waste, .instanceMethod yX0_waste, .selects RX0 yX0_waste yX0_waste, .code yX0_waste cX0_waste 5 (some .int), .fieldLink RX0 68 "AtelierBook" "tubeCount" "I", .fieldLink RX0 19 "AtelierBook" "ledger" "[I", .methodLink RX0 84 yX0_place, .static yX0_place, .code yX0_place cX0_place 2 (some .int)] ++ wsX00 ++ (vx_atS RX0 165 "java/lang/IndexOutOfBoundsException" ["java/lang/RuntimeException", "java/lang/Exception"]).filter goodWord)
def wsL_picture : List Cond := .codeWith yL_picture cL_picture 3 (some .int) [(0, 8, 11, 15)] :: ([.classLink RL 15 "java/lang/IllegalStateException", .methodLink RL 37 yX0_picture, .instanceMethod yX0_picture, .selects RX0 yX0_picture yX0_picture, .initialized RX0, .code yX0_picture cX0_picture 1 (some .int), .classLink RX0 54 "java/lang/IllegalStateException", .initialized "java/lang/IllegalStateException", .fieldLink RX0 105 "AtelierBook" "pictureCount" "I"] ++ wsX00 ++ (vx_atS RX0 58 "java/lang/IllegalStateException" ["java/lang/RuntimeException", "java/lang/Exception"]).filter goodWord)
def wsL_paint_r1 : List Cond := [Cond.classLink RL 21 "java/lang/IndexOutOfBoundsException", Cond.classLink RL 13 "java/lang/IllegalArgumentException", Cond.classLink RL 15 "java/lang/IllegalStateException", Cond.methodLink RL 40 yX0_paint, Cond.instanceMethod yX0_paint, Cond.selects RX0 yX0_paint yX0_paint, Cond.initialized RX0, Cond.code yX0_paint cX0_paint 4 (some .int), Cond.classLink RX0 54 "java/lang/IllegalStateException", Cond.initialized "java/lang/IllegalStateException", Cond.fieldLink RX0 105 "AtelierBook" "pictureCount" "I", Cond.fieldLink RX0 73 "AtelierBook" "potCount" "I", Cond.fieldLink RX0 22 "AtelierBook" "layerCounts" "[I", Cond.methodLink RX0 61 yX0_checkNumber, Cond.static yX0_checkNumber, Cond.code yX0_checkNumber cX0_checkNumber 2 none, Cond.classLink RX0 161 "java/lang/IndexOutOfBoundsException", Cond.initialized "java/lang/IndexOutOfBoundsException", Cond.methodLink RX0 65 yX0_checkRange, Cond.static yX0_checkRange, Cond.code yX0_checkRange cX0_checkRange 3 none, Cond.classLink RX0 88 "java/lang/IllegalArgumentException", Cond.initialized "java/lang/IllegalArgumentException", Cond.methodLink RX0 110 yX0_checkAtHome]
def wsL_paint_r2 : List Cond := [Cond.instanceMethod yX0_checkAtHome, Cond.selects RX0 yX0_checkAtHome yX0_checkAtHome, Cond.code yX0_checkAtHome cX0_checkAtHome 2 none, Cond.methodLink RX0 143 yX0_isLent, Cond.instanceMethod yX0_isLent, Cond.selects RX0 yX0_isLent yX0_isLent, Cond.code yX0_isLent cX0_isLent 2 (some .boolean), Cond.fieldLink RX0 31 "AtelierBook" "loanDays" "[I", Cond.methodLink RX0 80 yX0_potRow, Cond.static yX0_potRow, Cond.code yX0_potRow cX0_potRow 1 (some .int), Cond.methodLink RX0 116 yX0_layerRow, Cond.static yX0_layerRow, Cond.code yX0_layerRow cX0_layerRow 2 (some .int), Cond.methodLink RX0 93 yX0_move, Cond.instanceMethod yX0_move, Cond.selects RX0 yX0_move yX0_move, Cond.code yX0_move cX0_move 9 (some .boolean), Cond.fieldLink RX0 68 "AtelierBook" "tubeCount" "I", Cond.fieldLink RX0 19 "AtelierBook" "ledger" "[I", Cond.methodLink RX0 99 yX0_sumOfRow, Cond.instanceMethod yX0_sumOfRow, Cond.selects RX0 yX0_sumOfRow yX0_sumOfRow, Cond.code yX0_sumOfRow cX0_sumOfRow 4 (some .int)]
def wsL_paint_r3 : List Cond := [Cond.methodLink RX0 84 yX0_place, Cond.static yX0_place, Cond.code yX0_place cX0_place 2 (some .int)]
def wsL_paint : List Cond := .codeWith yL_paint cL_paint 6 (some .int) [(0, 12, 15, 21), (0, 12, 19, 13), (0, 12, 23, 15)] :: ((wsL_paint_r1 ++ (wsL_paint_r2 ++ wsL_paint_r3)) ++ wsX00 ++ (vx_atS RX0 58 "java/lang/IllegalStateException" ["java/lang/RuntimeException", "java/lang/Exception"]).filter goodWord ++ (vx_atS RX0 165 "java/lang/IndexOutOfBoundsException" ["java/lang/RuntimeException", "java/lang/Exception"]).filter goodWord ++ (vx_atS RX0 92 "java/lang/IllegalArgumentException" ["java/lang/RuntimeException", "java/lang/Exception"]).filter goodWord)
def wsL_clean_r1 : List Cond := [Cond.classLink RL 21 "java/lang/IndexOutOfBoundsException", Cond.classLink RL 13 "java/lang/IllegalArgumentException", Cond.classLink RL 15 "java/lang/IllegalStateException", Cond.methodLink RL 43 yX0_clean, Cond.instanceMethod yX0_clean, Cond.selects RX0 yX0_clean yX0_clean, Cond.initialized RX0, Cond.code yX0_clean cX0_clean 5 (some .int), Cond.classLink RX0 54 "java/lang/IllegalStateException", Cond.initialized "java/lang/IllegalStateException", Cond.fieldLink RX0 105 "AtelierBook" "pictureCount" "I", Cond.fieldLink RX0 22 "AtelierBook" "layerCounts" "[I", Cond.methodLink RX0 61 yX0_checkNumber, Cond.static yX0_checkNumber, Cond.code yX0_checkNumber cX0_checkNumber 2 none, Cond.classLink RX0 161 "java/lang/IndexOutOfBoundsException", Cond.initialized "java/lang/IndexOutOfBoundsException", Cond.methodLink RX0 65 yX0_checkRange, Cond.static yX0_checkRange, Cond.code yX0_checkRange cX0_checkRange 3 none, Cond.classLink RX0 88 "java/lang/IllegalArgumentException", Cond.initialized "java/lang/IllegalArgumentException", Cond.methodLink RX0 110 yX0_checkAtHome, Cond.instanceMethod yX0_checkAtHome]
def wsL_clean_r2 : List Cond := [Cond.selects RX0 yX0_checkAtHome yX0_checkAtHome, Cond.code yX0_checkAtHome cX0_checkAtHome 2 none, Cond.methodLink RX0 143 yX0_isLent, Cond.instanceMethod yX0_isLent, Cond.selects RX0 yX0_isLent yX0_isLent, Cond.code yX0_isLent cX0_isLent 2 (some .boolean), Cond.fieldLink RX0 31 "AtelierBook" "loanDays" "[I", Cond.methodLink RX0 116 yX0_layerRow, Cond.static yX0_layerRow, Cond.code yX0_layerRow cX0_layerRow 2 (some .int), Cond.methodLink RX0 102 yX0_waste, Cond.instanceMethod yX0_waste, Cond.selects RX0 yX0_waste yX0_waste, Cond.code yX0_waste cX0_waste 5 (some .int), Cond.fieldLink RX0 68 "AtelierBook" "tubeCount" "I", Cond.fieldLink RX0 19 "AtelierBook" "ledger" "[I", Cond.methodLink RX0 84 yX0_place, Cond.static yX0_place, Cond.code yX0_place cX0_place 2 (some .int)]
def wsL_clean : List Cond := .codeWith yL_clean cL_clean 5 (some .int) [(0, 10, 13, 21), (0, 10, 17, 13), (0, 10, 21, 15)] :: ((wsL_clean_r1 ++ wsL_clean_r2) ++ wsX00 ++ (vx_atS RX0 58 "java/lang/IllegalStateException" ["java/lang/RuntimeException", "java/lang/Exception"]).filter goodWord ++ (vx_atS RX0 165 "java/lang/IndexOutOfBoundsException" ["java/lang/RuntimeException", "java/lang/Exception"]).filter goodWord ++ (vx_atS RX0 92 "java/lang/IllegalArgumentException" ["java/lang/RuntimeException", "java/lang/Exception"]).filter goodWord)
def wsL_damp : List Cond := .codeWith yL_damp cL_damp 5 (some .int) [(0, 10, 13, 21), (0, 10, 17, 13)] :: ([.classLink RL 21 "java/lang/IndexOutOfBoundsException", .classLink RL 13 "java/lang/IllegalArgumentException", .methodLink RL 46 yX0_damp, .instanceMethod yX0_damp, .selects RX0 yX0_damp yX0_damp, .initialized RX0, .code yX0_damp cX0_damp 4 (some .int), .fieldLink RX0 40 "AtelierBook" "houseDamps" "[I", .methodLink RX0 61 yX0_checkNumber, .static yX0_checkNumber, .code yX0_checkNumber cX0_checkNumber 2 none, .classLink RX0 161 "java/lang/IndexOutOfBoundsException", .initialized "java/lang/IndexOutOfBoundsException", .methodLink RX0 65 yX0_checkRange, .static yX0_checkRange, .code yX0_checkRange cX0_checkRange 3 none, .classLink RX0 88 "java/lang/IllegalArgumentException", .initialized "java/lang/IllegalArgumentException"] ++ wsX00 ++ (vx_atS RX0 165 "java/lang/IndexOutOfBoundsException" ["java/lang/RuntimeException", "java/lang/Exception"]).filter goodWord ++ (vx_atS RX0 92 "java/lang/IllegalArgumentException" ["java/lang/RuntimeException", "java/lang/Exception"]).filter goodWord)
def wsL_lend_r1 : List Cond := [Cond.classLink RL 21 "java/lang/IndexOutOfBoundsException", Cond.classLink RL 13 "java/lang/IllegalArgumentException", Cond.classLink RL 15 "java/lang/IllegalStateException", Cond.methodLink RL 49 yX0_lend, Cond.instanceMethod yX0_lend, Cond.selects RX0 yX0_lend yX0_lend, Cond.initialized RX0, Cond.code yX0_lend cX0_lend 4 (some .int), Cond.classLink RX0 54 "java/lang/IllegalStateException", Cond.initialized "java/lang/IllegalStateException", Cond.fieldLink RX0 105 "AtelierBook" "pictureCount" "I", Cond.fieldLink RX0 25 "AtelierBook" "crackCounts" "[I", Cond.fieldLink RX0 37 "AtelierBook" "loanCosts" "[I", Cond.fieldLink RX0 34 "AtelierBook" "loanHouses" "[I", Cond.fieldLink RX0 31 "AtelierBook" "loanDays" "[I", Cond.methodLink RX0 61 yX0_checkNumber, Cond.static yX0_checkNumber, Cond.code yX0_checkNumber cX0_checkNumber 2 none, Cond.classLink RX0 161 "java/lang/IndexOutOfBoundsException", Cond.initialized "java/lang/IndexOutOfBoundsException", Cond.methodLink RX0 65 yX0_checkRange, Cond.static yX0_checkRange, Cond.code yX0_checkRange cX0_checkRange 3 none, Cond.classLink RX0 88 "java/lang/IllegalArgumentException"]
def wsL_lend_r2 : List Cond := [Cond.initialized "java/lang/IllegalArgumentException", Cond.methodLink RX0 110 yX0_checkAtHome, Cond.instanceMethod yX0_checkAtHome, Cond.selects RX0 yX0_checkAtHome yX0_checkAtHome, Cond.code yX0_checkAtHome cX0_checkAtHome 2 none, Cond.methodLink RX0 143 yX0_isLent, Cond.instanceMethod yX0_isLent, Cond.selects RX0 yX0_isLent yX0_isLent, Cond.code yX0_isLent cX0_isLent 2 (some .boolean), Cond.methodLink RX0 123 yX0_valueOf, Cond.instanceMethod yX0_valueOf, Cond.selects RX0 yX0_valueOf yX0_valueOf, Cond.code yX0_valueOf cX0_valueOf 3 (some .int), Cond.methodLink RX0 182 Lib.Math.max.name, Cond.static Lib.Math.max.name, Cond.initialized "java/lang/Math", Cond.code Lib.Math.max.name Lib.Math.max.code 2 (some .int), Cond.methodLink RX0 179 yX0_averagePriceOfAlike, Cond.instanceMethod yX0_averagePriceOfAlike, Cond.selects RX0 yX0_averagePriceOfAlike yX0_averagePriceOfAlike, Cond.code yX0_averagePriceOfAlike cX0_averagePriceOfAlike 6 (some .int), Cond.fieldLink RX0 28 "AtelierBook" "latestPrices" "[I", Cond.methodLink RX0 140 yX0_mainPigmentOf, Cond.instanceMethod yX0_mainPigmentOf]
def wsL_lend_r3 : List Cond := [Cond.selects RX0 yX0_mainPigmentOf yX0_mainPigmentOf, Cond.code yX0_mainPigmentOf cX0_mainPigmentOf 3 (some .int), Cond.fieldLink RX0 22 "AtelierBook" "layerCounts" "[I", Cond.methodLink RX0 116 yX0_layerRow, Cond.static yX0_layerRow, Cond.code yX0_layerRow cX0_layerRow 2 (some .int), Cond.methodLink RX0 176 yX0_mainPigmentOfRow, Cond.instanceMethod yX0_mainPigmentOfRow, Cond.selects RX0 yX0_mainPigmentOfRow yX0_mainPigmentOfRow, Cond.code yX0_mainPigmentOfRow cX0_mainPigmentOfRow 6 (some .int), Cond.fieldLink RX0 50 "AtelierBook" "pigmentCount" "I", Cond.methodLink RX0 173 yX0_gramsOfPigment, Cond.instanceMethod yX0_gramsOfPigment, Cond.selects RX0 yX0_gramsOfPigment yX0_gramsOfPigment, Cond.code yX0_gramsOfPigment cX0_gramsOfPigment 5 (some .int), Cond.fieldLink RX0 68 "AtelierBook" "tubeCount" "I", Cond.fieldLink RX0 13 "AtelierBook" "pigmentOfTube" "[I", Cond.fieldLink RX0 19 "AtelierBook" "ledger" "[I", Cond.methodLink RX0 84 yX0_place, Cond.static yX0_place, Cond.code yX0_place cX0_place 2 (some .int)]
def wsL_lend : List Cond := .codeWith yL_lend cL_lend 6 (some .int) [(0, 12, 15, 21), (0, 12, 19, 13), (0, 12, 23, 15)] :: ((wsL_lend_r1 ++ (wsL_lend_r2 ++ wsL_lend_r3)) ++ wsX00 ++ (vx_atS RX0 58 "java/lang/IllegalStateException" ["java/lang/RuntimeException", "java/lang/Exception"]).filter goodWord ++ (vx_atS RX0 165 "java/lang/IndexOutOfBoundsException" ["java/lang/RuntimeException", "java/lang/Exception"]).filter goodWord ++ (vx_atS RX0 92 "java/lang/IllegalArgumentException" ["java/lang/RuntimeException", "java/lang/Exception"]).filter goodWord)
def wsL_sell_r1 : List Cond := [Cond.classLink RL 21 "java/lang/IndexOutOfBoundsException", Cond.classLink RL 13 "java/lang/IllegalArgumentException", Cond.classLink RL 15 "java/lang/IllegalStateException", Cond.methodLink RL 52 yX0_sell, Cond.instanceMethod yX0_sell, Cond.selects RX0 yX0_sell yX0_sell, Cond.initialized RX0, Cond.code yX0_sell cX0_sell 3 (some .int), Cond.classLink RX0 54 "java/lang/IllegalStateException", Cond.initialized "java/lang/IllegalStateException", Cond.fieldLink RX0 105 "AtelierBook" "pictureCount" "I", Cond.constant RX0 126 (100000), Cond.fieldLink RX0 22 "AtelierBook" "layerCounts" "[I", Cond.fieldLink RX0 28 "AtelierBook" "latestPrices" "[I", Cond.methodLink RX0 61 yX0_checkNumber, Cond.static yX0_checkNumber, Cond.code yX0_checkNumber cX0_checkNumber 2 none, Cond.classLink RX0 161 "java/lang/IndexOutOfBoundsException", Cond.initialized "java/lang/IndexOutOfBoundsException", Cond.methodLink RX0 65 yX0_checkRange, Cond.static yX0_checkRange, Cond.code yX0_checkRange cX0_checkRange 3 none, Cond.classLink RX0 88 "java/lang/IllegalArgumentException", Cond.initialized "java/lang/IllegalArgumentException"]
def wsL_sell_r2 : List Cond := [Cond.methodLink RX0 110 yX0_checkAtHome, Cond.instanceMethod yX0_checkAtHome, Cond.selects RX0 yX0_checkAtHome yX0_checkAtHome, Cond.code yX0_checkAtHome cX0_checkAtHome 2 none, Cond.methodLink RX0 143 yX0_isLent, Cond.instanceMethod yX0_isLent, Cond.selects RX0 yX0_isLent yX0_isLent, Cond.code yX0_isLent cX0_isLent 2 (some .boolean), Cond.fieldLink RX0 31 "AtelierBook" "loanDays" "[I", Cond.methodLink RX0 123 yX0_valueOf, Cond.instanceMethod yX0_valueOf, Cond.selects RX0 yX0_valueOf yX0_valueOf, Cond.code yX0_valueOf cX0_valueOf 3 (some .int), Cond.fieldLink RX0 25 "AtelierBook" "crackCounts" "[I", Cond.methodLink RX0 182 Lib.Math.max.name, Cond.static Lib.Math.max.name, Cond.initialized "java/lang/Math", Cond.code Lib.Math.max.name Lib.Math.max.code 2 (some .int), Cond.methodLink RX0 179 yX0_averagePriceOfAlike, Cond.instanceMethod yX0_averagePriceOfAlike, Cond.selects RX0 yX0_averagePriceOfAlike yX0_averagePriceOfAlike, Cond.code yX0_averagePriceOfAlike cX0_averagePriceOfAlike 6 (some .int), Cond.methodLink RX0 140 yX0_mainPigmentOf, Cond.instanceMethod yX0_mainPigmentOf]
def wsL_sell_r3 : List Cond := [Cond.selects RX0 yX0_mainPigmentOf yX0_mainPigmentOf, Cond.code yX0_mainPigmentOf cX0_mainPigmentOf 3 (some .int), Cond.methodLink RX0 116 yX0_layerRow, Cond.static yX0_layerRow, Cond.code yX0_layerRow cX0_layerRow 2 (some .int), Cond.methodLink RX0 176 yX0_mainPigmentOfRow, Cond.instanceMethod yX0_mainPigmentOfRow, Cond.selects RX0 yX0_mainPigmentOfRow yX0_mainPigmentOfRow, Cond.code yX0_mainPigmentOfRow cX0_mainPigmentOfRow 6 (some .int), Cond.fieldLink RX0 50 "AtelierBook" "pigmentCount" "I", Cond.methodLink RX0 173 yX0_gramsOfPigment, Cond.instanceMethod yX0_gramsOfPigment, Cond.selects RX0 yX0_gramsOfPigment yX0_gramsOfPigment, Cond.code yX0_gramsOfPigment cX0_gramsOfPigment 5 (some .int), Cond.fieldLink RX0 68 "AtelierBook" "tubeCount" "I", Cond.fieldLink RX0 13 "AtelierBook" "pigmentOfTube" "[I", Cond.fieldLink RX0 19 "AtelierBook" "ledger" "[I", Cond.methodLink RX0 84 yX0_place, Cond.static yX0_place, Cond.code yX0_place cX0_place 2 (some .int)]
def wsL_sell : List Cond := .codeWith yL_sell cL_sell 5 (some .int) [(0, 10, 13, 21), (0, 10, 17, 13), (0, 10, 21, 15)] :: ((wsL_sell_r1 ++ (wsL_sell_r2 ++ wsL_sell_r3)) ++ wsX00 ++ (vx_atS RX0 58 "java/lang/IllegalStateException" ["java/lang/RuntimeException", "java/lang/Exception"]).filter goodWord ++ (vx_atS RX0 165 "java/lang/IndexOutOfBoundsException" ["java/lang/RuntimeException", "java/lang/Exception"]).filter goodWord ++ (vx_atS RX0 92 "java/lang/IllegalArgumentException" ["java/lang/RuntimeException", "java/lang/Exception"]).filter goodWord)
def wsL_pass_r1 : List Cond := [Cond.classLink RL 13 "java/lang/IllegalArgumentException", Cond.classLink RL 15 "java/lang/IllegalStateException", Cond.methodLink RL 55 yX0_pass, Cond.instanceMethod yX0_pass, Cond.selects RX0 yX0_pass yX0_pass, Cond.initialized RX0, Cond.code yX0_pass cX0_pass 3 (some .int), Cond.classLink RX0 54 "java/lang/IllegalStateException", Cond.initialized "java/lang/IllegalStateException", Cond.fieldLink RX0 129 "AtelierBook" "today" "I", Cond.fieldLink RX0 105 "AtelierBook" "pictureCount" "I", Cond.methodLink RX0 65 yX0_checkRange, Cond.static yX0_checkRange, Cond.code yX0_checkRange cX0_checkRange 3 none, Cond.classLink RX0 88 "java/lang/IllegalArgumentException", Cond.initialized "java/lang/IllegalArgumentException", Cond.methodLink RX0 134 yX0_passForLoan, Cond.instanceMethod yX0_passForLoan, Cond.selects RX0 yX0_passForLoan yX0_passForLoan, Cond.code yX0_passForLoan cX0_passForLoan 5 none, Cond.fieldLink RX0 31 "AtelierBook" "loanDays" "[I", Cond.methodLink RX0 187 Lib.Math.min.name, Cond.static Lib.Math.min.name, Cond.initialized "java/lang/Math"]
def wsL_pass_r2 : List Cond := [Cond.code Lib.Math.min.name Lib.Math.min.code 2 (some .int), Cond.fieldLink RX0 34 "AtelierBook" "loanHouses" "[I", Cond.fieldLink RX0 40 "AtelierBook" "houseDamps" "[I", Cond.methodLink RX0 190 Lib.Math.abs.name, Cond.static Lib.Math.abs.name, Cond.code Lib.Math.abs.name Lib.Math.abs.code 1 (some .int), Cond.fieldLink RX0 25 "AtelierBook" "crackCounts" "[I", Cond.fieldLink RX0 43 "AtelierBook" "housePayments" "[I", Cond.fieldLink RX0 37 "AtelierBook" "loanCosts" "[I"]
def wsL_pass : List Cond := .codeWith yL_pass cL_pass 4 (some .int) [(0, 9, 12, 13), (0, 9, 15, 15)] :: ((wsL_pass_r1 ++ wsL_pass_r2) ++ wsX00 ++ (vx_atS RX0 58 "java/lang/IllegalStateException" ["java/lang/RuntimeException", "java/lang/Exception"]).filter goodWord ++ (vx_atS RX0 92 "java/lang/IllegalArgumentException" ["java/lang/RuntimeException", "java/lang/Exception"]).filter goodWord)
def wsL_left : List Cond := .codeWith yL_left cL_left 4 (some .int) [(0, 9, 12, 21)] :: ([.classLink RL 21 "java/lang/IndexOutOfBoundsException", .methodLink RL 58 yX0_left, .instanceMethod yX0_left, .selects RX0 yX0_left yX0_left, .initialized RX0, .code yX0_left cX0_left 2 (some .int), .fieldLink RX0 68 "AtelierBook" "tubeCount" "I", .fieldLink RX0 16 "AtelierBook" "gramsInTube" "[I", .methodLink RX0 61 yX0_checkNumber, .static yX0_checkNumber, .code yX0_checkNumber cX0_checkNumber 2 none, .classLink RX0 161 "java/lang/IndexOutOfBoundsException", .initialized "java/lang/IndexOutOfBoundsException"] ++ wsX00 ++ (vx_atS RX0 165 "java/lang/IndexOutOfBoundsException" ["java/lang/RuntimeException", "java/lang/Exception"]).filter goodWord)
def wsL_has : List Cond := .codeWith yL_has cL_has 5 (some .int) [(0, 10, 13, 21)] :: ([.classLink RL 21 "java/lang/IndexOutOfBoundsException", .methodLink RL 61 yX0_has, .instanceMethod yX0_has, .selects RX0 yX0_has yX0_has, .initialized RX0, .code yX0_has cX0_has 3 (some .int), .fieldLink RX0 73 "AtelierBook" "potCount" "I", .fieldLink RX0 68 "AtelierBook" "tubeCount" "I", .fieldLink RX0 19 "AtelierBook" "ledger" "[I", .methodLink RX0 61 yX0_checkNumber, .static yX0_checkNumber, .code yX0_checkNumber cX0_checkNumber 2 none, .classLink RX0 161 "java/lang/IndexOutOfBoundsException", .initialized "java/lang/IndexOutOfBoundsException", .methodLink RX0 80 yX0_potRow, .static yX0_potRow, .code yX0_potRow cX0_potRow 1 (some .int), .methodLink RX0 99 yX0_sumOfRow, .instanceMethod yX0_sumOfRow, .selects RX0 yX0_sumOfRow yX0_sumOfRow, .code yX0_sumOfRow cX0_sumOfRow 4 (some .int), .methodLink RX0 84 yX0_place, .static yX0_place, .code yX0_place cX0_place 2 (some .int)] ++ wsX00 ++ (vx_atS RX0 165 "java/lang/IndexOutOfBoundsException" ["java/lang/RuntimeException", "java/lang/Exception"]).filter goodWord)
def wsL_colour_r1 : List Cond := [Cond.classLink RL 21 "java/lang/IndexOutOfBoundsException", Cond.classLink RL 13 "java/lang/IllegalArgumentException", Cond.methodLink RL 64 yX0_colour, Cond.instanceMethod yX0_colour, Cond.selects RX0 yX0_colour yX0_colour, Cond.initialized RX0, Cond.code yX0_colour cX0_colour 3 (some .int), Cond.fieldLink RX0 73 "AtelierBook" "potCount" "I", Cond.methodLink RX0 61 yX0_checkNumber, Cond.static yX0_checkNumber, Cond.code yX0_checkNumber cX0_checkNumber 2 none, Cond.classLink RX0 161 "java/lang/IndexOutOfBoundsException", Cond.initialized "java/lang/IndexOutOfBoundsException", Cond.methodLink RX0 65 yX0_checkRange, Cond.static yX0_checkRange, Cond.code yX0_checkRange cX0_checkRange 3 none, Cond.classLink RX0 88 "java/lang/IllegalArgumentException", Cond.initialized "java/lang/IllegalArgumentException", Cond.methodLink RX0 80 yX0_potRow, Cond.static yX0_potRow, Cond.code yX0_potRow cX0_potRow 1 (some .int), Cond.methodLink RX0 137 yX0_colourOfRow, Cond.instanceMethod yX0_colourOfRow, Cond.selects RX0 yX0_colourOfRow yX0_colourOfRow]
def wsL_colour_r2 : List Cond := [Cond.code yX0_colourOfRow cX0_colourOfRow 7 (some .int), Cond.fieldLink RX0 68 "AtelierBook" "tubeCount" "I", Cond.fieldLink RX0 19 "AtelierBook" "ledger" "[I", Cond.methodLink RX0 84 yX0_place, Cond.static yX0_place, Cond.code yX0_place cX0_place 2 (some .int), Cond.methodLink RX0 170 yX0_colourOfTube, Cond.instanceMethod yX0_colourOfTube, Cond.selects RX0 yX0_colourOfTube yX0_colourOfTube, Cond.code yX0_colourOfTube cX0_colourOfTube 3 (some .int), Cond.fieldLink RX0 9 "AtelierBook" "pigmentColours" "[I", Cond.fieldLink RX0 13 "AtelierBook" "pigmentOfTube" "[I"]
def wsL_colour : List Cond := .codeWith yL_colour cL_colour 5 (some .int) [(0, 10, 13, 21), (0, 10, 17, 13)] :: ((wsL_colour_r1 ++ wsL_colour_r2) ++ wsX00 ++ (vx_atS RX0 165 "java/lang/IndexOutOfBoundsException" ["java/lang/RuntimeException", "java/lang/Exception"]).filter goodWord ++ (vx_atS RX0 92 "java/lang/IllegalArgumentException" ["java/lang/RuntimeException", "java/lang/Exception"]).filter goodWord)
def wsL_of_r1 : List Cond := [Cond.classLink RL 21 "java/lang/IndexOutOfBoundsException", Cond.classLink RL 13 "java/lang/IllegalArgumentException", Cond.methodLink RL 67 yX0_of, Cond.instanceMethod yX0_of, Cond.selects RX0 yX0_of yX0_of, Cond.initialized RX0, Cond.code yX0_of cX0_of 3 (some .int), Cond.fieldLink RX0 105 "AtelierBook" "pictureCount" "I", Cond.fieldLink RX0 22 "AtelierBook" "layerCounts" "[I", Cond.fieldLink RX0 25 "AtelierBook" "crackCounts" "[I", Cond.fieldLink RX0 34 "AtelierBook" "loanHouses" "[I", Cond.fieldLink RX0 31 "AtelierBook" "loanDays" "[I", Cond.methodLink RX0 61 yX0_checkNumber, Cond.static yX0_checkNumber, Cond.code yX0_checkNumber cX0_checkNumber 2 none, Cond.classLink RX0 161 "java/lang/IndexOutOfBoundsException", Cond.initialized "java/lang/IndexOutOfBoundsException", Cond.methodLink RX0 65 yX0_checkRange, Cond.static yX0_checkRange, Cond.code yX0_checkRange cX0_checkRange 3 none, Cond.classLink RX0 88 "java/lang/IllegalArgumentException", Cond.initialized "java/lang/IllegalArgumentException", Cond.methodLink RX0 123 yX0_valueOf, Cond.instanceMethod yX0_valueOf]
def wsL_of_r2 : List Cond := [Cond.selects RX0 yX0_valueOf yX0_valueOf, Cond.code yX0_valueOf cX0_valueOf 3 (some .int), Cond.methodLink RX0 182 Lib.Math.max.name, Cond.static Lib.Math.max.name, Cond.initialized "java/lang/Math", Cond.code Lib.Math.max.name Lib.Math.max.code 2 (some .int), Cond.methodLink RX0 179 yX0_averagePriceOfAlike, Cond.instanceMethod yX0_averagePriceOfAlike, Cond.selects RX0 yX0_averagePriceOfAlike yX0_averagePriceOfAlike, Cond.code yX0_averagePriceOfAlike cX0_averagePriceOfAlike 6 (some .int), Cond.fieldLink RX0 28 "AtelierBook" "latestPrices" "[I", Cond.methodLink RX0 140 yX0_mainPigmentOf, Cond.instanceMethod yX0_mainPigmentOf, Cond.selects RX0 yX0_mainPigmentOf yX0_mainPigmentOf, Cond.code yX0_mainPigmentOf cX0_mainPigmentOf 3 (some .int), Cond.methodLink RX0 116 yX0_layerRow, Cond.static yX0_layerRow, Cond.code yX0_layerRow cX0_layerRow 2 (some .int), Cond.methodLink RX0 176 yX0_mainPigmentOfRow, Cond.instanceMethod yX0_mainPigmentOfRow, Cond.selects RX0 yX0_mainPigmentOfRow yX0_mainPigmentOfRow, Cond.code yX0_mainPigmentOfRow cX0_mainPigmentOfRow 6 (some .int), Cond.fieldLink RX0 50 "AtelierBook" "pigmentCount" "I", Cond.methodLink RX0 173 yX0_gramsOfPigment]
def wsL_of_r3 : List Cond := [Cond.instanceMethod yX0_gramsOfPigment, Cond.selects RX0 yX0_gramsOfPigment yX0_gramsOfPigment, Cond.code yX0_gramsOfPigment cX0_gramsOfPigment 5 (some .int), Cond.fieldLink RX0 68 "AtelierBook" "tubeCount" "I", Cond.fieldLink RX0 13 "AtelierBook" "pigmentOfTube" "[I", Cond.fieldLink RX0 19 "AtelierBook" "ledger" "[I", Cond.methodLink RX0 84 yX0_place, Cond.static yX0_place, Cond.code yX0_place cX0_place 2 (some .int), Cond.methodLink RX0 143 yX0_isLent, Cond.instanceMethod yX0_isLent, Cond.selects RX0 yX0_isLent yX0_isLent, Cond.code yX0_isLent cX0_isLent 2 (some .boolean), Cond.methodLink RX0 147 yX0_lookOf, Cond.instanceMethod yX0_lookOf, Cond.selects RX0 yX0_lookOf yX0_lookOf, Cond.code yX0_lookOf cX0_lookOf 4 (some .int), Cond.methodLink RX0 137 yX0_colourOfRow, Cond.instanceMethod yX0_colourOfRow, Cond.selects RX0 yX0_colourOfRow yX0_colourOfRow, Cond.code yX0_colourOfRow cX0_colourOfRow 7 (some .int), Cond.methodLink RX0 170 yX0_colourOfTube, Cond.instanceMethod yX0_colourOfTube, Cond.selects RX0 yX0_colourOfTube yX0_colourOfTube]
def wsL_of_r4 : List Cond := [Cond.code yX0_colourOfTube cX0_colourOfTube 3 (some .int), Cond.fieldLink RX0 9 "AtelierBook" "pigmentColours" "[I"]
def wsL_of : List Cond := .codeWith yL_of cL_of 5 (some .int) [(0, 10, 13, 21), (0, 10, 17, 13)] :: ((wsL_of_r1 ++ (wsL_of_r2 ++ (wsL_of_r3 ++ wsL_of_r4))) ++ wsX00 ++ (vx_atS RX0 165 "java/lang/IndexOutOfBoundsException" ["java/lang/RuntimeException", "java/lang/Exception"]).filter goodWord ++ (vx_atS RX0 92 "java/lang/IllegalArgumentException" ["java/lang/RuntimeException", "java/lang/Exception"]).filter goodWord)
def wsL_layer : List Cond := .codeWith yL_layer cL_layer 6 (some .int) [(0, 12, 15, 21)] :: ([.classLink RL 21 "java/lang/IndexOutOfBoundsException", .methodLink RL 70 yX0_layer, .instanceMethod yX0_layer, .selects RX0 yX0_layer yX0_layer, .initialized RX0, .code yX0_layer cX0_layer 4 (some .int), .fieldLink RX0 105 "AtelierBook" "pictureCount" "I", .fieldLink RX0 22 "AtelierBook" "layerCounts" "[I", .fieldLink RX0 68 "AtelierBook" "tubeCount" "I", .fieldLink RX0 19 "AtelierBook" "ledger" "[I", .methodLink RX0 61 yX0_checkNumber, .static yX0_checkNumber, .code yX0_checkNumber cX0_checkNumber 2 none, .classLink RX0 161 "java/lang/IndexOutOfBoundsException", .initialized "java/lang/IndexOutOfBoundsException", .methodLink RX0 116 yX0_layerRow, .static yX0_layerRow, .code yX0_layerRow cX0_layerRow 2 (some .int), .methodLink RX0 84 yX0_place, .static yX0_place, .code yX0_place cX0_place 2 (some .int)] ++ wsX00 ++ (vx_atS RX0 165 "java/lang/IndexOutOfBoundsException" ["java/lang/RuntimeException", "java/lang/Exception"]).filter goodWord)
def wsL_where_r1 : List Cond := [Cond.classLink RL 21 "java/lang/IndexOutOfBoundsException", Cond.classLink RL 13 "java/lang/IllegalArgumentException", Cond.methodLink RL 73 yX0_where, Cond.instanceMethod yX0_where, Cond.selects RX0 yX0_where yX0_where, Cond.initialized RX0, Cond.code yX0_where cX0_where 3 (some .int), Cond.fieldLink RX0 68 "AtelierBook" "tubeCount" "I", Cond.fieldLink RX0 16 "AtelierBook" "gramsInTube" "[I", Cond.methodLink RX0 61 yX0_checkNumber, Cond.static yX0_checkNumber, Cond.code yX0_checkNumber cX0_checkNumber 2 none, Cond.classLink RX0 161 "java/lang/IndexOutOfBoundsException", Cond.initialized "java/lang/IndexOutOfBoundsException", Cond.methodLink RX0 65 yX0_checkRange, Cond.static yX0_checkRange, Cond.code yX0_checkRange cX0_checkRange 3 none, Cond.classLink RX0 88 "java/lang/IllegalArgumentException", Cond.initialized "java/lang/IllegalArgumentException", Cond.methodLink RX0 150 yX0_sumOfTube, Cond.instanceMethod yX0_sumOfTube, Cond.selects RX0 yX0_sumOfTube yX0_sumOfTube, Cond.code yX0_sumOfTube cX0_sumOfTube 6 (some .int), Cond.fieldLink RX0 19 "AtelierBook" "ledger" "[I"]
def wsL_where_r2 : List Cond := [Cond.methodLink RX0 84 yX0_place, Cond.static yX0_place, Cond.code yX0_place cX0_place 2 (some .int)]
def wsL_where : List Cond := .codeWith yL_where cL_where 5 (some .int) [(0, 10, 13, 21), (0, 10, 17, 13)] :: ((wsL_where_r1 ++ wsL_where_r2) ++ wsX00 ++ (vx_atS RX0 165 "java/lang/IndexOutOfBoundsException" ["java/lang/RuntimeException", "java/lang/Exception"]).filter goodWord ++ (vx_atS RX0 92 "java/lang/IllegalArgumentException" ["java/lang/RuntimeException", "java/lang/Exception"]).filter goodWord)
def wsL_recipe_r1 : List Cond := [Cond.classLink RL 13 "java/lang/IllegalArgumentException", Cond.methodLink RL 76 yX0_recipe, Cond.instanceMethod yX0_recipe, Cond.selects RX0 yX0_recipe yX0_recipe, Cond.initialized RX0, Cond.code yX0_recipe cX0_recipe 10 (some .int), Cond.fieldLink RX0 68 "AtelierBook" "tubeCount" "I", Cond.fieldLink RX0 16 "AtelierBook" "gramsInTube" "[I", Cond.methodLink RX0 46 yX0_checkColour, Cond.static yX0_checkColour, Cond.code yX0_checkColour cX0_checkColour 3 none, Cond.methodLink RX0 65 yX0_checkRange, Cond.static yX0_checkRange, Cond.code yX0_checkRange cX0_checkRange 3 none, Cond.classLink RX0 88 "java/lang/IllegalArgumentException", Cond.initialized "java/lang/IllegalArgumentException", Cond.methodLink RX0 154 yX0_mixed, Cond.instanceMethod yX0_mixed, Cond.selects RX0 yX0_mixed yX0_mixed, Cond.code yX0_mixed cX0_mixed 5 (some .int), Cond.methodLink RX0 170 yX0_colourOfTube, Cond.instanceMethod yX0_colourOfTube, Cond.selects RX0 yX0_colourOfTube yX0_colourOfTube, Cond.code yX0_colourOfTube cX0_colourOfTube 3 (some .int)]
def wsL_recipe_r2 : List Cond := [Cond.fieldLink RX0 9 "AtelierBook" "pigmentColours" "[I", Cond.fieldLink RX0 13 "AtelierBook" "pigmentOfTube" "[I", Cond.methodLink RX0 158 yX0_square, Cond.static yX0_square, Cond.code yX0_square cX0_square 1 (some .int)]
def wsL_recipe : List Cond := .codeWith yL_recipe cL_recipe 6 (some .int) [(0, 12, 15, 13)] :: ((wsL_recipe_r1 ++ wsL_recipe_r2) ++ wsX00 ++ (vx_atS RX0 92 "java/lang/IllegalArgumentException" ["java/lang/RuntimeException", "java/lang/Exception"]).filter goodWord)
def wsL_paid : List Cond := .codeWith yL_paid cL_paid 4 (some .int) [(0, 9, 12, 21)] :: ([.classLink RL 21 "java/lang/IndexOutOfBoundsException", .methodLink RL 79 yX0_paid, .instanceMethod yX0_paid, .selects RX0 yX0_paid yX0_paid, .initialized RX0, .code yX0_paid cX0_paid 2 (some .int), .fieldLink RX0 43 "AtelierBook" "housePayments" "[I", .methodLink RX0 61 yX0_checkNumber, .static yX0_checkNumber, .code yX0_checkNumber cX0_checkNumber 2 none, .classLink RX0 161 "java/lang/IndexOutOfBoundsException", .initialized "java/lang/IndexOutOfBoundsException"] ++ wsX00 ++ (vx_atS RX0 165 "java/lang/IndexOutOfBoundsException" ["java/lang/RuntimeException", "java/lang/Exception"]).filter goodWord)
def wsL_law0_r1 : List Cond := [Cond.classLink RL 8 RX0, Cond.instantiable RX0 17, Cond.initialized RX0, Cond.classLink RL 83 RX1, Cond.instantiable RX1 22, Cond.initialized RX1, Cond.arrayClass .long, Cond.methodLink RL 82 yX0_init, Cond.instanceMethod yX0_init, Cond.code yX0_init cX0_init 2 none, Cond.methodLink RX0 3 objectInit, Cond.instanceMethod objectInit, Cond.code objectInit ⟨#[0xb1]⟩ 1 none, Cond.arrayClass .int, Cond.fieldLink RX0 9 "AtelierBook" "pigmentColours" "[I", Cond.fieldLink RX0 13 "AtelierBook" "pigmentOfTube" "[I", Cond.fieldLink RX0 16 "AtelierBook" "gramsInTube" "[I", Cond.fieldLink RX0 19 "AtelierBook" "ledger" "[I", Cond.fieldLink RX0 22 "AtelierBook" "layerCounts" "[I", Cond.fieldLink RX0 25 "AtelierBook" "crackCounts" "[I", Cond.fieldLink RX0 28 "AtelierBook" "latestPrices" "[I", Cond.fieldLink RX0 31 "AtelierBook" "loanDays" "[I", Cond.fieldLink RX0 34 "AtelierBook" "loanHouses" "[I", Cond.fieldLink RX0 37 "AtelierBook" "loanCosts" "[I"]
def wsL_law0_r2 : List Cond := [Cond.fieldLink RX0 40 "AtelierBook" "houseDamps" "[I", Cond.fieldLink RX0 43 "AtelierBook" "housePayments" "[I", Cond.methodLink RL 85 yX1_init, Cond.instanceMethod yX1_init, Cond.code yX1_init cX1_init 2 none, Cond.methodLink RX1 1 objectInit, Cond.fieldLink RX1 7 "AtelierBookModel" "shade" "[I", Cond.fieldLink RX1 13 "AtelierBookModel" "pigmentOf" "[I", Cond.fieldLink RX1 16 "AtelierBookModel" "left" "[I", Cond.fieldLink RX1 19 "AtelierBookModel" "wasted" "[I", Cond.fieldLink RX1 22 "AtelierBookModel" "inPot" "[I", Cond.fieldLink RX1 25 "AtelierBookModel" "layers" "[I", Cond.fieldLink RX1 28 "AtelierBookModel" "inLayer" "[I", Cond.fieldLink RX1 31 "AtelierBookModel" "cracks" "[I", Cond.fieldLink RX1 34 "AtelierBookModel" "price" "[I", Cond.fieldLink RX1 37 "AtelierBookModel" "house" "[I", Cond.fieldLink RX1 40 "AtelierBookModel" "days" "[I", Cond.fieldLink RX1 43 "AtelierBookModel" "cost" "[I", Cond.fieldLink RX1 46 "AtelierBookModel" "damp" "[I", Cond.fieldLink RX1 49 "AtelierBookModel" "paid" "[I", Cond.fieldLink RX1 52 "AtelierBookModel" "flow" "[I", Cond.fieldLink RX1 55 "AtelierBookModel" "sums" "[I", Cond.methodLink RL 86 yL_pigment, Cond.static yL_pigment]
def wsL_law0_r3 : List Cond := [Cond.initialized RL, Cond.codeWith yL_pigment cL_pigment 6 (some .int) [(0, 12, 15, 13), (0, 12, 19, 15)], Cond.classLink RL 13 "java/lang/IllegalArgumentException", Cond.classLink RL 15 "java/lang/IllegalStateException", Cond.methodLink RL 7 yX0_pigment, Cond.instanceMethod yX0_pigment, Cond.selects RX0 yX0_pigment yX0_pigment, Cond.code yX0_pigment cX0_pigment 5 (some .int), Cond.classLink RX0 54 "java/lang/IllegalStateException", Cond.initialized "java/lang/IllegalStateException", Cond.fieldLink RX0 50 "AtelierBook" "pigmentCount" "I", Cond.methodLink RX0 46 yX0_checkColour, Cond.static yX0_checkColour, Cond.code yX0_checkColour cX0_checkColour 3 none, Cond.methodLink RX0 65 yX0_checkRange, Cond.static yX0_checkRange, Cond.code yX0_checkRange cX0_checkRange 3 none, Cond.classLink RX0 88 "java/lang/IllegalArgumentException", Cond.initialized "java/lang/IllegalArgumentException", Cond.methodLink RL 91 yX1_pigment, Cond.instanceMethod yX1_pigment, Cond.selects RX1 yX1_pigment yX1_pigment, Cond.code yX1_pigment cX1_pigment 4 (some .int), Cond.fieldLink RX1 78 "AtelierBookModel" "pigments" "I"]
def wsL_law0_r4 : List Cond := [Cond.fieldLink RX1 58 "AtelierBookModel" "thrown" "I", Cond.methodLink RX1 75 yX1_areShades, Cond.static yX1_areShades, Cond.code yX1_areShades cX1_areShades 3 (some .boolean), Cond.methodLink RX1 62 yX1_in, Cond.static yX1_in, Cond.code yX1_in cX1_in 3 (some .boolean), Cond.methodLink RL 92 yX1_thrown, Cond.instanceMethod yX1_thrown, Cond.selects RX1 yX1_thrown yX1_thrown, Cond.code yX1_thrown cX1_thrown 1 (some .int), Cond.methodLink RL 95 yL_tube, Cond.static yL_tube, Cond.codeWith yL_tube cL_tube 5 (some .int) [(0, 10, 13, 21), (0, 10, 17, 13), (0, 10, 21, 15)], Cond.classLink RL 21 "java/lang/IndexOutOfBoundsException", Cond.methodLink RL 17 yX0_tube, Cond.instanceMethod yX0_tube, Cond.selects RX0 yX0_tube yX0_tube, Cond.code yX0_tube cX0_tube 3 (some .int), Cond.fieldLink RX0 68 "AtelierBook" "tubeCount" "I", Cond.methodLink RX0 61 yX0_checkNumber, Cond.static yX0_checkNumber, Cond.code yX0_checkNumber cX0_checkNumber 2 none, Cond.classLink RX0 161 "java/lang/IndexOutOfBoundsException"]
def wsL_law0_r5 : List Cond := [Cond.initialized "java/lang/IndexOutOfBoundsException", Cond.methodLink RL 98 yX1_tube, Cond.instanceMethod yX1_tube, Cond.selects RX1 yX1_tube yX1_tube, Cond.code yX1_tube cX1_tube 3 (some .int), Cond.fieldLink RX1 66 "AtelierBookModel" "tubes" "I", Cond.methodLink RL 99 yL_pot, Cond.static yL_pot, Cond.codeWith yL_pot cL_pot 3 (some .int) [(0, 8, 11, 15)], Cond.methodLink RL 23 yX0_pot, Cond.instanceMethod yX0_pot, Cond.selects RX0 yX0_pot yX0_pot, Cond.code yX0_pot cX0_pot 1 (some .int), Cond.fieldLink RX0 73 "AtelierBook" "potCount" "I", Cond.methodLink RL 102 yX1_pot, Cond.instanceMethod yX1_pot, Cond.selects RX1 yX1_pot yX1_pot, Cond.code yX1_pot cX1_pot 1 (some .int), Cond.fieldLink RX1 69 "AtelierBookModel" "pots" "I", Cond.methodLink RL 103 yL_squeeze, Cond.static yL_squeeze, Cond.codeWith yL_squeeze cL_squeeze 6 (some .int) [(0, 12, 15, 21), (0, 12, 19, 13), (0, 12, 23, 15)], Cond.methodLink RL 27 yX0_squeeze, Cond.instanceMethod yX0_squeeze]
def wsL_law0_r6 : List Cond := [Cond.selects RX0 yX0_squeeze yX0_squeeze, Cond.code yX0_squeeze cX0_squeeze 4 (some .int), Cond.methodLink RX0 80 yX0_potRow, Cond.static yX0_potRow, Cond.code yX0_potRow cX0_potRow 1 (some .int), Cond.methodLink RX0 84 yX0_place, Cond.static yX0_place, Cond.code yX0_place cX0_place 2 (some .int), Cond.methodLink RL 105 yX1_squeeze, Cond.instanceMethod yX1_squeeze, Cond.selects RX1 yX1_squeeze yX1_squeeze, Cond.code yX1_squeeze cX1_squeeze 4 (some .int), Cond.methodLink RX1 81 yX1_isPot, Cond.instanceMethod yX1_isPot, Cond.selects RX1 yX1_isPot yX1_isPot, Cond.code yX1_isPot cX1_isPot 2 (some .boolean), Cond.methodLink RX1 85 yX1_isTube, Cond.instanceMethod yX1_isTube, Cond.selects RX1 yX1_isTube yX1_isTube, Cond.code yX1_isTube cX1_isTube 2 (some .boolean), Cond.methodLink RL 106 yL_pour, Cond.static yL_pour, Cond.codeWith yL_pour cL_pour 6 (some .int) [(0, 12, 15, 21), (0, 12, 19, 13), (0, 12, 23, 15)], Cond.methodLink RL 30 yX0_pour]
def wsL_law0_r7 : List Cond := [Cond.instanceMethod yX0_pour, Cond.selects RX0 yX0_pour yX0_pour, Cond.code yX0_pour cX0_pour 4 (some .int), Cond.methodLink RX0 93 yX0_move, Cond.instanceMethod yX0_move, Cond.selects RX0 yX0_move yX0_move, Cond.code yX0_move cX0_move 9 (some .boolean), Cond.methodLink RX0 99 yX0_sumOfRow, Cond.instanceMethod yX0_sumOfRow, Cond.selects RX0 yX0_sumOfRow yX0_sumOfRow, Cond.code yX0_sumOfRow cX0_sumOfRow 4 (some .int), Cond.methodLink RL 108 yX1_pour, Cond.instanceMethod yX1_pour, Cond.selects RX1 yX1_pour yX1_pour, Cond.code yX1_pour cX1_pour 5 (some .int), Cond.methodLink RX1 88 yX1_gramsOf, Cond.instanceMethod yX1_gramsOf, Cond.selects RX1 yX1_gramsOf yX1_gramsOf, Cond.code yX1_gramsOf cX1_gramsOf 4 (some .int), Cond.methodLink RX1 92 yX1_flows, Cond.instanceMethod yX1_flows, Cond.selects RX1 yX1_flows yX1_flows, Cond.code yX1_flows cX1_flows 7 none, Cond.methodLink RL 109 yL_scrape]
def wsL_law0_r8 : List Cond := [Cond.static yL_scrape, Cond.codeWith yL_scrape cL_scrape 4 (some .int) [(0, 9, 12, 21)], Cond.methodLink RL 33 yX0_scrape, Cond.instanceMethod yX0_scrape, Cond.selects RX0 yX0_scrape yX0_scrape, Cond.code yX0_scrape cX0_scrape 2 (some .int), Cond.methodLink RX0 102 yX0_waste, Cond.instanceMethod yX0_waste, Cond.selects RX0 yX0_waste yX0_waste, Cond.code yX0_waste cX0_waste 5 (some .int), Cond.methodLink RL 112 yX1_scrape, Cond.instanceMethod yX1_scrape, Cond.selects RX1 yX1_scrape yX1_scrape, Cond.code yX1_scrape cX1_scrape 4 (some .int), Cond.methodLink RL 113 yL_picture, Cond.static yL_picture, Cond.codeWith yL_picture cL_picture 3 (some .int) [(0, 8, 11, 15)], Cond.methodLink RL 37 yX0_picture, Cond.instanceMethod yX0_picture, Cond.selects RX0 yX0_picture yX0_picture, Cond.code yX0_picture cX0_picture 1 (some .int), Cond.fieldLink RX0 105 "AtelierBook" "pictureCount" "I", Cond.methodLink RL 115 yX1_picture, Cond.instanceMethod yX1_picture]
def wsL_law0_r9 : List Cond := [Cond.selects RX1 yX1_picture yX1_picture, Cond.code yX1_picture cX1_picture 1 (some .int), Cond.fieldLink RX1 72 "AtelierBookModel" "pictures" "I", Cond.methodLink RL 116 yL_paint, Cond.static yL_paint, Cond.codeWith yL_paint cL_paint 6 (some .int) [(0, 12, 15, 21), (0, 12, 19, 13), (0, 12, 23, 15)], Cond.methodLink RL 40 yX0_paint, Cond.instanceMethod yX0_paint, Cond.selects RX0 yX0_paint yX0_paint, Cond.code yX0_paint cX0_paint 4 (some .int), Cond.methodLink RX0 110 yX0_checkAtHome, Cond.instanceMethod yX0_checkAtHome, Cond.selects RX0 yX0_checkAtHome yX0_checkAtHome, Cond.code yX0_checkAtHome cX0_checkAtHome 2 none, Cond.methodLink RX0 143 yX0_isLent, Cond.instanceMethod yX0_isLent, Cond.selects RX0 yX0_isLent yX0_isLent, Cond.code yX0_isLent cX0_isLent 2 (some .boolean), Cond.methodLink RX0 116 yX0_layerRow, Cond.static yX0_layerRow, Cond.code yX0_layerRow cX0_layerRow 2 (some .int), Cond.methodLink RL 118 yX1_paint, Cond.instanceMethod yX1_paint, Cond.selects RX1 yX1_paint yX1_paint]
def wsL_law0_r10 : List Cond := [Cond.code yX1_paint cX1_paint 5 (some .int), Cond.methodLink RX1 96 yX1_isPicture, Cond.instanceMethod yX1_isPicture, Cond.selects RX1 yX1_isPicture yX1_isPicture, Cond.code yX1_isPicture cX1_isPicture 2 (some .boolean), Cond.methodLink RX1 99 yX1_layerAt, Cond.static yX1_layerAt, Cond.code yX1_layerAt cX1_layerAt 2 (some .int), Cond.methodLink RL 119 yL_clean, Cond.static yL_clean, Cond.codeWith yL_clean cL_clean 5 (some .int) [(0, 10, 13, 21), (0, 10, 17, 13), (0, 10, 21, 15)], Cond.methodLink RL 43 yX0_clean, Cond.instanceMethod yX0_clean, Cond.selects RX0 yX0_clean yX0_clean, Cond.code yX0_clean cX0_clean 5 (some .int), Cond.methodLink RL 121 yX1_clean, Cond.instanceMethod yX1_clean, Cond.selects RX1 yX1_clean yX1_clean, Cond.code yX1_clean cX1_clean 7 (some .int), Cond.methodLink RL 122 yL_damp, Cond.static yL_damp, Cond.codeWith yL_damp cL_damp 5 (some .int) [(0, 10, 13, 21), (0, 10, 17, 13)], Cond.methodLink RL 46 yX0_damp, Cond.instanceMethod yX0_damp]
def wsL_law0_r11 : List Cond := [Cond.selects RX0 yX0_damp yX0_damp, Cond.code yX0_damp cX0_damp 4 (some .int), Cond.methodLink RL 124 yX1_damp, Cond.instanceMethod yX1_damp, Cond.selects RX1 yX1_damp yX1_damp, Cond.code yX1_damp cX1_damp 4 (some .int), Cond.methodLink RX1 106 yX1_isHouse, Cond.static yX1_isHouse, Cond.code yX1_isHouse cX1_isHouse 1 (some .boolean), Cond.methodLink RL 125 yL_lend, Cond.static yL_lend, Cond.codeWith yL_lend cL_lend 6 (some .int) [(0, 12, 15, 21), (0, 12, 19, 13), (0, 12, 23, 15)], Cond.methodLink RL 49 yX0_lend, Cond.instanceMethod yX0_lend, Cond.selects RX0 yX0_lend yX0_lend, Cond.code yX0_lend cX0_lend 4 (some .int), Cond.methodLink RX0 123 yX0_valueOf, Cond.instanceMethod yX0_valueOf, Cond.selects RX0 yX0_valueOf yX0_valueOf, Cond.code yX0_valueOf cX0_valueOf 3 (some .int), Cond.methodLink RX0 182 Lib.Math.max.name, Cond.static Lib.Math.max.name, Cond.initialized "java/lang/Math", Cond.code Lib.Math.max.name Lib.Math.max.code 2 (some .int)]
def wsL_law0_r12 : List Cond := [Cond.methodLink RX0 179 yX0_averagePriceOfAlike, Cond.instanceMethod yX0_averagePriceOfAlike, Cond.selects RX0 yX0_averagePriceOfAlike yX0_averagePriceOfAlike, Cond.code yX0_averagePriceOfAlike cX0_averagePriceOfAlike 6 (some .int), Cond.methodLink RX0 140 yX0_mainPigmentOf, Cond.instanceMethod yX0_mainPigmentOf, Cond.selects RX0 yX0_mainPigmentOf yX0_mainPigmentOf, Cond.code yX0_mainPigmentOf cX0_mainPigmentOf 3 (some .int), Cond.methodLink RX0 176 yX0_mainPigmentOfRow, Cond.instanceMethod yX0_mainPigmentOfRow, Cond.selects RX0 yX0_mainPigmentOfRow yX0_mainPigmentOfRow, Cond.code yX0_mainPigmentOfRow cX0_mainPigmentOfRow 6 (some .int), Cond.methodLink RX0 173 yX0_gramsOfPigment, Cond.instanceMethod yX0_gramsOfPigment, Cond.selects RX0 yX0_gramsOfPigment yX0_gramsOfPigment, Cond.code yX0_gramsOfPigment cX0_gramsOfPigment 5 (some .int), Cond.methodLink RL 127 yX1_lend, Cond.instanceMethod yX1_lend, Cond.selects RX1 yX1_lend yX1_lend, Cond.code yX1_lend cX1_lend 4 (some .int), Cond.methodLink RX1 109 yX1_value, Cond.instanceMethod yX1_value, Cond.selects RX1 yX1_value yX1_value, Cond.code yX1_value cX1_value 7 (some .int)]
def wsL_law0_r13 : List Cond := [Cond.methodLink RX1 103 yX1_main, Cond.instanceMethod yX1_main, Cond.selects RX1 yX1_main yX1_main, Cond.code yX1_main cX1_main 4 (some .int), Cond.methodLink RL 128 yL_sell, Cond.static yL_sell, Cond.codeWith yL_sell cL_sell 5 (some .int) [(0, 10, 13, 21), (0, 10, 17, 13), (0, 10, 21, 15)], Cond.methodLink RL 52 yX0_sell, Cond.instanceMethod yX0_sell, Cond.selects RX0 yX0_sell yX0_sell, Cond.code yX0_sell cX0_sell 3 (some .int), Cond.constant RX0 126 (100000), Cond.methodLink RL 130 yX1_sell, Cond.instanceMethod yX1_sell, Cond.selects RX1 yX1_sell yX1_sell, Cond.code yX1_sell cX1_sell 3 (some .int), Cond.constant RX1 112 (100000), Cond.methodLink RL 131 yL_pass, Cond.static yL_pass, Cond.codeWith yL_pass cL_pass 4 (some .int) [(0, 9, 12, 13), (0, 9, 15, 15)], Cond.methodLink RL 55 yX0_pass, Cond.instanceMethod yX0_pass, Cond.selects RX0 yX0_pass yX0_pass, Cond.code yX0_pass cX0_pass 3 (some .int)]
def wsL_law0_r14 : List Cond := [Cond.fieldLink RX0 129 "AtelierBook" "today" "I", Cond.methodLink RX0 134 yX0_passForLoan, Cond.instanceMethod yX0_passForLoan, Cond.selects RX0 yX0_passForLoan yX0_passForLoan, Cond.code yX0_passForLoan cX0_passForLoan 5 none, Cond.methodLink RX0 187 Lib.Math.min.name, Cond.static Lib.Math.min.name, Cond.code Lib.Math.min.name Lib.Math.min.code 2 (some .int), Cond.methodLink RX0 190 Lib.Math.abs.name, Cond.static Lib.Math.abs.name, Cond.code Lib.Math.abs.name Lib.Math.abs.code 1 (some .int), Cond.methodLink RL 133 yX1_pass, Cond.instanceMethod yX1_pass, Cond.selects RX1 yX1_pass yX1_pass, Cond.code yX1_pass cX1_pass 3 (some .int), Cond.fieldLink RX1 113 "AtelierBookModel" "today" "I", Cond.methodLink RX1 116 yX1_passOne, Cond.instanceMethod yX1_passOne, Cond.selects RX1 yX1_passOne yX1_passOne, Cond.code yX1_passOne cX1_passOne 3 none, Cond.methodLink RL 134 yL_left, Cond.static yL_left, Cond.codeWith yL_left cL_left 4 (some .int) [(0, 9, 12, 21)], Cond.methodLink RL 58 yX0_left]
def wsL_law0_r15 : List Cond := [Cond.instanceMethod yX0_left, Cond.selects RX0 yX0_left yX0_left, Cond.code yX0_left cX0_left 2 (some .int), Cond.methodLink RL 136 yX1_left, Cond.instanceMethod yX1_left, Cond.selects RX1 yX1_left yX1_left, Cond.code yX1_left cX1_left 2 (some .int), Cond.methodLink RL 137 yL_has, Cond.static yL_has, Cond.codeWith yL_has cL_has 5 (some .int) [(0, 10, 13, 21)], Cond.methodLink RL 61 yX0_has, Cond.instanceMethod yX0_has, Cond.selects RX0 yX0_has yX0_has, Cond.code yX0_has cX0_has 3 (some .int), Cond.methodLink RL 139 yX1_has, Cond.instanceMethod yX1_has, Cond.selects RX1 yX1_has yX1_has, Cond.code yX1_has cX1_has 3 (some .int), Cond.methodLink RL 140 yL_colour, Cond.static yL_colour, Cond.codeWith yL_colour cL_colour 5 (some .int) [(0, 10, 13, 21), (0, 10, 17, 13)], Cond.methodLink RL 64 yX0_colour, Cond.instanceMethod yX0_colour, Cond.selects RX0 yX0_colour yX0_colour]
def wsL_law0_r16 : List Cond := [Cond.code yX0_colour cX0_colour 3 (some .int), Cond.methodLink RX0 137 yX0_colourOfRow, Cond.instanceMethod yX0_colourOfRow, Cond.selects RX0 yX0_colourOfRow yX0_colourOfRow, Cond.code yX0_colourOfRow cX0_colourOfRow 7 (some .int), Cond.methodLink RX0 170 yX0_colourOfTube, Cond.instanceMethod yX0_colourOfTube, Cond.selects RX0 yX0_colourOfTube yX0_colourOfTube, Cond.code yX0_colourOfTube cX0_colourOfTube 3 (some .int), Cond.methodLink RL 142 yX1_colour, Cond.instanceMethod yX1_colour, Cond.selects RX1 yX1_colour yX1_colour, Cond.code yX1_colour cX1_colour 6 (some .int), Cond.methodLink RL 143 yL_of, Cond.static yL_of, Cond.codeWith yL_of cL_of 5 (some .int) [(0, 10, 13, 21), (0, 10, 17, 13)], Cond.methodLink RL 67 yX0_of, Cond.instanceMethod yX0_of, Cond.selects RX0 yX0_of yX0_of, Cond.code yX0_of cX0_of 3 (some .int), Cond.methodLink RX0 147 yX0_lookOf, Cond.instanceMethod yX0_lookOf, Cond.selects RX0 yX0_lookOf yX0_lookOf, Cond.code yX0_lookOf cX0_lookOf 4 (some .int)]
def wsL_law0_r17 : List Cond := [Cond.methodLink RL 145 yX1_of, Cond.instanceMethod yX1_of, Cond.selects RX1 yX1_of yX1_of, Cond.code yX1_of cX1_of 3 (some .int), Cond.methodLink RX1 119 yX1_look, Cond.instanceMethod yX1_look, Cond.selects RX1 yX1_look yX1_look, Cond.code yX1_look cX1_look 7 (some .int), Cond.methodLink RL 146 yL_layer, Cond.static yL_layer, Cond.codeWith yL_layer cL_layer 6 (some .int) [(0, 12, 15, 21)], Cond.methodLink RL 70 yX0_layer, Cond.instanceMethod yX0_layer, Cond.selects RX0 yX0_layer yX0_layer, Cond.code yX0_layer cX0_layer 4 (some .int), Cond.methodLink RL 148 yX1_layer, Cond.instanceMethod yX1_layer, Cond.selects RX1 yX1_layer yX1_layer, Cond.code yX1_layer cX1_layer 4 (some .int), Cond.methodLink RL 149 yL_where, Cond.static yL_where, Cond.codeWith yL_where cL_where 5 (some .int) [(0, 10, 13, 21), (0, 10, 17, 13)], Cond.methodLink RL 73 yX0_where, Cond.instanceMethod yX0_where]
def wsL_law0_r18 : List Cond := [Cond.selects RX0 yX0_where yX0_where, Cond.code yX0_where cX0_where 3 (some .int), Cond.methodLink RX0 150 yX0_sumOfTube, Cond.instanceMethod yX0_sumOfTube, Cond.selects RX0 yX0_sumOfTube yX0_sumOfTube, Cond.code yX0_sumOfTube cX0_sumOfTube 6 (some .int), Cond.methodLink RL 151 yX1_where, Cond.instanceMethod yX1_where, Cond.selects RX1 yX1_where yX1_where, Cond.code yX1_where cX1_where 3 (some .int), Cond.methodLink RX1 122 yX1_inPots, Cond.instanceMethod yX1_inPots, Cond.selects RX1 yX1_inPots yX1_inPots, Cond.code yX1_inPots cX1_inPots 4 (some .int), Cond.methodLink RX1 125 yX1_onPictures, Cond.instanceMethod yX1_onPictures, Cond.selects RX1 yX1_onPictures yX1_onPictures, Cond.code yX1_onPictures cX1_onPictures 4 (some .int), Cond.methodLink RL 152 yL_recipe, Cond.static yL_recipe, Cond.codeWith yL_recipe cL_recipe 6 (some .int) [(0, 12, 15, 13)], Cond.methodLink RL 76 yX0_recipe, Cond.instanceMethod yX0_recipe, Cond.selects RX0 yX0_recipe yX0_recipe]
def wsL_law0_r19 : List Cond := [Cond.code yX0_recipe cX0_recipe 10 (some .int), Cond.methodLink RX0 154 yX0_mixed, Cond.instanceMethod yX0_mixed, Cond.selects RX0 yX0_mixed yX0_mixed, Cond.code yX0_mixed cX0_mixed 5 (some .int), Cond.methodLink RX0 158 yX0_square, Cond.static yX0_square, Cond.code yX0_square cX0_square 1 (some .int), Cond.methodLink RL 154 yX1_recipe, Cond.instanceMethod yX1_recipe, Cond.selects RX1 yX1_recipe yX1_recipe, Cond.code yX1_recipe cX1_recipe 10 (some .int), Cond.methodLink RX1 128 yX1_far, Cond.instanceMethod yX1_far, Cond.selects RX1 yX1_far yX1_far, Cond.code yX1_far cX1_far 7 (some .int), Cond.methodLink RL 155 yL_paid, Cond.static yL_paid, Cond.codeWith yL_paid cL_paid 4 (some .int) [(0, 9, 12, 21)], Cond.methodLink RL 79 yX0_paid, Cond.instanceMethod yX0_paid, Cond.selects RX0 yX0_paid yX0_paid, Cond.code yX0_paid cX0_paid 2 (some .int), Cond.methodLink RL 157 yX1_paid]
def wsL_law0_r20 : List Cond := [Cond.instanceMethod yX1_paid, Cond.selects RX1 yX1_paid yX1_paid, Cond.code yX1_paid cX1_paid 2 (some .int)]
def wsL_law0 : List Cond := (wsL_law0_r1 ++ (wsL_law0_r2 ++ (wsL_law0_r3 ++ (wsL_law0_r4 ++ (wsL_law0_r5 ++ (wsL_law0_r6 ++ (wsL_law0_r7 ++ (wsL_law0_r8 ++ (wsL_law0_r9 ++ (wsL_law0_r10 ++ (wsL_law0_r11 ++ (wsL_law0_r12 ++ (wsL_law0_r13 ++ (wsL_law0_r14 ++ (wsL_law0_r15 ++ (wsL_law0_r16 ++ (wsL_law0_r17 ++ (wsL_law0_r18 ++ (wsL_law0_r19 ++ wsL_law0_r20))))))))))))))))))) ++ wsX00 ++ wsX10 ++ ([] : List Cond)
def wsL_law : List Cond := wsL_law0 ++ (vx_atS RX0 58 "java/lang/IllegalStateException" ["java/lang/RuntimeException", "java/lang/Exception"]).filter goodWord ++ (vx_atS RX0 92 "java/lang/IllegalArgumentException" ["java/lang/RuntimeException", "java/lang/Exception"]).filter goodWord ++ (vx_atS RX0 165 "java/lang/IndexOutOfBoundsException" ["java/lang/RuntimeException", "java/lang/Exception"]).filter goodWord
set_option maxRecDepth 20000 in
theorem ggX0_pigment_X0_checkColour : GoodIn wsX0_pigment wsX0_checkColour := goodIn_ca (goodIn_r _ [8, 9, 10, 7, 11, 12, 13] (by decide +kernel) (by decide +kernel)) (goodIn_sub (fun _ h => List.mem_cons_of_mem _ (List.mem_append_right _ h)) (by decide +kernel))
set_option maxRecDepth 20000 in
theorem gX0_pigment_X0_checkColour : GoodIn wsX0_pigment (va_wsS RX0 46 yX0_checkColour wsX0_checkColour) := goodIn_app (goodIn_of _ (by decide +kernel)) ggX0_pigment_X0_checkColour
set_option maxRecDepth 20000 in
theorem ggX0_tube_X0_checkNumber : GoodIn wsX0_tube wsX0_checkNumber := goodIn_ca (goodIn_r _ [10, 11, 12] (by decide +kernel) (by decide +kernel)) (goodIn_sub (fun _ h => List.mem_cons_of_mem _ (List.mem_append_left _ (List.mem_append_right _ h))) (by decide +kernel))
set_option maxRecDepth 20000 in
theorem gX0_tube_X0_checkNumber : GoodIn wsX0_tube (va_wsS RX0 61 yX0_checkNumber wsX0_checkNumber) := goodIn_app (goodIn_of _ (by decide +kernel)) ggX0_tube_X0_checkNumber
set_option maxRecDepth 20000 in
theorem ggX0_tube_X0_checkRange : GoodIn wsX0_tube wsX0_checkRange := goodIn_ca (goodIn_r _ [15, 16, 17] (by decide +kernel) (by decide +kernel)) (goodIn_sub (fun _ h => List.mem_cons_of_mem _ (List.mem_append_right _ h)) (by decide +kernel))
set_option maxRecDepth 20000 in
theorem gX0_tube_X0_checkRange : GoodIn wsX0_tube (va_wsS RX0 65 yX0_checkRange wsX0_checkRange) := goodIn_app (goodIn_of _ (by decide +kernel)) ggX0_tube_X0_checkRange
set_option maxRecDepth 20000 in
theorem ggX0_squeeze_X0_checkNumber : GoodIn wsX0_squeeze wsX0_checkNumber := goodIn_ca (goodIn_r _ [10, 11, 12] (by decide +kernel) (by decide +kernel)) (goodIn_sub (fun _ h => List.mem_cons_of_mem _ (List.mem_append_left _ (List.mem_append_right _ h))) (by decide +kernel))
set_option maxRecDepth 20000 in
theorem gX0_squeeze_X0_checkNumber : GoodIn wsX0_squeeze (va_wsS RX0 61 yX0_checkNumber wsX0_checkNumber) := goodIn_app (goodIn_of _ (by decide +kernel)) ggX0_squeeze_X0_checkNumber
set_option maxRecDepth 20000 in
theorem ggX0_squeeze_X0_checkRange : GoodIn wsX0_squeeze wsX0_checkRange := goodIn_ca (goodIn_r _ [15, 16, 17] (by decide +kernel) (by decide +kernel)) (goodIn_sub (fun _ h => List.mem_cons_of_mem _ (List.mem_append_right _ h)) (by decide +kernel))
set_option maxRecDepth 20000 in
theorem gX0_squeeze_X0_checkRange : GoodIn wsX0_squeeze (va_wsS RX0 65 yX0_checkRange wsX0_checkRange) := goodIn_app (goodIn_of _ (by decide +kernel)) ggX0_squeeze_X0_checkRange
set_option maxRecDepth 20000 in
theorem ggX0_squeeze_X0_potRow : GoodIn wsX0_squeeze wsX0_potRow := goodIn_r _ [20] (by decide +kernel) (by decide +kernel)
set_option maxRecDepth 20000 in
theorem gX0_squeeze_X0_potRow : GoodIn wsX0_squeeze (va_wsS RX0 80 yX0_potRow wsX0_potRow) := goodIn_app (goodIn_of _ (by decide +kernel)) ggX0_squeeze_X0_potRow
set_option maxRecDepth 20000 in
theorem ggX0_squeeze_X0_place : GoodIn wsX0_squeeze wsX0_place := goodIn_r _ [23] (by decide +kernel) (by decide +kernel)
set_option maxRecDepth 20000 in
theorem gX0_squeeze_X0_place : GoodIn wsX0_squeeze (va_wsS RX0 84 yX0_place wsX0_place) := goodIn_app (goodIn_of _ (by decide +kernel)) ggX0_squeeze_X0_place
set_option maxRecDepth 20000 in
theorem ggX0_pour_X0_checkNumber : GoodIn wsX0_pour wsX0_checkNumber := goodIn_ca (goodIn_r _ [9, 10, 11] (by decide +kernel) (by decide +kernel)) (goodIn_sub (fun _ h => List.mem_cons_of_mem _ (List.mem_append_right _ h)) (by decide +kernel))
set_option maxRecDepth 20000 in
theorem gX0_pour_X0_checkNumber : GoodIn wsX0_pour (va_wsS RX0 61 yX0_checkNumber wsX0_checkNumber) := goodIn_app (goodIn_of _ (by decide +kernel)) ggX0_pour_X0_checkNumber
set_option maxRecDepth 20000 in
theorem ggX0_pour_X0_checkRange : GoodIn wsX0_pour wsX0_checkRange := goodIn_ca (goodIn_r _ [14, 1, 2] (by decide +kernel) (by decide +kernel)) (goodIn_sub (fun _ h => List.mem_cons_of_mem _ (List.mem_append_left _ (List.mem_append_left _ (List.mem_append_right _ h)))) (by decide +kernel))
set_option maxRecDepth 20000 in
theorem gX0_pour_X0_checkRange : GoodIn wsX0_pour (va_wsS RX0 65 yX0_checkRange wsX0_checkRange) := goodIn_app (goodIn_of _ (by decide +kernel)) ggX0_pour_X0_checkRange
set_option maxRecDepth 20000 in
theorem ggX0_pour_X0_potRow : GoodIn wsX0_pour wsX0_potRow := goodIn_r _ [17] (by decide +kernel) (by decide +kernel)
set_option maxRecDepth 20000 in
theorem gX0_pour_X0_potRow : GoodIn wsX0_pour (va_wsS RX0 80 yX0_potRow wsX0_potRow) := goodIn_app (goodIn_of _ (by decide +kernel)) ggX0_pour_X0_potRow
set_option maxRecDepth 20000 in
theorem ggX0_pour_X0_move : GoodIn wsX0_pour wsX0_move := goodIn_r _ [21, 22, 23, 24, 25, 26, 8, 27, 28, 29, 30, 31, 32, 33, 34, 35, 36, 37, 38, 39, 40, 41, 42, 43, 44, 45, 46, 47] (by decide +kernel) (by decide +kernel)
set_option maxRecDepth 20000 in
theorem gX0_pour_X0_move : GoodIn wsX0_pour (wsV RX0 93 RX0 yX0_move wsX0_move) := goodIn_app (goodIn_of _ (by decide +kernel)) ggX0_pour_X0_move
set_option maxRecDepth 20000 in
theorem ggX0_pour_X0_sumOfRow : GoodIn wsX0_pour wsX0_sumOfRow := goodIn_r _ [27, 22, 23, 28, 29, 8, 30, 31, 32, 33, 34, 35, 36, 37, 38, 39, 40, 41, 42, 43, 44, 45, 46, 47] (by decide +kernel) (by decide +kernel)
set_option maxRecDepth 20000 in
theorem gX0_pour_X0_sumOfRow : GoodIn wsX0_pour (wsV RX0 99 RX0 yX0_sumOfRow wsX0_sumOfRow) := goodIn_app (goodIn_of _ (by decide +kernel)) ggX0_pour_X0_sumOfRow
set_option maxRecDepth 20000 in
theorem ggX0_scrape_X0_checkNumber : GoodIn wsX0_scrape wsX0_checkNumber := goodIn_ca (goodIn_r _ [5, 6, 7] (by decide +kernel) (by decide +kernel)) (goodIn_sub (fun _ h => List.mem_cons_of_mem _ (List.mem_append_right _ h)) (by decide +kernel))
set_option maxRecDepth 20000 in
theorem gX0_scrape_X0_checkNumber : GoodIn wsX0_scrape (va_wsS RX0 61 yX0_checkNumber wsX0_checkNumber) := goodIn_app (goodIn_of _ (by decide +kernel)) ggX0_scrape_X0_checkNumber
set_option maxRecDepth 20000 in
theorem ggX0_scrape_X0_potRow : GoodIn wsX0_scrape wsX0_potRow := goodIn_r _ [10] (by decide +kernel) (by decide +kernel)
set_option maxRecDepth 20000 in
theorem gX0_scrape_X0_potRow : GoodIn wsX0_scrape (va_wsS RX0 80 yX0_potRow wsX0_potRow) := goodIn_app (goodIn_of _ (by decide +kernel)) ggX0_scrape_X0_potRow
set_option maxRecDepth 20000 in
theorem ggX0_scrape_X0_waste : GoodIn wsX0_scrape wsX0_waste := goodIn_r _ [14, 15, 16, 17, 18, 4, 19, 20, 21, 22, 23, 24, 25, 26, 27, 28, 29, 30, 31, 32, 33, 34, 35, 36] (by decide +kernel) (by decide +kernel)
set_option maxRecDepth 20000 in
theorem gX0_scrape_X0_waste : GoodIn wsX0_scrape (wsV RX0 102 RX0 yX0_waste wsX0_waste) := goodIn_app (goodIn_of _ (by decide +kernel)) ggX0_scrape_X0_waste
set_option maxRecDepth 20000 in
theorem ggX0_paint_X0_checkNumber : GoodIn wsX0_paint wsX0_checkNumber := goodIn_ca (goodIn_r _ [9, 10, 11] (by decide +kernel) (by decide +kernel)) (goodIn_sub (fun _ h => List.mem_cons_of_mem _ (List.mem_append_left _ (List.mem_append_right _ h))) (by decide +kernel))
set_option maxRecDepth 20000 in
theorem gX0_paint_X0_checkNumber : GoodIn wsX0_paint (va_wsS RX0 61 yX0_checkNumber wsX0_checkNumber) := goodIn_app (goodIn_of _ (by decide +kernel)) ggX0_paint_X0_checkNumber
set_option maxRecDepth 20000 in
theorem ggX0_paint_X0_checkRange : GoodIn wsX0_paint wsX0_checkRange := goodIn_ca (goodIn_r _ [14, 15, 16] (by decide +kernel) (by decide +kernel)) (goodIn_sub (fun _ h => List.mem_cons_of_mem _ (List.mem_append_right _ h)) (by decide +kernel))
set_option maxRecDepth 20000 in
theorem gX0_paint_X0_checkRange : GoodIn wsX0_paint (va_wsS RX0 65 yX0_checkRange wsX0_checkRange) := goodIn_app (goodIn_of _ (by decide +kernel)) ggX0_paint_X0_checkRange
set_option maxRecDepth 20000 in
theorem ggX0_paint_X0_checkAtHome : GoodIn wsX0_paint wsX0_checkAtHome := goodIn_ca (goodIn_r _ [20, 1, 2, 21, 22, 23, 8, 24, 25, 45, 46, 47, 48, 49, 50, 51, 52, 53, 54, 55, 56, 57, 58, 59, 60, 61] (by decide +kernel) (by decide +kernel)) (goodIn_sub (fun _ h => List.mem_cons_of_mem _ (List.mem_append_left _ (List.mem_append_left _ (List.mem_append_right _ h)))) (by decide +kernel))
set_option maxRecDepth 20000 in
theorem gX0_paint_X0_checkAtHome : GoodIn wsX0_paint (wsV RX0 110 RX0 yX0_checkAtHome wsX0_checkAtHome) := goodIn_app (goodIn_of _ (by decide +kernel)) ggX0_paint_X0_checkAtHome
set_option maxRecDepth 20000 in
theorem ggX0_paint_X0_potRow : GoodIn wsX0_paint wsX0_potRow := goodIn_r _ [28] (by decide +kernel) (by decide +kernel)
set_option maxRecDepth 20000 in
theorem gX0_paint_X0_potRow : GoodIn wsX0_paint (va_wsS RX0 80 yX0_potRow wsX0_potRow) := goodIn_app (goodIn_of _ (by decide +kernel)) ggX0_paint_X0_potRow
set_option maxRecDepth 20000 in
theorem ggX0_paint_X0_layerRow : GoodIn wsX0_paint wsX0_layerRow := goodIn_r _ [31] (by decide +kernel) (by decide +kernel)
set_option maxRecDepth 20000 in
theorem gX0_paint_X0_layerRow : GoodIn wsX0_paint (va_wsS RX0 116 yX0_layerRow wsX0_layerRow) := goodIn_app (goodIn_of _ (by decide +kernel)) ggX0_paint_X0_layerRow
set_option maxRecDepth 20000 in
theorem ggX0_paint_X0_move : GoodIn wsX0_paint wsX0_move := goodIn_r _ [35, 36, 37, 38, 39, 40, 8, 41, 42, 43, 44, 45, 46, 47, 48, 49, 50, 51, 52, 53, 54, 55, 56, 57, 58, 59, 60, 61] (by decide +kernel) (by decide +kernel)
set_option maxRecDepth 20000 in
theorem gX0_paint_X0_move : GoodIn wsX0_paint (wsV RX0 93 RX0 yX0_move wsX0_move) := goodIn_app (goodIn_of _ (by decide +kernel)) ggX0_paint_X0_move
set_option maxRecDepth 20000 in
theorem ggX0_clean_X0_checkNumber : GoodIn wsX0_clean wsX0_checkNumber := goodIn_ca (goodIn_r _ [8, 9, 10] (by decide +kernel) (by decide +kernel)) (goodIn_sub (fun _ h => List.mem_cons_of_mem _ (List.mem_append_left _ (List.mem_append_right _ h))) (by decide +kernel))
set_option maxRecDepth 20000 in
theorem gX0_clean_X0_checkNumber : GoodIn wsX0_clean (va_wsS RX0 61 yX0_checkNumber wsX0_checkNumber) := goodIn_app (goodIn_of _ (by decide +kernel)) ggX0_clean_X0_checkNumber
set_option maxRecDepth 20000 in
theorem ggX0_clean_X0_checkRange : GoodIn wsX0_clean wsX0_checkRange := goodIn_ca (goodIn_r _ [13, 14, 15] (by decide +kernel) (by decide +kernel)) (goodIn_sub (fun _ h => List.mem_cons_of_mem _ (List.mem_append_right _ h)) (by decide +kernel))
set_option maxRecDepth 20000 in
theorem gX0_clean_X0_checkRange : GoodIn wsX0_clean (va_wsS RX0 65 yX0_checkRange wsX0_checkRange) := goodIn_app (goodIn_of _ (by decide +kernel)) ggX0_clean_X0_checkRange
set_option maxRecDepth 20000 in
theorem ggX0_clean_X0_checkAtHome : GoodIn wsX0_clean wsX0_checkAtHome := goodIn_ca (goodIn_r _ [19, 1, 2, 20, 21, 22, 7, 23, 24, 37, 38, 39, 40, 41, 42, 43, 44, 45, 46, 47, 48, 49, 50, 51, 52, 53] (by decide +kernel) (by decide +kernel)) (goodIn_sub (fun _ h => List.mem_cons_of_mem _ (List.mem_append_left _ (List.mem_append_left _ (List.mem_append_right _ h)))) (by decide +kernel))
set_option maxRecDepth 20000 in
theorem gX0_clean_X0_checkAtHome : GoodIn wsX0_clean (wsV RX0 110 RX0 yX0_checkAtHome wsX0_checkAtHome) := goodIn_app (goodIn_of _ (by decide +kernel)) ggX0_clean_X0_checkAtHome
set_option maxRecDepth 20000 in
theorem ggX0_clean_X0_layerRow : GoodIn wsX0_clean wsX0_layerRow := goodIn_r _ [27] (by decide +kernel) (by decide +kernel)
set_option maxRecDepth 20000 in
theorem gX0_clean_X0_layerRow : GoodIn wsX0_clean (va_wsS RX0 116 yX0_layerRow wsX0_layerRow) := goodIn_app (goodIn_of _ (by decide +kernel)) ggX0_clean_X0_layerRow
set_option maxRecDepth 20000 in
theorem ggX0_clean_X0_waste : GoodIn wsX0_clean wsX0_waste := goodIn_r _ [31, 32, 33, 34, 35, 7, 36, 37, 38, 39, 40, 41, 42, 43, 44, 45, 46, 47, 48, 49, 50, 51, 52, 53] (by decide +kernel) (by decide +kernel)
set_option maxRecDepth 20000 in
theorem gX0_clean_X0_waste : GoodIn wsX0_clean (wsV RX0 102 RX0 yX0_waste wsX0_waste) := goodIn_app (goodIn_of _ (by decide +kernel)) ggX0_clean_X0_waste
set_option maxRecDepth 20000 in
theorem ggX0_damp_X0_checkNumber : GoodIn wsX0_damp wsX0_checkNumber := goodIn_ca (goodIn_r _ [5, 6, 7] (by decide +kernel) (by decide +kernel)) (goodIn_sub (fun _ h => List.mem_cons_of_mem _ (List.mem_append_left _ (List.mem_append_right _ h))) (by decide +kernel))
set_option maxRecDepth 20000 in
theorem gX0_damp_X0_checkNumber : GoodIn wsX0_damp (va_wsS RX0 61 yX0_checkNumber wsX0_checkNumber) := goodIn_app (goodIn_of _ (by decide +kernel)) ggX0_damp_X0_checkNumber
set_option maxRecDepth 20000 in
theorem ggX0_damp_X0_checkRange : GoodIn wsX0_damp wsX0_checkRange := goodIn_ca (goodIn_r _ [10, 11, 12] (by decide +kernel) (by decide +kernel)) (goodIn_sub (fun _ h => List.mem_cons_of_mem _ (List.mem_append_right _ h)) (by decide +kernel))
set_option maxRecDepth 20000 in
theorem gX0_damp_X0_checkRange : GoodIn wsX0_damp (va_wsS RX0 65 yX0_checkRange wsX0_checkRange) := goodIn_app (goodIn_of _ (by decide +kernel)) ggX0_damp_X0_checkRange
set_option maxRecDepth 20000 in
theorem ggX0_lend_X0_checkNumber : GoodIn wsX0_lend wsX0_checkNumber := goodIn_ca (goodIn_r _ [11, 12, 13] (by decide +kernel) (by decide +kernel)) (goodIn_sub (fun _ h => List.mem_cons_of_mem _ (List.mem_append_left _ (List.mem_append_right _ h))) (by decide +kernel))
set_option maxRecDepth 20000 in
theorem gX0_lend_X0_checkNumber : GoodIn wsX0_lend (va_wsS RX0 61 yX0_checkNumber wsX0_checkNumber) := goodIn_app (goodIn_of _ (by decide +kernel)) ggX0_lend_X0_checkNumber
set_option maxRecDepth 20000 in
theorem ggX0_lend_X0_checkRange : GoodIn wsX0_lend wsX0_checkRange := goodIn_ca (goodIn_r _ [16, 17, 18] (by decide +kernel) (by decide +kernel)) (goodIn_sub (fun _ h => List.mem_cons_of_mem _ (List.mem_append_right _ h)) (by decide +kernel))
set_option maxRecDepth 20000 in
theorem gX0_lend_X0_checkRange : GoodIn wsX0_lend (va_wsS RX0 65 yX0_checkRange wsX0_checkRange) := goodIn_app (goodIn_of _ (by decide +kernel)) ggX0_lend_X0_checkRange
set_option maxRecDepth 20000 in
theorem ggX0_lend_X0_checkAtHome : GoodIn wsX0_lend wsX0_checkAtHome := goodIn_ca (goodIn_r _ [22, 1, 2, 23, 24, 25, 10, 26, 7, 63, 64, 65, 66, 67, 68, 69, 70, 71, 72, 73, 74, 75, 76, 77, 78, 79] (by decide +kernel) (by decide +kernel)) (goodIn_sub (fun _ h => List.mem_cons_of_mem _ (List.mem_append_left _ (List.mem_append_left _ (List.mem_append_right _ h)))) (by decide +kernel))
set_option maxRecDepth 20000 in
theorem gX0_lend_X0_checkAtHome : GoodIn wsX0_lend (wsV RX0 110 RX0 yX0_checkAtHome wsX0_checkAtHome) := goodIn_app (goodIn_of _ (by decide +kernel)) ggX0_lend_X0_checkAtHome
set_option maxRecDepth 20000 in
theorem ggX0_lend_X0_valueOf : GoodIn wsX0_lend wsX0_valueOf := goodIn_r _ [30, 4, 31, 32, 33, 34, 35, 36, 37, 10, 38, 3, 39, 40, 41, 42, 43, 44, 45, 46, 47, 48, 49, 50, 51, 52, 53, 54, 55, 56, 57, 58, 59, 60, 61, 62, 63, 64, 65, 66, 67, 68, 69, 70, 71, 72, 73, 74, 75, 76, 77, 78, 79] (by decide +kernel) (by decide +kernel)
set_option maxRecDepth 20000 in
theorem gX0_lend_X0_valueOf : GoodIn wsX0_lend (wsV RX0 123 RX0 yX0_valueOf wsX0_valueOf) := goodIn_app (goodIn_of _ (by decide +kernel)) ggX0_lend_X0_valueOf
set_option maxRecDepth 20000 in
theorem ggX0_sell_X0_checkNumber : GoodIn wsX0_sell wsX0_checkNumber := goodIn_ca (goodIn_r _ [10, 11, 12] (by decide +kernel) (by decide +kernel)) (goodIn_sub (fun _ h => List.mem_cons_of_mem _ (List.mem_append_left _ (List.mem_append_right _ h))) (by decide +kernel))
set_option maxRecDepth 20000 in
theorem gX0_sell_X0_checkNumber : GoodIn wsX0_sell (va_wsS RX0 61 yX0_checkNumber wsX0_checkNumber) := goodIn_app (goodIn_of _ (by decide +kernel)) ggX0_sell_X0_checkNumber
set_option maxRecDepth 20000 in
theorem ggX0_sell_X0_checkRange : GoodIn wsX0_sell wsX0_checkRange := goodIn_ca (goodIn_r _ [15, 16, 17] (by decide +kernel) (by decide +kernel)) (goodIn_sub (fun _ h => List.mem_cons_of_mem _ (List.mem_append_right _ h)) (by decide +kernel))
set_option maxRecDepth 20000 in
theorem gX0_sell_X0_checkRange : GoodIn wsX0_sell (va_wsS RX0 65 yX0_checkRange wsX0_checkRange) := goodIn_app (goodIn_of _ (by decide +kernel)) ggX0_sell_X0_checkRange
set_option maxRecDepth 20000 in
theorem ggX0_sell_X0_checkAtHome : GoodIn wsX0_sell wsX0_checkAtHome := goodIn_ca (goodIn_r _ [21, 1, 2, 22, 23, 24, 9, 25, 26, 62, 63, 64, 65, 66, 67, 68, 69, 70, 71, 72, 73, 74, 75, 76, 77, 78] (by decide +kernel) (by decide +kernel)) (goodIn_sub (fun _ h => List.mem_cons_of_mem _ (List.mem_append_left _ (List.mem_append_left _ (List.mem_append_right _ h)))) (by decide +kernel))
set_option maxRecDepth 20000 in
theorem gX0_sell_X0_checkAtHome : GoodIn wsX0_sell (wsV RX0 110 RX0 yX0_checkAtHome wsX0_checkAtHome) := goodIn_app (goodIn_of _ (by decide +kernel)) ggX0_sell_X0_checkAtHome
set_option maxRecDepth 20000 in
theorem ggX0_sell_X0_valueOf : GoodIn wsX0_sell wsX0_valueOf := goodIn_r _ [30, 31, 32, 33, 34, 35, 36, 37, 38, 9, 39, 3, 6, 40, 41, 42, 43, 5, 44, 45, 46, 47, 48, 49, 50, 51, 52, 53, 54, 55, 56, 57, 58, 59, 60, 61, 62, 63, 64, 65, 66, 67, 68, 69, 70, 71, 72, 73, 74, 75, 76, 77, 78] (by decide +kernel) (by decide +kernel)
set_option maxRecDepth 20000 in
theorem gX0_sell_X0_valueOf : GoodIn wsX0_sell (wsV RX0 123 RX0 yX0_valueOf wsX0_valueOf) := goodIn_app (goodIn_of _ (by decide +kernel)) ggX0_sell_X0_valueOf
set_option maxRecDepth 20000 in
theorem ggX0_pass_X0_checkRange : GoodIn wsX0_pass wsX0_checkRange := goodIn_ca (goodIn_r _ [8, 9, 10] (by decide +kernel) (by decide +kernel)) (goodIn_sub (fun _ h => List.mem_cons_of_mem _ (List.mem_append_right _ h)) (by decide +kernel))
set_option maxRecDepth 20000 in
theorem gX0_pass_X0_checkRange : GoodIn wsX0_pass (va_wsS RX0 65 yX0_checkRange wsX0_checkRange) := goodIn_app (goodIn_of _ (by decide +kernel)) ggX0_pass_X0_checkRange
set_option maxRecDepth 20000 in
theorem ggX0_pass_X0_passForLoan : GoodIn wsX0_pass wsX0_passForLoan := goodIn_r _ [14, 15, 16, 17, 18, 19, 20, 21, 22, 23, 24, 25, 26, 27, 28, 29, 30, 31, 32, 33, 34, 35, 36, 37, 38, 39, 40, 41, 42, 43, 44] (by decide +kernel) (by decide +kernel)
set_option maxRecDepth 20000 in
theorem gX0_pass_X0_passForLoan : GoodIn wsX0_pass (wsV RX0 134 RX0 yX0_passForLoan wsX0_passForLoan) := goodIn_app (goodIn_of _ (by decide +kernel)) ggX0_pass_X0_passForLoan
set_option maxRecDepth 20000 in
theorem ggX0_left_X0_checkNumber : GoodIn wsX0_left wsX0_checkNumber := goodIn_ca (goodIn_r _ [6, 7, 8] (by decide +kernel) (by decide +kernel)) (goodIn_sub (fun _ h => List.mem_cons_of_mem _ (List.mem_append_right _ h)) (by decide +kernel))
set_option maxRecDepth 20000 in
theorem gX0_left_X0_checkNumber : GoodIn wsX0_left (va_wsS RX0 61 yX0_checkNumber wsX0_checkNumber) := goodIn_app (goodIn_of _ (by decide +kernel)) ggX0_left_X0_checkNumber
set_option maxRecDepth 20000 in
theorem ggX0_has_X0_checkNumber : GoodIn wsX0_has wsX0_checkNumber := goodIn_ca (goodIn_r _ [7, 8, 9] (by decide +kernel) (by decide +kernel)) (goodIn_sub (fun _ h => List.mem_cons_of_mem _ (List.mem_append_right _ h)) (by decide +kernel))
set_option maxRecDepth 20000 in
theorem gX0_has_X0_checkNumber : GoodIn wsX0_has (va_wsS RX0 61 yX0_checkNumber wsX0_checkNumber) := goodIn_app (goodIn_of _ (by decide +kernel)) ggX0_has_X0_checkNumber
set_option maxRecDepth 20000 in
theorem ggX0_has_X0_potRow : GoodIn wsX0_has wsX0_potRow := goodIn_r _ [12] (by decide +kernel) (by decide +kernel)
set_option maxRecDepth 20000 in
theorem gX0_has_X0_potRow : GoodIn wsX0_has (va_wsS RX0 80 yX0_potRow wsX0_potRow) := goodIn_app (goodIn_of _ (by decide +kernel)) ggX0_has_X0_potRow
set_option maxRecDepth 20000 in
theorem ggX0_has_X0_sumOfRow : GoodIn wsX0_has wsX0_sumOfRow := goodIn_r _ [16, 2, 3, 17, 18, 6, 19, 20, 21, 22, 23, 24, 25, 26, 27, 28, 29, 30, 31, 32, 33, 34, 35, 36] (by decide +kernel) (by decide +kernel)
set_option maxRecDepth 20000 in
theorem gX0_has_X0_sumOfRow : GoodIn wsX0_has (wsV RX0 99 RX0 yX0_sumOfRow wsX0_sumOfRow) := goodIn_app (goodIn_of _ (by decide +kernel)) ggX0_has_X0_sumOfRow
set_option maxRecDepth 20000 in
theorem ggX0_has_X0_place : GoodIn wsX0_has wsX0_place := goodIn_r _ [19] (by decide +kernel) (by decide +kernel)
set_option maxRecDepth 20000 in
theorem gX0_has_X0_place : GoodIn wsX0_has (va_wsS RX0 84 yX0_place wsX0_place) := goodIn_app (goodIn_of _ (by decide +kernel)) ggX0_has_X0_place
set_option maxRecDepth 20000 in
theorem ggX0_colour_X0_checkNumber : GoodIn wsX0_colour wsX0_checkNumber := goodIn_ca (goodIn_r _ [5, 6, 7] (by decide +kernel) (by decide +kernel)) (goodIn_sub (fun _ h => List.mem_cons_of_mem _ (List.mem_append_left _ (List.mem_append_right _ h))) (by decide +kernel))
set_option maxRecDepth 20000 in
theorem gX0_colour_X0_checkNumber : GoodIn wsX0_colour (va_wsS RX0 61 yX0_checkNumber wsX0_checkNumber) := goodIn_app (goodIn_of _ (by decide +kernel)) ggX0_colour_X0_checkNumber
set_option maxRecDepth 20000 in
theorem ggX0_colour_X0_checkRange : GoodIn wsX0_colour wsX0_checkRange := goodIn_ca (goodIn_r _ [10, 11, 12] (by decide +kernel) (by decide +kernel)) (goodIn_sub (fun _ h => List.mem_cons_of_mem _ (List.mem_append_right _ h)) (by decide +kernel))
set_option maxRecDepth 20000 in
theorem gX0_colour_X0_checkRange : GoodIn wsX0_colour (va_wsS RX0 65 yX0_checkRange wsX0_checkRange) := goodIn_app (goodIn_of _ (by decide +kernel)) ggX0_colour_X0_checkRange
set_option maxRecDepth 20000 in
theorem ggX0_colour_X0_potRow : GoodIn wsX0_colour wsX0_potRow := goodIn_r _ [15] (by decide +kernel) (by decide +kernel)
set_option maxRecDepth 20000 in
theorem gX0_colour_X0_potRow : GoodIn wsX0_colour (va_wsS RX0 80 yX0_potRow wsX0_potRow) := goodIn_app (goodIn_of _ (by decide +kernel)) ggX0_colour_X0_potRow
set_option maxRecDepth 20000 in
theorem ggX0_colour_X0_colourOfRow : GoodIn wsX0_colour wsX0_colourOfRow := goodIn_r _ [19, 20, 21, 22, 23, 4, 24, 25, 26, 27, 28, 29, 30, 31, 32, 33, 34, 35, 36, 37, 38, 39, 40, 41, 42, 43, 44, 45, 46, 47] (by decide +kernel) (by decide +kernel)
set_option maxRecDepth 20000 in
theorem gX0_colour_X0_colourOfRow : GoodIn wsX0_colour (wsV RX0 137 RX0 yX0_colourOfRow wsX0_colourOfRow) := goodIn_app (goodIn_of _ (by decide +kernel)) ggX0_colour_X0_colourOfRow
set_option maxRecDepth 20000 in
theorem ggX0_of_X0_checkNumber : GoodIn wsX0_of wsX0_checkNumber := goodIn_ca (goodIn_r _ [9, 10, 11] (by decide +kernel) (by decide +kernel)) (goodIn_sub (fun _ h => List.mem_cons_of_mem _ (List.mem_append_left _ (List.mem_append_right _ h))) (by decide +kernel))
set_option maxRecDepth 20000 in
theorem gX0_of_X0_checkNumber : GoodIn wsX0_of (va_wsS RX0 61 yX0_checkNumber wsX0_checkNumber) := goodIn_app (goodIn_of _ (by decide +kernel)) ggX0_of_X0_checkNumber
set_option maxRecDepth 20000 in
theorem ggX0_of_X0_checkRange : GoodIn wsX0_of wsX0_checkRange := goodIn_ca (goodIn_r _ [14, 15, 16] (by decide +kernel) (by decide +kernel)) (goodIn_sub (fun _ h => List.mem_cons_of_mem _ (List.mem_append_right _ h)) (by decide +kernel))
set_option maxRecDepth 20000 in
theorem gX0_of_X0_checkRange : GoodIn wsX0_of (va_wsS RX0 65 yX0_checkRange wsX0_checkRange) := goodIn_app (goodIn_of _ (by decide +kernel)) ggX0_of_X0_checkRange
set_option maxRecDepth 20000 in
theorem ggX0_of_X0_valueOf : GoodIn wsX0_of wsX0_valueOf := goodIn_r _ [20, 3, 21, 22, 23, 24, 25, 26, 27, 8, 28, 1, 29, 30, 31, 32, 33, 2, 34, 35, 36, 37, 38, 39, 40, 41, 42, 43, 44, 45, 46, 47, 48, 49, 50, 51, 69, 70, 71, 72, 73, 74, 75, 76, 77, 78, 79, 80, 81, 82, 83, 84, 85] (by decide +kernel) (by decide +kernel)
set_option maxRecDepth 20000 in
theorem gX0_of_X0_valueOf : GoodIn wsX0_of (wsV RX0 123 RX0 yX0_valueOf wsX0_valueOf) := goodIn_app (goodIn_of _ (by decide +kernel)) ggX0_of_X0_valueOf
set_option maxRecDepth 20000 in
theorem ggX0_of_X0_mainPigmentOf : GoodIn wsX0_of wsX0_mainPigmentOf := goodIn_r _ [33, 2, 34, 35, 8, 36, 37, 38, 39, 40, 41, 42, 43, 44, 45, 46, 47, 48, 49, 50, 51, 69, 70, 71, 72, 73, 74, 75, 76, 77, 78, 79, 80, 81, 82, 83, 84, 85] (by decide +kernel) (by decide +kernel)
set_option maxRecDepth 20000 in
theorem gX0_of_X0_mainPigmentOf : GoodIn wsX0_of (wsV RX0 140 RX0 yX0_mainPigmentOf wsX0_mainPigmentOf) := goodIn_app (goodIn_of _ (by decide +kernel)) ggX0_of_X0_mainPigmentOf
set_option maxRecDepth 20000 in
theorem ggX0_of_X0_isLent : GoodIn wsX0_of wsX0_isLent := goodIn_r _ [55, 5, 69, 70, 71, 72, 73, 74, 75, 76, 77, 78, 79, 80, 81, 82, 83, 84, 85] (by decide +kernel) (by decide +kernel)
set_option maxRecDepth 20000 in
theorem gX0_of_X0_isLent : GoodIn wsX0_of (wsV RX0 143 RX0 yX0_isLent wsX0_isLent) := goodIn_app (goodIn_of _ (by decide +kernel)) ggX0_of_X0_isLent
set_option maxRecDepth 20000 in
theorem ggX0_of_X0_lookOf : GoodIn wsX0_of wsX0_lookOf := goodIn_r _ [59, 2, 34, 35, 8, 36, 60, 61, 62, 63, 46, 48, 49, 50, 51, 64, 65, 66, 67, 68, 47, 69, 70, 71, 72, 73, 74, 75, 76, 77, 78, 79, 80, 81, 82, 83, 84, 85] (by decide +kernel) (by decide +kernel)
set_option maxRecDepth 20000 in
theorem gX0_of_X0_lookOf : GoodIn wsX0_of (wsV RX0 147 RX0 yX0_lookOf wsX0_lookOf) := goodIn_app (goodIn_of _ (by decide +kernel)) ggX0_of_X0_lookOf
set_option maxRecDepth 20000 in
theorem ggX0_layer_X0_checkNumber : GoodIn wsX0_layer wsX0_checkNumber := goodIn_ca (goodIn_r _ [8, 9, 10] (by decide +kernel) (by decide +kernel)) (goodIn_sub (fun _ h => List.mem_cons_of_mem _ (List.mem_append_right _ h)) (by decide +kernel))
set_option maxRecDepth 20000 in
theorem gX0_layer_X0_checkNumber : GoodIn wsX0_layer (va_wsS RX0 61 yX0_checkNumber wsX0_checkNumber) := goodIn_app (goodIn_of _ (by decide +kernel)) ggX0_layer_X0_checkNumber
set_option maxRecDepth 20000 in
theorem ggX0_layer_X0_layerRow : GoodIn wsX0_layer wsX0_layerRow := goodIn_r _ [13] (by decide +kernel) (by decide +kernel)
set_option maxRecDepth 20000 in
theorem gX0_layer_X0_layerRow : GoodIn wsX0_layer (va_wsS RX0 116 yX0_layerRow wsX0_layerRow) := goodIn_app (goodIn_of _ (by decide +kernel)) ggX0_layer_X0_layerRow
set_option maxRecDepth 20000 in
theorem ggX0_layer_X0_place : GoodIn wsX0_layer wsX0_place := goodIn_r _ [16] (by decide +kernel) (by decide +kernel)
set_option maxRecDepth 20000 in
theorem gX0_layer_X0_place : GoodIn wsX0_layer (va_wsS RX0 84 yX0_place wsX0_place) := goodIn_app (goodIn_of _ (by decide +kernel)) ggX0_layer_X0_place
set_option maxRecDepth 20000 in
theorem ggX0_where_X0_checkNumber : GoodIn wsX0_where wsX0_checkNumber := goodIn_ca (goodIn_r _ [6, 7, 8] (by decide +kernel) (by decide +kernel)) (goodIn_sub (fun _ h => List.mem_cons_of_mem _ (List.mem_append_left _ (List.mem_append_right _ h))) (by decide +kernel))
set_option maxRecDepth 20000 in
theorem gX0_where_X0_checkNumber : GoodIn wsX0_where (va_wsS RX0 61 yX0_checkNumber wsX0_checkNumber) := goodIn_app (goodIn_of _ (by decide +kernel)) ggX0_where_X0_checkNumber
set_option maxRecDepth 20000 in
theorem ggX0_where_X0_checkRange : GoodIn wsX0_where wsX0_checkRange := goodIn_ca (goodIn_r _ [11, 12, 13] (by decide +kernel) (by decide +kernel)) (goodIn_sub (fun _ h => List.mem_cons_of_mem _ (List.mem_append_right _ h)) (by decide +kernel))
set_option maxRecDepth 20000 in
theorem gX0_where_X0_checkRange : GoodIn wsX0_where (va_wsS RX0 65 yX0_checkRange wsX0_checkRange) := goodIn_app (goodIn_of _ (by decide +kernel)) ggX0_where_X0_checkRange
set_option maxRecDepth 20000 in
theorem ggX0_where_X0_sumOfTube : GoodIn wsX0_where wsX0_sumOfTube := goodIn_r _ [17, 18, 19, 20, 5, 21, 22, 23, 24, 25, 26, 27, 28, 29, 30, 31, 32, 33, 34, 35, 36, 37, 38] (by decide +kernel) (by decide +kernel)
set_option maxRecDepth 20000 in
theorem gX0_where_X0_sumOfTube : GoodIn wsX0_where (wsV RX0 150 RX0 yX0_sumOfTube wsX0_sumOfTube) := goodIn_app (goodIn_of _ (by decide +kernel)) ggX0_where_X0_sumOfTube
set_option maxRecDepth 20000 in
theorem ggX0_recipe_X0_checkColour : GoodIn wsX0_recipe wsX0_checkColour := goodIn_ca (goodIn_r _ [6, 7, 8, 5, 9, 10, 11] (by decide +kernel) (by decide +kernel)) (goodIn_sub (fun _ h => List.mem_cons_of_mem _ (List.mem_append_right _ h)) (by decide +kernel))
set_option maxRecDepth 20000 in
theorem gX0_recipe_X0_checkColour : GoodIn wsX0_recipe (va_wsS RX0 46 yX0_checkColour wsX0_checkColour) := goodIn_app (goodIn_of _ (by decide +kernel)) ggX0_recipe_X0_checkColour
set_option maxRecDepth 20000 in
theorem ggX0_recipe_X0_mixed : GoodIn wsX0_recipe wsX0_mixed := goodIn_r _ [15, 16, 17, 18, 5, 19, 20, 21, 25, 26, 27, 28, 29, 30, 31, 32, 33, 34, 35, 36, 37, 38, 39, 40, 41] (by decide +kernel) (by decide +kernel)
set_option maxRecDepth 20000 in
theorem gX0_recipe_X0_mixed : GoodIn wsX0_recipe (wsV RX0 154 RX0 yX0_mixed wsX0_mixed) := goodIn_app (goodIn_of _ (by decide +kernel)) ggX0_recipe_X0_mixed
set_option maxRecDepth 20000 in
theorem ggX0_recipe_X0_square : GoodIn wsX0_recipe wsX0_square := goodIn_r _ [24] (by decide +kernel) (by decide +kernel)
set_option maxRecDepth 20000 in
theorem gX0_recipe_X0_square : GoodIn wsX0_recipe (va_wsS RX0 158 yX0_square wsX0_square) := goodIn_app (goodIn_of _ (by decide +kernel)) ggX0_recipe_X0_square
set_option maxRecDepth 20000 in
theorem ggX0_paid_X0_checkNumber : GoodIn wsX0_paid wsX0_checkNumber := goodIn_ca (goodIn_r _ [5, 6, 7] (by decide +kernel) (by decide +kernel)) (goodIn_sub (fun _ h => List.mem_cons_of_mem _ (List.mem_append_right _ h)) (by decide +kernel))
set_option maxRecDepth 20000 in
theorem gX0_paid_X0_checkNumber : GoodIn wsX0_paid (va_wsS RX0 61 yX0_checkNumber wsX0_checkNumber) := goodIn_app (goodIn_of _ (by decide +kernel)) ggX0_paid_X0_checkNumber
set_option maxRecDepth 20000 in
theorem ggX0_checkColour_X0_checkRange : GoodIn wsX0_checkColour wsX0_checkRange := goodIn_ca (goodIn_r _ [4, 5, 6] (by decide +kernel) (by decide +kernel)) (goodIn_sub (fun _ h => List.mem_cons_of_mem _ (List.mem_append_right _ h)) (by decide +kernel))
set_option maxRecDepth 20000 in
theorem gX0_checkColour_X0_checkRange : GoodIn wsX0_checkColour (va_wsS RX0 65 yX0_checkRange wsX0_checkRange) := goodIn_app (goodIn_of _ (by decide +kernel)) ggX0_checkColour_X0_checkRange
set_option maxRecDepth 20000 in
theorem ggX0_checkAtHome_X0_isLent : GoodIn wsX0_checkAtHome wsX0_isLent := goodIn_r _ [7, 8, 9, 10, 11, 12, 13, 14, 15, 16, 17, 18, 19, 20, 21, 22, 23, 24, 25] (by decide +kernel) (by decide +kernel)
set_option maxRecDepth 20000 in
theorem gX0_checkAtHome_X0_isLent : GoodIn wsX0_checkAtHome (wsV RX0 143 RX0 yX0_isLent wsX0_isLent) := goodIn_app (goodIn_of _ (by decide +kernel)) ggX0_checkAtHome_X0_isLent
set_option maxRecDepth 20000 in
theorem ggX0_sumOfRow_X0_place : GoodIn wsX0_sumOfRow wsX0_place := goodIn_r _ [6] (by decide +kernel) (by decide +kernel)
set_option maxRecDepth 20000 in
theorem gX0_sumOfRow_X0_place : GoodIn wsX0_sumOfRow (va_wsS RX0 84 yX0_place wsX0_place) := goodIn_app (goodIn_of _ (by decide +kernel)) ggX0_sumOfRow_X0_place
set_option maxRecDepth 20000 in
theorem ggX0_sumOfTube_X0_place : GoodIn wsX0_sumOfTube wsX0_place := goodIn_r _ [5] (by decide +kernel) (by decide +kernel)
set_option maxRecDepth 20000 in
theorem gX0_sumOfTube_X0_place : GoodIn wsX0_sumOfTube (va_wsS RX0 84 yX0_place wsX0_place) := goodIn_app (goodIn_of _ (by decide +kernel)) ggX0_sumOfTube_X0_place
set_option maxRecDepth 20000 in
theorem ggX0_move_X0_sumOfRow : GoodIn wsX0_move wsX0_sumOfRow := goodIn_r _ [7, 1, 2, 8, 9, 6, 10, 11, 12, 13, 14, 15, 16, 17, 18, 19, 20, 21, 22, 23, 24, 25, 26, 27] (by decide +kernel) (by decide +kernel)
set_option maxRecDepth 20000 in
theorem gX0_move_X0_sumOfRow : GoodIn wsX0_move (wsV RX0 99 RX0 yX0_sumOfRow wsX0_sumOfRow) := goodIn_app (goodIn_of _ (by decide +kernel)) ggX0_move_X0_sumOfRow
set_option maxRecDepth 20000 in
theorem ggX0_move_X0_place : GoodIn wsX0_move wsX0_place := goodIn_r _ [10] (by decide +kernel) (by decide +kernel)
set_option maxRecDepth 20000 in
theorem gX0_move_X0_place : GoodIn wsX0_move (va_wsS RX0 84 yX0_place wsX0_place) := goodIn_app (goodIn_of _ (by decide +kernel)) ggX0_move_X0_place
set_option maxRecDepth 20000 in
theorem ggX0_waste_X0_place : GoodIn wsX0_waste wsX0_place := goodIn_r _ [6] (by decide +kernel) (by decide +kernel)
set_option maxRecDepth 20000 in
theorem gX0_waste_X0_place : GoodIn wsX0_waste (va_wsS RX0 84 yX0_place wsX0_place) := goodIn_app (goodIn_of _ (by decide +kernel)) ggX0_waste_X0_place
set_option maxRecDepth 20000 in
theorem ggX0_colourOfRow_X0_place : GoodIn wsX0_colourOfRow wsX0_place := goodIn_r _ [6] (by decide +kernel) (by decide +kernel)
set_option maxRecDepth 20000 in
theorem gX0_colourOfRow_X0_place : GoodIn wsX0_colourOfRow (va_wsS RX0 84 yX0_place wsX0_place) := goodIn_app (goodIn_of _ (by decide +kernel)) ggX0_colourOfRow_X0_place
set_option maxRecDepth 20000 in
theorem ggX0_colourOfRow_X0_colourOfTube : GoodIn wsX0_colourOfRow wsX0_colourOfTube := goodIn_r _ [10, 11, 12, 13, 14, 15, 16, 17, 18, 19, 20, 21, 22, 23, 24, 25, 26, 27, 28, 29] (by decide +kernel) (by decide +kernel)
set_option maxRecDepth 20000 in
theorem gX0_colourOfRow_X0_colourOfTube : GoodIn wsX0_colourOfRow (wsV RX0 170 RX0 yX0_colourOfTube wsX0_colourOfTube) := goodIn_app (goodIn_of _ (by decide +kernel)) ggX0_colourOfRow_X0_colourOfTube
set_option maxRecDepth 20000 in
theorem ggX0_gramsOfPigment_X0_place : GoodIn wsX0_gramsOfPigment wsX0_place := goodIn_r _ [7] (by decide +kernel) (by decide +kernel)
set_option maxRecDepth 20000 in
theorem gX0_gramsOfPigment_X0_place : GoodIn wsX0_gramsOfPigment (va_wsS RX0 84 yX0_place wsX0_place) := goodIn_app (goodIn_of _ (by decide +kernel)) ggX0_gramsOfPigment_X0_place
set_option maxRecDepth 20000 in
theorem ggX0_mainPigmentOfRow_X0_gramsOfPigment : GoodIn wsX0_mainPigmentOfRow wsX0_gramsOfPigment := goodIn_r _ [6, 7, 8, 9, 10, 11, 5, 12, 13, 14, 15, 16, 17, 18, 19, 20, 21, 22, 23, 24, 25, 26, 27, 28, 29] (by decide +kernel) (by decide +kernel)
set_option maxRecDepth 20000 in
theorem gX0_mainPigmentOfRow_X0_gramsOfPigment : GoodIn wsX0_mainPigmentOfRow (wsV RX0 173 RX0 yX0_gramsOfPigment wsX0_gramsOfPigment) := goodIn_app (goodIn_of _ (by decide +kernel)) ggX0_mainPigmentOfRow_X0_gramsOfPigment
set_option maxRecDepth 20000 in
theorem ggX0_mixed_X0_colourOfTube : GoodIn wsX0_mixed wsX0_colourOfTube := goodIn_r _ [5, 6, 7, 8, 9, 10, 11, 12, 13, 14, 15, 16, 17, 18, 19, 20, 21, 22, 23, 24] (by decide +kernel) (by decide +kernel)
set_option maxRecDepth 20000 in
theorem gX0_mixed_X0_colourOfTube : GoodIn wsX0_mixed (wsV RX0 170 RX0 yX0_colourOfTube wsX0_colourOfTube) := goodIn_app (goodIn_of _ (by decide +kernel)) ggX0_mixed_X0_colourOfTube
set_option maxRecDepth 20000 in
theorem ggX0_mainPigmentOf_X0_layerRow : GoodIn wsX0_mainPigmentOf wsX0_layerRow := goodIn_r _ [5] (by decide +kernel) (by decide +kernel)
set_option maxRecDepth 20000 in
theorem gX0_mainPigmentOf_X0_layerRow : GoodIn wsX0_mainPigmentOf (va_wsS RX0 116 yX0_layerRow wsX0_layerRow) := goodIn_app (goodIn_of _ (by decide +kernel)) ggX0_mainPigmentOf_X0_layerRow
set_option maxRecDepth 20000 in
theorem ggX0_mainPigmentOf_X0_mainPigmentOfRow : GoodIn wsX0_mainPigmentOf wsX0_mainPigmentOfRow := goodIn_r _ [9, 10, 11, 12, 13, 4, 14, 15, 16, 17, 18, 19, 20, 21, 22, 23, 24, 25, 26, 27, 28, 29, 30, 31, 32, 33, 34, 35, 36, 37] (by decide +kernel) (by decide +kernel)
set_option maxRecDepth 20000 in
theorem gX0_mainPigmentOf_X0_mainPigmentOfRow : GoodIn wsX0_mainPigmentOf (wsV RX0 176 RX0 yX0_mainPigmentOfRow wsX0_mainPigmentOfRow) := goodIn_app (goodIn_of _ (by decide +kernel)) ggX0_mainPigmentOf_X0_mainPigmentOfRow
set_option maxRecDepth 20000 in
theorem ggX0_lookOf_X0_layerRow : GoodIn wsX0_lookOf wsX0_layerRow := goodIn_r _ [5] (by decide +kernel) (by decide +kernel)
set_option maxRecDepth 20000 in
theorem gX0_lookOf_X0_layerRow : GoodIn wsX0_lookOf (va_wsS RX0 116 yX0_layerRow wsX0_layerRow) := goodIn_app (goodIn_of _ (by decide +kernel)) ggX0_lookOf_X0_layerRow
set_option maxRecDepth 20000 in
theorem ggX0_lookOf_X0_colourOfRow : GoodIn wsX0_lookOf wsX0_colourOfRow := goodIn_r _ [9, 10, 11, 12, 13, 4, 14, 15, 16, 17, 18, 19, 20, 21, 22, 23, 24, 25, 26, 27, 28, 29, 30, 31, 32, 33, 34, 35, 36, 37] (by decide +kernel) (by decide +kernel)
set_option maxRecDepth 20000 in
theorem gX0_lookOf_X0_colourOfRow : GoodIn wsX0_lookOf (wsV RX0 137 RX0 yX0_colourOfRow wsX0_colourOfRow) := goodIn_app (goodIn_of _ (by decide +kernel)) ggX0_lookOf_X0_colourOfRow
set_option maxRecDepth 20000 in
theorem ggX0_valueOf_X0_averagePriceOfAlike : GoodIn wsX0_valueOf wsX0_averagePriceOfAlike := goodIn_r _ [10, 11, 12, 13, 14, 15, 9, 16, 17, 18, 19, 20, 21, 22, 23, 24, 25, 26, 27, 28, 29, 30, 31, 32, 33, 34, 35, 36, 37, 38, 39, 40, 41, 42, 43, 44, 45, 46, 47, 48, 49, 50, 51, 52] (by decide +kernel) (by decide +kernel)
set_option maxRecDepth 20000 in
theorem gX0_valueOf_X0_averagePriceOfAlike : GoodIn wsX0_valueOf (wsV RX0 179 RX0 yX0_averagePriceOfAlike wsX0_averagePriceOfAlike) := goodIn_app (goodIn_of _ (by decide +kernel)) ggX0_valueOf_X0_averagePriceOfAlike
set_option maxRecDepth 20000 in
theorem ggX0_averagePriceOfAlike_X0_mainPigmentOf : GoodIn wsX0_averagePriceOfAlike wsX0_mainPigmentOf := goodIn_r _ [7, 8, 9, 10, 6, 11, 12, 13, 14, 15, 16, 17, 18, 19, 20, 21, 22, 23, 24, 25, 26, 27, 28, 29, 30, 31, 32, 33, 34, 35, 36, 37, 38, 39, 40, 41, 42, 43] (by decide +kernel) (by decide +kernel)
set_option maxRecDepth 20000 in
theorem gX0_averagePriceOfAlike_X0_mainPigmentOf : GoodIn wsX0_averagePriceOfAlike (wsV RX0 140 RX0 yX0_mainPigmentOf wsX0_mainPigmentOf) := goodIn_app (goodIn_of _ (by decide +kernel)) ggX0_averagePriceOfAlike_X0_mainPigmentOf
set_option maxRecDepth 20000 in
theorem ggX1_areShades_X1_in : GoodIn wsX1_areShades wsX1_in := goodIn_r _ [4] (by decide +kernel) (by decide +kernel)
set_option maxRecDepth 20000 in
theorem gX1_areShades_X1_in : GoodIn wsX1_areShades (va_wsS RX1 62 yX1_in wsX1_in) := goodIn_app (goodIn_of _ (by decide +kernel)) ggX1_areShades_X1_in
set_option maxRecDepth 20000 in
theorem ggX1_isTube_X1_in : GoodIn wsX1_isTube wsX1_in := goodIn_r _ [5] (by decide +kernel) (by decide +kernel)
set_option maxRecDepth 20000 in
theorem gX1_isTube_X1_in : GoodIn wsX1_isTube (va_wsS RX1 62 yX1_in wsX1_in) := goodIn_app (goodIn_of _ (by decide +kernel)) ggX1_isTube_X1_in
set_option maxRecDepth 20000 in
theorem ggX1_isPot_X1_in : GoodIn wsX1_isPot wsX1_in := goodIn_r _ [5] (by decide +kernel) (by decide +kernel)
set_option maxRecDepth 20000 in
theorem gX1_isPot_X1_in : GoodIn wsX1_isPot (va_wsS RX1 62 yX1_in wsX1_in) := goodIn_app (goodIn_of _ (by decide +kernel)) ggX1_isPot_X1_in
set_option maxRecDepth 20000 in
theorem ggX1_isPicture_X1_in : GoodIn wsX1_isPicture wsX1_in := goodIn_r _ [5] (by decide +kernel) (by decide +kernel)
set_option maxRecDepth 20000 in
theorem gX1_isPicture_X1_in : GoodIn wsX1_isPicture (va_wsS RX1 62 yX1_in wsX1_in) := goodIn_app (goodIn_of _ (by decide +kernel)) ggX1_isPicture_X1_in
set_option maxRecDepth 20000 in
theorem ggX1_isHouse_X1_in : GoodIn wsX1_isHouse wsX1_in := goodIn_r _ [4] (by decide +kernel) (by decide +kernel)
set_option maxRecDepth 20000 in
theorem gX1_isHouse_X1_in : GoodIn wsX1_isHouse (va_wsS RX1 62 yX1_in wsX1_in) := goodIn_app (goodIn_of _ (by decide +kernel)) ggX1_isHouse_X1_in
set_option maxRecDepth 20000 in
theorem ggX1_pigment_X1_areShades : GoodIn wsX1_pigment wsX1_areShades := goodIn_r _ [7, 8, 9, 6, 10] (by decide +kernel) (by decide +kernel)
set_option maxRecDepth 20000 in
theorem gX1_pigment_X1_areShades : GoodIn wsX1_pigment (va_wsS RX1 75 yX1_areShades wsX1_areShades) := goodIn_app (goodIn_of _ (by decide +kernel)) ggX1_pigment_X1_areShades
set_option maxRecDepth 20000 in
theorem ggX1_tube_X1_in : GoodIn wsX1_tube wsX1_in := goodIn_r _ [9] (by decide +kernel) (by decide +kernel)
set_option maxRecDepth 20000 in
theorem gX1_tube_X1_in : GoodIn wsX1_tube (va_wsS RX1 62 yX1_in wsX1_in) := goodIn_app (goodIn_of _ (by decide +kernel)) ggX1_tube_X1_in
set_option maxRecDepth 20000 in
theorem ggX1_squeeze_X1_isPot : GoodIn wsX1_squeeze wsX1_isPot := goodIn_r _ [8, 9, 10, 11, 7, 12, 18, 19, 20, 21, 22, 23, 24, 25, 26, 27, 28, 29, 30, 31, 32, 33, 34, 35, 36, 37, 38, 39] (by decide +kernel) (by decide +kernel)
set_option maxRecDepth 20000 in
theorem gX1_squeeze_X1_isPot : GoodIn wsX1_squeeze (wsV RX1 81 RX1 yX1_isPot wsX1_isPot) := goodIn_app (goodIn_of _ (by decide +kernel)) ggX1_squeeze_X1_isPot
set_option maxRecDepth 20000 in
theorem ggX1_squeeze_X1_isTube : GoodIn wsX1_squeeze wsX1_isTube := goodIn_r _ [16, 17, 10, 11, 7, 12, 18, 19, 20, 21, 22, 23, 24, 25, 26, 27, 28, 29, 30, 31, 32, 33, 34, 35, 36, 37, 38, 39] (by decide +kernel) (by decide +kernel)
set_option maxRecDepth 20000 in
theorem gX1_squeeze_X1_isTube : GoodIn wsX1_squeeze (wsV RX1 85 RX1 yX1_isTube wsX1_isTube) := goodIn_app (goodIn_of _ (by decide +kernel)) ggX1_squeeze_X1_isTube
set_option maxRecDepth 20000 in
theorem ggX1_squeeze_X1_in : GoodIn wsX1_squeeze wsX1_in := goodIn_r _ [12] (by decide +kernel) (by decide +kernel)
set_option maxRecDepth 20000 in
theorem gX1_squeeze_X1_in : GoodIn wsX1_squeeze (va_wsS RX1 62 yX1_in wsX1_in) := goodIn_app (goodIn_of _ (by decide +kernel)) ggX1_squeeze_X1_in
set_option maxRecDepth 20000 in
theorem ggX1_flows_X1_gramsOf : GoodIn wsX1_flows wsX1_gramsOf := goodIn_r _ [7, 1, 8, 9, 10, 11, 12, 13, 14, 15, 16, 17, 18, 19, 20, 21, 22, 23, 24, 25, 26, 27, 28, 29] (by decide +kernel) (by decide +kernel)
set_option maxRecDepth 20000 in
theorem gX1_flows_X1_gramsOf : GoodIn wsX1_flows (wsV RX1 88 RX1 yX1_gramsOf wsX1_gramsOf) := goodIn_app (goodIn_of _ (by decide +kernel)) ggX1_flows_X1_gramsOf
set_option maxRecDepth 20000 in
theorem ggX1_pour_X1_isPot : GoodIn wsX1_pour wsX1_isPot := goodIn_r _ [8, 9, 10, 11, 7, 12, 21, 22, 23, 24, 25, 26, 27, 28, 29, 30, 31, 32, 33, 34, 35, 36, 37, 38, 39, 40, 41, 42] (by decide +kernel) (by decide +kernel)
set_option maxRecDepth 20000 in
theorem gX1_pour_X1_isPot : GoodIn wsX1_pour (wsV RX1 81 RX1 yX1_isPot wsX1_isPot) := goodIn_app (goodIn_of _ (by decide +kernel)) ggX1_pour_X1_isPot
set_option maxRecDepth 20000 in
theorem ggX1_pour_X1_in : GoodIn wsX1_pour wsX1_in := goodIn_r _ [12] (by decide +kernel) (by decide +kernel)
set_option maxRecDepth 20000 in
theorem gX1_pour_X1_in : GoodIn wsX1_pour (va_wsS RX1 62 yX1_in wsX1_in) := goodIn_app (goodIn_of _ (by decide +kernel)) ggX1_pour_X1_in
set_option maxRecDepth 20000 in
theorem ggX1_pour_X1_gramsOf : GoodIn wsX1_pour wsX1_gramsOf := goodIn_r _ [16, 2, 21, 22, 23, 24, 25, 26, 27, 28, 29, 30, 31, 32, 33, 34, 35, 36, 37, 38, 39, 40, 41, 42] (by decide +kernel) (by decide +kernel)
set_option maxRecDepth 20000 in
theorem gX1_pour_X1_gramsOf : GoodIn wsX1_pour (wsV RX1 88 RX1 yX1_gramsOf wsX1_gramsOf) := goodIn_app (goodIn_of _ (by decide +kernel)) ggX1_pour_X1_gramsOf
set_option maxRecDepth 20000 in
theorem ggX1_pour_X1_flows : GoodIn wsX1_pour wsX1_flows := goodIn_r _ [20, 2, 3, 13, 14, 15, 7, 16, 21, 22, 23, 24, 25, 26, 27, 28, 29, 30, 31, 32, 33, 34, 35, 36, 37, 38, 39, 40, 41, 42] (by decide +kernel) (by decide +kernel)
set_option maxRecDepth 20000 in
theorem gX1_pour_X1_flows : GoodIn wsX1_pour (wsV RX1 92 RX1 yX1_flows wsX1_flows) := goodIn_app (goodIn_of _ (by decide +kernel)) ggX1_pour_X1_flows
set_option maxRecDepth 20000 in
theorem ggX1_scrape_X1_isPot : GoodIn wsX1_scrape wsX1_isPot := goodIn_r _ [8, 9, 10, 11, 7, 12, 17, 18, 19, 20, 21, 22, 23, 24, 25, 26, 27, 28, 29, 30, 31, 32, 33, 34, 35, 36, 37, 38] (by decide +kernel) (by decide +kernel)
set_option maxRecDepth 20000 in
theorem gX1_scrape_X1_isPot : GoodIn wsX1_scrape (wsV RX1 81 RX1 yX1_isPot wsX1_isPot) := goodIn_app (goodIn_of _ (by decide +kernel)) ggX1_scrape_X1_isPot
set_option maxRecDepth 20000 in
theorem ggX1_scrape_X1_gramsOf : GoodIn wsX1_scrape wsX1_gramsOf := goodIn_r _ [16, 3, 17, 18, 19, 20, 21, 22, 23, 24, 25, 26, 27, 28, 29, 30, 31, 32, 33, 34, 35, 36, 37, 38] (by decide +kernel) (by decide +kernel)
set_option maxRecDepth 20000 in
theorem gX1_scrape_X1_gramsOf : GoodIn wsX1_scrape (wsV RX1 88 RX1 yX1_gramsOf wsX1_gramsOf) := goodIn_app (goodIn_of _ (by decide +kernel)) ggX1_scrape_X1_gramsOf
set_option maxRecDepth 20000 in
theorem ggX1_paint_X1_isPicture : GoodIn wsX1_paint wsX1_isPicture := goodIn_r _ [10, 11, 12, 13, 9, 14, 32, 33, 34, 35, 36, 37, 38, 39, 40, 41, 42, 43, 44, 45, 46, 47, 48, 49, 50, 51, 52, 53] (by decide +kernel) (by decide +kernel)
set_option maxRecDepth 20000 in
theorem gX1_paint_X1_isPicture : GoodIn wsX1_paint (wsV RX1 96 RX1 yX1_isPicture wsX1_isPicture) := goodIn_app (goodIn_of _ (by decide +kernel)) ggX1_paint_X1_isPicture
set_option maxRecDepth 20000 in
theorem ggX1_paint_X1_isPot : GoodIn wsX1_paint wsX1_isPot := goodIn_r _ [18, 19, 12, 13, 9, 14, 32, 33, 34, 35, 36, 37, 38, 39, 40, 41, 42, 43, 44, 45, 46, 47, 48, 49, 50, 51, 52, 53] (by decide +kernel) (by decide +kernel)
set_option maxRecDepth 20000 in
theorem gX1_paint_X1_isPot : GoodIn wsX1_paint (wsV RX1 81 RX1 yX1_isPot wsX1_isPot) := goodIn_app (goodIn_of _ (by decide +kernel)) ggX1_paint_X1_isPot
set_option maxRecDepth 20000 in
theorem ggX1_paint_X1_in : GoodIn wsX1_paint wsX1_in := goodIn_r _ [14] (by decide +kernel) (by decide +kernel)
set_option maxRecDepth 20000 in
theorem gX1_paint_X1_in : GoodIn wsX1_paint (va_wsS RX1 62 yX1_in wsX1_in) := goodIn_app (goodIn_of _ (by decide +kernel)) ggX1_paint_X1_in
set_option maxRecDepth 20000 in
theorem ggX1_paint_X1_gramsOf : GoodIn wsX1_paint wsX1_gramsOf := goodIn_r _ [23, 24, 32, 33, 34, 35, 36, 37, 38, 39, 40, 41, 42, 43, 44, 45, 46, 47, 48, 49, 50, 51, 52, 53] (by decide +kernel) (by decide +kernel)
set_option maxRecDepth 20000 in
theorem gX1_paint_X1_gramsOf : GoodIn wsX1_paint (wsV RX1 88 RX1 yX1_gramsOf wsX1_gramsOf) := goodIn_app (goodIn_of _ (by decide +kernel)) ggX1_paint_X1_gramsOf
set_option maxRecDepth 20000 in
theorem ggX1_paint_X1_flows : GoodIn wsX1_paint wsX1_flows := goodIn_r _ [28, 24, 5, 20, 21, 22, 9, 23, 32, 33, 34, 35, 36, 37, 38, 39, 40, 41, 42, 43, 44, 45, 46, 47, 48, 49, 50, 51, 52, 53] (by decide +kernel) (by decide +kernel)
set_option maxRecDepth 20000 in
theorem gX1_paint_X1_flows : GoodIn wsX1_paint (wsV RX1 92 RX1 yX1_flows wsX1_flows) := goodIn_app (goodIn_of _ (by decide +kernel)) ggX1_paint_X1_flows
set_option maxRecDepth 20000 in
theorem ggX1_paint_X1_layerAt : GoodIn wsX1_paint wsX1_layerAt := goodIn_r _ [31] (by decide +kernel) (by decide +kernel)
set_option maxRecDepth 20000 in
theorem gX1_paint_X1_layerAt : GoodIn wsX1_paint (va_wsS RX1 99 yX1_layerAt wsX1_layerAt) := goodIn_app (goodIn_of _ (by decide +kernel)) ggX1_paint_X1_layerAt
set_option maxRecDepth 20000 in
theorem ggX1_clean_X1_isPicture : GoodIn wsX1_clean wsX1_isPicture := goodIn_r _ [10, 11, 12, 13, 9, 14, 18, 19, 20, 21, 22, 23, 24, 25, 26, 27, 28, 29, 30, 31, 32, 33, 34, 35, 36, 37, 38, 39] (by decide +kernel) (by decide +kernel)
set_option maxRecDepth 20000 in
theorem gX1_clean_X1_isPicture : GoodIn wsX1_clean (wsV RX1 96 RX1 yX1_isPicture wsX1_isPicture) := goodIn_app (goodIn_of _ (by decide +kernel)) ggX1_clean_X1_isPicture
set_option maxRecDepth 20000 in
theorem ggX1_clean_X1_in : GoodIn wsX1_clean wsX1_in := goodIn_r _ [14] (by decide +kernel) (by decide +kernel)
set_option maxRecDepth 20000 in
theorem gX1_clean_X1_in : GoodIn wsX1_clean (va_wsS RX1 62 yX1_in wsX1_in) := goodIn_app (goodIn_of _ (by decide +kernel)) ggX1_clean_X1_in
set_option maxRecDepth 20000 in
theorem ggX1_clean_X1_layerAt : GoodIn wsX1_clean wsX1_layerAt := goodIn_r _ [17] (by decide +kernel) (by decide +kernel)
set_option maxRecDepth 20000 in
theorem gX1_clean_X1_layerAt : GoodIn wsX1_clean (va_wsS RX1 99 yX1_layerAt wsX1_layerAt) := goodIn_app (goodIn_of _ (by decide +kernel)) ggX1_clean_X1_layerAt
set_option maxRecDepth 20000 in
theorem ggX1_main_X1_layerAt : GoodIn wsX1_main wsX1_layerAt := goodIn_r _ [9] (by decide +kernel) (by decide +kernel)
set_option maxRecDepth 20000 in
theorem gX1_main_X1_layerAt : GoodIn wsX1_main (va_wsS RX1 99 yX1_layerAt wsX1_layerAt) := goodIn_app (goodIn_of _ (by decide +kernel)) ggX1_main_X1_layerAt
set_option maxRecDepth 20000 in
theorem ggX1_look_X1_layerAt : GoodIn wsX1_look wsX1_layerAt := goodIn_r _ [9] (by decide +kernel) (by decide +kernel)
set_option maxRecDepth 20000 in
theorem gX1_look_X1_layerAt : GoodIn wsX1_look (va_wsS RX1 99 yX1_layerAt wsX1_layerAt) := goodIn_app (goodIn_of _ (by decide +kernel)) ggX1_look_X1_layerAt
set_option maxRecDepth 20000 in
theorem ggX1_value_X1_main : GoodIn wsX1_value wsX1_main := goodIn_r _ [8, 9, 10, 11, 12, 13, 14, 15, 7, 16, 17, 18, 19, 20, 21, 22, 23, 24, 25, 26, 27, 28, 29, 30, 31, 32, 33, 34, 35, 36, 37, 38] (by decide +kernel) (by decide +kernel)
set_option maxRecDepth 20000 in
theorem gX1_value_X1_main : GoodIn wsX1_value (wsV RX1 103 RX1 yX1_main wsX1_main) := goodIn_app (goodIn_of _ (by decide +kernel)) ggX1_value_X1_main
set_option maxRecDepth 20000 in
theorem ggX1_damp_X1_isHouse : GoodIn wsX1_damp wsX1_isHouse := goodIn_r _ [6, 7, 8, 5, 9] (by decide +kernel) (by decide +kernel)
set_option maxRecDepth 20000 in
theorem gX1_damp_X1_isHouse : GoodIn wsX1_damp (va_wsS RX1 106 yX1_isHouse wsX1_isHouse) := goodIn_app (goodIn_of _ (by decide +kernel)) ggX1_damp_X1_isHouse
set_option maxRecDepth 20000 in
theorem ggX1_damp_X1_in : GoodIn wsX1_damp wsX1_in := goodIn_r _ [9] (by decide +kernel) (by decide +kernel)
set_option maxRecDepth 20000 in
theorem gX1_damp_X1_in : GoodIn wsX1_damp (va_wsS RX1 62 yX1_in wsX1_in) := goodIn_app (goodIn_of _ (by decide +kernel)) ggX1_damp_X1_in
set_option maxRecDepth 20000 in
theorem ggX1_lend_X1_isPicture : GoodIn wsX1_lend wsX1_isPicture := goodIn_r _ [10, 11, 12, 13, 9, 14, 35, 36, 37, 38, 39, 40, 41, 42, 43, 44, 45, 46, 47, 48, 49, 50, 51, 52, 53, 54, 55, 56] (by decide +kernel) (by decide +kernel)
set_option maxRecDepth 20000 in
theorem gX1_lend_X1_isPicture : GoodIn wsX1_lend (wsV RX1 96 RX1 yX1_isPicture wsX1_isPicture) := goodIn_app (goodIn_of _ (by decide +kernel)) ggX1_lend_X1_isPicture
set_option maxRecDepth 20000 in
theorem ggX1_lend_X1_isHouse : GoodIn wsX1_lend wsX1_isHouse := goodIn_r _ [17, 12, 13, 9, 14] (by decide +kernel) (by decide +kernel)
set_option maxRecDepth 20000 in
theorem gX1_lend_X1_isHouse : GoodIn wsX1_lend (va_wsS RX1 106 yX1_isHouse wsX1_isHouse) := goodIn_app (goodIn_of _ (by decide +kernel)) ggX1_lend_X1_isHouse
set_option maxRecDepth 20000 in
theorem ggX1_lend_X1_in : GoodIn wsX1_lend wsX1_in := goodIn_r _ [14] (by decide +kernel) (by decide +kernel)
set_option maxRecDepth 20000 in
theorem gX1_lend_X1_in : GoodIn wsX1_lend (va_wsS RX1 62 yX1_in wsX1_in) := goodIn_app (goodIn_of _ (by decide +kernel)) ggX1_lend_X1_in
set_option maxRecDepth 20000 in
theorem ggX1_lend_X1_value : GoodIn wsX1_lend wsX1_value := goodIn_r _ [21, 11, 22, 2, 23, 24, 25, 9, 26, 27, 28, 29, 30, 31, 32, 33, 34, 35, 36, 37, 38, 39, 40, 41, 42, 43, 44, 45, 46, 47, 48, 49, 50, 51, 52, 53, 54, 55, 56] (by decide +kernel) (by decide +kernel)
set_option maxRecDepth 20000 in
theorem gX1_lend_X1_value : GoodIn wsX1_lend (wsV RX1 109 RX1 yX1_value wsX1_value) := goodIn_app (goodIn_of _ (by decide +kernel)) ggX1_lend_X1_value
set_option maxRecDepth 20000 in
theorem ggX1_sell_X1_isPicture : GoodIn wsX1_sell wsX1_isPicture := goodIn_r _ [10, 11, 12, 13, 9, 14, 31, 32, 33, 34, 35, 36, 37, 38, 39, 40, 41, 42, 43, 44, 45, 46, 47, 48, 49, 50, 51, 52] (by decide +kernel) (by decide +kernel)
set_option maxRecDepth 20000 in
theorem gX1_sell_X1_isPicture : GoodIn wsX1_sell (wsV RX1 96 RX1 yX1_isPicture wsX1_isPicture) := goodIn_app (goodIn_of _ (by decide +kernel)) ggX1_sell_X1_isPicture
set_option maxRecDepth 20000 in
theorem ggX1_sell_X1_in : GoodIn wsX1_sell wsX1_in := goodIn_r _ [14] (by decide +kernel) (by decide +kernel)
set_option maxRecDepth 20000 in
theorem gX1_sell_X1_in : GoodIn wsX1_sell (va_wsS RX1 62 yX1_in wsX1_in) := goodIn_app (goodIn_of _ (by decide +kernel)) ggX1_sell_X1_in
set_option maxRecDepth 20000 in
theorem ggX1_sell_X1_value : GoodIn wsX1_sell wsX1_value := goodIn_r _ [18, 11, 5, 19, 20, 21, 22, 9, 23, 3, 24, 25, 26, 27, 28, 29, 30, 31, 32, 33, 34, 35, 36, 37, 38, 39, 40, 41, 42, 43, 44, 45, 46, 47, 48, 49, 50, 51, 52] (by decide +kernel) (by decide +kernel)
set_option maxRecDepth 20000 in
theorem gX1_sell_X1_value : GoodIn wsX1_sell (wsV RX1 109 RX1 yX1_value wsX1_value) := goodIn_app (goodIn_of _ (by decide +kernel)) ggX1_sell_X1_value
set_option maxRecDepth 20000 in
theorem ggX1_passOne_X1_in : GoodIn wsX1_passOne wsX1_in := goodIn_r _ [12] (by decide +kernel) (by decide +kernel)
set_option maxRecDepth 20000 in
theorem gX1_passOne_X1_in : GoodIn wsX1_passOne (va_wsS RX1 62 yX1_in wsX1_in) := goodIn_app (goodIn_of _ (by decide +kernel)) ggX1_passOne_X1_in
set_option maxRecDepth 20000 in
theorem ggX1_pass_X1_in : GoodIn wsX1_pass wsX1_in := goodIn_r _ [6] (by decide +kernel) (by decide +kernel)
set_option maxRecDepth 20000 in
theorem gX1_pass_X1_in : GoodIn wsX1_pass (va_wsS RX1 62 yX1_in wsX1_in) := goodIn_app (goodIn_of _ (by decide +kernel)) ggX1_pass_X1_in
set_option maxRecDepth 20000 in
theorem ggX1_pass_X1_passOne : GoodIn wsX1_pass wsX1_passOne := goodIn_r _ [10, 1, 11, 12, 13, 14, 15, 16, 17, 3, 4, 5, 6, 18, 19, 20, 21, 22, 23, 24, 25, 26, 27, 28, 29, 30, 31, 32, 33, 34, 35, 36, 37, 38, 39] (by decide +kernel) (by decide +kernel)
set_option maxRecDepth 20000 in
theorem gX1_pass_X1_passOne : GoodIn wsX1_pass (wsV RX1 116 RX1 yX1_passOne wsX1_passOne) := goodIn_app (goodIn_of _ (by decide +kernel)) ggX1_pass_X1_passOne
set_option maxRecDepth 20000 in
theorem ggX1_left_X1_isTube : GoodIn wsX1_left wsX1_isTube := goodIn_r _ [7, 8, 9, 10, 6, 11, 12, 13, 14, 15, 16, 17, 18, 19, 20, 21, 22, 23, 24, 25, 26, 27, 28, 29, 30, 31, 32, 33] (by decide +kernel) (by decide +kernel)
set_option maxRecDepth 20000 in
theorem gX1_left_X1_isTube : GoodIn wsX1_left (wsV RX1 85 RX1 yX1_isTube wsX1_isTube) := goodIn_app (goodIn_of _ (by decide +kernel)) ggX1_left_X1_isTube
set_option maxRecDepth 20000 in
theorem ggX1_has_X1_isPot : GoodIn wsX1_has wsX1_isPot := goodIn_r _ [7, 8, 9, 10, 6, 11, 21, 22, 23, 24, 25, 26, 27, 28, 29, 30, 31, 32, 33, 34, 35, 36, 37, 38, 39, 40, 41, 42] (by decide +kernel) (by decide +kernel)
set_option maxRecDepth 20000 in
theorem gX1_has_X1_isPot : GoodIn wsX1_has (wsV RX1 81 RX1 yX1_isPot wsX1_isPot) := goodIn_app (goodIn_of _ (by decide +kernel)) ggX1_has_X1_isPot
set_option maxRecDepth 20000 in
theorem ggX1_has_X1_isTube : GoodIn wsX1_has wsX1_isTube := goodIn_r _ [15, 16, 9, 10, 6, 11, 21, 22, 23, 24, 25, 26, 27, 28, 29, 30, 31, 32, 33, 34, 35, 36, 37, 38, 39, 40, 41, 42] (by decide +kernel) (by decide +kernel)
set_option maxRecDepth 20000 in
theorem gX1_has_X1_isTube : GoodIn wsX1_has (wsV RX1 85 RX1 yX1_isTube wsX1_isTube) := goodIn_app (goodIn_of _ (by decide +kernel)) ggX1_has_X1_isTube
set_option maxRecDepth 20000 in
theorem ggX1_has_X1_gramsOf : GoodIn wsX1_has wsX1_gramsOf := goodIn_r _ [20, 2, 21, 22, 23, 24, 25, 26, 27, 28, 29, 30, 31, 32, 33, 34, 35, 36, 37, 38, 39, 40, 41, 42] (by decide +kernel) (by decide +kernel)
set_option maxRecDepth 20000 in
theorem gX1_has_X1_gramsOf : GoodIn wsX1_has (wsV RX1 88 RX1 yX1_gramsOf wsX1_gramsOf) := goodIn_app (goodIn_of _ (by decide +kernel)) ggX1_has_X1_gramsOf
set_option maxRecDepth 20000 in
theorem ggX1_colour_X1_isPot : GoodIn wsX1_colour wsX1_isPot := goodIn_r _ [10, 11, 12, 13, 9, 14, 19, 20, 21, 22, 23, 24, 25, 26, 27, 28, 29, 30, 31, 32, 33, 34, 35, 36, 37, 38, 39, 40] (by decide +kernel) (by decide +kernel)
set_option maxRecDepth 20000 in
theorem gX1_colour_X1_isPot : GoodIn wsX1_colour (wsV RX1 81 RX1 yX1_isPot wsX1_isPot) := goodIn_app (goodIn_of _ (by decide +kernel)) ggX1_colour_X1_isPot
set_option maxRecDepth 20000 in
theorem ggX1_colour_X1_in : GoodIn wsX1_colour wsX1_in := goodIn_r _ [14] (by decide +kernel) (by decide +kernel)
set_option maxRecDepth 20000 in
theorem gX1_colour_X1_in : GoodIn wsX1_colour (va_wsS RX1 62 yX1_in wsX1_in) := goodIn_app (goodIn_of _ (by decide +kernel)) ggX1_colour_X1_in
set_option maxRecDepth 20000 in
theorem ggX1_colour_X1_gramsOf : GoodIn wsX1_colour wsX1_gramsOf := goodIn_r _ [18, 3, 19, 20, 21, 22, 23, 24, 25, 26, 27, 28, 29, 30, 31, 32, 33, 34, 35, 36, 37, 38, 39, 40] (by decide +kernel) (by decide +kernel)
set_option maxRecDepth 20000 in
theorem gX1_colour_X1_gramsOf : GoodIn wsX1_colour (wsV RX1 88 RX1 yX1_gramsOf wsX1_gramsOf) := goodIn_app (goodIn_of _ (by decide +kernel)) ggX1_colour_X1_gramsOf
set_option maxRecDepth 20000 in
theorem ggX1_of_X1_isPicture : GoodIn wsX1_of wsX1_isPicture := goodIn_r _ [10, 11, 12, 13, 9, 14, 36, 37, 38, 39, 40, 41, 42, 43, 44, 45, 46, 47, 48, 49, 50, 51, 52, 53, 54, 55, 56, 57] (by decide +kernel) (by decide +kernel)
set_option maxRecDepth 20000 in
theorem gX1_of_X1_isPicture : GoodIn wsX1_of (wsV RX1 96 RX1 yX1_isPicture wsX1_isPicture) := goodIn_app (goodIn_of _ (by decide +kernel)) ggX1_of_X1_isPicture
set_option maxRecDepth 20000 in
theorem ggX1_of_X1_in : GoodIn wsX1_of wsX1_in := goodIn_r _ [14] (by decide +kernel) (by decide +kernel)
set_option maxRecDepth 20000 in
theorem gX1_of_X1_in : GoodIn wsX1_of (va_wsS RX1 62 yX1_in wsX1_in) := goodIn_app (goodIn_of _ (by decide +kernel)) ggX1_of_X1_in
set_option maxRecDepth 20000 in
theorem ggX1_of_X1_value : GoodIn wsX1_of wsX1_value := goodIn_r _ [18, 11, 19, 3, 20, 21, 22, 9, 23, 2, 24, 25, 26, 27, 28, 29, 30, 36, 37, 38, 39, 40, 41, 42, 43, 44, 45, 46, 47, 48, 49, 50, 51, 52, 53, 54, 55, 56, 57] (by decide +kernel) (by decide +kernel)
set_option maxRecDepth 20000 in
theorem gX1_of_X1_value : GoodIn wsX1_of (wsV RX1 109 RX1 yX1_value wsX1_value) := goodIn_app (goodIn_of _ (by decide +kernel)) ggX1_of_X1_value
set_option maxRecDepth 20000 in
theorem ggX1_of_X1_main : GoodIn wsX1_of wsX1_main := goodIn_r _ [23, 2, 24, 25, 26, 27, 28, 29, 9, 30, 36, 37, 38, 39, 40, 41, 42, 43, 44, 45, 46, 47, 48, 49, 50, 51, 52, 53, 54, 55, 56, 57] (by decide +kernel) (by decide +kernel)
set_option maxRecDepth 20000 in
theorem gX1_of_X1_main : GoodIn wsX1_of (wsV RX1 103 RX1 yX1_main wsX1_main) := goodIn_app (goodIn_of _ (by decide +kernel)) ggX1_of_X1_main
set_option maxRecDepth 20000 in
theorem ggX1_of_X1_look : GoodIn wsX1_of wsX1_look := goodIn_r _ [34, 2, 25, 27, 35, 26, 28, 29, 9, 30, 36, 37, 38, 39, 40, 41, 42, 43, 44, 45, 46, 47, 48, 49, 50, 51, 52, 53, 54, 55, 56, 57] (by decide +kernel) (by decide +kernel)
set_option maxRecDepth 20000 in
theorem gX1_of_X1_look : GoodIn wsX1_of (wsV RX1 119 RX1 yX1_look wsX1_look) := goodIn_app (goodIn_of _ (by decide +kernel)) ggX1_of_X1_look
set_option maxRecDepth 20000 in
theorem ggX1_layer_X1_isPicture : GoodIn wsX1_layer wsX1_isPicture := goodIn_r _ [8, 9, 10, 11, 7, 12, 21, 22, 23, 24, 25, 26, 27, 28, 29, 30, 31, 32, 33, 34, 35, 36, 37, 38, 39, 40, 41, 42] (by decide +kernel) (by decide +kernel)
set_option maxRecDepth 20000 in
theorem gX1_layer_X1_isPicture : GoodIn wsX1_layer (wsV RX1 96 RX1 yX1_isPicture wsX1_isPicture) := goodIn_app (goodIn_of _ (by decide +kernel)) ggX1_layer_X1_isPicture
set_option maxRecDepth 20000 in
theorem ggX1_layer_X1_in : GoodIn wsX1_layer wsX1_in := goodIn_r _ [12] (by decide +kernel) (by decide +kernel)
set_option maxRecDepth 20000 in
theorem gX1_layer_X1_in : GoodIn wsX1_layer (va_wsS RX1 62 yX1_in wsX1_in) := goodIn_app (goodIn_of _ (by decide +kernel)) ggX1_layer_X1_in
set_option maxRecDepth 20000 in
theorem ggX1_layer_X1_isTube : GoodIn wsX1_layer wsX1_isTube := goodIn_r _ [16, 17, 10, 11, 7, 12, 21, 22, 23, 24, 25, 26, 27, 28, 29, 30, 31, 32, 33, 34, 35, 36, 37, 38, 39, 40, 41, 42] (by decide +kernel) (by decide +kernel)
set_option maxRecDepth 20000 in
theorem gX1_layer_X1_isTube : GoodIn wsX1_layer (wsV RX1 85 RX1 yX1_isTube wsX1_isTube) := goodIn_app (goodIn_of _ (by decide +kernel)) ggX1_layer_X1_isTube
set_option maxRecDepth 20000 in
theorem ggX1_layer_X1_layerAt : GoodIn wsX1_layer wsX1_layerAt := goodIn_r _ [20] (by decide +kernel) (by decide +kernel)
set_option maxRecDepth 20000 in
theorem gX1_layer_X1_layerAt : GoodIn wsX1_layer (va_wsS RX1 99 yX1_layerAt wsX1_layerAt) := goodIn_app (goodIn_of _ (by decide +kernel)) ggX1_layer_X1_layerAt
set_option maxRecDepth 20000 in
theorem ggX1_where_X1_isTube : GoodIn wsX1_where wsX1_isTube := goodIn_r _ [8, 9, 10, 11, 7, 12, 24, 25, 26, 27, 28, 29, 30, 31, 32, 33, 34, 35, 36, 37, 38, 39, 40, 41, 42, 43, 44, 45] (by decide +kernel) (by decide +kernel)
set_option maxRecDepth 20000 in
theorem gX1_where_X1_isTube : GoodIn wsX1_where (wsV RX1 85 RX1 yX1_isTube wsX1_isTube) := goodIn_app (goodIn_of _ (by decide +kernel)) ggX1_where_X1_isTube
set_option maxRecDepth 20000 in
theorem ggX1_where_X1_in : GoodIn wsX1_where wsX1_in := goodIn_r _ [12] (by decide +kernel) (by decide +kernel)
set_option maxRecDepth 20000 in
theorem gX1_where_X1_in : GoodIn wsX1_where (va_wsS RX1 62 yX1_in wsX1_in) := goodIn_app (goodIn_of _ (by decide +kernel)) ggX1_where_X1_in
set_option maxRecDepth 20000 in
theorem ggX1_where_X1_inPots : GoodIn wsX1_where wsX1_inPots := goodIn_r _ [16, 17, 18, 24, 25, 26, 27, 28, 29, 30, 31, 32, 33, 34, 35, 36, 37, 38, 39, 40, 41, 42, 43, 44, 45] (by decide +kernel) (by decide +kernel)
set_option maxRecDepth 20000 in
theorem gX1_where_X1_inPots : GoodIn wsX1_where (wsV RX1 122 RX1 yX1_inPots wsX1_inPots) := goodIn_app (goodIn_of _ (by decide +kernel)) ggX1_where_X1_inPots
set_option maxRecDepth 20000 in
theorem ggX1_where_X1_onPictures : GoodIn wsX1_where wsX1_onPictures := goodIn_r _ [22, 23, 24, 25, 26, 27, 28, 29, 30, 31, 32, 33, 34, 35, 36, 37, 38, 39, 40, 41, 42, 43, 44, 45] (by decide +kernel) (by decide +kernel)
set_option maxRecDepth 20000 in
theorem gX1_where_X1_onPictures : GoodIn wsX1_where (wsV RX1 125 RX1 yX1_onPictures wsX1_onPictures) := goodIn_app (goodIn_of _ (by decide +kernel)) ggX1_where_X1_onPictures
set_option maxRecDepth 20000 in
theorem ggX1_recipe_X1_areShades : GoodIn wsX1_recipe wsX1_areShades := goodIn_r _ [7, 8, 9, 6, 10] (by decide +kernel) (by decide +kernel)
set_option maxRecDepth 20000 in
theorem gX1_recipe_X1_areShades : GoodIn wsX1_recipe (va_wsS RX1 75 yX1_areShades wsX1_areShades) := goodIn_app (goodIn_of _ (by decide +kernel)) ggX1_recipe_X1_areShades
set_option maxRecDepth 20000 in
theorem ggX1_recipe_X1_far : GoodIn wsX1_recipe wsX1_far := goodIn_r _ [14, 15, 16, 17, 18, 19, 20, 21, 22, 23, 24, 25, 26, 27, 28, 29, 30, 31, 32, 33, 34, 35, 36, 37, 38] (by decide +kernel) (by decide +kernel)
set_option maxRecDepth 20000 in
theorem gX1_recipe_X1_far : GoodIn wsX1_recipe (wsV RX1 128 RX1 yX1_far wsX1_far) := goodIn_app (goodIn_of _ (by decide +kernel)) ggX1_recipe_X1_far
set_option maxRecDepth 20000 in
theorem ggX1_paid_X1_isHouse : GoodIn wsX1_paid wsX1_isHouse := goodIn_r _ [6, 7, 8, 5, 9] (by decide +kernel) (by decide +kernel)
set_option maxRecDepth 20000 in
theorem gX1_paid_X1_isHouse : GoodIn wsX1_paid (va_wsS RX1 106 yX1_isHouse wsX1_isHouse) := goodIn_app (goodIn_of _ (by decide +kernel)) ggX1_paid_X1_isHouse
set_option maxRecDepth 20000 in
theorem ggL_pigment_X0_pigment : GoodIn wsL_pigment wsX0_pigment := goodIn_ca (goodIn_ca (goodIn_r _ [7, 8, 9, 10, 11, 12, 13, 6, 14, 15, 16, 17, 18, 19, 20, 21, 22, 23, 24, 25, 26, 27, 28, 29, 30, 31, 32, 33, 34, 35, 36] (by decide +kernel) (by decide +kernel)) (goodIn_sub (fun _ h => List.mem_cons_of_mem _ (List.mem_append_left _ (List.mem_append_right _ h))) (by decide +kernel))) (goodIn_sub (fun _ h => List.mem_cons_of_mem _ (List.mem_append_right _ h)) (by decide +kernel))
set_option maxRecDepth 20000 in
theorem gL_pigment_X0_pigment : GoodIn wsL_pigment (wsV RL 7 RX0 yX0_pigment wsX0_pigment) := goodIn_app (goodIn_of _ (by decide +kernel)) ggL_pigment_X0_pigment
set_option maxRecDepth 20000 in
theorem ggL_tube_X0_tube : GoodIn wsL_tube wsX0_tube := goodIn_ca (goodIn_ca (goodIn_ca (goodIn_r _ [8, 9, 10, 11, 12, 13, 14, 15, 16, 7, 17, 18, 19, 20, 21, 22, 23, 24, 25, 26, 27, 28, 29, 30, 31, 32, 33, 34, 35, 36, 37, 38, 39, 40, 41] (by decide +kernel) (by decide +kernel)) (goodIn_sub (fun _ h => List.mem_cons_of_mem _ (List.mem_append_left _ (List.mem_append_left _ (List.mem_append_right _ h)))) (by decide +kernel))) (goodIn_sub (fun _ h => List.mem_cons_of_mem _ (List.mem_append_left _ (List.mem_append_right _ h))) (by decide +kernel))) (goodIn_sub (fun _ h => List.mem_cons_of_mem _ (List.mem_append_right _ h)) (by decide +kernel))
set_option maxRecDepth 20000 in
theorem gL_tube_X0_tube : GoodIn wsL_tube (wsV RL 17 RX0 yX0_tube wsX0_tube) := goodIn_app (goodIn_of _ (by decide +kernel)) ggL_tube_X0_tube
set_option maxRecDepth 20000 in
theorem ggL_pot_X0_pot : GoodIn wsL_pot wsX0_pot := goodIn_ca (goodIn_r _ [6, 7, 8, 9, 10, 11, 12, 13, 14, 15, 16, 17, 18, 19, 20, 21, 22, 23, 24, 25, 26] (by decide +kernel) (by decide +kernel)) (goodIn_sub (fun _ h => List.mem_cons_of_mem _ (List.mem_append_right _ h)) (by decide +kernel))
set_option maxRecDepth 20000 in
theorem gL_pot_X0_pot : GoodIn wsL_pot (wsV RL 23 RX0 yX0_pot wsX0_pot) := goodIn_app (goodIn_of _ (by decide +kernel)) ggL_pot_X0_pot
set_option maxRecDepth 20000 in
theorem ggL_squeeze_X0_squeeze : GoodIn wsL_squeeze wsX0_squeeze := goodIn_ca (goodIn_ca (goodIn_ca (goodIn_r _ [8, 9, 10, 11, 12, 13, 14, 15, 16, 7, 17, 18, 19, 20, 21, 22, 23, 24, 25, 26, 27, 28, 29, 30, 31, 32, 33, 34, 35, 36, 37, 38, 39, 40, 41, 42, 43, 44, 45, 46, 47] (by decide +kernel) (by decide +kernel)) (goodIn_sub (fun _ h => List.mem_cons_of_mem _ (List.mem_append_left _ (List.mem_append_left _ (List.mem_append_right _ h)))) (by decide +kernel))) (goodIn_sub (fun _ h => List.mem_cons_of_mem _ (List.mem_append_left _ (List.mem_append_right _ h))) (by decide +kernel))) (goodIn_sub (fun _ h => List.mem_cons_of_mem _ (List.mem_append_right _ h)) (by decide +kernel))
set_option maxRecDepth 20000 in
theorem gL_squeeze_X0_squeeze : GoodIn wsL_squeeze (wsV RL 27 RX0 yX0_squeeze wsX0_squeeze) := goodIn_app (goodIn_of _ (by decide +kernel)) ggL_squeeze_X0_squeeze
set_option maxRecDepth 20000 in
theorem ggL_pour_X0_pour : GoodIn wsL_pour wsX0_pour := goodIn_ca (goodIn_ca (goodIn_ca (goodIn_r _ [8, 9, 10, 11, 12, 13, 14, 15, 7, 16, 17, 18, 19, 20, 21, 22, 23, 24, 25, 26, 27, 28, 29, 30, 31, 32, 33, 34, 35, 36, 37, 38, 39, 40, 41, 42, 43, 44, 45, 46, 47, 48, 49, 50, 51, 52, 53, 54] (by decide +kernel) (by decide +kernel)) (goodIn_sub (fun _ h => List.mem_cons_of_mem _ (List.mem_append_left _ (List.mem_append_left _ (List.mem_append_right _ h)))) (by decide +kernel))) (goodIn_sub (fun _ h => List.mem_cons_of_mem _ (List.mem_append_left _ (List.mem_append_right _ h))) (by decide +kernel))) (goodIn_sub (fun _ h => List.mem_cons_of_mem _ (List.mem_append_right _ h)) (by decide +kernel))
set_option maxRecDepth 20000 in
theorem gL_pour_X0_pour : GoodIn wsL_pour (wsV RL 30 RX0 yX0_pour wsX0_pour) := goodIn_app (goodIn_of _ (by decide +kernel)) ggL_pour_X0_pour
set_option maxRecDepth 20000 in
theorem ggL_scrape_X0_scrape : GoodIn wsL_scrape wsX0_scrape := goodIn_ca (goodIn_r _ [6, 7, 8, 9, 5, 10, 11, 12, 13, 14, 15, 16, 17, 18, 19, 20, 21, 22, 23, 24, 25, 26, 27, 28, 29, 30, 31, 32, 33, 34, 35, 36, 37, 38, 39, 40, 41] (by decide +kernel) (by decide +kernel)) (goodIn_sub (fun _ h => List.mem_cons_of_mem _ (List.mem_append_right _ h)) (by decide +kernel))
set_option maxRecDepth 20000 in
theorem gL_scrape_X0_scrape : GoodIn wsL_scrape (wsV RL 33 RX0 yX0_scrape wsX0_scrape) := goodIn_app (goodIn_of _ (by decide +kernel)) ggL_scrape_X0_scrape
set_option maxRecDepth 20000 in
theorem ggL_picture_X0_picture : GoodIn wsL_picture wsX0_picture := goodIn_ca (goodIn_r _ [6, 7, 8, 9, 10, 11, 12, 13, 14, 15, 16, 17, 18, 19, 20, 21, 22, 23, 24, 25, 26] (by decide +kernel) (by decide +kernel)) (goodIn_sub (fun _ h => List.mem_cons_of_mem _ (List.mem_append_right _ h)) (by decide +kernel))
set_option maxRecDepth 20000 in
theorem gL_picture_X0_picture : GoodIn wsL_picture (wsV RL 37 RX0 yX0_picture wsX0_picture) := goodIn_app (goodIn_of _ (by decide +kernel)) ggL_picture_X0_picture
set_option maxRecDepth 20000 in
theorem ggL_paint_X0_paint : GoodIn wsL_paint wsX0_paint := goodIn_ca (goodIn_ca (goodIn_ca (goodIn_r _ [8, 9, 10, 11, 12, 13, 14, 15, 7, 16, 17, 18, 19, 20, 21, 22, 23, 24, 25, 26, 27, 28, 29, 30, 31, 32, 33, 34, 35, 36, 37, 38, 39, 40, 41, 42, 43, 44, 45, 46, 47, 48, 49, 50, 51, 52, 53, 54, 55, 56, 57, 58, 59, 60, 61, 62, 63, 64, 65, 66, 67, 68] (by decide +kernel) (by decide +kernel)) (goodIn_sub (fun _ h => List.mem_cons_of_mem _ (List.mem_append_left _ (List.mem_append_left _ (List.mem_append_right _ h)))) (by decide +kernel))) (goodIn_sub (fun _ h => List.mem_cons_of_mem _ (List.mem_append_left _ (List.mem_append_right _ h))) (by decide +kernel))) (goodIn_sub (fun _ h => List.mem_cons_of_mem _ (List.mem_append_right _ h)) (by decide +kernel))
set_option maxRecDepth 20000 in
theorem gL_paint_X0_paint : GoodIn wsL_paint (wsV RL 40 RX0 yX0_paint wsX0_paint) := goodIn_app (goodIn_of _ (by decide +kernel)) ggL_paint_X0_paint
set_option maxRecDepth 20000 in
theorem ggL_clean_X0_clean : GoodIn wsL_clean wsX0_clean := goodIn_ca (goodIn_ca (goodIn_ca (goodIn_r _ [8, 9, 10, 11, 12, 13, 14, 7, 15, 16, 17, 18, 19, 20, 21, 22, 23, 24, 25, 26, 27, 28, 29, 30, 31, 32, 33, 34, 35, 36, 37, 38, 39, 40, 41, 42, 43, 44, 45, 46, 47, 48, 49, 50, 51, 52, 53, 54, 55, 56, 57, 58, 59, 60] (by decide +kernel) (by decide +kernel)) (goodIn_sub (fun _ h => List.mem_cons_of_mem _ (List.mem_append_left _ (List.mem_append_left _ (List.mem_append_right _ h)))) (by decide +kernel))) (goodIn_sub (fun _ h => List.mem_cons_of_mem _ (List.mem_append_left _ (List.mem_append_right _ h))) (by decide +kernel))) (goodIn_sub (fun _ h => List.mem_cons_of_mem _ (List.mem_append_right _ h)) (by decide +kernel))
set_option maxRecDepth 20000 in
theorem gL_clean_X0_clean : GoodIn wsL_clean (wsV RL 43 RX0 yX0_clean wsX0_clean) := goodIn_app (goodIn_of _ (by decide +kernel)) ggL_clean_X0_clean
set_option maxRecDepth 20000 in
theorem ggL_damp_X0_damp : GoodIn wsL_damp wsX0_damp := goodIn_ca (goodIn_ca (goodIn_r _ [7, 8, 9, 10, 6, 11, 12, 13, 14, 15, 16, 17, 18, 19, 20, 21, 22, 23, 24, 25, 26, 27, 28, 29, 30, 31, 32, 33, 34, 35] (by decide +kernel) (by decide +kernel)) (goodIn_sub (fun _ h => List.mem_cons_of_mem _ (List.mem_append_left _ (List.mem_append_right _ h))) (by decide +kernel))) (goodIn_sub (fun _ h => List.mem_cons_of_mem _ (List.mem_append_right _ h)) (by decide +kernel))
set_option maxRecDepth 20000 in
theorem gL_damp_X0_damp : GoodIn wsL_damp (wsV RL 46 RX0 yX0_damp wsX0_damp) := goodIn_app (goodIn_of _ (by decide +kernel)) ggL_damp_X0_damp
set_option maxRecDepth 20000 in
theorem ggL_lend_X0_lend : GoodIn wsL_lend wsX0_lend := goodIn_ca (goodIn_ca (goodIn_ca (goodIn_r _ [8, 9, 10, 11, 12, 13, 14, 15, 16, 17, 7, 18, 19, 20, 21, 22, 23, 24, 25, 26, 27, 28, 29, 30, 31, 32, 33, 34, 35, 36, 37, 38, 39, 40, 41, 42, 43, 44, 45, 46, 47, 48, 49, 50, 51, 52, 53, 54, 55, 56, 57, 58, 59, 60, 61, 62, 63, 64, 65, 66, 67, 68, 69, 70, 71, 72, 73, 74, 75, 76, 77, 78, 79, 80, 81, 82, 83, 84, 85, 86] (by decide +kernel) (by decide +kernel)) (goodIn_sub (fun _ h => List.mem_cons_of_mem _ (List.mem_append_left _ (List.mem_append_left _ (List.mem_append_right _ h)))) (by decide +kernel))) (goodIn_sub (fun _ h => List.mem_cons_of_mem _ (List.mem_append_left _ (List.mem_append_right _ h))) (by decide +kernel))) (goodIn_sub (fun _ h => List.mem_cons_of_mem _ (List.mem_append_right _ h)) (by decide +kernel))
set_option maxRecDepth 20000 in
theorem gL_lend_X0_lend : GoodIn wsL_lend (wsV RL 49 RX0 yX0_lend wsX0_lend) := goodIn_app (goodIn_of _ (by decide +kernel)) ggL_lend_X0_lend
set_option maxRecDepth 20000 in
theorem ggL_sell_X0_sell : GoodIn wsL_sell wsX0_sell := goodIn_ca (goodIn_ca (goodIn_ca (goodIn_r _ [8, 9, 10, 11, 12, 13, 14, 15, 16, 7, 17, 18, 19, 20, 21, 22, 23, 24, 25, 26, 27, 28, 29, 30, 31, 32, 33, 34, 35, 36, 37, 38, 39, 40, 41, 42, 43, 44, 45, 46, 47, 48, 49, 50, 51, 52, 53, 54, 55, 56, 57, 58, 59, 60, 61, 62, 63, 64, 65, 66, 67, 68, 69, 70, 71, 72, 73, 74, 75, 76, 77, 78, 79, 80, 81, 82, 83, 84, 85] (by decide +kernel) (by decide +kernel)) (goodIn_sub (fun _ h => List.mem_cons_of_mem _ (List.mem_append_left _ (List.mem_append_left _ (List.mem_append_right _ h)))) (by decide +kernel))) (goodIn_sub (fun _ h => List.mem_cons_of_mem _ (List.mem_append_left _ (List.mem_append_right _ h))) (by decide +kernel))) (goodIn_sub (fun _ h => List.mem_cons_of_mem _ (List.mem_append_right _ h)) (by decide +kernel))
set_option maxRecDepth 20000 in
theorem gL_sell_X0_sell : GoodIn wsL_sell (wsV RL 52 RX0 yX0_sell wsX0_sell) := goodIn_app (goodIn_of _ (by decide +kernel)) ggL_sell_X0_sell
set_option maxRecDepth 20000 in
theorem ggL_pass_X0_pass : GoodIn wsL_pass wsX0_pass := goodIn_ca (goodIn_ca (goodIn_r _ [7, 8, 9, 10, 11, 12, 13, 6, 14, 15, 16, 17, 18, 19, 20, 21, 22, 23, 24, 25, 26, 27, 28, 29, 30, 31, 32, 33, 34, 35, 36, 37, 38, 39, 40, 41, 42, 43, 44, 45, 46, 47, 48, 49, 50] (by decide +kernel) (by decide +kernel)) (goodIn_sub (fun _ h => List.mem_cons_of_mem _ (List.mem_append_left _ (List.mem_append_right _ h))) (by decide +kernel))) (goodIn_sub (fun _ h => List.mem_cons_of_mem _ (List.mem_append_right _ h)) (by decide +kernel))
set_option maxRecDepth 20000 in
theorem gL_pass_X0_pass : GoodIn wsL_pass (wsV RL 55 RX0 yX0_pass wsX0_pass) := goodIn_app (goodIn_of _ (by decide +kernel)) ggL_pass_X0_pass
set_option maxRecDepth 20000 in
theorem ggL_left_X0_left : GoodIn wsL_left wsX0_left := goodIn_ca (goodIn_r _ [6, 7, 8, 9, 10, 5, 11, 12, 13, 14, 15, 16, 17, 18, 19, 20, 21, 22, 23, 24, 25, 26, 27, 28, 29, 30] (by decide +kernel) (by decide +kernel)) (goodIn_sub (fun _ h => List.mem_cons_of_mem _ (List.mem_append_right _ h)) (by decide +kernel))
set_option maxRecDepth 20000 in
theorem gL_left_X0_left : GoodIn wsL_left (wsV RL 58 RX0 yX0_left wsX0_left) := goodIn_app (goodIn_of _ (by decide +kernel)) ggL_left_X0_left
set_option maxRecDepth 20000 in
theorem ggL_has_X0_has : GoodIn wsL_has wsX0_has := goodIn_ca (goodIn_r _ [6, 7, 8, 9, 10, 11, 5, 12, 13, 14, 15, 16, 17, 18, 19, 20, 21, 22, 23, 24, 25, 26, 27, 28, 29, 30, 31, 32, 33, 34, 35, 36, 37, 38, 39, 40, 41] (by decide +kernel) (by decide +kernel)) (goodIn_sub (fun _ h => List.mem_cons_of_mem _ (List.mem_append_right _ h)) (by decide +kernel))
set_option maxRecDepth 20000 in
theorem gL_has_X0_has : GoodIn wsL_has (wsV RL 61 RX0 yX0_has wsX0_has) := goodIn_app (goodIn_of _ (by decide +kernel)) ggL_has_X0_has
set_option maxRecDepth 20000 in
theorem ggL_colour_X0_colour : GoodIn wsL_colour wsX0_colour := goodIn_ca (goodIn_ca (goodIn_r _ [7, 8, 9, 10, 6, 11, 12, 13, 14, 15, 16, 17, 18, 19, 20, 21, 22, 23, 24, 25, 26, 27, 28, 29, 30, 31, 32, 33, 34, 35, 36, 37, 38, 39, 40, 41, 42, 43, 44, 45, 46, 47, 48, 49, 50, 51, 52, 53] (by decide +kernel) (by decide +kernel)) (goodIn_sub (fun _ h => List.mem_cons_of_mem _ (List.mem_append_left _ (List.mem_append_right _ h))) (by decide +kernel))) (goodIn_sub (fun _ h => List.mem_cons_of_mem _ (List.mem_append_right _ h)) (by decide +kernel))
set_option maxRecDepth 20000 in
theorem gL_colour_X0_colour : GoodIn wsL_colour (wsV RL 64 RX0 yX0_colour wsX0_colour) := goodIn_app (goodIn_of _ (by decide +kernel)) ggL_colour_X0_colour
set_option maxRecDepth 20000 in
theorem ggL_of_X0_of : GoodIn wsL_of wsX0_of := goodIn_ca (goodIn_ca (goodIn_r _ [7, 8, 9, 10, 11, 12, 13, 14, 6, 15, 16, 17, 18, 19, 20, 21, 22, 23, 24, 25, 26, 27, 28, 29, 30, 31, 32, 33, 34, 35, 36, 37, 38, 39, 40, 41, 42, 43, 44, 45, 46, 47, 48, 49, 50, 51, 52, 53, 54, 55, 56, 57, 58, 59, 60, 61, 62, 63, 64, 65, 66, 67, 68, 69, 70, 71, 72, 73, 74, 75, 76, 77, 78, 79, 80, 81, 82, 83, 84, 85, 86, 87, 88, 89, 90, 91] (by decide +kernel) (by decide +kernel)) (goodIn_sub (fun _ h => List.mem_cons_of_mem _ (List.mem_append_left _ (List.mem_append_right _ h))) (by decide +kernel))) (goodIn_sub (fun _ h => List.mem_cons_of_mem _ (List.mem_append_right _ h)) (by decide +kernel))
set_option maxRecDepth 20000 in
theorem gL_of_X0_of : GoodIn wsL_of (wsV RL 67 RX0 yX0_of wsX0_of) := goodIn_app (goodIn_of _ (by decide +kernel)) ggL_of_X0_of
set_option maxRecDepth 20000 in
theorem ggL_layer_X0_layer : GoodIn wsL_layer wsX0_layer := goodIn_ca (goodIn_r _ [6, 7, 8, 9, 10, 11, 12, 5, 13, 14, 15, 16, 17, 18, 19, 20, 21, 22, 23, 24, 25, 26, 27, 28, 29, 30, 31, 32, 33, 34, 35, 36, 37, 38] (by decide +kernel) (by decide +kernel)) (goodIn_sub (fun _ h => List.mem_cons_of_mem _ (List.mem_append_right _ h)) (by decide +kernel))
set_option maxRecDepth 20000 in
theorem gL_layer_X0_layer : GoodIn wsL_layer (wsV RL 70 RX0 yX0_layer wsX0_layer) := goodIn_app (goodIn_of _ (by decide +kernel)) ggL_layer_X0_layer
set_option maxRecDepth 20000 in
theorem ggL_where_X0_where : GoodIn wsL_where wsX0_where := goodIn_ca (goodIn_ca (goodIn_r _ [7, 8, 9, 10, 11, 6, 12, 13, 14, 15, 16, 17, 18, 19, 20, 21, 22, 23, 24, 25, 26, 27, 28, 29, 30, 31, 32, 33, 34, 35, 36, 37, 38, 39, 40, 41, 42, 43, 44] (by decide +kernel) (by decide +kernel)) (goodIn_sub (fun _ h => List.mem_cons_of_mem _ (List.mem_append_left _ (List.mem_append_right _ h))) (by decide +kernel))) (goodIn_sub (fun _ h => List.mem_cons_of_mem _ (List.mem_append_right _ h)) (by decide +kernel))
set_option maxRecDepth 20000 in
theorem gL_where_X0_where : GoodIn wsL_where (wsV RL 73 RX0 yX0_where wsX0_where) := goodIn_app (goodIn_of _ (by decide +kernel)) ggL_where_X0_where
set_option maxRecDepth 20000 in
theorem ggL_recipe_X0_recipe : GoodIn wsL_recipe wsX0_recipe := goodIn_ca (goodIn_r _ [6, 7, 8, 9, 10, 5, 11, 12, 13, 14, 15, 16, 17, 18, 19, 20, 21, 22, 23, 24, 25, 26, 27, 28, 29, 30, 31, 32, 33, 34, 35, 36, 37, 38, 39, 40, 41, 42, 43, 44, 45, 46] (by decide +kernel) (by decide +kernel)) (goodIn_sub (fun _ h => List.mem_cons_of_mem _ (List.mem_append_right _ h)) (by decide +kernel))
set_option maxRecDepth 20000 in
theorem gL_recipe_X0_recipe : GoodIn wsL_recipe (wsV RL 76 RX0 yX0_recipe wsX0_recipe) := goodIn_app (goodIn_of _ (by decide +kernel)) ggL_recipe_X0_recipe
set_option maxRecDepth 20000 in
theorem ggL_paid_X0_paid : GoodIn wsL_paid wsX0_paid := goodIn_ca (goodIn_r _ [6, 7, 8, 9, 5, 10, 11, 12, 13, 14, 15, 16, 17, 18, 19, 20, 21, 22, 23, 24, 25, 26, 27, 28, 29] (by decide +kernel) (by decide +kernel)) (goodIn_sub (fun _ h => List.mem_cons_of_mem _ (List.mem_append_right _ h)) (by decide +kernel))
set_option maxRecDepth 20000 in
theorem gL_paid_X0_paid : GoodIn wsL_paid (wsV RL 79 RX0 yX0_paid wsX0_paid) := goodIn_app (goodIn_of _ (by decide +kernel)) ggL_paid_X0_paid
abbrev vwCl : List vw_C := [(RX0, TX0, 17), (RX1, TX1, 22)]

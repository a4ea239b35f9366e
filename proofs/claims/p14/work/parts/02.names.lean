def RX0 : String := "ReaperWages"
def TX0 : u_T := fun k => match k with
  | 0 => ("ReaperWages", "kinds", "[I", true)
  | 1 => ("ReaperWages", "bound", "[I", true)
  | 2 => ("ReaperWages", "worked", "[I", true)
  | 3 => ("ReaperWages", "lateMarks", "[I", true)
  | 4 => ("ReaperWages", "debts", "[I", true)
  | 5 => ("ReaperWages", "carried", "[I", true)
  | 6 => ("ReaperWages", "paidOut", "[I", true)
  | 7 => ("ReaperWages", "rates", "[I", true)
  | 8 => ("ReaperWages", "purse", "[I", true)
  | 9 => ("ReaperWages", "hired", "I", false)
  | 10 => ("ReaperWages", "week", "I", false)
  | 11 => ("ReaperWages", "trialRates", "[I", true)
  | 12 => ("ReaperWages", "trialPurse", "[I", true)
  | _ => ("ReaperWages", "handed", "[I", true)
def tyX0 : Nat → FieldType := fun k => match k with
  | 0 => .array .int
  | 1 => .array .int
  | 2 => .array .int
  | 3 => .array .int
  | 4 => .array .int
  | 5 => .array .int
  | 6 => .array .int
  | 7 => .array .int
  | 8 => .array .int
  | 9 => .int
  | 10 => .int
  | 11 => .array .int
  | 12 => .array .int
  | _ => .array .int
abbrev wsX00 : List Cond := u_ws RX0 TX0 14
theorem nmX0 : ∀ a, a < 14 → ∀ b, b < 14 → a ≠ b → (TX0 a).2.1 ≠ (TX0 b).2.1 := by decide +kernel
theorem tyX0_ok : ∀ k, k < 14 → parseFieldDescriptor (TX0 k).2.2.1 = some (tyX0 k) := by decide +kernel
abbrev cX0_init : ByteArray := prog_1_method_1_code
def yX0_init : MethodName := ⟨RX0, "<init>", "()V"⟩
abbrev cX0_hire : ByteArray := prog_1_method_2_code
def yX0_hire : MethodName := ⟨RX0, "hire", "(I)I"⟩
abbrev cX0_setRate : ByteArray := prog_1_method_3_code
def yX0_setRate : MethodName := ⟨RX0, "setRate", "(II)I"⟩
abbrev cX0_fill : ByteArray := prog_1_method_4_code
def yX0_fill : MethodName := ⟨RX0, "fill", "(II)I"⟩
abbrev cX0_bind : ByteArray := prog_1_method_5_code
def yX0_bind : MethodName := ⟨RX0, "bind", "(II)I"⟩
abbrev cX0_work : ByteArray := prog_1_method_6_code
def yX0_work : MethodName := ⟨RX0, "work", "(IIZ)I"⟩
abbrev cX0_lend : ByteArray := prog_1_method_7_code
def yX0_lend : MethodName := ⟨RX0, "lend", "(II)I"⟩
abbrev cX0_pay : ByteArray := prog_1_method_8_code
def yX0_pay : MethodName := ⟨RX0, "pay", "()I"⟩
abbrev cX0_told : ByteArray := prog_1_method_9_code
def yX0_told : MethodName := ⟨RX0, "told", "(II)I"⟩
abbrev cX0_wage : ByteArray := prog_1_method_10_code
def yX0_wage : MethodName := ⟨RX0, "wage", "(II)I"⟩
abbrev cX0_chest : ByteArray := prog_1_method_11_code
def yX0_chest : MethodName := ⟨RX0, "chest", "(I)I"⟩
abbrev cX0_coins : ByteArray := prog_1_method_12_code
def yX0_coins : MethodName := ⟨RX0, "coins", "(II)I"⟩
abbrev cX0_count : ByteArray := prog_1_method_13_code
def yX0_count : MethodName := ⟨RX0, "count", "(I)I"⟩
abbrev cX0_rate : ByteArray := prog_1_method_14_code
def yX0_rate : MethodName := ⟨RX0, "rate", "(I)I"⟩
abbrev cX0_would : ByteArray := prog_1_method_15_code
def yX0_would : MethodName := ⟨RX0, "would", "(II)I"⟩
abbrev cX0_until : ByteArray := prog_1_method_16_code
def yX0_until : MethodName := ⟨RX0, "until", "(I)I"⟩
abbrev cX0_lacks : ByteArray := prog_1_method_17_code
def yX0_lacks : MethodName := ⟨RX0, "lacks", "()I"⟩
abbrev cX0_advise : ByteArray := prog_1_method_18_code
def yX0_advise : MethodName := ⟨RX0, "advise", "()I"⟩
abbrev cX0_mean : ByteArray := prog_1_method_19_code
def yX0_mean : MethodName := ⟨RX0, "mean", "()D"⟩
abbrev cX0_digest : ByteArray := prog_1_method_20_code
def yX0_digest : MethodName := ⟨RX0, "digest", "()J"⟩
abbrev cX0_wageByPieces : ByteArray := prog_1_method_21_code
def yX0_wageByPieces : MethodName := ⟨RX0, "wageByPieces", "(I[I)I"⟩
abbrev cX0_wageByHours : ByteArray := prog_1_method_22_code
def yX0_wageByHours : MethodName := ⟨RX0, "wageByHours", "(I[I)I"⟩
abbrev cX0_hoursThatCount : ByteArray := prog_1_method_23_code
def yX0_hoursThatCount : MethodName := ⟨RX0, "hoursThatCount", "(I)I"⟩
abbrev cX0_weekWage : ByteArray := prog_1_method_24_code
def yX0_weekWage : MethodName := ⟨RX0, "weekWage", "(I[I)I"⟩
abbrev cX0_coming : ByteArray := prog_1_method_25_code
def yX0_coming : MethodName := ⟨RX0, "coming", "(I)I"⟩
abbrev cX0_takenBack : ByteArray := prog_1_method_26_code
def yX0_takenBack : MethodName := ⟨RX0, "takenBack", "(II)I"⟩
abbrev cX0_restToPay : ByteArray := prog_1_method_27_code
def yX0_restToPay : MethodName := ⟨RX0, "restToPay", "(I)I"⟩
abbrev cX0_settle : ByteArray := prog_1_method_28_code
def yX0_settle : MethodName := ⟨RX0, "settle", "(I)I"⟩
abbrev cX0_handOut : ByteArray := prog_1_method_29_code
def yX0_handOut : MethodName := ⟨RX0, "handOut", "([II)I"⟩
abbrev cX0_wholeParts : ByteArray := prog_1_method_30_code
def yX0_wholeParts : MethodName := ⟨RX0, "wholeParts", "(II)I"⟩
abbrev cX0_allWages : ByteArray := prog_1_method_31_code
def yX0_allWages : MethodName := ⟨RX0, "allWages", "([I)I"⟩
abbrev cX0_sumOfHired : ByteArray := prog_1_method_32_code
def yX0_sumOfHired : MethodName := ⟨RX0, "sumOfHired", "([I)I"⟩
abbrev cX0_worthOfPurse : ByteArray := prog_1_method_33_code
def yX0_worthOfPurse : MethodName := ⟨RX0, "worthOfPurse", "()I"⟩
abbrev cX0_copyRow : ByteArray := prog_1_method_34_code
def yX0_copyRow : MethodName := ⟨RX0, "copyRow", "([I[II)V"⟩
abbrev cX0_requireIndex : ByteArray := prog_1_method_35_code
def yX0_requireIndex : MethodName := ⟨RX0, "requireIndex", "(II)V"⟩
abbrev cX0_requireArgument : ByteArray := prog_1_method_36_code
def yX0_requireArgument : MethodName := ⟨RX0, "requireArgument", "(III)V"⟩
abbrev cX0_requireState : ByteArray := prog_1_method_37_code
def yX0_requireState : MethodName := ⟨RX0, "requireState", "(Z)V"⟩
abbrev cX0_requireRate : ByteArray := prog_1_method_38_code
def yX0_requireRate : MethodName := ⟨RX0, "requireRate", "(II)V"⟩
def RX1 : String := "ReaperWagesModel"
def TX1 : u_T := fun k => match k with
  | 0 => ("ReaperWagesModel", "thrown", "I", false)
  | 1 => ("ReaperWagesModel", "reapers", "I", false)
  | 2 => ("ReaperWagesModel", "week", "I", false)
  | 3 => ("ReaperWagesModel", "rates", "[I", true)
  | 4 => ("ReaperWagesModel", "chest", "[I", false)
  | 5 => ("ReaperWagesModel", "rows", "[I", false)
  | _ => ("ReaperWagesModel", "handed", "[I", true)
def tyX1 : Nat → FieldType := fun k => match k with
  | 0 => .int
  | 1 => .int
  | 2 => .int
  | 3 => .array .int
  | 4 => .array .int
  | 5 => .array .int
  | _ => .array .int
abbrev wsX10 : List Cond := u_ws RX1 TX1 7
theorem nmX1 : ∀ a, a < 7 → ∀ b, b < 7 → a ≠ b → (TX1 a).2.1 ≠ (TX1 b).2.1 := by decide +kernel
theorem tyX1_ok : ∀ k, k < 7 → parseFieldDescriptor (TX1 k).2.2.1 = some (tyX1 k) := by decide +kernel
abbrev cX1_init : ByteArray := prog_3_method_1_code
def yX1_init : MethodName := ⟨RX1, "<init>", "()V"⟩
abbrev cX1_thrown : ByteArray := prog_3_method_2_code
def yX1_thrown : MethodName := ⟨RX1, "thrown", "()I"⟩
abbrev cX1_fail : ByteArray := prog_3_method_3_code
def yX1_fail : MethodName := ⟨RX1, "fail", "(I)I"⟩
abbrev cX1_isIn : ByteArray := prog_3_method_4_code
def yX1_isIn : MethodName := ⟨RX1, "isIn", "(III)Z"⟩
abbrev cX1_isReaper : ByteArray := prog_3_method_5_code
def yX1_isReaper : MethodName := ⟨RX1, "isReaper", "(I)Z"⟩
abbrev cX1_isRate : ByteArray := prog_3_method_6_code
def yX1_isRate : MethodName := ⟨RX1, "isRate", "(I)Z"⟩
abbrev cX1_isCoin : ByteArray := prog_3_method_7_code
def yX1_isCoin : MethodName := ⟨RX1, "isCoin", "(I)Z"⟩
abbrev cX1_re : ByteArray := prog_3_method_8_code
def yX1_re : MethodName := ⟨RX1, "re", "(II)I"⟩
abbrev cX1_let : ByteArray := prog_3_method_9_code
def yX1_let : MethodName := ⟨RX1, "let", "(III)V"⟩
abbrev cX1_pieces : ByteArray := prog_3_method_10_code
def yX1_pieces : MethodName := ⟨RX1, "pieces", "(I)I"⟩
abbrev cX1_counting : ByteArray := prog_3_method_11_code
def yX1_counting : MethodName := ⟨RX1, "counting", "(I)I"⟩
abbrev cX1_byHours : ByteArray := prog_3_method_12_code
def yX1_byHours : MethodName := ⟨RX1, "byHours", "(I)I"⟩
abbrev cX1_wageOf : ByteArray := prog_3_method_13_code
def yX1_wageOf : MethodName := ⟨RX1, "wageOf", "(I)I"⟩
abbrev cX1_all : ByteArray := prog_3_method_14_code
def yX1_all : MethodName := ⟨RX1, "all", "()I"⟩
abbrev cX1_coming : ByteArray := prog_3_method_15_code
def yX1_coming : MethodName := ⟨RX1, "coming", "(I)I"⟩
abbrev cX1_back : ByteArray := prog_3_method_16_code
def yX1_back : MethodName := ⟨RX1, "back", "(I)I"⟩
abbrev cX1_hire : ByteArray := prog_3_method_17_code
def yX1_hire : MethodName := ⟨RX1, "hire", "(I)I"⟩
abbrev cX1_setRate : ByteArray := prog_3_method_18_code
def yX1_setRate : MethodName := ⟨RX1, "setRate", "(II)I"⟩
abbrev cX1_fill : ByteArray := prog_3_method_19_code
def yX1_fill : MethodName := ⟨RX1, "fill", "(II)I"⟩
abbrev cX1_bind : ByteArray := prog_3_method_20_code
def yX1_bind : MethodName := ⟨RX1, "bind", "(II)I"⟩
abbrev cX1_work : ByteArray := prog_3_method_21_code
def yX1_work : MethodName := ⟨RX1, "work", "(IIZ)I"⟩
abbrev cX1_lend : ByteArray := prog_3_method_22_code
def yX1_lend : MethodName := ⟨RX1, "lend", "(II)I"⟩
abbrev cX1_paid : ByteArray := prog_3_method_23_code
def yX1_paid : MethodName := ⟨RX1, "paid", "()I"⟩
abbrev cX1_pay : ByteArray := prog_3_method_24_code
def yX1_pay : MethodName := ⟨RX1, "pay", "()I"⟩
abbrev cX1_reaperTold : ByteArray := prog_3_method_25_code
def yX1_reaperTold : MethodName := ⟨RX1, "reaperTold", "(II)I"⟩
abbrev cX1_told : ByteArray := prog_3_method_26_code
def yX1_told : MethodName := ⟨RX1, "told", "(II)I"⟩
abbrev cX1_wageTold : ByteArray := prog_3_method_27_code
def yX1_wageTold : MethodName := ⟨RX1, "wageTold", "(II)I"⟩
abbrev cX1_wage : ByteArray := prog_3_method_28_code
def yX1_wage : MethodName := ⟨RX1, "wage", "(II)I"⟩
abbrev cX1_chest : ByteArray := prog_3_method_29_code
def yX1_chest : MethodName := ⟨RX1, "chest", "(I)I"⟩
abbrev cX1_copy : ByteArray := prog_3_method_30_code
def yX1_copy : MethodName := ⟨RX1, "copy", "([I)[I"⟩
abbrev cX1_look : ByteArray := prog_3_method_31_code
def yX1_look : MethodName := ⟨RX1, "look", "()V"⟩
abbrev cX1_coins : ByteArray := prog_3_method_32_code
def yX1_coins : MethodName := ⟨RX1, "coins", "(II)I"⟩
abbrev cX1_sum : ByteArray := prog_3_method_33_code
def yX1_sum : MethodName := ⟨RX1, "sum", "(I)I"⟩
abbrev cX1_counted : ByteArray := prog_3_method_34_code
def yX1_counted : MethodName := ⟨RX1, "counted", "(I)I"⟩
abbrev cX1_count : ByteArray := prog_3_method_35_code
def yX1_count : MethodName := ⟨RX1, "count", "(I)I"⟩
abbrev cX1_rate : ByteArray := prog_3_method_36_code
def yX1_rate : MethodName := ⟨RX1, "rate", "(I)I"⟩
abbrev cX1_would : ByteArray := prog_3_method_37_code
def yX1_would : MethodName := ⟨RX1, "would", "(II)I"⟩
abbrev cX1_until : ByteArray := prog_3_method_38_code
def yX1_until : MethodName := ⟨RX1, "until", "(I)I"⟩
abbrev cX1_lacks : ByteArray := prog_3_method_39_code
def yX1_lacks : MethodName := ⟨RX1, "lacks", "()I"⟩
abbrev cX1_advise : ByteArray := prog_3_method_40_code
def yX1_advise : MethodName := ⟨RX1, "advise", "()I"⟩
abbrev cX1_mean : ByteArray := prog_3_method_41_code
def yX1_mean : MethodName := ⟨RX1, "mean", "()D"⟩
abbrev cX1_digest : ByteArray := prog_3_method_42_code
def yX1_digest : MethodName := ⟨RX1, "digest", "()J"⟩
def RJ9 : String := "java/lang/Math"
def TJ9 : u_T := fun k => match k with
  | _ => ("", "", "", false)
def tyJ9 : Nat → FieldType := fun k => match k with
  | _ => .int
abbrev wsJ90 : List Cond := u_ws RJ9 TJ9 0
theorem nmJ9 : ∀ a, a < 0 → ∀ b, b < 0 → a ≠ b → (TJ9 a).2.1 ≠ (TJ9 b).2.1 := by decide +kernel
theorem tyJ9_ok : ∀ k, k < 0 → parseFieldDescriptor (TJ9 k).2.2.1 = some (tyJ9 k) := by decide +kernel
abbrev cJ9_abs_0f7a4 : ByteArray := prog_8_method_59_code
def yJ9_abs_0f7a4 : MethodName := ⟨RJ9, "abs", "(I)I"⟩
abbrev cJ9_abs_067f4 : ByteArray := prog_8_method_61_code
def yJ9_abs_067f4 : MethodName := ⟨RJ9, "abs", "(J)J"⟩
abbrev cJ9_max_7cf53 : ByteArray := prog_8_method_65_code
def yJ9_max_7cf53 : MethodName := ⟨RJ9, "max", "(II)I"⟩
abbrev cJ9_min_7cf53 : ByteArray := prog_8_method_69_code
def yJ9_min_7cf53 : MethodName := ⟨RJ9, "min", "(II)I"⟩
def RJ0 : String := "java/lang/String"
def TJ0 : u_T := fun k => match k with
  | _ => ("", "", "", false)
def tyJ0 : Nat → FieldType := fun k => match k with
  | _ => .int
abbrev wsJ00 : List Cond := u_ws RJ0 TJ0 0
theorem nmJ0 : ∀ a, a < 0 → ∀ b, b < 0 → a ≠ b → (TJ0 a).2.1 ≠ (TJ0 b).2.1 := by decide +kernel
theorem tyJ0_ok : ∀ k, k < 0 → parseFieldDescriptor (TJ0 k).2.2.1 = some (tyJ0 k) := by decide +kernel
def RJ10 : String := "java/lang/System"
def TJ10 : u_T := fun k => match k with
  | _ => ("", "", "", false)
def tyJ10 : Nat → FieldType := fun k => match k with
  | _ => .int
abbrev wsJ100 : List Cond := u_ws RJ10 TJ10 0
theorem nmJ10 : ∀ a, a < 0 → ∀ b, b < 0 → a ≠ b → (TJ10 a).2.1 ≠ (TJ10 b).2.1 := by decide +kernel
theorem tyJ10_ok : ∀ k, k < 0 → parseFieldDescriptor (TJ10 k).2.2.1 = some (tyJ10 k) := by decide +kernel
def RL : String := "ReaperWagesLaw"
abbrev cL_hire : ByteArray := method_3_code
def yL_hire : MethodName := ⟨RL, "hire", "(LReaperWages;I[J)I"⟩
abbrev cL_setRate : ByteArray := method_4_code
def yL_setRate : MethodName := ⟨RL, "setRate", "(LReaperWages;II[J)I"⟩
abbrev cL_fill : ByteArray := method_5_code
def yL_fill : MethodName := ⟨RL, "fill", "(LReaperWages;II[J)I"⟩
abbrev cL_bind : ByteArray := method_6_code
def yL_bind : MethodName := ⟨RL, "bind", "(LReaperWages;II[J)I"⟩
abbrev cL_work : ByteArray := method_7_code
def yL_work : MethodName := ⟨RL, "work", "(LReaperWages;IIZ[J)I"⟩
abbrev cL_lend : ByteArray := method_8_code
def yL_lend : MethodName := ⟨RL, "lend", "(LReaperWages;II[J)I"⟩
abbrev cL_told : ByteArray := method_9_code
def yL_told : MethodName := ⟨RL, "told", "(LReaperWages;II[J)I"⟩
abbrev cL_wage : ByteArray := method_10_code
def yL_wage : MethodName := ⟨RL, "wage", "(LReaperWages;II[J)I"⟩
abbrev cL_chest : ByteArray := method_11_code
def yL_chest : MethodName := ⟨RL, "chest", "(LReaperWages;I[J)I"⟩
abbrev cL_coins : ByteArray := method_12_code
def yL_coins : MethodName := ⟨RL, "coins", "(LReaperWages;II[J)I"⟩
abbrev cL_count : ByteArray := method_13_code
def yL_count : MethodName := ⟨RL, "count", "(LReaperWages;I[J)I"⟩
abbrev cL_rate : ByteArray := method_14_code
def yL_rate : MethodName := ⟨RL, "rate", "(LReaperWages;I[J)I"⟩
abbrev cL_would : ByteArray := method_15_code
def yL_would : MethodName := ⟨RL, "would", "(LReaperWages;II[J)I"⟩
abbrev cL_until : ByteArray := method_16_code
def yL_until : MethodName := ⟨RL, "until", "(LReaperWages;I[J)I"⟩
abbrev cL_law : ByteArray := code
def yL_law : MethodName := ⟨RL, "law", "([I)Z"⟩
def wsL_law0_r1 : List Cond := [Cond.classLink RL 8 RX0, Cond.instantiable RX0 14, Cond.initialized RX0, Cond.classLink RL 61 RX1, Cond.instantiable RX1 7, Cond.initialized RX1, Cond.arrayClass .long, Cond.methodLink RL 60 yX0_init, Cond.instanceMethod yX0_init, Cond.code yX0_init cX0_init 1 none, Cond.methodLink RX0 1 objectInit, Cond.instanceMethod objectInit, Cond.code objectInit ⟨#[0xb1]⟩ 1 none, Cond.arrayClass .int, Cond.fieldLink RX0 9 "ReaperWages" "kinds" "[I", Cond.fieldLink RX0 13 "ReaperWages" "bound" "[I", Cond.fieldLink RX0 16 "ReaperWages" "worked" "[I", Cond.fieldLink RX0 19 "ReaperWages" "lateMarks" "[I", Cond.fieldLink RX0 22 "ReaperWages" "debts" "[I", Cond.fieldLink RX0 25 "ReaperWages" "carried" "[I", Cond.fieldLink RX0 28 "ReaperWages" "paidOut" "[I", Cond.fieldLink RX0 31 "ReaperWages" "rates" "[I", Cond.fieldLink RX0 34 "ReaperWages" "purse" "[I", Cond.fieldLink RX0 37 "ReaperWages" "trialRates" "[I"]
def wsL_law0_r2 : List Cond := [Cond.fieldLink RX0 40 "ReaperWages" "trialPurse" "[I", Cond.fieldLink RX0 43 "ReaperWages" "handed" "[I", Cond.methodLink RL 63 yX1_init, Cond.instanceMethod yX1_init, Cond.code yX1_init cX1_init 1 none, Cond.methodLink RX1 1 objectInit, Cond.fieldLink RX1 7 "ReaperWagesModel" "rates" "[I", Cond.fieldLink RX1 13 "ReaperWagesModel" "chest" "[I", Cond.fieldLink RX1 16 "ReaperWagesModel" "rows" "[I", Cond.fieldLink RX1 19 "ReaperWagesModel" "handed" "[I", Cond.methodLink RL 64 yL_hire, Cond.static yL_hire, Cond.initialized RL, Cond.codeWith yL_hire cL_hire 4 (some .int) [(0, 9, 12, 13), (0, 9, 15, 15)], Cond.classLink RL 13 "java/lang/IllegalArgumentException", Cond.classLink RL 15 "java/lang/IllegalStateException", Cond.methodLink RL 7 yX0_hire, Cond.instanceMethod yX0_hire, Cond.selects RX0 yX0_hire yX0_hire, Cond.code yX0_hire cX0_hire 2 (some .int), Cond.fieldLink RX0 50 "ReaperWages" "hired" "I", Cond.methodLink RX0 46 yX0_requireArgument, Cond.static yX0_requireArgument, Cond.code yX0_requireArgument cX0_requireArgument 3 none]
def wsL_law0_r3 : List Cond := [Cond.classLink RX0 163 "java/lang/IllegalArgumentException", Cond.initialized "java/lang/IllegalArgumentException", Cond.methodLink RX0 54 yX0_requireState, Cond.static yX0_requireState, Cond.code yX0_requireState cX0_requireState 1 none, Cond.classLink RX0 168 "java/lang/IllegalStateException", Cond.initialized "java/lang/IllegalStateException", Cond.methodLink RL 69 yX1_hire, Cond.instanceMethod yX1_hire, Cond.selects RX1 yX1_hire yX1_hire, Cond.code yX1_hire cX1_hire 2 (some .int), Cond.fieldLink RX1 22 "ReaperWagesModel" "thrown" "I", Cond.fieldLink RX1 26 "ReaperWagesModel" "reapers" "I", Cond.methodLink RX1 29 yX1_isIn, Cond.static yX1_isIn, Cond.code yX1_isIn cX1_isIn 3 (some .boolean), Cond.methodLink RX1 61 yX1_fail, Cond.instanceMethod yX1_fail, Cond.selects RX1 yX1_fail yX1_fail, Cond.code yX1_fail cX1_fail 2 (some .int), Cond.methodLink RX1 64 yX1_let, Cond.instanceMethod yX1_let, Cond.selects RX1 yX1_let yX1_let, Cond.code yX1_let cX1_let 4 none]
def wsL_law0_r4 : List Cond := [Cond.methodLink RL 70 yL_setRate, Cond.static yL_setRate, Cond.codeWith yL_setRate cL_setRate 5 (some .int) [(0, 10, 13, 21), (0, 10, 17, 13)], Cond.classLink RL 21 "java/lang/IndexOutOfBoundsException", Cond.methodLink RL 17 yX0_setRate, Cond.instanceMethod yX0_setRate, Cond.selects RX0 yX0_setRate yX0_setRate, Cond.code yX0_setRate cX0_setRate 4 (some .int), Cond.methodLink RX0 58 yX0_requireRate, Cond.static yX0_requireRate, Cond.code yX0_requireRate cX0_requireRate 2 none, Cond.fieldLink RX0 114 "ReaperWages" "LEAST_RATE" "[I", Cond.fieldLink RX0 117 "ReaperWages" "MOST_RATE" "[I", Cond.methodLink RX0 62 yX0_requireIndex, Cond.static yX0_requireIndex, Cond.code yX0_requireIndex cX0_requireIndex 2 none, Cond.classLink RX0 156 "java/lang/IndexOutOfBoundsException", Cond.initialized "java/lang/IndexOutOfBoundsException", Cond.methodLink RL 73 yX1_setRate, Cond.instanceMethod yX1_setRate, Cond.selects RX1 yX1_setRate yX1_setRate, Cond.code yX1_setRate cX1_setRate 4 (some .int), Cond.fieldLink RX1 72 "ReaperWagesModel" "LOW" "[I", Cond.fieldLink RX1 75 "ReaperWagesModel" "HIGH" "[I"]
def wsL_law0_r5 : List Cond := [Cond.methodLink RX1 68 yX1_isRate, Cond.static yX1_isRate, Cond.code yX1_isRate cX1_isRate 1 (some .boolean), Cond.methodLink RL 74 yL_fill, Cond.static yL_fill, Cond.codeWith yL_fill cL_fill 5 (some .int) [(0, 10, 13, 21), (0, 10, 17, 13)], Cond.methodLink RL 23 yX0_fill, Cond.instanceMethod yX0_fill, Cond.selects RX0 yX0_fill yX0_fill, Cond.code yX0_fill cX0_fill 3 (some .int), Cond.methodLink RL 76 yX1_fill, Cond.instanceMethod yX1_fill, Cond.selects RX1 yX1_fill yX1_fill, Cond.code yX1_fill cX1_fill 3 (some .int), Cond.methodLink RX1 78 yX1_isCoin, Cond.static yX1_isCoin, Cond.code yX1_isCoin cX1_isCoin 1 (some .boolean), Cond.methodLink RL 77 yL_bind, Cond.static yL_bind, Cond.codeWith yL_bind cL_bind 5 (some .int) [(0, 10, 13, 21), (0, 10, 17, 13)], Cond.methodLink RL 26 yX0_bind, Cond.instanceMethod yX0_bind, Cond.selects RX0 yX0_bind yX0_bind, Cond.code yX0_bind cX0_bind 3 (some .int)]
def wsL_law0_r6 : List Cond := [Cond.methodLink RL 79 yX1_bind, Cond.instanceMethod yX1_bind, Cond.selects RX1 yX1_bind yX1_bind, Cond.code yX1_bind cX1_bind 3 (some .int), Cond.methodLink RX1 81 yX1_isReaper, Cond.instanceMethod yX1_isReaper, Cond.selects RX1 yX1_isReaper yX1_isReaper, Cond.code yX1_isReaper cX1_isReaper 2 (some .boolean), Cond.methodLink RX1 33 yX1_re, Cond.instanceMethod yX1_re, Cond.selects RX1 yX1_re yX1_re, Cond.code yX1_re cX1_re 3 (some .int), Cond.methodLink RL 80 yL_work, Cond.static yL_work, Cond.codeWith yL_work cL_work 6 (some .int) [(0, 12, 15, 21), (0, 12, 19, 13), (0, 12, 23, 15)], Cond.methodLink RL 29 yX0_work, Cond.instanceMethod yX0_work, Cond.selects RX0 yX0_work yX0_work, Cond.code yX0_work cX0_work 4 (some .int), Cond.methodLink RL 83 yX1_work, Cond.instanceMethod yX1_work, Cond.selects RX1 yX1_work yX1_work, Cond.code yX1_work cX1_work 4 (some .int), Cond.methodLink RL 84 yL_lend]
def wsL_law0_r7 : List Cond := [Cond.static yL_lend, Cond.codeWith yL_lend cL_lend 5 (some .int) [(0, 10, 13, 21), (0, 10, 17, 13), (0, 10, 21, 15)], Cond.methodLink RL 33 yX0_lend, Cond.instanceMethod yX0_lend, Cond.selects RX0 yX0_lend yX0_lend, Cond.code yX0_lend cX0_lend 3 (some .int), Cond.methodLink RL 86 yX1_lend, Cond.instanceMethod yX1_lend, Cond.selects RX1 yX1_lend yX1_lend, Cond.code yX1_lend cX1_lend 3 (some .int), Cond.methodLink RL 87 yX0_pay, Cond.instanceMethod yX0_pay, Cond.selects RX0 yX0_pay yX0_pay, Cond.code yX0_pay cX0_pay 3 (some .int), Cond.fieldLink RX0 69 "ReaperWages" "week" "I", Cond.methodLink RX0 65 yX0_settle, Cond.instanceMethod yX0_settle, Cond.selects RX0 yX0_settle yX0_settle, Cond.code yX0_settle cX0_settle 5 (some .int), Cond.methodLink RX0 85 yX0_coming, Cond.instanceMethod yX0_coming, Cond.selects RX0 yX0_coming yX0_coming, Cond.code yX0_coming cX0_coming 2 (some .int), Cond.methodLink RX0 82 yX0_weekWage]
def wsL_law0_r8 : List Cond := [Cond.instanceMethod yX0_weekWage, Cond.selects RX0 yX0_weekWage yX0_weekWage, Cond.code yX0_weekWage cX0_weekWage 3 (some .int), Cond.methodLink RX0 147 Lib.Math.max.name, Cond.static Lib.Math.max.name, Cond.initialized "java/lang/Math", Cond.code Lib.Math.max.name Lib.Math.max.code 2 (some .int), Cond.methodLink RX0 75 yX0_wageByPieces, Cond.instanceMethod yX0_wageByPieces, Cond.selects RX0 yX0_wageByPieces yX0_wageByPieces, Cond.code yX0_wageByPieces cX0_wageByPieces 8 (some .int), Cond.methodLink RX0 142 Lib.Math.min.name, Cond.static Lib.Math.min.name, Cond.code Lib.Math.min.name Lib.Math.min.code 2 (some .int), Cond.constantLong RX0 145 (1000), Cond.methodLink RX0 79 yX0_wageByHours, Cond.instanceMethod yX0_wageByHours, Cond.selects RX0 yX0_wageByHours yX0_wageByHours, Cond.code yX0_wageByHours cX0_wageByHours 3 (some .int), Cond.methodLink RX0 72 yX0_hoursThatCount, Cond.instanceMethod yX0_hoursThatCount, Cond.selects RX0 yX0_hoursThatCount yX0_hoursThatCount, Cond.code yX0_hoursThatCount cX0_hoursThatCount 5 (some .int), Cond.methodLink RX0 88 yX0_takenBack]
def wsL_law0_r9 : List Cond := [Cond.instanceMethod yX0_takenBack, Cond.selects RX0 yX0_takenBack yX0_takenBack, Cond.code yX0_takenBack cX0_takenBack 3 (some .int), Cond.methodLink RX0 150 yX0_wholeParts, Cond.static yX0_wholeParts, Cond.code yX0_wholeParts cX0_wholeParts 2 (some .int), Cond.methodLink RX0 99 yX0_handOut, Cond.instanceMethod yX0_handOut, Cond.selects RX0 yX0_handOut yX0_handOut, Cond.code yX0_handOut cX0_handOut 6 (some .int), Cond.fieldLink RX0 153 "ReaperWages" "COIN_WORTH" "[I", Cond.methodLink RL 91 yX1_pay, Cond.instanceMethod yX1_pay, Cond.selects RX1 yX1_pay yX1_pay, Cond.code yX1_pay cX1_pay 1 (some .int), Cond.methodLink RX1 99 yX1_paid, Cond.instanceMethod yX1_paid, Cond.selects RX1 yX1_paid yX1_paid, Cond.code yX1_paid cX1_paid 8 (some .int), Cond.fieldLink RX1 87 "ReaperWagesModel" "WORTH" "[I", Cond.methodLink RX1 58 Lib.Math.min.name, Cond.methodLink RX1 90 arraycopyName, Cond.native arraycopyName, Cond.static arraycopyName]
def wsL_law0_r10 : List Cond := [Cond.initialized "java/lang/System", Cond.fieldLink RX1 96 "ReaperWagesModel" "week" "I", Cond.methodLink RX1 84 yX1_back, Cond.instanceMethod yX1_back, Cond.selects RX1 yX1_back yX1_back, Cond.code yX1_back cX1_back 2 (some .int), Cond.methodLink RX1 55 yX1_coming, Cond.instanceMethod yX1_coming, Cond.selects RX1 yX1_coming yX1_coming, Cond.code yX1_coming cX1_coming 2 (some .int), Cond.methodLink RX1 52 yX1_wageOf, Cond.instanceMethod yX1_wageOf, Cond.selects RX1 yX1_wageOf yX1_wageOf, Cond.code yX1_wageOf cX1_wageOf 2 (some .int), Cond.methodLink RX1 37 Lib.Math.max.name, Cond.methodLink RX1 46 yX1_pieces, Cond.instanceMethod yX1_pieces, Cond.selects RX1 yX1_pieces yX1_pieces, Cond.code yX1_pieces cX1_pieces 3 (some .int), Cond.methodLink RX1 49 yX1_byHours, Cond.instanceMethod yX1_byHours, Cond.selects RX1 yX1_byHours yX1_byHours, Cond.code yX1_byHours cX1_byHours 2 (some .int), Cond.methodLink RX1 42 yX1_counting]
def wsL_law0_r11 : List Cond := [Cond.instanceMethod yX1_counting, Cond.selects RX1 yX1_counting yX1_counting, Cond.code yX1_counting cX1_counting 3 (some .int), Cond.methodLink RL 92 yL_told, Cond.static yL_told, Cond.codeWith yL_told cL_told 5 (some .int) [(0, 10, 13, 21)], Cond.methodLink RL 36 yX0_told, Cond.instanceMethod yX0_told, Cond.selects RX0 yX0_told yX0_told, Cond.code yX0_told cX0_told 3 (some .int), Cond.methodLink RL 94 yX1_told, Cond.instanceMethod yX1_told, Cond.selects RX1 yX1_told yX1_told, Cond.code yX1_told cX1_told 3 (some .int), Cond.methodLink RX1 103 yX1_reaperTold, Cond.instanceMethod yX1_reaperTold, Cond.selects RX1 yX1_reaperTold yX1_reaperTold, Cond.code yX1_reaperTold cX1_reaperTold 3 (some .int), Cond.methodLink RL 95 yL_wage, Cond.static yL_wage, Cond.codeWith yL_wage cL_wage 5 (some .int) [(0, 10, 13, 21)], Cond.methodLink RL 39 yX0_wage, Cond.instanceMethod yX0_wage, Cond.selects RX0 yX0_wage yX0_wage]
def wsL_law0_r12 : List Cond := [Cond.code yX0_wage cX0_wage 3 (some .int), Cond.methodLink RX0 92 yX0_restToPay, Cond.instanceMethod yX0_restToPay, Cond.selects RX0 yX0_restToPay yX0_restToPay, Cond.code yX0_restToPay cX0_restToPay 3 (some .int), Cond.methodLink RL 97 yX1_wage, Cond.instanceMethod yX1_wage, Cond.selects RX1 yX1_wage yX1_wage, Cond.code yX1_wage cX1_wage 3 (some .int), Cond.methodLink RX1 106 yX1_wageTold, Cond.instanceMethod yX1_wageTold, Cond.selects RX1 yX1_wageTold yX1_wageTold, Cond.code yX1_wageTold cX1_wageTold 3 (some .int), Cond.methodLink RL 98 yL_chest, Cond.static yL_chest, Cond.codeWith yL_chest cL_chest 4 (some .int) [(0, 9, 12, 21)], Cond.methodLink RL 42 yX0_chest, Cond.instanceMethod yX0_chest, Cond.selects RX0 yX0_chest yX0_chest, Cond.code yX0_chest cX0_chest 2 (some .int), Cond.methodLink RL 100 yX1_chest, Cond.instanceMethod yX1_chest, Cond.selects RX1 yX1_chest yX1_chest, Cond.code yX1_chest cX1_chest 2 (some .int)]
def wsL_law0_r13 : List Cond := [Cond.methodLink RL 101 yL_coins, Cond.static yL_coins, Cond.codeWith yL_coins cL_coins 5 (some .int) [(0, 10, 13, 21)], Cond.methodLink RL 45 yX0_coins, Cond.instanceMethod yX0_coins, Cond.selects RX0 yX0_coins yX0_coins, Cond.code yX0_coins cX0_coins 4 (some .int), Cond.methodLink RX0 95 yX0_copyRow, Cond.static yX0_copyRow, Cond.code yX0_copyRow cX0_copyRow 4 none, Cond.methodLink RL 103 yX1_coins, Cond.instanceMethod yX1_coins, Cond.selects RX1 yX1_coins yX1_coins, Cond.code yX1_coins cX1_coins 3 (some .int), Cond.methodLink RX1 113 yX1_look, Cond.instanceMethod yX1_look, Cond.selects RX1 yX1_look yX1_look, Cond.code yX1_look cX1_look 3 none, Cond.methodLink RX1 109 yX1_copy, Cond.static yX1_copy, Cond.code yX1_copy cX1_copy 2 (some (.array .int)), Cond.methodLink RL 104 yL_count, Cond.static yL_count, Cond.codeWith yL_count cL_count 4 (some .int) [(0, 9, 12, 21)]]
def wsL_law0_r14 : List Cond := [Cond.methodLink RL 48 yX0_count, Cond.instanceMethod yX0_count, Cond.selects RX0 yX0_count yX0_count, Cond.code yX0_count cX0_count 2 (some .int), Cond.methodLink RX0 103 yX0_sumOfHired, Cond.instanceMethod yX0_sumOfHired, Cond.selects RX0 yX0_sumOfHired yX0_sumOfHired, Cond.code yX0_sumOfHired cX0_sumOfHired 4 (some .int), Cond.methodLink RX0 107 yX0_worthOfPurse, Cond.instanceMethod yX0_worthOfPurse, Cond.selects RX0 yX0_worthOfPurse yX0_worthOfPurse, Cond.code yX0_worthOfPurse cX0_worthOfPurse 3 (some .int), Cond.methodLink RX0 111 yX0_allWages, Cond.instanceMethod yX0_allWages, Cond.selects RX0 yX0_allWages yX0_allWages, Cond.code yX0_allWages cX0_allWages 4 (some .int), Cond.methodLink RL 106 yX1_count, Cond.instanceMethod yX1_count, Cond.selects RX1 yX1_count yX1_count, Cond.code yX1_count cX1_count 2 (some .int), Cond.methodLink RX1 122 yX1_counted, Cond.instanceMethod yX1_counted, Cond.selects RX1 yX1_counted yX1_counted, Cond.code yX1_counted cX1_counted 2 (some .int)]
def wsL_law0_r15 : List Cond := [Cond.methodLink RX1 116 yX1_sum, Cond.instanceMethod yX1_sum, Cond.selects RX1 yX1_sum yX1_sum, Cond.code yX1_sum cX1_sum 4 (some .int), Cond.methodLink RX1 119 yX1_all, Cond.instanceMethod yX1_all, Cond.selects RX1 yX1_all yX1_all, Cond.code yX1_all cX1_all 3 (some .int), Cond.methodLink RL 107 yL_rate, Cond.static yL_rate, Cond.codeWith yL_rate cL_rate 4 (some .int) [(0, 9, 12, 21)], Cond.methodLink RL 51 yX0_rate, Cond.instanceMethod yX0_rate, Cond.selects RX0 yX0_rate yX0_rate, Cond.code yX0_rate cX0_rate 2 (some .int), Cond.methodLink RL 109 yX1_rate, Cond.instanceMethod yX1_rate, Cond.selects RX1 yX1_rate yX1_rate, Cond.code yX1_rate cX1_rate 2 (some .int), Cond.methodLink RL 110 yX1_thrown, Cond.instanceMethod yX1_thrown, Cond.selects RX1 yX1_thrown yX1_thrown, Cond.code yX1_thrown cX1_thrown 1 (some .int), Cond.methodLink RL 113 yL_would]
def wsL_law0_r16 : List Cond := [Cond.static yL_would, Cond.codeWith yL_would cL_would 5 (some .int) [(0, 10, 13, 21), (0, 10, 17, 13)], Cond.methodLink RL 54 yX0_would, Cond.instanceMethod yX0_would, Cond.selects RX0 yX0_would yX0_would, Cond.code yX0_would cX0_would 3 (some .int), Cond.methodLink RL 115 yX1_would, Cond.instanceMethod yX1_would, Cond.selects RX1 yX1_would yX1_would, Cond.code yX1_would cX1_would 5 (some .int), Cond.methodLink RL 116 yL_until, Cond.static yL_until, Cond.codeWith yL_until cL_until 4 (some .int) [(0, 9, 12, 21)], Cond.methodLink RL 57 yX0_until, Cond.instanceMethod yX0_until, Cond.selects RX0 yX0_until yX0_until, Cond.code yX0_until cX0_until 5 (some .int), Cond.methodLink RL 118 yX1_until, Cond.instanceMethod yX1_until, Cond.selects RX1 yX1_until yX1_until, Cond.code yX1_until cX1_until 5 (some .int), Cond.methodLink RL 119 yX0_lacks, Cond.instanceMethod yX0_lacks, Cond.selects RX0 yX0_lacks yX0_lacks]
def wsL_law0_r17 : List Cond := [Cond.code yX0_lacks cX0_lacks 4 (some .int), Cond.methodLink RL 122 yX1_lacks, Cond.instanceMethod yX1_lacks, Cond.selects RX1 yX1_lacks yX1_lacks, Cond.code yX1_lacks cX1_lacks 5 (some .int), Cond.methodLink RL 123 yX0_advise, Cond.instanceMethod yX0_advise, Cond.selects RX0 yX0_advise yX0_advise, Cond.code yX0_advise cX0_advise 7 (some .int), Cond.methodLink RX0 120 Lib.MathLoose.abs_long.x, Cond.static Lib.MathLoose.abs_long.x, Cond.code Lib.MathLoose.abs_long.x Lib.MathLoose.abs_long.code 2 (some .long), Cond.methodLink RL 126 yX1_advise, Cond.instanceMethod yX1_advise, Cond.selects RX1 yX1_advise yX1_advise, Cond.code yX1_advise cX1_advise 5 (some .int), Cond.methodLink RX1 125 Lib.Math.abs.name, Cond.static Lib.Math.abs.name, Cond.code Lib.Math.abs.name Lib.Math.abs.code 1 (some .int), Cond.methodLink RL 127 yX0_mean, Cond.instanceMethod yX0_mean, Cond.selects RX0 yX0_mean yX0_mean, Cond.code yX0_mean cX0_mean 1 (some .double), Cond.methodLink RL 131 yX1_mean]
def wsL_law0_r18 : List Cond := [Cond.instanceMethod yX1_mean, Cond.selects RX1 yX1_mean yX1_mean, Cond.code yX1_mean cX1_mean 1 (some .double), Cond.methodLink RL 132 yX0_digest, Cond.instanceMethod yX0_digest, Cond.selects RX0 yX0_digest yX0_digest, Cond.code yX0_digest cX0_digest 5 (some .long), Cond.constantLong RX0 126 (1657), Cond.constantLong RX0 128 (31), Cond.methodLink RX0 130 yX0_count, Cond.methodLink RX0 133 yX0_told, Cond.methodLink RX0 136 yX0_wage, Cond.methodLink RX0 139 yX0_coins, Cond.methodLink RL 136 yX1_digest, Cond.instanceMethod yX1_digest, Cond.selects RX1 yX1_digest yX1_digest, Cond.code yX1_digest cX1_digest 7 (some .long), Cond.constantLong RX1 128 (1657), Cond.constantLong RX1 130 (31)]
def wsL_law0 : List Cond := (wsL_law0_r1 ++ (wsL_law0_r2 ++ (wsL_law0_r3 ++ (wsL_law0_r4 ++ (wsL_law0_r5 ++ (wsL_law0_r6 ++ (wsL_law0_r7 ++ (wsL_law0_r8 ++ (wsL_law0_r9 ++ (wsL_law0_r10 ++ (wsL_law0_r11 ++ (wsL_law0_r12 ++ (wsL_law0_r13 ++ (wsL_law0_r14 ++ (wsL_law0_r15 ++ (wsL_law0_r16 ++ (wsL_law0_r17 ++ wsL_law0_r18))))))))))))))))) ++ wsX00 ++ wsX10 ++ ([] : List Cond)
def wsL_law : List Cond := wsL_law0 ++ (vx_atS RX0 167 "java/lang/IllegalArgumentException" ["java/lang/RuntimeException", "java/lang/Exception"]).filter goodWord ++ (vx_atS RX0 172 "java/lang/IllegalStateException" ["java/lang/RuntimeException", "java/lang/Exception"]).filter goodWord ++ (vx_atS RX0 160 "java/lang/IndexOutOfBoundsException" ["java/lang/RuntimeException", "java/lang/Exception"]).filter goodWord
theorem inlX0 : ∀ w ∈ wsX00, w ∈ wsL_law := fun _ h => List.mem_append_left _ (List.mem_append_left _ (List.mem_append_left _ (List.mem_append_left _ (List.mem_append_left _ (List.mem_append_right _ h)))))
theorem inlX1 : ∀ w ∈ wsX10, w ∈ wsL_law := fun _ h => List.mem_append_left _ (List.mem_append_left _ (List.mem_append_left _ (List.mem_append_left _ (List.mem_append_right _ h))))
abbrev vwCl : List vw_C := [(RX0, TX0, 14), (RX1, TX1, 7)]

theorem qc0 : ∀ w ∈ wsL_law0_r1, w ∈ wsL_law := fun _ h => List.mem_append_left _ (List.mem_append_left _ (List.mem_append_left _ (List.mem_append_left _ (List.mem_append_left _ (List.mem_append_left _ (List.mem_append_left _ h))))))
theorem qc1 : ∀ w ∈ wsL_law0_r2, w ∈ wsL_law := fun _ h => List.mem_append_left _ (List.mem_append_left _ (List.mem_append_left _ (List.mem_append_left _ (List.mem_append_left _ (List.mem_append_left _ (List.mem_append_right _ (List.mem_append_left _ h)))))))
theorem qc2 : ∀ w ∈ wsL_law0_r3, w ∈ wsL_law := fun _ h => List.mem_append_left _ (List.mem_append_left _ (List.mem_append_left _ (List.mem_append_left _ (List.mem_append_left _ (List.mem_append_left _ (List.mem_append_right _ (List.mem_append_right _ (List.mem_append_left _ h))))))))
theorem qc3 : ∀ w ∈ wsL_law0_r4, w ∈ wsL_law := fun _ h => List.mem_append_left _ (List.mem_append_left _ (List.mem_append_left _ (List.mem_append_left _ (List.mem_append_left _ (List.mem_append_left _ (List.mem_append_right _ (List.mem_append_right _ (List.mem_append_right _ (List.mem_append_left _ h)))))))))
theorem qc4 : ∀ w ∈ wsL_law0_r5, w ∈ wsL_law := fun _ h => List.mem_append_left _ (List.mem_append_left _ (List.mem_append_left _ (List.mem_append_left _ (List.mem_append_left _ (List.mem_append_left _ (List.mem_append_right _ (List.mem_append_right _ (List.mem_append_right _ (List.mem_append_right _ (List.mem_append_left _ h))))))))))
theorem qc5 : ∀ w ∈ wsL_law0_r6, w ∈ wsL_law := fun _ h => List.mem_append_left _ (List.mem_append_left _ (List.mem_append_left _ (List.mem_append_left _ (List.mem_append_left _ (List.mem_append_left _ (List.mem_append_right _ (List.mem_append_right _ (List.mem_append_right _ (List.mem_append_right _ (List.mem_append_right _ (List.mem_append_left _ h)))))))))))
theorem qc6 : ∀ w ∈ wsL_law0_r7, w ∈ wsL_law := fun _ h => List.mem_append_left _ (List.mem_append_left _ (List.mem_append_left _ (List.mem_append_left _ (List.mem_append_left _ (List.mem_append_left _ (List.mem_append_right _ (List.mem_append_right _ (List.mem_append_right _ (List.mem_append_right _ (List.mem_append_right _ (List.mem_append_right _ (List.mem_append_left _ h))))))))))))
theorem qc7 : ∀ w ∈ wsL_law0_r8, w ∈ wsL_law := fun _ h => List.mem_append_left _ (List.mem_append_left _ (List.mem_append_left _ (List.mem_append_left _ (List.mem_append_left _ (List.mem_append_left _ (List.mem_append_right _ (List.mem_append_right _ (List.mem_append_right _ (List.mem_append_right _ (List.mem_append_right _ (List.mem_append_right _ (List.mem_append_right _ (List.mem_append_left _ h)))))))))))))
theorem qc8 : ∀ w ∈ wsL_law0_r9, w ∈ wsL_law := fun _ h => List.mem_append_left _ (List.mem_append_left _ (List.mem_append_left _ (List.mem_append_left _ (List.mem_append_left _ (List.mem_append_left _ (List.mem_append_right _ (List.mem_append_right _ (List.mem_append_right _ (List.mem_append_right _ (List.mem_append_right _ (List.mem_append_right _ (List.mem_append_right _ (List.mem_append_right _ (List.mem_append_left _ h))))))))))))))
theorem qc9 : ∀ w ∈ wsL_law0_r10, w ∈ wsL_law := fun _ h => List.mem_append_left _ (List.mem_append_left _ (List.mem_append_left _ (List.mem_append_left _ (List.mem_append_left _ (List.mem_append_left _ (List.mem_append_right _ (List.mem_append_right _ (List.mem_append_right _ (List.mem_append_right _ (List.mem_append_right _ (List.mem_append_right _ (List.mem_append_right _ (List.mem_append_right _ (List.mem_append_right _ (List.mem_append_left _ h)))))))))))))))
theorem qc10 : ∀ w ∈ wsL_law0_r11, w ∈ wsL_law := fun _ h => List.mem_append_left _ (List.mem_append_left _ (List.mem_append_left _ (List.mem_append_left _ (List.mem_append_left _ (List.mem_append_left _ (List.mem_append_right _ (List.mem_append_right _ (List.mem_append_right _ (List.mem_append_right _ (List.mem_append_right _ (List.mem_append_right _ (List.mem_append_right _ (List.mem_append_right _ (List.mem_append_right _ (List.mem_append_right _ (List.mem_append_left _ h))))))))))))))))
theorem qc11 : ∀ w ∈ wsL_law0_r12, w ∈ wsL_law := fun _ h => List.mem_append_left _ (List.mem_append_left _ (List.mem_append_left _ (List.mem_append_left _ (List.mem_append_left _ (List.mem_append_left _ (List.mem_append_right _ (List.mem_append_right _ (List.mem_append_right _ (List.mem_append_right _ (List.mem_append_right _ (List.mem_append_right _ (List.mem_append_right _ (List.mem_append_right _ (List.mem_append_right _ (List.mem_append_right _ (List.mem_append_right _ (List.mem_append_left _ h)))))))))))))))))
theorem qc12 : ∀ w ∈ wsL_law0_r13, w ∈ wsL_law := fun _ h => List.mem_append_left _ (List.mem_append_left _ (List.mem_append_left _ (List.mem_append_left _ (List.mem_append_left _ (List.mem_append_left _ (List.mem_append_right _ (List.mem_append_right _ (List.mem_append_right _ (List.mem_append_right _ (List.mem_append_right _ (List.mem_append_right _ (List.mem_append_right _ (List.mem_append_right _ (List.mem_append_right _ (List.mem_append_right _ (List.mem_append_right _ (List.mem_append_right _ (List.mem_append_left _ h))))))))))))))))))
theorem qc13 : ∀ w ∈ wsL_law0_r14, w ∈ wsL_law := fun _ h => List.mem_append_left _ (List.mem_append_left _ (List.mem_append_left _ (List.mem_append_left _ (List.mem_append_left _ (List.mem_append_left _ (List.mem_append_right _ (List.mem_append_right _ (List.mem_append_right _ (List.mem_append_right _ (List.mem_append_right _ (List.mem_append_right _ (List.mem_append_right _ (List.mem_append_right _ (List.mem_append_right _ (List.mem_append_right _ (List.mem_append_right _ (List.mem_append_right _ (List.mem_append_right _ (List.mem_append_left _ h)))))))))))))))))))
theorem qc14 : ∀ w ∈ wsL_law0_r15, w ∈ wsL_law := fun _ h => List.mem_append_left _ (List.mem_append_left _ (List.mem_append_left _ (List.mem_append_left _ (List.mem_append_left _ (List.mem_append_left _ (List.mem_append_right _ (List.mem_append_right _ (List.mem_append_right _ (List.mem_append_right _ (List.mem_append_right _ (List.mem_append_right _ (List.mem_append_right _ (List.mem_append_right _ (List.mem_append_right _ (List.mem_append_right _ (List.mem_append_right _ (List.mem_append_right _ (List.mem_append_right _ (List.mem_append_right _ (List.mem_append_left _ h))))))))))))))))))))
theorem qc15 : ∀ w ∈ wsL_law0_r16, w ∈ wsL_law := fun _ h => List.mem_append_left _ (List.mem_append_left _ (List.mem_append_left _ (List.mem_append_left _ (List.mem_append_left _ (List.mem_append_left _ (List.mem_append_right _ (List.mem_append_right _ (List.mem_append_right _ (List.mem_append_right _ (List.mem_append_right _ (List.mem_append_right _ (List.mem_append_right _ (List.mem_append_right _ (List.mem_append_right _ (List.mem_append_right _ (List.mem_append_right _ (List.mem_append_right _ (List.mem_append_right _ (List.mem_append_right _ (List.mem_append_right _ (List.mem_append_left _ h)))))))))))))))))))))
theorem qc16 : ∀ w ∈ wsL_law0_r17, w ∈ wsL_law := fun _ h => List.mem_append_left _ (List.mem_append_left _ (List.mem_append_left _ (List.mem_append_left _ (List.mem_append_left _ (List.mem_append_left _ (List.mem_append_right _ (List.mem_append_right _ (List.mem_append_right _ (List.mem_append_right _ (List.mem_append_right _ (List.mem_append_right _ (List.mem_append_right _ (List.mem_append_right _ (List.mem_append_right _ (List.mem_append_right _ (List.mem_append_right _ (List.mem_append_right _ (List.mem_append_right _ (List.mem_append_right _ (List.mem_append_right _ (List.mem_append_right _ (List.mem_append_left _ h))))))))))))))))))))))
theorem qc17 : ∀ w ∈ wsL_law0_r18, w ∈ wsL_law := fun _ h => List.mem_append_left _ (List.mem_append_left _ (List.mem_append_left _ (List.mem_append_left _ (List.mem_append_left _ (List.mem_append_left _ (List.mem_append_right _ (List.mem_append_right _ (List.mem_append_right _ (List.mem_append_right _ (List.mem_append_right _ (List.mem_append_right _ (List.mem_append_right _ (List.mem_append_right _ (List.mem_append_right _ (List.mem_append_right _ (List.mem_append_right _ (List.mem_append_right _ (List.mem_append_right _ (List.mem_append_right _ (List.mem_append_right _ (List.mem_append_right _ (List.mem_append_right _ (h)))))))))))))))))))))))
theorem q0 : Cond.classLink RL 8 RX0 ∈ wsL_law := qc0 _ (List.mem_of_getElem? (i := 0) rfl)
theorem q1 : Cond.instantiable RX0 14 ∈ wsL_law := qc0 _ (List.mem_of_getElem? (i := 1) rfl)
theorem q2 : Cond.initialized RX0 ∈ wsL_law := qc0 _ (List.mem_of_getElem? (i := 2) rfl)
theorem q3 : Cond.classLink RL 61 RX1 ∈ wsL_law := qc0 _ (List.mem_of_getElem? (i := 3) rfl)
theorem q4 : Cond.instantiable RX1 7 ∈ wsL_law := qc0 _ (List.mem_of_getElem? (i := 4) rfl)
theorem q5 : Cond.initialized RX1 ∈ wsL_law := qc0 _ (List.mem_of_getElem? (i := 5) rfl)
theorem q6 : Cond.arrayClass .long ∈ wsL_law := qc0 _ (List.mem_of_getElem? (i := 6) rfl)
theorem q7 : Cond.methodLink RL 60 yX0_init ∈ wsL_law := qc0 _ (List.mem_of_getElem? (i := 7) rfl)
theorem q8 : Cond.instanceMethod yX0_init ∈ wsL_law := qc0 _ (List.mem_of_getElem? (i := 8) rfl)
theorem q9 : Cond.code yX0_init cX0_init 1 none ∈ wsL_law := qc0 _ (List.mem_of_getElem? (i := 9) rfl)
theorem q10 : Cond.methodLink RX0 1 objectInit ∈ wsL_law := qc0 _ (List.mem_of_getElem? (i := 10) rfl)
theorem q11 : Cond.instanceMethod objectInit ∈ wsL_law := qc0 _ (List.mem_of_getElem? (i := 11) rfl)
theorem q12 : Cond.code objectInit ⟨#[0xb1]⟩ 1 none ∈ wsL_law := qc0 _ (List.mem_of_getElem? (i := 12) rfl)
theorem q13 : Cond.arrayClass .int ∈ wsL_law := qc0 _ (List.mem_of_getElem? (i := 13) rfl)
theorem q14 : Cond.fieldLink RX0 9 "ReaperWages" "kinds" "[I" ∈ wsL_law := qc0 _ (List.mem_of_getElem? (i := 14) rfl)
theorem q15 : Cond.fieldLink RX0 13 "ReaperWages" "bound" "[I" ∈ wsL_law := qc0 _ (List.mem_of_getElem? (i := 15) rfl)
theorem q16 : Cond.fieldLink RX0 16 "ReaperWages" "worked" "[I" ∈ wsL_law := qc0 _ (List.mem_of_getElem? (i := 16) rfl)
theorem q17 : Cond.fieldLink RX0 19 "ReaperWages" "lateMarks" "[I" ∈ wsL_law := qc0 _ (List.mem_of_getElem? (i := 17) rfl)
theorem q18 : Cond.fieldLink RX0 22 "ReaperWages" "debts" "[I" ∈ wsL_law := qc0 _ (List.mem_of_getElem? (i := 18) rfl)
theorem q19 : Cond.fieldLink RX0 25 "ReaperWages" "carried" "[I" ∈ wsL_law := qc0 _ (List.mem_of_getElem? (i := 19) rfl)
theorem q20 : Cond.fieldLink RX0 28 "ReaperWages" "paidOut" "[I" ∈ wsL_law := qc0 _ (List.mem_of_getElem? (i := 20) rfl)
theorem q21 : Cond.fieldLink RX0 31 "ReaperWages" "rates" "[I" ∈ wsL_law := qc0 _ (List.mem_of_getElem? (i := 21) rfl)
theorem q22 : Cond.fieldLink RX0 34 "ReaperWages" "purse" "[I" ∈ wsL_law := qc0 _ (List.mem_of_getElem? (i := 22) rfl)
theorem q23 : Cond.fieldLink RX0 37 "ReaperWages" "trialRates" "[I" ∈ wsL_law := qc0 _ (List.mem_of_getElem? (i := 23) rfl)
theorem q24 : Cond.fieldLink RX0 40 "ReaperWages" "trialPurse" "[I" ∈ wsL_law := qc1 _ (List.mem_of_getElem? (i := 0) rfl)
theorem q25 : Cond.fieldLink RX0 43 "ReaperWages" "handed" "[I" ∈ wsL_law := qc1 _ (List.mem_of_getElem? (i := 1) rfl)
theorem q26 : Cond.methodLink RL 63 yX1_init ∈ wsL_law := qc1 _ (List.mem_of_getElem? (i := 2) rfl)
theorem q27 : Cond.instanceMethod yX1_init ∈ wsL_law := qc1 _ (List.mem_of_getElem? (i := 3) rfl)
theorem q28 : Cond.code yX1_init cX1_init 1 none ∈ wsL_law := qc1 _ (List.mem_of_getElem? (i := 4) rfl)
theorem q29 : Cond.methodLink RX1 1 objectInit ∈ wsL_law := qc1 _ (List.mem_of_getElem? (i := 5) rfl)
theorem q30 : Cond.fieldLink RX1 7 "ReaperWagesModel" "rates" "[I" ∈ wsL_law := qc1 _ (List.mem_of_getElem? (i := 6) rfl)
theorem q31 : Cond.fieldLink RX1 13 "ReaperWagesModel" "chest" "[I" ∈ wsL_law := qc1 _ (List.mem_of_getElem? (i := 7) rfl)
theorem q32 : Cond.fieldLink RX1 16 "ReaperWagesModel" "rows" "[I" ∈ wsL_law := qc1 _ (List.mem_of_getElem? (i := 8) rfl)
theorem q33 : Cond.fieldLink RX1 19 "ReaperWagesModel" "handed" "[I" ∈ wsL_law := qc1 _ (List.mem_of_getElem? (i := 9) rfl)
theorem q34 : Cond.methodLink RL 64 yL_hire ∈ wsL_law := qc1 _ (List.mem_of_getElem? (i := 10) rfl)
theorem q35 : Cond.static yL_hire ∈ wsL_law := qc1 _ (List.mem_of_getElem? (i := 11) rfl)
theorem q36 : Cond.initialized RL ∈ wsL_law := qc1 _ (List.mem_of_getElem? (i := 12) rfl)
theorem q37 : Cond.codeWith yL_hire cL_hire 4 (some .int) [(0, 9, 12, 13), (0, 9, 15, 15)] ∈ wsL_law := qc1 _ (List.mem_of_getElem? (i := 13) rfl)
theorem q38 : Cond.classLink RL 13 "java/lang/IllegalArgumentException" ∈ wsL_law := qc1 _ (List.mem_of_getElem? (i := 14) rfl)
theorem q39 : Cond.classLink RL 15 "java/lang/IllegalStateException" ∈ wsL_law := qc1 _ (List.mem_of_getElem? (i := 15) rfl)
theorem q40 : Cond.methodLink RL 7 yX0_hire ∈ wsL_law := qc1 _ (List.mem_of_getElem? (i := 16) rfl)
theorem q41 : Cond.instanceMethod yX0_hire ∈ wsL_law := qc1 _ (List.mem_of_getElem? (i := 17) rfl)
theorem q42 : Cond.selects RX0 yX0_hire yX0_hire ∈ wsL_law := qc1 _ (List.mem_of_getElem? (i := 18) rfl)
theorem q43 : Cond.code yX0_hire cX0_hire 2 (some .int) ∈ wsL_law := qc1 _ (List.mem_of_getElem? (i := 19) rfl)
theorem q44 : Cond.fieldLink RX0 50 "ReaperWages" "hired" "I" ∈ wsL_law := qc1 _ (List.mem_of_getElem? (i := 20) rfl)
theorem q45 : Cond.methodLink RX0 46 yX0_requireArgument ∈ wsL_law := qc1 _ (List.mem_of_getElem? (i := 21) rfl)
theorem q46 : Cond.static yX0_requireArgument ∈ wsL_law := qc1 _ (List.mem_of_getElem? (i := 22) rfl)
theorem q47 : Cond.code yX0_requireArgument cX0_requireArgument 3 none ∈ wsL_law := qc1 _ (List.mem_of_getElem? (i := 23) rfl)
theorem q48 : Cond.classLink RX0 163 "java/lang/IllegalArgumentException" ∈ wsL_law := qc2 _ (List.mem_of_getElem? (i := 0) rfl)
theorem q49 : Cond.initialized "java/lang/IllegalArgumentException" ∈ wsL_law := qc2 _ (List.mem_of_getElem? (i := 1) rfl)
theorem q50 : Cond.methodLink RX0 54 yX0_requireState ∈ wsL_law := qc2 _ (List.mem_of_getElem? (i := 2) rfl)
theorem q51 : Cond.static yX0_requireState ∈ wsL_law := qc2 _ (List.mem_of_getElem? (i := 3) rfl)
theorem q52 : Cond.code yX0_requireState cX0_requireState 1 none ∈ wsL_law := qc2 _ (List.mem_of_getElem? (i := 4) rfl)
theorem q53 : Cond.classLink RX0 168 "java/lang/IllegalStateException" ∈ wsL_law := qc2 _ (List.mem_of_getElem? (i := 5) rfl)
theorem q54 : Cond.initialized "java/lang/IllegalStateException" ∈ wsL_law := qc2 _ (List.mem_of_getElem? (i := 6) rfl)
theorem q55 : Cond.methodLink RL 69 yX1_hire ∈ wsL_law := qc2 _ (List.mem_of_getElem? (i := 7) rfl)
theorem q56 : Cond.instanceMethod yX1_hire ∈ wsL_law := qc2 _ (List.mem_of_getElem? (i := 8) rfl)
theorem q57 : Cond.selects RX1 yX1_hire yX1_hire ∈ wsL_law := qc2 _ (List.mem_of_getElem? (i := 9) rfl)
theorem q58 : Cond.code yX1_hire cX1_hire 2 (some .int) ∈ wsL_law := qc2 _ (List.mem_of_getElem? (i := 10) rfl)
theorem q59 : Cond.fieldLink RX1 22 "ReaperWagesModel" "thrown" "I" ∈ wsL_law := qc2 _ (List.mem_of_getElem? (i := 11) rfl)
theorem q60 : Cond.fieldLink RX1 26 "ReaperWagesModel" "reapers" "I" ∈ wsL_law := qc2 _ (List.mem_of_getElem? (i := 12) rfl)
theorem q61 : Cond.methodLink RX1 29 yX1_isIn ∈ wsL_law := qc2 _ (List.mem_of_getElem? (i := 13) rfl)
theorem q62 : Cond.static yX1_isIn ∈ wsL_law := qc2 _ (List.mem_of_getElem? (i := 14) rfl)
theorem q63 : Cond.code yX1_isIn cX1_isIn 3 (some .boolean) ∈ wsL_law := qc2 _ (List.mem_of_getElem? (i := 15) rfl)
theorem q64 : Cond.methodLink RX1 61 yX1_fail ∈ wsL_law := qc2 _ (List.mem_of_getElem? (i := 16) rfl)
theorem q65 : Cond.instanceMethod yX1_fail ∈ wsL_law := qc2 _ (List.mem_of_getElem? (i := 17) rfl)
theorem q66 : Cond.selects RX1 yX1_fail yX1_fail ∈ wsL_law := qc2 _ (List.mem_of_getElem? (i := 18) rfl)
theorem q67 : Cond.code yX1_fail cX1_fail 2 (some .int) ∈ wsL_law := qc2 _ (List.mem_of_getElem? (i := 19) rfl)
theorem q68 : Cond.methodLink RX1 64 yX1_let ∈ wsL_law := qc2 _ (List.mem_of_getElem? (i := 20) rfl)
theorem q69 : Cond.instanceMethod yX1_let ∈ wsL_law := qc2 _ (List.mem_of_getElem? (i := 21) rfl)
theorem q70 : Cond.selects RX1 yX1_let yX1_let ∈ wsL_law := qc2 _ (List.mem_of_getElem? (i := 22) rfl)
theorem q71 : Cond.code yX1_let cX1_let 4 none ∈ wsL_law := qc2 _ (List.mem_of_getElem? (i := 23) rfl)
theorem q72 : Cond.methodLink RL 70 yL_setRate ∈ wsL_law := qc3 _ (List.mem_of_getElem? (i := 0) rfl)
theorem q73 : Cond.static yL_setRate ∈ wsL_law := qc3 _ (List.mem_of_getElem? (i := 1) rfl)
theorem q74 : Cond.codeWith yL_setRate cL_setRate 5 (some .int) [(0, 10, 13, 21), (0, 10, 17, 13)] ∈ wsL_law := qc3 _ (List.mem_of_getElem? (i := 2) rfl)
theorem q75 : Cond.classLink RL 21 "java/lang/IndexOutOfBoundsException" ∈ wsL_law := qc3 _ (List.mem_of_getElem? (i := 3) rfl)
theorem q76 : Cond.methodLink RL 17 yX0_setRate ∈ wsL_law := qc3 _ (List.mem_of_getElem? (i := 4) rfl)
theorem q77 : Cond.instanceMethod yX0_setRate ∈ wsL_law := qc3 _ (List.mem_of_getElem? (i := 5) rfl)
theorem q78 : Cond.selects RX0 yX0_setRate yX0_setRate ∈ wsL_law := qc3 _ (List.mem_of_getElem? (i := 6) rfl)
theorem q79 : Cond.code yX0_setRate cX0_setRate 4 (some .int) ∈ wsL_law := qc3 _ (List.mem_of_getElem? (i := 7) rfl)
theorem q80 : Cond.methodLink RX0 58 yX0_requireRate ∈ wsL_law := qc3 _ (List.mem_of_getElem? (i := 8) rfl)
theorem q81 : Cond.static yX0_requireRate ∈ wsL_law := qc3 _ (List.mem_of_getElem? (i := 9) rfl)
theorem q82 : Cond.code yX0_requireRate cX0_requireRate 2 none ∈ wsL_law := qc3 _ (List.mem_of_getElem? (i := 10) rfl)
theorem q83 : Cond.fieldLink RX0 114 "ReaperWages" "LEAST_RATE" "[I" ∈ wsL_law := qc3 _ (List.mem_of_getElem? (i := 11) rfl)
theorem q84 : Cond.fieldLink RX0 117 "ReaperWages" "MOST_RATE" "[I" ∈ wsL_law := qc3 _ (List.mem_of_getElem? (i := 12) rfl)
theorem q85 : Cond.methodLink RX0 62 yX0_requireIndex ∈ wsL_law := qc3 _ (List.mem_of_getElem? (i := 13) rfl)
theorem q86 : Cond.static yX0_requireIndex ∈ wsL_law := qc3 _ (List.mem_of_getElem? (i := 14) rfl)
theorem q87 : Cond.code yX0_requireIndex cX0_requireIndex 2 none ∈ wsL_law := qc3 _ (List.mem_of_getElem? (i := 15) rfl)
theorem q88 : Cond.classLink RX0 156 "java/lang/IndexOutOfBoundsException" ∈ wsL_law := qc3 _ (List.mem_of_getElem? (i := 16) rfl)
theorem q89 : Cond.initialized "java/lang/IndexOutOfBoundsException" ∈ wsL_law := qc3 _ (List.mem_of_getElem? (i := 17) rfl)
theorem q90 : Cond.methodLink RL 73 yX1_setRate ∈ wsL_law := qc3 _ (List.mem_of_getElem? (i := 18) rfl)
theorem q91 : Cond.instanceMethod yX1_setRate ∈ wsL_law := qc3 _ (List.mem_of_getElem? (i := 19) rfl)
theorem q92 : Cond.selects RX1 yX1_setRate yX1_setRate ∈ wsL_law := qc3 _ (List.mem_of_getElem? (i := 20) rfl)
theorem q93 : Cond.code yX1_setRate cX1_setRate 4 (some .int) ∈ wsL_law := qc3 _ (List.mem_of_getElem? (i := 21) rfl)
theorem q94 : Cond.fieldLink RX1 72 "ReaperWagesModel" "LOW" "[I" ∈ wsL_law := qc3 _ (List.mem_of_getElem? (i := 22) rfl)
theorem q95 : Cond.fieldLink RX1 75 "ReaperWagesModel" "HIGH" "[I" ∈ wsL_law := qc3 _ (List.mem_of_getElem? (i := 23) rfl)
theorem q96 : Cond.methodLink RX1 68 yX1_isRate ∈ wsL_law := qc4 _ (List.mem_of_getElem? (i := 0) rfl)
theorem q97 : Cond.static yX1_isRate ∈ wsL_law := qc4 _ (List.mem_of_getElem? (i := 1) rfl)
theorem q98 : Cond.code yX1_isRate cX1_isRate 1 (some .boolean) ∈ wsL_law := qc4 _ (List.mem_of_getElem? (i := 2) rfl)
theorem q99 : Cond.methodLink RL 74 yL_fill ∈ wsL_law := qc4 _ (List.mem_of_getElem? (i := 3) rfl)
theorem q100 : Cond.static yL_fill ∈ wsL_law := qc4 _ (List.mem_of_getElem? (i := 4) rfl)
theorem q101 : Cond.codeWith yL_fill cL_fill 5 (some .int) [(0, 10, 13, 21), (0, 10, 17, 13)] ∈ wsL_law := qc4 _ (List.mem_of_getElem? (i := 5) rfl)
theorem q102 : Cond.methodLink RL 23 yX0_fill ∈ wsL_law := qc4 _ (List.mem_of_getElem? (i := 6) rfl)
theorem q103 : Cond.instanceMethod yX0_fill ∈ wsL_law := qc4 _ (List.mem_of_getElem? (i := 7) rfl)
theorem q104 : Cond.selects RX0 yX0_fill yX0_fill ∈ wsL_law := qc4 _ (List.mem_of_getElem? (i := 8) rfl)
theorem q105 : Cond.code yX0_fill cX0_fill 3 (some .int) ∈ wsL_law := qc4 _ (List.mem_of_getElem? (i := 9) rfl)
theorem q106 : Cond.methodLink RL 76 yX1_fill ∈ wsL_law := qc4 _ (List.mem_of_getElem? (i := 10) rfl)
theorem q107 : Cond.instanceMethod yX1_fill ∈ wsL_law := qc4 _ (List.mem_of_getElem? (i := 11) rfl)
theorem q108 : Cond.selects RX1 yX1_fill yX1_fill ∈ wsL_law := qc4 _ (List.mem_of_getElem? (i := 12) rfl)
theorem q109 : Cond.code yX1_fill cX1_fill 3 (some .int) ∈ wsL_law := qc4 _ (List.mem_of_getElem? (i := 13) rfl)
theorem q110 : Cond.methodLink RX1 78 yX1_isCoin ∈ wsL_law := qc4 _ (List.mem_of_getElem? (i := 14) rfl)
theorem q111 : Cond.static yX1_isCoin ∈ wsL_law := qc4 _ (List.mem_of_getElem? (i := 15) rfl)
theorem q112 : Cond.code yX1_isCoin cX1_isCoin 1 (some .boolean) ∈ wsL_law := qc4 _ (List.mem_of_getElem? (i := 16) rfl)
theorem q113 : Cond.methodLink RL 77 yL_bind ∈ wsL_law := qc4 _ (List.mem_of_getElem? (i := 17) rfl)
theorem q114 : Cond.static yL_bind ∈ wsL_law := qc4 _ (List.mem_of_getElem? (i := 18) rfl)
theorem q115 : Cond.codeWith yL_bind cL_bind 5 (some .int) [(0, 10, 13, 21), (0, 10, 17, 13)] ∈ wsL_law := qc4 _ (List.mem_of_getElem? (i := 19) rfl)
theorem q116 : Cond.methodLink RL 26 yX0_bind ∈ wsL_law := qc4 _ (List.mem_of_getElem? (i := 20) rfl)
theorem q117 : Cond.instanceMethod yX0_bind ∈ wsL_law := qc4 _ (List.mem_of_getElem? (i := 21) rfl)
theorem q118 : Cond.selects RX0 yX0_bind yX0_bind ∈ wsL_law := qc4 _ (List.mem_of_getElem? (i := 22) rfl)
theorem q119 : Cond.code yX0_bind cX0_bind 3 (some .int) ∈ wsL_law := qc4 _ (List.mem_of_getElem? (i := 23) rfl)
theorem q120 : Cond.methodLink RL 79 yX1_bind ∈ wsL_law := qc5 _ (List.mem_of_getElem? (i := 0) rfl)
theorem q121 : Cond.instanceMethod yX1_bind ∈ wsL_law := qc5 _ (List.mem_of_getElem? (i := 1) rfl)
theorem q122 : Cond.selects RX1 yX1_bind yX1_bind ∈ wsL_law := qc5 _ (List.mem_of_getElem? (i := 2) rfl)
theorem q123 : Cond.code yX1_bind cX1_bind 3 (some .int) ∈ wsL_law := qc5 _ (List.mem_of_getElem? (i := 3) rfl)
theorem q124 : Cond.methodLink RX1 81 yX1_isReaper ∈ wsL_law := qc5 _ (List.mem_of_getElem? (i := 4) rfl)
theorem q125 : Cond.instanceMethod yX1_isReaper ∈ wsL_law := qc5 _ (List.mem_of_getElem? (i := 5) rfl)
theorem q126 : Cond.selects RX1 yX1_isReaper yX1_isReaper ∈ wsL_law := qc5 _ (List.mem_of_getElem? (i := 6) rfl)
theorem q127 : Cond.code yX1_isReaper cX1_isReaper 2 (some .boolean) ∈ wsL_law := qc5 _ (List.mem_of_getElem? (i := 7) rfl)
theorem q128 : Cond.methodLink RX1 33 yX1_re ∈ wsL_law := qc5 _ (List.mem_of_getElem? (i := 8) rfl)
theorem q129 : Cond.instanceMethod yX1_re ∈ wsL_law := qc5 _ (List.mem_of_getElem? (i := 9) rfl)
theorem q130 : Cond.selects RX1 yX1_re yX1_re ∈ wsL_law := qc5 _ (List.mem_of_getElem? (i := 10) rfl)
theorem q131 : Cond.code yX1_re cX1_re 3 (some .int) ∈ wsL_law := qc5 _ (List.mem_of_getElem? (i := 11) rfl)
theorem q132 : Cond.methodLink RL 80 yL_work ∈ wsL_law := qc5 _ (List.mem_of_getElem? (i := 12) rfl)
theorem q133 : Cond.static yL_work ∈ wsL_law := qc5 _ (List.mem_of_getElem? (i := 13) rfl)
theorem q134 : Cond.codeWith yL_work cL_work 6 (some .int) [(0, 12, 15, 21), (0, 12, 19, 13), (0, 12, 23, 15)] ∈ wsL_law := qc5 _ (List.mem_of_getElem? (i := 14) rfl)
theorem q135 : Cond.methodLink RL 29 yX0_work ∈ wsL_law := qc5 _ (List.mem_of_getElem? (i := 15) rfl)
theorem q136 : Cond.instanceMethod yX0_work ∈ wsL_law := qc5 _ (List.mem_of_getElem? (i := 16) rfl)
theorem q137 : Cond.selects RX0 yX0_work yX0_work ∈ wsL_law := qc5 _ (List.mem_of_getElem? (i := 17) rfl)
theorem q138 : Cond.code yX0_work cX0_work 4 (some .int) ∈ wsL_law := qc5 _ (List.mem_of_getElem? (i := 18) rfl)
theorem q139 : Cond.methodLink RL 83 yX1_work ∈ wsL_law := qc5 _ (List.mem_of_getElem? (i := 19) rfl)
theorem q140 : Cond.instanceMethod yX1_work ∈ wsL_law := qc5 _ (List.mem_of_getElem? (i := 20) rfl)
theorem q141 : Cond.selects RX1 yX1_work yX1_work ∈ wsL_law := qc5 _ (List.mem_of_getElem? (i := 21) rfl)
theorem q142 : Cond.code yX1_work cX1_work 4 (some .int) ∈ wsL_law := qc5 _ (List.mem_of_getElem? (i := 22) rfl)
theorem q143 : Cond.methodLink RL 84 yL_lend ∈ wsL_law := qc5 _ (List.mem_of_getElem? (i := 23) rfl)
theorem q144 : Cond.static yL_lend ∈ wsL_law := qc6 _ (List.mem_of_getElem? (i := 0) rfl)
theorem q145 : Cond.codeWith yL_lend cL_lend 5 (some .int) [(0, 10, 13, 21), (0, 10, 17, 13), (0, 10, 21, 15)] ∈ wsL_law := qc6 _ (List.mem_of_getElem? (i := 1) rfl)
theorem q146 : Cond.methodLink RL 33 yX0_lend ∈ wsL_law := qc6 _ (List.mem_of_getElem? (i := 2) rfl)
theorem q147 : Cond.instanceMethod yX0_lend ∈ wsL_law := qc6 _ (List.mem_of_getElem? (i := 3) rfl)
theorem q148 : Cond.selects RX0 yX0_lend yX0_lend ∈ wsL_law := qc6 _ (List.mem_of_getElem? (i := 4) rfl)
theorem q149 : Cond.code yX0_lend cX0_lend 3 (some .int) ∈ wsL_law := qc6 _ (List.mem_of_getElem? (i := 5) rfl)
theorem q150 : Cond.methodLink RL 86 yX1_lend ∈ wsL_law := qc6 _ (List.mem_of_getElem? (i := 6) rfl)
theorem q151 : Cond.instanceMethod yX1_lend ∈ wsL_law := qc6 _ (List.mem_of_getElem? (i := 7) rfl)
theorem q152 : Cond.selects RX1 yX1_lend yX1_lend ∈ wsL_law := qc6 _ (List.mem_of_getElem? (i := 8) rfl)
theorem q153 : Cond.code yX1_lend cX1_lend 3 (some .int) ∈ wsL_law := qc6 _ (List.mem_of_getElem? (i := 9) rfl)
theorem q154 : Cond.methodLink RL 87 yX0_pay ∈ wsL_law := qc6 _ (List.mem_of_getElem? (i := 10) rfl)
theorem q155 : Cond.instanceMethod yX0_pay ∈ wsL_law := qc6 _ (List.mem_of_getElem? (i := 11) rfl)
theorem q156 : Cond.selects RX0 yX0_pay yX0_pay ∈ wsL_law := qc6 _ (List.mem_of_getElem? (i := 12) rfl)
theorem q157 : Cond.code yX0_pay cX0_pay 3 (some .int) ∈ wsL_law := qc6 _ (List.mem_of_getElem? (i := 13) rfl)
theorem q158 : Cond.fieldLink RX0 69 "ReaperWages" "week" "I" ∈ wsL_law := qc6 _ (List.mem_of_getElem? (i := 14) rfl)
theorem q159 : Cond.methodLink RX0 65 yX0_settle ∈ wsL_law := qc6 _ (List.mem_of_getElem? (i := 15) rfl)
theorem q160 : Cond.instanceMethod yX0_settle ∈ wsL_law := qc6 _ (List.mem_of_getElem? (i := 16) rfl)
theorem q161 : Cond.selects RX0 yX0_settle yX0_settle ∈ wsL_law := qc6 _ (List.mem_of_getElem? (i := 17) rfl)
theorem q162 : Cond.code yX0_settle cX0_settle 5 (some .int) ∈ wsL_law := qc6 _ (List.mem_of_getElem? (i := 18) rfl)
theorem q163 : Cond.methodLink RX0 85 yX0_coming ∈ wsL_law := qc6 _ (List.mem_of_getElem? (i := 19) rfl)
theorem q164 : Cond.instanceMethod yX0_coming ∈ wsL_law := qc6 _ (List.mem_of_getElem? (i := 20) rfl)
theorem q165 : Cond.selects RX0 yX0_coming yX0_coming ∈ wsL_law := qc6 _ (List.mem_of_getElem? (i := 21) rfl)
theorem q166 : Cond.code yX0_coming cX0_coming 2 (some .int) ∈ wsL_law := qc6 _ (List.mem_of_getElem? (i := 22) rfl)
theorem q167 : Cond.methodLink RX0 82 yX0_weekWage ∈ wsL_law := qc6 _ (List.mem_of_getElem? (i := 23) rfl)
theorem q168 : Cond.instanceMethod yX0_weekWage ∈ wsL_law := qc7 _ (List.mem_of_getElem? (i := 0) rfl)
theorem q169 : Cond.selects RX0 yX0_weekWage yX0_weekWage ∈ wsL_law := qc7 _ (List.mem_of_getElem? (i := 1) rfl)
theorem q170 : Cond.code yX0_weekWage cX0_weekWage 3 (some .int) ∈ wsL_law := qc7 _ (List.mem_of_getElem? (i := 2) rfl)
theorem q171 : Cond.methodLink RX0 147 Lib.Math.max.name ∈ wsL_law := qc7 _ (List.mem_of_getElem? (i := 3) rfl)
theorem q172 : Cond.static Lib.Math.max.name ∈ wsL_law := qc7 _ (List.mem_of_getElem? (i := 4) rfl)
theorem q173 : Cond.initialized "java/lang/Math" ∈ wsL_law := qc7 _ (List.mem_of_getElem? (i := 5) rfl)
theorem q174 : Cond.code Lib.Math.max.name Lib.Math.max.code 2 (some .int) ∈ wsL_law := qc7 _ (List.mem_of_getElem? (i := 6) rfl)
theorem q175 : Cond.methodLink RX0 75 yX0_wageByPieces ∈ wsL_law := qc7 _ (List.mem_of_getElem? (i := 7) rfl)
theorem q176 : Cond.instanceMethod yX0_wageByPieces ∈ wsL_law := qc7 _ (List.mem_of_getElem? (i := 8) rfl)
theorem q177 : Cond.selects RX0 yX0_wageByPieces yX0_wageByPieces ∈ wsL_law := qc7 _ (List.mem_of_getElem? (i := 9) rfl)
theorem q178 : Cond.code yX0_wageByPieces cX0_wageByPieces 8 (some .int) ∈ wsL_law := qc7 _ (List.mem_of_getElem? (i := 10) rfl)
theorem q179 : Cond.methodLink RX0 142 Lib.Math.min.name ∈ wsL_law := qc7 _ (List.mem_of_getElem? (i := 11) rfl)
theorem q180 : Cond.static Lib.Math.min.name ∈ wsL_law := qc7 _ (List.mem_of_getElem? (i := 12) rfl)
theorem q181 : Cond.code Lib.Math.min.name Lib.Math.min.code 2 (some .int) ∈ wsL_law := qc7 _ (List.mem_of_getElem? (i := 13) rfl)
theorem q182 : Cond.constantLong RX0 145 (1000) ∈ wsL_law := qc7 _ (List.mem_of_getElem? (i := 14) rfl)
theorem q183 : Cond.methodLink RX0 79 yX0_wageByHours ∈ wsL_law := qc7 _ (List.mem_of_getElem? (i := 15) rfl)
theorem q184 : Cond.instanceMethod yX0_wageByHours ∈ wsL_law := qc7 _ (List.mem_of_getElem? (i := 16) rfl)
theorem q185 : Cond.selects RX0 yX0_wageByHours yX0_wageByHours ∈ wsL_law := qc7 _ (List.mem_of_getElem? (i := 17) rfl)
theorem q186 : Cond.code yX0_wageByHours cX0_wageByHours 3 (some .int) ∈ wsL_law := qc7 _ (List.mem_of_getElem? (i := 18) rfl)
theorem q187 : Cond.methodLink RX0 72 yX0_hoursThatCount ∈ wsL_law := qc7 _ (List.mem_of_getElem? (i := 19) rfl)
theorem q188 : Cond.instanceMethod yX0_hoursThatCount ∈ wsL_law := qc7 _ (List.mem_of_getElem? (i := 20) rfl)
theorem q189 : Cond.selects RX0 yX0_hoursThatCount yX0_hoursThatCount ∈ wsL_law := qc7 _ (List.mem_of_getElem? (i := 21) rfl)
theorem q190 : Cond.code yX0_hoursThatCount cX0_hoursThatCount 5 (some .int) ∈ wsL_law := qc7 _ (List.mem_of_getElem? (i := 22) rfl)
theorem q191 : Cond.methodLink RX0 88 yX0_takenBack ∈ wsL_law := qc7 _ (List.mem_of_getElem? (i := 23) rfl)
theorem q192 : Cond.instanceMethod yX0_takenBack ∈ wsL_law := qc8 _ (List.mem_of_getElem? (i := 0) rfl)
theorem q193 : Cond.selects RX0 yX0_takenBack yX0_takenBack ∈ wsL_law := qc8 _ (List.mem_of_getElem? (i := 1) rfl)
theorem q194 : Cond.code yX0_takenBack cX0_takenBack 3 (some .int) ∈ wsL_law := qc8 _ (List.mem_of_getElem? (i := 2) rfl)
theorem q195 : Cond.methodLink RX0 150 yX0_wholeParts ∈ wsL_law := qc8 _ (List.mem_of_getElem? (i := 3) rfl)
theorem q196 : Cond.static yX0_wholeParts ∈ wsL_law := qc8 _ (List.mem_of_getElem? (i := 4) rfl)
theorem q197 : Cond.code yX0_wholeParts cX0_wholeParts 2 (some .int) ∈ wsL_law := qc8 _ (List.mem_of_getElem? (i := 5) rfl)
theorem q198 : Cond.methodLink RX0 99 yX0_handOut ∈ wsL_law := qc8 _ (List.mem_of_getElem? (i := 6) rfl)
theorem q199 : Cond.instanceMethod yX0_handOut ∈ wsL_law := qc8 _ (List.mem_of_getElem? (i := 7) rfl)
theorem q200 : Cond.selects RX0 yX0_handOut yX0_handOut ∈ wsL_law := qc8 _ (List.mem_of_getElem? (i := 8) rfl)
theorem q201 : Cond.code yX0_handOut cX0_handOut 6 (some .int) ∈ wsL_law := qc8 _ (List.mem_of_getElem? (i := 9) rfl)
theorem q202 : Cond.fieldLink RX0 153 "ReaperWages" "COIN_WORTH" "[I" ∈ wsL_law := qc8 _ (List.mem_of_getElem? (i := 10) rfl)
theorem q203 : Cond.methodLink RL 91 yX1_pay ∈ wsL_law := qc8 _ (List.mem_of_getElem? (i := 11) rfl)
theorem q204 : Cond.instanceMethod yX1_pay ∈ wsL_law := qc8 _ (List.mem_of_getElem? (i := 12) rfl)
theorem q205 : Cond.selects RX1 yX1_pay yX1_pay ∈ wsL_law := qc8 _ (List.mem_of_getElem? (i := 13) rfl)
theorem q206 : Cond.code yX1_pay cX1_pay 1 (some .int) ∈ wsL_law := qc8 _ (List.mem_of_getElem? (i := 14) rfl)
theorem q207 : Cond.methodLink RX1 99 yX1_paid ∈ wsL_law := qc8 _ (List.mem_of_getElem? (i := 15) rfl)
theorem q208 : Cond.instanceMethod yX1_paid ∈ wsL_law := qc8 _ (List.mem_of_getElem? (i := 16) rfl)
theorem q209 : Cond.selects RX1 yX1_paid yX1_paid ∈ wsL_law := qc8 _ (List.mem_of_getElem? (i := 17) rfl)
theorem q210 : Cond.code yX1_paid cX1_paid 8 (some .int) ∈ wsL_law := qc8 _ (List.mem_of_getElem? (i := 18) rfl)
theorem q211 : Cond.fieldLink RX1 87 "ReaperWagesModel" "WORTH" "[I" ∈ wsL_law := qc8 _ (List.mem_of_getElem? (i := 19) rfl)
theorem q212 : Cond.methodLink RX1 58 Lib.Math.min.name ∈ wsL_law := qc8 _ (List.mem_of_getElem? (i := 20) rfl)
theorem q213 : Cond.methodLink RX1 90 arraycopyName ∈ wsL_law := qc8 _ (List.mem_of_getElem? (i := 21) rfl)
theorem q214 : Cond.native arraycopyName ∈ wsL_law := qc8 _ (List.mem_of_getElem? (i := 22) rfl)
theorem q215 : Cond.static arraycopyName ∈ wsL_law := qc8 _ (List.mem_of_getElem? (i := 23) rfl)
theorem q216 : Cond.initialized "java/lang/System" ∈ wsL_law := qc9 _ (List.mem_of_getElem? (i := 0) rfl)
theorem q217 : Cond.fieldLink RX1 96 "ReaperWagesModel" "week" "I" ∈ wsL_law := qc9 _ (List.mem_of_getElem? (i := 1) rfl)
theorem q218 : Cond.methodLink RX1 84 yX1_back ∈ wsL_law := qc9 _ (List.mem_of_getElem? (i := 2) rfl)
theorem q219 : Cond.instanceMethod yX1_back ∈ wsL_law := qc9 _ (List.mem_of_getElem? (i := 3) rfl)
theorem q220 : Cond.selects RX1 yX1_back yX1_back ∈ wsL_law := qc9 _ (List.mem_of_getElem? (i := 4) rfl)
theorem q221 : Cond.code yX1_back cX1_back 2 (some .int) ∈ wsL_law := qc9 _ (List.mem_of_getElem? (i := 5) rfl)
theorem q222 : Cond.methodLink RX1 55 yX1_coming ∈ wsL_law := qc9 _ (List.mem_of_getElem? (i := 6) rfl)
theorem q223 : Cond.instanceMethod yX1_coming ∈ wsL_law := qc9 _ (List.mem_of_getElem? (i := 7) rfl)
theorem q224 : Cond.selects RX1 yX1_coming yX1_coming ∈ wsL_law := qc9 _ (List.mem_of_getElem? (i := 8) rfl)
theorem q225 : Cond.code yX1_coming cX1_coming 2 (some .int) ∈ wsL_law := qc9 _ (List.mem_of_getElem? (i := 9) rfl)
theorem q226 : Cond.methodLink RX1 52 yX1_wageOf ∈ wsL_law := qc9 _ (List.mem_of_getElem? (i := 10) rfl)
theorem q227 : Cond.instanceMethod yX1_wageOf ∈ wsL_law := qc9 _ (List.mem_of_getElem? (i := 11) rfl)
theorem q228 : Cond.selects RX1 yX1_wageOf yX1_wageOf ∈ wsL_law := qc9 _ (List.mem_of_getElem? (i := 12) rfl)
theorem q229 : Cond.code yX1_wageOf cX1_wageOf 2 (some .int) ∈ wsL_law := qc9 _ (List.mem_of_getElem? (i := 13) rfl)
theorem q230 : Cond.methodLink RX1 37 Lib.Math.max.name ∈ wsL_law := qc9 _ (List.mem_of_getElem? (i := 14) rfl)
theorem q231 : Cond.methodLink RX1 46 yX1_pieces ∈ wsL_law := qc9 _ (List.mem_of_getElem? (i := 15) rfl)
theorem q232 : Cond.instanceMethod yX1_pieces ∈ wsL_law := qc9 _ (List.mem_of_getElem? (i := 16) rfl)
theorem q233 : Cond.selects RX1 yX1_pieces yX1_pieces ∈ wsL_law := qc9 _ (List.mem_of_getElem? (i := 17) rfl)
theorem q234 : Cond.code yX1_pieces cX1_pieces 3 (some .int) ∈ wsL_law := qc9 _ (List.mem_of_getElem? (i := 18) rfl)
theorem q235 : Cond.methodLink RX1 49 yX1_byHours ∈ wsL_law := qc9 _ (List.mem_of_getElem? (i := 19) rfl)
theorem q236 : Cond.instanceMethod yX1_byHours ∈ wsL_law := qc9 _ (List.mem_of_getElem? (i := 20) rfl)
theorem q237 : Cond.selects RX1 yX1_byHours yX1_byHours ∈ wsL_law := qc9 _ (List.mem_of_getElem? (i := 21) rfl)
theorem q238 : Cond.code yX1_byHours cX1_byHours 2 (some .int) ∈ wsL_law := qc9 _ (List.mem_of_getElem? (i := 22) rfl)
theorem q239 : Cond.methodLink RX1 42 yX1_counting ∈ wsL_law := qc9 _ (List.mem_of_getElem? (i := 23) rfl)
theorem q240 : Cond.instanceMethod yX1_counting ∈ wsL_law := qc10 _ (List.mem_of_getElem? (i := 0) rfl)
theorem q241 : Cond.selects RX1 yX1_counting yX1_counting ∈ wsL_law := qc10 _ (List.mem_of_getElem? (i := 1) rfl)
theorem q242 : Cond.code yX1_counting cX1_counting 3 (some .int) ∈ wsL_law := qc10 _ (List.mem_of_getElem? (i := 2) rfl)
theorem q243 : Cond.methodLink RL 92 yL_told ∈ wsL_law := qc10 _ (List.mem_of_getElem? (i := 3) rfl)
theorem q244 : Cond.static yL_told ∈ wsL_law := qc10 _ (List.mem_of_getElem? (i := 4) rfl)
theorem q245 : Cond.codeWith yL_told cL_told 5 (some .int) [(0, 10, 13, 21)] ∈ wsL_law := qc10 _ (List.mem_of_getElem? (i := 5) rfl)
theorem q246 : Cond.methodLink RL 36 yX0_told ∈ wsL_law := qc10 _ (List.mem_of_getElem? (i := 6) rfl)
theorem q247 : Cond.instanceMethod yX0_told ∈ wsL_law := qc10 _ (List.mem_of_getElem? (i := 7) rfl)
theorem q248 : Cond.selects RX0 yX0_told yX0_told ∈ wsL_law := qc10 _ (List.mem_of_getElem? (i := 8) rfl)
theorem q249 : Cond.code yX0_told cX0_told 3 (some .int) ∈ wsL_law := qc10 _ (List.mem_of_getElem? (i := 9) rfl)
theorem q250 : Cond.methodLink RL 94 yX1_told ∈ wsL_law := qc10 _ (List.mem_of_getElem? (i := 10) rfl)
theorem q251 : Cond.instanceMethod yX1_told ∈ wsL_law := qc10 _ (List.mem_of_getElem? (i := 11) rfl)
theorem q252 : Cond.selects RX1 yX1_told yX1_told ∈ wsL_law := qc10 _ (List.mem_of_getElem? (i := 12) rfl)
theorem q253 : Cond.code yX1_told cX1_told 3 (some .int) ∈ wsL_law := qc10 _ (List.mem_of_getElem? (i := 13) rfl)
theorem q254 : Cond.methodLink RX1 103 yX1_reaperTold ∈ wsL_law := qc10 _ (List.mem_of_getElem? (i := 14) rfl)
theorem q255 : Cond.instanceMethod yX1_reaperTold ∈ wsL_law := qc10 _ (List.mem_of_getElem? (i := 15) rfl)
theorem q256 : Cond.selects RX1 yX1_reaperTold yX1_reaperTold ∈ wsL_law := qc10 _ (List.mem_of_getElem? (i := 16) rfl)
theorem q257 : Cond.code yX1_reaperTold cX1_reaperTold 3 (some .int) ∈ wsL_law := qc10 _ (List.mem_of_getElem? (i := 17) rfl)
theorem q258 : Cond.methodLink RL 95 yL_wage ∈ wsL_law := qc10 _ (List.mem_of_getElem? (i := 18) rfl)
theorem q259 : Cond.static yL_wage ∈ wsL_law := qc10 _ (List.mem_of_getElem? (i := 19) rfl)
theorem q260 : Cond.codeWith yL_wage cL_wage 5 (some .int) [(0, 10, 13, 21)] ∈ wsL_law := qc10 _ (List.mem_of_getElem? (i := 20) rfl)
theorem q261 : Cond.methodLink RL 39 yX0_wage ∈ wsL_law := qc10 _ (List.mem_of_getElem? (i := 21) rfl)
theorem q262 : Cond.instanceMethod yX0_wage ∈ wsL_law := qc10 _ (List.mem_of_getElem? (i := 22) rfl)
theorem q263 : Cond.selects RX0 yX0_wage yX0_wage ∈ wsL_law := qc10 _ (List.mem_of_getElem? (i := 23) rfl)
theorem q264 : Cond.code yX0_wage cX0_wage 3 (some .int) ∈ wsL_law := qc11 _ (List.mem_of_getElem? (i := 0) rfl)
theorem q265 : Cond.methodLink RX0 92 yX0_restToPay ∈ wsL_law := qc11 _ (List.mem_of_getElem? (i := 1) rfl)
theorem q266 : Cond.instanceMethod yX0_restToPay ∈ wsL_law := qc11 _ (List.mem_of_getElem? (i := 2) rfl)
theorem q267 : Cond.selects RX0 yX0_restToPay yX0_restToPay ∈ wsL_law := qc11 _ (List.mem_of_getElem? (i := 3) rfl)
theorem q268 : Cond.code yX0_restToPay cX0_restToPay 3 (some .int) ∈ wsL_law := qc11 _ (List.mem_of_getElem? (i := 4) rfl)
theorem q269 : Cond.methodLink RL 97 yX1_wage ∈ wsL_law := qc11 _ (List.mem_of_getElem? (i := 5) rfl)
theorem q270 : Cond.instanceMethod yX1_wage ∈ wsL_law := qc11 _ (List.mem_of_getElem? (i := 6) rfl)
theorem q271 : Cond.selects RX1 yX1_wage yX1_wage ∈ wsL_law := qc11 _ (List.mem_of_getElem? (i := 7) rfl)
theorem q272 : Cond.code yX1_wage cX1_wage 3 (some .int) ∈ wsL_law := qc11 _ (List.mem_of_getElem? (i := 8) rfl)
theorem q273 : Cond.methodLink RX1 106 yX1_wageTold ∈ wsL_law := qc11 _ (List.mem_of_getElem? (i := 9) rfl)
theorem q274 : Cond.instanceMethod yX1_wageTold ∈ wsL_law := qc11 _ (List.mem_of_getElem? (i := 10) rfl)
theorem q275 : Cond.selects RX1 yX1_wageTold yX1_wageTold ∈ wsL_law := qc11 _ (List.mem_of_getElem? (i := 11) rfl)
theorem q276 : Cond.code yX1_wageTold cX1_wageTold 3 (some .int) ∈ wsL_law := qc11 _ (List.mem_of_getElem? (i := 12) rfl)
theorem q277 : Cond.methodLink RL 98 yL_chest ∈ wsL_law := qc11 _ (List.mem_of_getElem? (i := 13) rfl)
theorem q278 : Cond.static yL_chest ∈ wsL_law := qc11 _ (List.mem_of_getElem? (i := 14) rfl)
theorem q279 : Cond.codeWith yL_chest cL_chest 4 (some .int) [(0, 9, 12, 21)] ∈ wsL_law := qc11 _ (List.mem_of_getElem? (i := 15) rfl)
theorem q280 : Cond.methodLink RL 42 yX0_chest ∈ wsL_law := qc11 _ (List.mem_of_getElem? (i := 16) rfl)
theorem q281 : Cond.instanceMethod yX0_chest ∈ wsL_law := qc11 _ (List.mem_of_getElem? (i := 17) rfl)
theorem q282 : Cond.selects RX0 yX0_chest yX0_chest ∈ wsL_law := qc11 _ (List.mem_of_getElem? (i := 18) rfl)
theorem q283 : Cond.code yX0_chest cX0_chest 2 (some .int) ∈ wsL_law := qc11 _ (List.mem_of_getElem? (i := 19) rfl)
theorem q284 : Cond.methodLink RL 100 yX1_chest ∈ wsL_law := qc11 _ (List.mem_of_getElem? (i := 20) rfl)
theorem q285 : Cond.instanceMethod yX1_chest ∈ wsL_law := qc11 _ (List.mem_of_getElem? (i := 21) rfl)
theorem q286 : Cond.selects RX1 yX1_chest yX1_chest ∈ wsL_law := qc11 _ (List.mem_of_getElem? (i := 22) rfl)
theorem q287 : Cond.code yX1_chest cX1_chest 2 (some .int) ∈ wsL_law := qc11 _ (List.mem_of_getElem? (i := 23) rfl)
theorem q288 : Cond.methodLink RL 101 yL_coins ∈ wsL_law := qc12 _ (List.mem_of_getElem? (i := 0) rfl)
theorem q289 : Cond.static yL_coins ∈ wsL_law := qc12 _ (List.mem_of_getElem? (i := 1) rfl)
theorem q290 : Cond.codeWith yL_coins cL_coins 5 (some .int) [(0, 10, 13, 21)] ∈ wsL_law := qc12 _ (List.mem_of_getElem? (i := 2) rfl)
theorem q291 : Cond.methodLink RL 45 yX0_coins ∈ wsL_law := qc12 _ (List.mem_of_getElem? (i := 3) rfl)
theorem q292 : Cond.instanceMethod yX0_coins ∈ wsL_law := qc12 _ (List.mem_of_getElem? (i := 4) rfl)
theorem q293 : Cond.selects RX0 yX0_coins yX0_coins ∈ wsL_law := qc12 _ (List.mem_of_getElem? (i := 5) rfl)
theorem q294 : Cond.code yX0_coins cX0_coins 4 (some .int) ∈ wsL_law := qc12 _ (List.mem_of_getElem? (i := 6) rfl)
theorem q295 : Cond.methodLink RX0 95 yX0_copyRow ∈ wsL_law := qc12 _ (List.mem_of_getElem? (i := 7) rfl)
theorem q296 : Cond.static yX0_copyRow ∈ wsL_law := qc12 _ (List.mem_of_getElem? (i := 8) rfl)
theorem q297 : Cond.code yX0_copyRow cX0_copyRow 4 none ∈ wsL_law := qc12 _ (List.mem_of_getElem? (i := 9) rfl)
theorem q298 : Cond.methodLink RL 103 yX1_coins ∈ wsL_law := qc12 _ (List.mem_of_getElem? (i := 10) rfl)
theorem q299 : Cond.instanceMethod yX1_coins ∈ wsL_law := qc12 _ (List.mem_of_getElem? (i := 11) rfl)
theorem q300 : Cond.selects RX1 yX1_coins yX1_coins ∈ wsL_law := qc12 _ (List.mem_of_getElem? (i := 12) rfl)
theorem q301 : Cond.code yX1_coins cX1_coins 3 (some .int) ∈ wsL_law := qc12 _ (List.mem_of_getElem? (i := 13) rfl)
theorem q302 : Cond.methodLink RX1 113 yX1_look ∈ wsL_law := qc12 _ (List.mem_of_getElem? (i := 14) rfl)
theorem q303 : Cond.instanceMethod yX1_look ∈ wsL_law := qc12 _ (List.mem_of_getElem? (i := 15) rfl)
theorem q304 : Cond.selects RX1 yX1_look yX1_look ∈ wsL_law := qc12 _ (List.mem_of_getElem? (i := 16) rfl)
theorem q305 : Cond.code yX1_look cX1_look 3 none ∈ wsL_law := qc12 _ (List.mem_of_getElem? (i := 17) rfl)
theorem q306 : Cond.methodLink RX1 109 yX1_copy ∈ wsL_law := qc12 _ (List.mem_of_getElem? (i := 18) rfl)
theorem q307 : Cond.static yX1_copy ∈ wsL_law := qc12 _ (List.mem_of_getElem? (i := 19) rfl)
theorem q308 : Cond.code yX1_copy cX1_copy 2 (some (.array .int)) ∈ wsL_law := qc12 _ (List.mem_of_getElem? (i := 20) rfl)
theorem q309 : Cond.methodLink RL 104 yL_count ∈ wsL_law := qc12 _ (List.mem_of_getElem? (i := 21) rfl)
theorem q310 : Cond.static yL_count ∈ wsL_law := qc12 _ (List.mem_of_getElem? (i := 22) rfl)
theorem q311 : Cond.codeWith yL_count cL_count 4 (some .int) [(0, 9, 12, 21)] ∈ wsL_law := qc12 _ (List.mem_of_getElem? (i := 23) rfl)
theorem q312 : Cond.methodLink RL 48 yX0_count ∈ wsL_law := qc13 _ (List.mem_of_getElem? (i := 0) rfl)
theorem q313 : Cond.instanceMethod yX0_count ∈ wsL_law := qc13 _ (List.mem_of_getElem? (i := 1) rfl)
theorem q314 : Cond.selects RX0 yX0_count yX0_count ∈ wsL_law := qc13 _ (List.mem_of_getElem? (i := 2) rfl)
theorem q315 : Cond.code yX0_count cX0_count 2 (some .int) ∈ wsL_law := qc13 _ (List.mem_of_getElem? (i := 3) rfl)
theorem q316 : Cond.methodLink RX0 103 yX0_sumOfHired ∈ wsL_law := qc13 _ (List.mem_of_getElem? (i := 4) rfl)
theorem q317 : Cond.instanceMethod yX0_sumOfHired ∈ wsL_law := qc13 _ (List.mem_of_getElem? (i := 5) rfl)
theorem q318 : Cond.selects RX0 yX0_sumOfHired yX0_sumOfHired ∈ wsL_law := qc13 _ (List.mem_of_getElem? (i := 6) rfl)
theorem q319 : Cond.code yX0_sumOfHired cX0_sumOfHired 4 (some .int) ∈ wsL_law := qc13 _ (List.mem_of_getElem? (i := 7) rfl)
theorem q320 : Cond.methodLink RX0 107 yX0_worthOfPurse ∈ wsL_law := qc13 _ (List.mem_of_getElem? (i := 8) rfl)
theorem q321 : Cond.instanceMethod yX0_worthOfPurse ∈ wsL_law := qc13 _ (List.mem_of_getElem? (i := 9) rfl)
theorem q322 : Cond.selects RX0 yX0_worthOfPurse yX0_worthOfPurse ∈ wsL_law := qc13 _ (List.mem_of_getElem? (i := 10) rfl)
theorem q323 : Cond.code yX0_worthOfPurse cX0_worthOfPurse 3 (some .int) ∈ wsL_law := qc13 _ (List.mem_of_getElem? (i := 11) rfl)
theorem q324 : Cond.methodLink RX0 111 yX0_allWages ∈ wsL_law := qc13 _ (List.mem_of_getElem? (i := 12) rfl)
theorem q325 : Cond.instanceMethod yX0_allWages ∈ wsL_law := qc13 _ (List.mem_of_getElem? (i := 13) rfl)
theorem q326 : Cond.selects RX0 yX0_allWages yX0_allWages ∈ wsL_law := qc13 _ (List.mem_of_getElem? (i := 14) rfl)
theorem q327 : Cond.code yX0_allWages cX0_allWages 4 (some .int) ∈ wsL_law := qc13 _ (List.mem_of_getElem? (i := 15) rfl)
theorem q328 : Cond.methodLink RL 106 yX1_count ∈ wsL_law := qc13 _ (List.mem_of_getElem? (i := 16) rfl)
theorem q329 : Cond.instanceMethod yX1_count ∈ wsL_law := qc13 _ (List.mem_of_getElem? (i := 17) rfl)
theorem q330 : Cond.selects RX1 yX1_count yX1_count ∈ wsL_law := qc13 _ (List.mem_of_getElem? (i := 18) rfl)
theorem q331 : Cond.code yX1_count cX1_count 2 (some .int) ∈ wsL_law := qc13 _ (List.mem_of_getElem? (i := 19) rfl)
theorem q332 : Cond.methodLink RX1 122 yX1_counted ∈ wsL_law := qc13 _ (List.mem_of_getElem? (i := 20) rfl)
theorem q333 : Cond.instanceMethod yX1_counted ∈ wsL_law := qc13 _ (List.mem_of_getElem? (i := 21) rfl)
theorem q334 : Cond.selects RX1 yX1_counted yX1_counted ∈ wsL_law := qc13 _ (List.mem_of_getElem? (i := 22) rfl)
theorem q335 : Cond.code yX1_counted cX1_counted 2 (some .int) ∈ wsL_law := qc13 _ (List.mem_of_getElem? (i := 23) rfl)
theorem q336 : Cond.methodLink RX1 116 yX1_sum ∈ wsL_law := qc14 _ (List.mem_of_getElem? (i := 0) rfl)
theorem q337 : Cond.instanceMethod yX1_sum ∈ wsL_law := qc14 _ (List.mem_of_getElem? (i := 1) rfl)
theorem q338 : Cond.selects RX1 yX1_sum yX1_sum ∈ wsL_law := qc14 _ (List.mem_of_getElem? (i := 2) rfl)
theorem q339 : Cond.code yX1_sum cX1_sum 4 (some .int) ∈ wsL_law := qc14 _ (List.mem_of_getElem? (i := 3) rfl)
theorem q340 : Cond.methodLink RX1 119 yX1_all ∈ wsL_law := qc14 _ (List.mem_of_getElem? (i := 4) rfl)
theorem q341 : Cond.instanceMethod yX1_all ∈ wsL_law := qc14 _ (List.mem_of_getElem? (i := 5) rfl)
theorem q342 : Cond.selects RX1 yX1_all yX1_all ∈ wsL_law := qc14 _ (List.mem_of_getElem? (i := 6) rfl)
theorem q343 : Cond.code yX1_all cX1_all 3 (some .int) ∈ wsL_law := qc14 _ (List.mem_of_getElem? (i := 7) rfl)
theorem q344 : Cond.methodLink RL 107 yL_rate ∈ wsL_law := qc14 _ (List.mem_of_getElem? (i := 8) rfl)
theorem q345 : Cond.static yL_rate ∈ wsL_law := qc14 _ (List.mem_of_getElem? (i := 9) rfl)
theorem q346 : Cond.codeWith yL_rate cL_rate 4 (some .int) [(0, 9, 12, 21)] ∈ wsL_law := qc14 _ (List.mem_of_getElem? (i := 10) rfl)
theorem q347 : Cond.methodLink RL 51 yX0_rate ∈ wsL_law := qc14 _ (List.mem_of_getElem? (i := 11) rfl)
theorem q348 : Cond.instanceMethod yX0_rate ∈ wsL_law := qc14 _ (List.mem_of_getElem? (i := 12) rfl)
theorem q349 : Cond.selects RX0 yX0_rate yX0_rate ∈ wsL_law := qc14 _ (List.mem_of_getElem? (i := 13) rfl)
theorem q350 : Cond.code yX0_rate cX0_rate 2 (some .int) ∈ wsL_law := qc14 _ (List.mem_of_getElem? (i := 14) rfl)
theorem q351 : Cond.methodLink RL 109 yX1_rate ∈ wsL_law := qc14 _ (List.mem_of_getElem? (i := 15) rfl)
theorem q352 : Cond.instanceMethod yX1_rate ∈ wsL_law := qc14 _ (List.mem_of_getElem? (i := 16) rfl)
theorem q353 : Cond.selects RX1 yX1_rate yX1_rate ∈ wsL_law := qc14 _ (List.mem_of_getElem? (i := 17) rfl)
theorem q354 : Cond.code yX1_rate cX1_rate 2 (some .int) ∈ wsL_law := qc14 _ (List.mem_of_getElem? (i := 18) rfl)
theorem q355 : Cond.methodLink RL 110 yX1_thrown ∈ wsL_law := qc14 _ (List.mem_of_getElem? (i := 19) rfl)
theorem q356 : Cond.instanceMethod yX1_thrown ∈ wsL_law := qc14 _ (List.mem_of_getElem? (i := 20) rfl)
theorem q357 : Cond.selects RX1 yX1_thrown yX1_thrown ∈ wsL_law := qc14 _ (List.mem_of_getElem? (i := 21) rfl)
theorem q358 : Cond.code yX1_thrown cX1_thrown 1 (some .int) ∈ wsL_law := qc14 _ (List.mem_of_getElem? (i := 22) rfl)
theorem q359 : Cond.methodLink RL 113 yL_would ∈ wsL_law := qc14 _ (List.mem_of_getElem? (i := 23) rfl)
theorem q360 : Cond.static yL_would ∈ wsL_law := qc15 _ (List.mem_of_getElem? (i := 0) rfl)
theorem q361 : Cond.codeWith yL_would cL_would 5 (some .int) [(0, 10, 13, 21), (0, 10, 17, 13)] ∈ wsL_law := qc15 _ (List.mem_of_getElem? (i := 1) rfl)
theorem q362 : Cond.methodLink RL 54 yX0_would ∈ wsL_law := qc15 _ (List.mem_of_getElem? (i := 2) rfl)
theorem q363 : Cond.instanceMethod yX0_would ∈ wsL_law := qc15 _ (List.mem_of_getElem? (i := 3) rfl)
theorem q364 : Cond.selects RX0 yX0_would yX0_would ∈ wsL_law := qc15 _ (List.mem_of_getElem? (i := 4) rfl)
theorem q365 : Cond.code yX0_would cX0_would 3 (some .int) ∈ wsL_law := qc15 _ (List.mem_of_getElem? (i := 5) rfl)
theorem q366 : Cond.methodLink RL 115 yX1_would ∈ wsL_law := qc15 _ (List.mem_of_getElem? (i := 6) rfl)
theorem q367 : Cond.instanceMethod yX1_would ∈ wsL_law := qc15 _ (List.mem_of_getElem? (i := 7) rfl)
theorem q368 : Cond.selects RX1 yX1_would yX1_would ∈ wsL_law := qc15 _ (List.mem_of_getElem? (i := 8) rfl)
theorem q369 : Cond.code yX1_would cX1_would 5 (some .int) ∈ wsL_law := qc15 _ (List.mem_of_getElem? (i := 9) rfl)
theorem q370 : Cond.methodLink RL 116 yL_until ∈ wsL_law := qc15 _ (List.mem_of_getElem? (i := 10) rfl)
theorem q371 : Cond.static yL_until ∈ wsL_law := qc15 _ (List.mem_of_getElem? (i := 11) rfl)
theorem q372 : Cond.codeWith yL_until cL_until 4 (some .int) [(0, 9, 12, 21)] ∈ wsL_law := qc15 _ (List.mem_of_getElem? (i := 12) rfl)
theorem q373 : Cond.methodLink RL 57 yX0_until ∈ wsL_law := qc15 _ (List.mem_of_getElem? (i := 13) rfl)
theorem q374 : Cond.instanceMethod yX0_until ∈ wsL_law := qc15 _ (List.mem_of_getElem? (i := 14) rfl)
theorem q375 : Cond.selects RX0 yX0_until yX0_until ∈ wsL_law := qc15 _ (List.mem_of_getElem? (i := 15) rfl)
theorem q376 : Cond.code yX0_until cX0_until 5 (some .int) ∈ wsL_law := qc15 _ (List.mem_of_getElem? (i := 16) rfl)
theorem q377 : Cond.methodLink RL 118 yX1_until ∈ wsL_law := qc15 _ (List.mem_of_getElem? (i := 17) rfl)
theorem q378 : Cond.instanceMethod yX1_until ∈ wsL_law := qc15 _ (List.mem_of_getElem? (i := 18) rfl)
theorem q379 : Cond.selects RX1 yX1_until yX1_until ∈ wsL_law := qc15 _ (List.mem_of_getElem? (i := 19) rfl)
theorem q380 : Cond.code yX1_until cX1_until 5 (some .int) ∈ wsL_law := qc15 _ (List.mem_of_getElem? (i := 20) rfl)
theorem q381 : Cond.methodLink RL 119 yX0_lacks ∈ wsL_law := qc15 _ (List.mem_of_getElem? (i := 21) rfl)
theorem q382 : Cond.instanceMethod yX0_lacks ∈ wsL_law := qc15 _ (List.mem_of_getElem? (i := 22) rfl)
theorem q383 : Cond.selects RX0 yX0_lacks yX0_lacks ∈ wsL_law := qc15 _ (List.mem_of_getElem? (i := 23) rfl)
theorem q384 : Cond.code yX0_lacks cX0_lacks 4 (some .int) ∈ wsL_law := qc16 _ (List.mem_of_getElem? (i := 0) rfl)
theorem q385 : Cond.methodLink RL 122 yX1_lacks ∈ wsL_law := qc16 _ (List.mem_of_getElem? (i := 1) rfl)
theorem q386 : Cond.instanceMethod yX1_lacks ∈ wsL_law := qc16 _ (List.mem_of_getElem? (i := 2) rfl)
theorem q387 : Cond.selects RX1 yX1_lacks yX1_lacks ∈ wsL_law := qc16 _ (List.mem_of_getElem? (i := 3) rfl)
theorem q388 : Cond.code yX1_lacks cX1_lacks 5 (some .int) ∈ wsL_law := qc16 _ (List.mem_of_getElem? (i := 4) rfl)
theorem q389 : Cond.methodLink RL 123 yX0_advise ∈ wsL_law := qc16 _ (List.mem_of_getElem? (i := 5) rfl)
theorem q390 : Cond.instanceMethod yX0_advise ∈ wsL_law := qc16 _ (List.mem_of_getElem? (i := 6) rfl)
theorem q391 : Cond.selects RX0 yX0_advise yX0_advise ∈ wsL_law := qc16 _ (List.mem_of_getElem? (i := 7) rfl)
theorem q392 : Cond.code yX0_advise cX0_advise 7 (some .int) ∈ wsL_law := qc16 _ (List.mem_of_getElem? (i := 8) rfl)
theorem q393 : Cond.methodLink RX0 120 Lib.MathLoose.abs_long.x ∈ wsL_law := qc16 _ (List.mem_of_getElem? (i := 9) rfl)
theorem q394 : Cond.static Lib.MathLoose.abs_long.x ∈ wsL_law := qc16 _ (List.mem_of_getElem? (i := 10) rfl)
theorem q395 : Cond.code Lib.MathLoose.abs_long.x Lib.MathLoose.abs_long.code 2 (some .long) ∈ wsL_law := qc16 _ (List.mem_of_getElem? (i := 11) rfl)
theorem q396 : Cond.methodLink RL 126 yX1_advise ∈ wsL_law := qc16 _ (List.mem_of_getElem? (i := 12) rfl)
theorem q397 : Cond.instanceMethod yX1_advise ∈ wsL_law := qc16 _ (List.mem_of_getElem? (i := 13) rfl)
theorem q398 : Cond.selects RX1 yX1_advise yX1_advise ∈ wsL_law := qc16 _ (List.mem_of_getElem? (i := 14) rfl)
theorem q399 : Cond.code yX1_advise cX1_advise 5 (some .int) ∈ wsL_law := qc16 _ (List.mem_of_getElem? (i := 15) rfl)
theorem q400 : Cond.methodLink RX1 125 Lib.Math.abs.name ∈ wsL_law := qc16 _ (List.mem_of_getElem? (i := 16) rfl)
theorem q401 : Cond.static Lib.Math.abs.name ∈ wsL_law := qc16 _ (List.mem_of_getElem? (i := 17) rfl)
theorem q402 : Cond.code Lib.Math.abs.name Lib.Math.abs.code 1 (some .int) ∈ wsL_law := qc16 _ (List.mem_of_getElem? (i := 18) rfl)
theorem q403 : Cond.methodLink RL 127 yX0_mean ∈ wsL_law := qc16 _ (List.mem_of_getElem? (i := 19) rfl)
theorem q404 : Cond.instanceMethod yX0_mean ∈ wsL_law := qc16 _ (List.mem_of_getElem? (i := 20) rfl)
theorem q405 : Cond.selects RX0 yX0_mean yX0_mean ∈ wsL_law := qc16 _ (List.mem_of_getElem? (i := 21) rfl)
theorem q406 : Cond.code yX0_mean cX0_mean 1 (some .double) ∈ wsL_law := qc16 _ (List.mem_of_getElem? (i := 22) rfl)
theorem q407 : Cond.methodLink RL 131 yX1_mean ∈ wsL_law := qc16 _ (List.mem_of_getElem? (i := 23) rfl)
theorem q408 : Cond.instanceMethod yX1_mean ∈ wsL_law := qc17 _ (List.mem_of_getElem? (i := 0) rfl)
theorem q409 : Cond.selects RX1 yX1_mean yX1_mean ∈ wsL_law := qc17 _ (List.mem_of_getElem? (i := 1) rfl)
theorem q410 : Cond.code yX1_mean cX1_mean 1 (some .double) ∈ wsL_law := qc17 _ (List.mem_of_getElem? (i := 2) rfl)
theorem q411 : Cond.methodLink RL 132 yX0_digest ∈ wsL_law := qc17 _ (List.mem_of_getElem? (i := 3) rfl)
theorem q412 : Cond.instanceMethod yX0_digest ∈ wsL_law := qc17 _ (List.mem_of_getElem? (i := 4) rfl)
theorem q413 : Cond.selects RX0 yX0_digest yX0_digest ∈ wsL_law := qc17 _ (List.mem_of_getElem? (i := 5) rfl)
theorem q414 : Cond.code yX0_digest cX0_digest 5 (some .long) ∈ wsL_law := qc17 _ (List.mem_of_getElem? (i := 6) rfl)
theorem q415 : Cond.constantLong RX0 126 (1657) ∈ wsL_law := qc17 _ (List.mem_of_getElem? (i := 7) rfl)
theorem q416 : Cond.constantLong RX0 128 (31) ∈ wsL_law := qc17 _ (List.mem_of_getElem? (i := 8) rfl)
theorem q417 : Cond.methodLink RX0 130 yX0_count ∈ wsL_law := qc17 _ (List.mem_of_getElem? (i := 9) rfl)
theorem q418 : Cond.methodLink RX0 133 yX0_told ∈ wsL_law := qc17 _ (List.mem_of_getElem? (i := 10) rfl)
theorem q419 : Cond.methodLink RX0 136 yX0_wage ∈ wsL_law := qc17 _ (List.mem_of_getElem? (i := 11) rfl)
theorem q420 : Cond.methodLink RX0 139 yX0_coins ∈ wsL_law := qc17 _ (List.mem_of_getElem? (i := 12) rfl)
theorem q421 : Cond.methodLink RL 136 yX1_digest ∈ wsL_law := qc17 _ (List.mem_of_getElem? (i := 13) rfl)
theorem q422 : Cond.instanceMethod yX1_digest ∈ wsL_law := qc17 _ (List.mem_of_getElem? (i := 14) rfl)
theorem q423 : Cond.selects RX1 yX1_digest yX1_digest ∈ wsL_law := qc17 _ (List.mem_of_getElem? (i := 15) rfl)
theorem q424 : Cond.code yX1_digest cX1_digest 7 (some .long) ∈ wsL_law := qc17 _ (List.mem_of_getElem? (i := 16) rfl)
theorem q425 : Cond.constantLong RX1 128 (1657) ∈ wsL_law := qc17 _ (List.mem_of_getElem? (i := 17) rfl)
theorem q426 : Cond.constantLong RX1 130 (31) ∈ wsL_law := qc17 _ (List.mem_of_getElem? (i := 18) rfl)

def RX0 : String := "ReaperWages"
def TX0 : u_T := fun k => match k with
  | 0 => ("ReaperWages", "kinds", "[I", true)
  | 1 => ("ReaperWages", "bound", "[I", true)
  | 2 => ("ReaperWages", "worked", "[I", true)
  | 3 => ("ReaperWages", "lateMarks", "[I", true)
  | 4 => ("ReaperWages", "debts", "[I", true)
  | 5 => ("ReaperWages", "carried", "[I", true)
  | 6 => ("ReaperWages", "paidOut", "[I", true)
  | 7 => ("ReaperWages", "rates", "[I", true)
  | 8 => ("ReaperWages", "purse", "[I", true)
  | 9 => ("ReaperWages", "hired", "I", false)
  | 10 => ("ReaperWages", "week", "I", false)
  | 11 => ("ReaperWages", "trialRates", "[I", true)
  | 12 => ("ReaperWages", "trialPurse", "[I", true)
  | _ => ("ReaperWages", "handed", "[I", true)
def tyX0 : Nat → FieldType := fun k => match k with
  | 0 => .array .int
  | 1 => .array .int
  | 2 => .array .int
  | 3 => .array .int
  | 4 => .array .int
  | 5 => .array .int
  | 6 => .array .int
  | 7 => .array .int
  | 8 => .array .int
  | 9 => .int
  | 10 => .int
  | 11 => .array .int
  | 12 => .array .int
  | _ => .array .int
abbrev wsX00 : List Cond := u_ws RX0 TX0 14
theorem nmX0 : ∀ a, a < 14 → ∀ b, b < 14 → a ≠ b → (TX0 a).2.1 ≠ (TX0 b).2.1 := by decide +kernel
theorem tyX0_ok : ∀ k, k < 14 → parseFieldDescriptor (TX0 k).2.2.1 = some (tyX0 k) := by decide +kernel
abbrev cX0_init : ByteArray := prog_1_method_1_code
def yX0_init : MethodName := ⟨RX0, "<init>", "()V"⟩
abbrev cX0_hire : ByteArray := prog_1_method_2_code
def yX0_hire : MethodName := ⟨RX0, "hire", "(I)I"⟩
abbrev cX0_setRate : ByteArray := prog_1_method_3_code
def yX0_setRate : MethodName := ⟨RX0, "setRate", "(II)I"⟩
abbrev cX0_fill : ByteArray := prog_1_method_4_code
def yX0_fill : MethodName := ⟨RX0, "fill", "(II)I"⟩
abbrev cX0_bind : ByteArray := prog_1_method_5_code
def yX0_bind : MethodName := ⟨RX0, "bind", "(II)I"⟩
abbrev cX0_work : ByteArray := prog_1_method_6_code
def yX0_work : MethodName := ⟨RX0, "work", "(IIZ)I"⟩
abbrev cX0_lend : ByteArray := prog_1_method_7_code
def yX0_lend : MethodName := ⟨RX0, "lend", "(II)I"⟩
abbrev cX0_pay : ByteArray := prog_1_method_8_code
def yX0_pay : MethodName := ⟨RX0, "pay", "()I"⟩
abbrev cX0_told : ByteArray := prog_1_method_9_code
def yX0_told : MethodName := ⟨RX0, "told", "(II)I"⟩
abbrev cX0_wage : ByteArray := prog_1_method_10_code
def yX0_wage : MethodName := ⟨RX0, "wage", "(II)I"⟩
abbrev cX0_chest : ByteArray := prog_1_method_11_code
def yX0_chest : MethodName := ⟨RX0, "chest", "(I)I"⟩
abbrev cX0_coins : ByteArray := prog_1_method_12_code
def yX0_coins : MethodName := ⟨RX0, "coins", "(II)I"⟩
abbrev cX0_count : ByteArray := prog_1_method_13_code
def yX0_count : MethodName := ⟨RX0, "count", "(I)I"⟩
abbrev cX0_rate : ByteArray := prog_1_method_14_code
def yX0_rate : MethodName := ⟨RX0, "rate", "(I)I"⟩
abbrev cX0_lacks : ByteArray := prog_1_method_17_code
def yX0_lacks : MethodName := ⟨RX0, "lacks", "()I"⟩
abbrev cX0_mean : ByteArray := prog_1_method_19_code
def yX0_mean : MethodName := ⟨RX0, "mean", "()D"⟩
abbrev cX0_wageByPieces : ByteArray := prog_1_method_21_code
def yX0_wageByPieces : MethodName := ⟨RX0, "wageByPieces", "(I[I)I"⟩
abbrev cX0_wageByHours : ByteArray := prog_1_method_22_code
def yX0_wageByHours : MethodName := ⟨RX0, "wageByHours", "(I[I)I"⟩
abbrev cX0_hoursThatCount : ByteArray := prog_1_method_23_code
def yX0_hoursThatCount : MethodName := ⟨RX0, "hoursThatCount", "(I)I"⟩
abbrev cX0_weekWage : ByteArray := prog_1_method_24_code
def yX0_weekWage : MethodName := ⟨RX0, "weekWage", "(I[I)I"⟩
abbrev cX0_coming : ByteArray := prog_1_method_25_code
def yX0_coming : MethodName := ⟨RX0, "coming", "(I)I"⟩
abbrev cX0_takenBack : ByteArray := prog_1_method_26_code
def yX0_takenBack : MethodName := ⟨RX0, "takenBack", "(II)I"⟩
abbrev cX0_restToPay : ByteArray := prog_1_method_27_code
def yX0_restToPay : MethodName := ⟨RX0, "restToPay", "(I)I"⟩
abbrev cX0_settle : ByteArray := prog_1_method_28_code
def yX0_settle : MethodName := ⟨RX0, "settle", "(I)I"⟩
abbrev cX0_handOut : ByteArray := prog_1_method_29_code
def yX0_handOut : MethodName := ⟨RX0, "handOut", "([II)I"⟩
abbrev cX0_wholeParts : ByteArray := prog_1_method_30_code
def yX0_wholeParts : MethodName := ⟨RX0, "wholeParts", "(II)I"⟩
abbrev cX0_allWages : ByteArray := prog_1_method_31_code
def yX0_allWages : MethodName := ⟨RX0, "allWages", "([I)I"⟩
abbrev cX0_sumOfHired : ByteArray := prog_1_method_32_code
def yX0_sumOfHired : MethodName := ⟨RX0, "sumOfHired", "([I)I"⟩
abbrev cX0_worthOfPurse : ByteArray := prog_1_method_33_code
def yX0_worthOfPurse : MethodName := ⟨RX0, "worthOfPurse", "()I"⟩
abbrev cX0_copyRow : ByteArray := prog_1_method_34_code
def yX0_copyRow : MethodName := ⟨RX0, "copyRow", "([I[II)V"⟩
abbrev cX0_requireIndex : ByteArray := prog_1_method_35_code
def yX0_requireIndex : MethodName := ⟨RX0, "requireIndex", "(II)V"⟩
abbrev cX0_requireArgument : ByteArray := prog_1_method_36_code
def yX0_requireArgument : MethodName := ⟨RX0, "requireArgument", "(III)V"⟩
abbrev cX0_requireState : ByteArray := prog_1_method_37_code
def yX0_requireState : MethodName := ⟨RX0, "requireState", "(Z)V"⟩
abbrev cX0_requireRate : ByteArray := prog_1_method_38_code
def yX0_requireRate : MethodName := ⟨RX0, "requireRate", "(II)V"⟩
def RX1 : String := "ReaperWagesLaw$Reaper"
def TX1 : u_T := fun k => match k with
  | 0 => ("ReaperWagesLaw$Reaper", "kind", "I", false)
  | 1 => ("ReaperWagesLaw$Reaper", "sheaves", "I", false)
  | 2 => ("ReaperWagesLaw$Reaper", "hours", "I", false)
  | 3 => ("ReaperWagesLaw$Reaper", "late", "I", false)
  | 4 => ("ReaperWagesLaw$Reaper", "debt", "I", false)
  | 5 => ("ReaperWagesLaw$Reaper", "carried", "I", false)
  | _ => ("ReaperWagesLaw$Reaper", "paid", "I", false)
def tyX1 : Nat → FieldType := fun k => match k with
  | 0 => .int
  | 1 => .int
  | 2 => .int
  | 3 => .int
  | 4 => .int
  | 5 => .int
  | _ => .int
abbrev wsX10 : List Cond := u_ws RX1 TX1 7
theorem nmX1 : ∀ a, a < 7 → ∀ b, b < 7 → a ≠ b → (TX1 a).2.1 ≠ (TX1 b).2.1 := by decide +kernel
theorem tyX1_ok : ∀ k, k < 7 → parseFieldDescriptor (TX1 k).2.2.1 = some (tyX1 k) := by decide +kernel
abbrev cX1_init : ByteArray := prog_3_method_1_code
def yX1_init : MethodName := ⟨RX1, "<init>", "()V"⟩
abbrev cX1_copy : ByteArray := prog_3_method_2_code
def yX1_copy : MethodName := ⟨RX1, "copy", "()LReaperWagesLaw$Reaper;"⟩
abbrev cX1_counting : ByteArray := prog_3_method_3_code
def yX1_counting : MethodName := ⟨RX1, "counting", "()I"⟩
abbrev cX1_pieces : ByteArray := prog_3_method_4_code
def yX1_pieces : MethodName := ⟨RX1, "pieces", "([I)I"⟩
abbrev cX1_wage : ByteArray := prog_3_method_5_code
def yX1_wage : MethodName := ⟨RX1, "wage", "([I)I"⟩
def RX2 : String := "ReaperWagesLaw$Sim"
def TX2 : u_T := fun k => match k with
  | 0 => ("ReaperWagesLaw$Sim", "week", "I", false)
  | 1 => ("ReaperWagesLaw$Sim", "rates", "[I", false)
  | 2 => ("ReaperWagesLaw$Sim", "chest", "[I", false)
  | 3 => ("ReaperWagesLaw$Sim", "all", "[LReaperWagesLaw$Reaper;", false)
  | _ => ("ReaperWagesLaw$Sim", "handed", "[[I", false)
def tyX2 : Nat → FieldType := fun k => match k with
  | 0 => .int
  | 1 => .array .int
  | 2 => .array .int
  | 3 => .array (.object "ReaperWagesLaw$Reaper")
  | _ => .array (.array .int)
abbrev wsX20 : List Cond := u_ws RX2 TX2 5
theorem nmX2 : ∀ a, a < 5 → ∀ b, b < 5 → a ≠ b → (TX2 a).2.1 ≠ (TX2 b).2.1 := by decide +kernel
theorem tyX2_ok : ∀ k, k < 5 → parseFieldDescriptor (TX2 k).2.2.1 = some (tyX2 k) := by decide +kernel
abbrev cX2_init : ByteArray := prog_4_method_1_code
def yX2_init : MethodName := ⟨RX2, "<init>", "()V"⟩
abbrev cX2_copy : ByteArray := prog_4_method_2_code
def yX2_copy : MethodName := ⟨RX2, "copy", "()LReaperWagesLaw$Sim;"⟩
abbrev cX2_back : ByteArray := prog_4_method_3_code
def yX2_back : MethodName := ⟨RX2, "back", "(LReaperWagesLaw$Reaper;)I"⟩
abbrev cX2_pay : ByteArray := prog_4_method_4_code
def yX2_pay : MethodName := ⟨RX2, "pay", "()I"⟩
abbrev cX2_wages : ByteArray := prog_4_method_5_code
def yX2_wages : MethodName := ⟨RX2, "wages", "()I"⟩
abbrev cX2_isSame : ByteArray := prog_4_method_6_code
def yX2_isSame : MethodName := ⟨RX2, "isSame", "(LReaperWages;)Z"⟩
def RX3 : String := "ReaperWagesModel"
def TX3 : u_T := fun k => match k with
  | _ => ("", "", "", false)
def tyX3 : Nat → FieldType := fun k => match k with
  | _ => .int
abbrev wsX30 : List Cond := u_ws RX3 TX3 0
theorem nmX3 : ∀ a, a < 0 → ∀ b, b < 0 → a ≠ b → (TX3 a).2.1 ≠ (TX3 b).2.1 := by decide +kernel
theorem tyX3_ok : ∀ k, k < 0 → parseFieldDescriptor (TX3 k).2.2.1 = some (tyX3 k) := by decide +kernel
def RJx8e188 : String := "java/lang/Cloneable"
def TJx8e188 : u_T := fun k => match k with
  | _ => ("", "", "", false)
def tyJx8e188 : Nat → FieldType := fun k => match k with
  | _ => .int
theorem nmJx8e188 : ∀ a, a < 0 → ∀ b, b < 0 → a ≠ b → (TJx8e188 a).2.1 ≠ (TJx8e188 b).2.1 := by decide +kernel
theorem tyJx8e188_ok : ∀ k, k < 0 → parseFieldDescriptor (TJx8e188 k).2.2.1 = some (tyJx8e188 k) := by decide +kernel
def RJ9 : String := "java/lang/Math"
def TJ9 : u_T := fun k => match k with
  | _ => ("", "", "", false)
def tyJ9 : Nat → FieldType := fun k => match k with
  | _ => .int
abbrev wsJ90 : List Cond := u_ws RJ9 TJ9 0
theorem nmJ9 : ∀ a, a < 0 → ∀ b, b < 0 → a ≠ b → (TJ9 a).2.1 ≠ (TJ9 b).2.1 := by decide +kernel
theorem tyJ9_ok : ∀ k, k < 0 → parseFieldDescriptor (TJ9 k).2.2.1 = some (tyJ9 k) := by decide +kernel
abbrev cJ9_max_7cf53 : ByteArray := prog_11_method_65_code
def yJ9_max_7cf53 : MethodName := ⟨RJ9, "max", "(II)I"⟩
abbrev cJ9_min_7cf53 : ByteArray := prog_11_method_69_code
def yJ9_min_7cf53 : MethodName := ⟨RJ9, "min", "(II)I"⟩
def RJ0 : String := "java/lang/String"
def TJ0 : u_T := fun k => match k with
  | _ => ("", "", "", false)
def tyJ0 : Nat → FieldType := fun k => match k with
  | _ => .int
abbrev wsJ00 : List Cond := u_ws RJ0 TJ0 0
theorem nmJ0 : ∀ a, a < 0 → ∀ b, b < 0 → a ≠ b → (TJ0 a).2.1 ≠ (TJ0 b).2.1 := by decide +kernel
theorem tyJ0_ok : ∀ k, k < 0 → parseFieldDescriptor (TJ0 k).2.2.1 = some (tyJ0 k) := by decide +kernel
def RL : String := "ReaperWagesLaw"
abbrev cL_below : ByteArray := method_2_code
def yL_below : MethodName := ⟨RL, "below", "(II)I"⟩
abbrev cL_cell : ByteArray := method_3_code
def yL_cell : MethodName := ⟨RL, "cell", "([II)I"⟩
abbrev cL_rate : ByteArray := method_4_code
def yL_rate : MethodName := ⟨RL, "rate", "(II)I"⟩
abbrev cL_act : ByteArray := method_5_code
def yL_act : MethodName := ⟨RL, "act", "(LReaperWages;LReaperWagesLaw$Sim;I)Z"⟩
abbrev cL_build : ByteArray := method_6_code
def yL_build : MethodName := ⟨RL, "build", "(LReaperWages;[I)LReaperWagesLaw$Sim;"⟩
abbrev cL_law : ByteArray := code
def yL_law : MethodName := ⟨RL, "law", "([I)Z"⟩
def wsL_law0_r1 : List Cond := [Cond.classLink RL 29 RX0, Cond.instantiable RX0 14, Cond.initialized RX0, Cond.classLink RL 94 "[[I", Cond.arrayClass .int, Cond.methodLink RL 86 yX0_init, Cond.instanceMethod yX0_init, Cond.code yX0_init cX0_init 1 none, Cond.methodLink RX0 1 objectInit, Cond.instanceMethod objectInit, Cond.code objectInit ⟨#[0xb1]⟩ 1 none, Cond.fieldLink RX0 9 "ReaperWages" "kinds" "[I", Cond.fieldLink RX0 13 "ReaperWages" "bound" "[I", Cond.fieldLink RX0 16 "ReaperWages" "worked" "[I", Cond.fieldLink RX0 19 "ReaperWages" "lateMarks" "[I", Cond.fieldLink RX0 22 "ReaperWages" "debts" "[I", Cond.fieldLink RX0 25 "ReaperWages" "carried" "[I", Cond.fieldLink RX0 28 "ReaperWages" "paidOut" "[I", Cond.fieldLink RX0 31 "ReaperWages" "rates" "[I", Cond.fieldLink RX0 34 "ReaperWages" "purse" "[I", Cond.fieldLink RX0 37 "ReaperWages" "trialRates" "[I", Cond.fieldLink RX0 40 "ReaperWages" "trialPurse" "[I", Cond.fieldLink RX0 43 "ReaperWages" "handed" "[I", Cond.methodLink RL 87 yL_build]
def wsL_law0_r2 : List Cond := [Cond.static yL_build, Cond.initialized RL, Cond.code yL_build cL_build 5 (some (.object "ReaperWagesLaw$Sim")), Cond.classLink RL 16 RX2, Cond.instantiable RX2 5, Cond.initialized RX2, Cond.instanceMethod yX2_init, Cond.code yX2_init cX2_init 1 none, Cond.methodLink RX2 1 objectInit, Cond.fieldLink RX2 7 "ReaperWagesLaw$Sim" "rates" "[I", Cond.fieldLink RX2 13 "ReaperWagesLaw$Sim" "chest" "[I", Cond.classLink RX2 16 RX1, Cond.fieldLink RX2 18 "ReaperWagesLaw$Sim" "all" "[LReaperWagesLaw$Reaper;", Cond.methodLink RL 78 yL_cell, Cond.static yL_cell, Cond.code yL_cell cL_cell 2 (some .int), Cond.constant RL 8 (790386105), Cond.methodLink RL 9 yL_below, Cond.static yL_below, Cond.code yL_below cL_below 2 (some .int), Cond.constant RL 7 (2147483647), Cond.methodLink RL 82 yL_act, Cond.static yL_act, Cond.code yL_act cL_act 15 (some .boolean)]
def wsL_law0_r3 : List Cond := [Cond.fieldLink RL 15 "ReaperWagesLaw$Sim" "all" "[LReaperWagesLaw$Reaper;", Cond.classLink RL 21 RX1, Cond.instantiable RX1 7, Cond.initialized RX1, Cond.fieldLink RL 24 "ReaperWagesLaw$Reaper" "kind" "I", Cond.fieldLink RL 34 "ReaperWagesLaw$Sim" "rates" "[I", Cond.fieldLink RL 44 "ReaperWagesLaw$Sim" "chest" "[I", Cond.fieldLink RL 50 "ReaperWagesLaw$Reaper" "sheaves" "I", Cond.fieldLink RL 56 "ReaperWagesLaw$Reaper" "debt" "I", Cond.fieldLink RL 67 "ReaperWagesLaw$Reaper" "hours" "I", Cond.fieldLink RL 70 "ReaperWagesLaw$Reaper" "late" "I", Cond.instanceMethod yX1_init, Cond.code yX1_init cX1_init 1 none, Cond.methodLink RX1 1 objectInit, Cond.methodLink RL 28 yX0_hire, Cond.instanceMethod yX0_hire, Cond.selects RX0 yX0_hire yX0_hire, Cond.code yX0_hire cX0_hire 2 (some .int), Cond.fieldLink RX0 50 "ReaperWages" "hired" "I", Cond.methodLink RX0 46 yX0_requireArgument, Cond.static yX0_requireArgument, Cond.code yX0_requireArgument cX0_requireArgument 3 none, Cond.classLink RX0 163 "java/lang/IllegalArgumentException", Cond.initialized "java/lang/IllegalArgumentException"]
def wsL_law0_r4 : List Cond := [Cond.methodLink RX0 54 yX0_requireState, Cond.static yX0_requireState, Cond.code yX0_requireState cX0_requireState 1 none, Cond.classLink RX0 168 "java/lang/IllegalStateException", Cond.initialized "java/lang/IllegalStateException", Cond.methodLink RL 38 yL_rate, Cond.static yL_rate, Cond.code yL_rate cL_rate 4 (some .int), Cond.methodLink RL 41 yX0_setRate, Cond.instanceMethod yX0_setRate, Cond.selects RX0 yX0_setRate yX0_setRate, Cond.code yX0_setRate cX0_setRate 4 (some .int), Cond.methodLink RX0 58 yX0_requireRate, Cond.static yX0_requireRate, Cond.code yX0_requireRate cX0_requireRate 2 none, Cond.fieldLink RX0 114 "ReaperWages" "LEAST_RATE" "[I", Cond.fieldLink RX0 117 "ReaperWages" "MOST_RATE" "[I", Cond.methodLink RX0 62 yX0_requireIndex, Cond.static yX0_requireIndex, Cond.code yX0_requireIndex cX0_requireIndex 2 none, Cond.classLink RX0 156 "java/lang/IndexOutOfBoundsException", Cond.initialized "java/lang/IndexOutOfBoundsException", Cond.methodLink RL 47 yX0_fill, Cond.instanceMethod yX0_fill]
def wsL_law0_r5 : List Cond := [Cond.selects RX0 yX0_fill yX0_fill, Cond.code yX0_fill cX0_fill 3 (some .int), Cond.methodLink RL 53 yX0_bind, Cond.instanceMethod yX0_bind, Cond.selects RX0 yX0_bind yX0_bind, Cond.code yX0_bind cX0_bind 3 (some .int), Cond.methodLink RL 59 yX0_lend, Cond.instanceMethod yX0_lend, Cond.selects RX0 yX0_lend yX0_lend, Cond.code yX0_lend cX0_lend 3 (some .int), Cond.methodLink RL 62 yX0_pay, Cond.instanceMethod yX0_pay, Cond.selects RX0 yX0_pay yX0_pay, Cond.code yX0_pay cX0_pay 3 (some .int), Cond.fieldLink RX0 69 "ReaperWages" "week" "I", Cond.methodLink RX0 65 yX0_settle, Cond.instanceMethod yX0_settle, Cond.selects RX0 yX0_settle yX0_settle, Cond.code yX0_settle cX0_settle 5 (some .int), Cond.methodLink RX0 85 yX0_coming, Cond.instanceMethod yX0_coming, Cond.selects RX0 yX0_coming yX0_coming, Cond.code yX0_coming cX0_coming 2 (some .int), Cond.methodLink RX0 82 yX0_weekWage]
def wsL_law0_r6 : List Cond := [Cond.instanceMethod yX0_weekWage, Cond.selects RX0 yX0_weekWage yX0_weekWage, Cond.code yX0_weekWage cX0_weekWage 3 (some .int), Cond.methodLink RX0 147 Lib.Math.max.name, Cond.static Lib.Math.max.name, Cond.initialized "java/lang/Math", Cond.code Lib.Math.max.name Lib.Math.max.code 2 (some .int), Cond.methodLink RX0 75 yX0_wageByPieces, Cond.instanceMethod yX0_wageByPieces, Cond.selects RX0 yX0_wageByPieces yX0_wageByPieces, Cond.code yX0_wageByPieces cX0_wageByPieces 8 (some .int), Cond.methodLink RX0 142 Lib.Math.min.name, Cond.static Lib.Math.min.name, Cond.code Lib.Math.min.name Lib.Math.min.code 2 (some .int), Cond.constantLong RX0 145 (1000), Cond.methodLink RX0 79 yX0_wageByHours, Cond.instanceMethod yX0_wageByHours, Cond.selects RX0 yX0_wageByHours yX0_wageByHours, Cond.code yX0_wageByHours cX0_wageByHours 3 (some .int), Cond.methodLink RX0 72 yX0_hoursThatCount, Cond.instanceMethod yX0_hoursThatCount, Cond.selects RX0 yX0_hoursThatCount yX0_hoursThatCount, Cond.code yX0_hoursThatCount cX0_hoursThatCount 5 (some .int), Cond.methodLink RX0 88 yX0_takenBack]
def wsL_law0_r7 : List Cond := [Cond.instanceMethod yX0_takenBack, Cond.selects RX0 yX0_takenBack yX0_takenBack, Cond.code yX0_takenBack cX0_takenBack 3 (some .int), Cond.methodLink RX0 150 yX0_wholeParts, Cond.static yX0_wholeParts, Cond.code yX0_wholeParts cX0_wholeParts 2 (some .int), Cond.methodLink RX0 99 yX0_handOut, Cond.instanceMethod yX0_handOut, Cond.selects RX0 yX0_handOut yX0_handOut, Cond.code yX0_handOut cX0_handOut 6 (some .int), Cond.fieldLink RX0 153 "ReaperWages" "COIN_WORTH" "[I", Cond.methodLink RL 66 yX2_pay, Cond.instanceMethod yX2_pay, Cond.selects RX2 yX2_pay yX2_pay, Cond.code yX2_pay cX2_pay 8 (some .int), Cond.classLink RX2 46 "[[I", Cond.fieldLink RX2 48 "ReaperWagesLaw$Sim" "handed" "[[I", Cond.fieldLink RX2 40 "ReaperWagesLaw$Reaper" "carried" "I", Cond.fieldLink RX2 43 "ReaperWagesLaw$Reaper" "debt" "I", Cond.fieldLink RX2 55 "ReaperWagesLaw$Reaper" "paid" "I", Cond.fieldLink RX2 58 "ReaperWagesLaw$Reaper" "sheaves" "I", Cond.fieldLink RX2 61 "ReaperWagesLaw$Reaper" "hours" "I", Cond.fieldLink RX2 64 "ReaperWagesLaw$Reaper" "late" "I", Cond.fieldLink RX2 23 "ReaperWagesLaw$Sim" "week" "I"]
def wsL_law0_r8 : List Cond := [Cond.methodLink RX2 51 yX2_back, Cond.instanceMethod yX2_back, Cond.selects RX2 yX2_back yX2_back, Cond.code yX2_back cX2_back 3 (some .int), Cond.methodLink RX2 36 yX1_wage, Cond.instanceMethod yX1_wage, Cond.selects RX1 yX1_wage yX1_wage, Cond.code yX1_wage cX1_wage 4 (some .int), Cond.fieldLink RX1 10 "ReaperWagesLaw$Reaper" "kind" "I", Cond.methodLink RX1 32 yX1_pieces, Cond.instanceMethod yX1_pieces, Cond.selects RX1 yX1_pieces yX1_pieces, Cond.code yX1_pieces cX1_pieces 3 (some .int), Cond.fieldLink RX1 14 "ReaperWagesLaw$Reaper" "sheaves" "I", Cond.methodLink RX1 36 yX1_counting, Cond.instanceMethod yX1_counting, Cond.selects RX1 yX1_counting yX1_counting, Cond.code yX1_counting cX1_counting 2 (some .int), Cond.fieldLink RX1 17 "ReaperWagesLaw$Reaper" "hours" "I", Cond.fieldLink RX1 20 "ReaperWagesLaw$Reaper" "late" "I", Cond.methodLink RL 73 yX0_work, Cond.instanceMethod yX0_work, Cond.selects RX0 yX0_work yX0_work, Cond.code yX0_work cX0_work 4 (some .int)]
def wsL_law0_r9 : List Cond := [Cond.methodLink RL 91 yX0_count, Cond.instanceMethod yX0_count, Cond.selects RX0 yX0_count yX0_count, Cond.code yX0_count cX0_count 2 (some .int), Cond.methodLink RX0 103 yX0_sumOfHired, Cond.instanceMethod yX0_sumOfHired, Cond.selects RX0 yX0_sumOfHired yX0_sumOfHired, Cond.code yX0_sumOfHired cX0_sumOfHired 4 (some .int), Cond.methodLink RX0 107 yX0_worthOfPurse, Cond.instanceMethod yX0_worthOfPurse, Cond.selects RX0 yX0_worthOfPurse yX0_worthOfPurse, Cond.code yX0_worthOfPurse cX0_worthOfPurse 3 (some .int), Cond.methodLink RX0 111 yX0_allWages, Cond.instanceMethod yX0_allWages, Cond.selects RX0 yX0_allWages yX0_allWages, Cond.code yX0_allWages cX0_allWages 4 (some .int), Cond.methodLink RL 96 yX0_coins, Cond.instanceMethod yX0_coins, Cond.selects RX0 yX0_coins yX0_coins, Cond.code yX0_coins cX0_coins 4 (some .int), Cond.methodLink RX0 95 yX0_copyRow, Cond.static yX0_copyRow, Cond.code yX0_copyRow cX0_copyRow 4 none, Cond.methodLink RX0 92 yX0_restToPay]
def wsL_law0_r10 : List Cond := [Cond.instanceMethod yX0_restToPay, Cond.selects RX0 yX0_restToPay yX0_restToPay, Cond.code yX0_restToPay cX0_restToPay 3 (some .int), Cond.methodLink RL 99 yX0_told, Cond.instanceMethod yX0_told, Cond.selects RX0 yX0_told yX0_told, Cond.code yX0_told cX0_told 3 (some .int), Cond.methodLink RL 102 yX0_wage, Cond.instanceMethod yX0_wage, Cond.selects RX0 yX0_wage yX0_wage, Cond.code yX0_wage cX0_wage 3 (some .int), Cond.methodLink RL 105 yX0_mean, Cond.instanceMethod yX0_mean, Cond.selects RX0 yX0_mean yX0_mean, Cond.code yX0_mean cX0_mean 1 (some .double), Cond.methodLink RL 109 yX0_chest, Cond.instanceMethod yX0_chest, Cond.selects RX0 yX0_chest yX0_chest, Cond.code yX0_chest cX0_chest 2 (some .int), Cond.methodLink RL 111 yX0_lacks, Cond.instanceMethod yX0_lacks, Cond.selects RX0 yX0_lacks yX0_lacks, Cond.code yX0_lacks cX0_lacks 4 (some .int), Cond.methodLink RL 114 yX2_isSame]
def wsL_law0_r11 : List Cond := [Cond.instanceMethod yX2_isSame, Cond.selects RX2 yX2_isSame yX2_isSame, Cond.code yX2_isSame cX2_isSame 12 (some .boolean), Cond.fieldLink RX2 74 "ReaperWagesLaw$Reaper" "kind" "I", Cond.methodLink RX2 67 yX2_copy, Cond.instanceMethod yX2_copy, Cond.selects RX2 yX2_copy yX2_copy, Cond.code yX2_copy cX2_copy 3 (some (.object "ReaperWagesLaw$Sim")), Cond.classLink RX2 8 RX2, Cond.methodLink RX2 27 ⟨"[I", "clone", "()Ljava/lang/Object;"⟩, Cond.sameMethod "[I" "java/lang/Object" "clone" "()Ljava/lang/Object;", Cond.native ⟨"java/lang/Object", "clone", "()Ljava/lang/Object;"⟩, Cond.instanceMethod ⟨"java/lang/Object", "clone", "()Ljava/lang/Object;"⟩, Cond.selects "[I" ⟨"[I", "clone", "()Ljava/lang/Object;"⟩ ⟨"java/lang/Object", "clone", "()Ljava/lang/Object;"⟩, Cond.classLink RX2 28 "[I", Cond.methodLink RX2 22 yX2_init, Cond.methodLink RX2 32 yX1_copy, Cond.instanceMethod yX1_copy, Cond.selects RX1 yX1_copy yX1_copy, Cond.code yX1_copy cX1_copy 2 (some (.object "ReaperWagesLaw$Reaper")), Cond.classLink RX1 7 RX1, Cond.fieldLink RX1 23 "ReaperWagesLaw$Reaper" "debt" "I", Cond.fieldLink RX1 26 "ReaperWagesLaw$Reaper" "carried" "I", Cond.fieldLink RX1 29 "ReaperWagesLaw$Reaper" "paid" "I"]
def wsL_law0_r12 : List Cond := [Cond.methodLink RX1 9 yX1_init, Cond.methodLink RX2 70 yX2_pay, Cond.methodLink RX2 77 yX1_counting, Cond.methodLink RX2 80 yX0_told, Cond.methodLink RX2 86 yX1_pieces, Cond.methodLink RX2 89 yX0_wage, Cond.methodLink RX2 91 yX0_coins, Cond.methodLink RX2 94 yX0_rate, Cond.instanceMethod yX0_rate, Cond.selects RX0 yX0_rate yX0_rate, Cond.code yX0_rate cX0_rate 2 (some .int), Cond.methodLink RX2 98 yX0_chest, Cond.methodLink RX2 100 yX2_wages, Cond.instanceMethod yX2_wages, Cond.selects RX2 yX2_wages yX2_wages, Cond.code yX2_wages cX2_wages 6 (some .int), Cond.methodLink RX2 103 yX0_count, Cond.methodLink RX2 106 yX0_mean]
def wsL_law0 : List Cond := (wsL_law0_r1 ++ (wsL_law0_r2 ++ (wsL_law0_r3 ++ (wsL_law0_r4 ++ (wsL_law0_r5 ++ (wsL_law0_r6 ++ (wsL_law0_r7 ++ (wsL_law0_r8 ++ (wsL_law0_r9 ++ (wsL_law0_r10 ++ (wsL_law0_r11 ++ wsL_law0_r12))))))))))) ++ wsX00 ++ wsX20 ++ wsX10 ++ ([] : List Cond)
def wsL_law : List Cond := wsL_law0 ++ (vx_atS RX0 167 "java/lang/IllegalArgumentException" ["java/lang/RuntimeException", "java/lang/Exception"]).filter goodWord ++ (vx_atS RX0 172 "java/lang/IllegalStateException" ["java/lang/RuntimeException", "java/lang/Exception"]).filter goodWord ++ (vx_atS RX0 160 "java/lang/IndexOutOfBoundsException" ["java/lang/RuntimeException", "java/lang/Exception"]).filter goodWord
theorem inlX0 : ∀ w ∈ wsX00, w ∈ wsL_law := fun _ h => List.mem_append_left _ (List.mem_append_left _ (List.mem_append_left _ (List.mem_append_left _ (List.mem_append_left _ (List.mem_append_left _ (List.mem_append_right _ h))))))
theorem inlX1 : ∀ w ∈ wsX10, w ∈ wsL_law := fun _ h => List.mem_append_left _ (List.mem_append_left _ (List.mem_append_left _ (List.mem_append_left _ (List.mem_append_right _ h))))
theorem inlX2 : ∀ w ∈ wsX20, w ∈ wsL_law := fun _ h => List.mem_append_left _ (List.mem_append_left _ (List.mem_append_left _ (List.mem_append_left _ (List.mem_append_left _ (List.mem_append_right _ h)))))
abbrev vwCl : List vw_C := [(RX0, TX0, 14), (RX1, TX1, 7), (RX2, TX2, 5)]

theorem qc0 : ∀ w ∈ wsL_law0_r1, w ∈ wsL_law := fun _ h => List.mem_append_left _ (List.mem_append_left _ (List.mem_append_left _ (List.mem_append_left _ (List.mem_append_left _ (List.mem_append_left _ (List.mem_append_left _ (List.mem_append_left _ h)))))))
theorem qc1 : ∀ w ∈ wsL_law0_r2, w ∈ wsL_law := fun _ h => List.mem_append_left _ (List.mem_append_left _ (List.mem_append_left _ (List.mem_append_left _ (List.mem_append_left _ (List.mem_append_left _ (List.mem_append_left _ (List.mem_append_right _ (List.mem_append_left _ h))))))))
theorem qc2 : ∀ w ∈ wsL_law0_r3, w ∈ wsL_law := fun _ h => List.mem_append_left _ (List.mem_append_left _ (List.mem_append_left _ (List.mem_append_left _ (List.mem_append_left _ (List.mem_append_left _ (List.mem_append_left _ (List.mem_append_right _ (List.mem_append_right _ (List.mem_append_left _ h)))))))))
theorem qc3 : ∀ w ∈ wsL_law0_r4, w ∈ wsL_law := fun _ h => List.mem_append_left _ (List.mem_append_left _ (List.mem_append_left _ (List.mem_append_left _ (List.mem_append_left _ (List.mem_append_left _ (List.mem_append_left _ (List.mem_append_right _ (List.mem_append_right _ (List.mem_append_right _ (List.mem_append_left _ h))))))))))
theorem qc4 : ∀ w ∈ wsL_law0_r5, w ∈ wsL_law := fun _ h => List.mem_append_left _ (List.mem_append_left _ (List.mem_append_left _ (List.mem_append_left _ (List.mem_append_left _ (List.mem_append_left _ (List.mem_append_left _ (List.mem_append_right _ (List.mem_append_right _ (List.mem_append_right _ (List.mem_append_right _ (List.mem_append_left _ h)))))))))))
theorem qc5 : ∀ w ∈ wsL_law0_r6, w ∈ wsL_law := fun _ h => List.mem_append_left _ (List.mem_append_left _ (List.mem_append_left _ (List.mem_append_left _ (List.mem_append_left _ (List.mem_append_left _ (List.mem_append_left _ (List.mem_append_right _ (List.mem_append_right _ (List.mem_append_right _ (List.mem_append_right _ (List.mem_append_right _ (List.mem_append_left _ h))))))))))))
theorem qc6 : ∀ w ∈ wsL_law0_r7, w ∈ wsL_law := fun _ h => List.mem_append_left _ (List.mem_append_left _ (List.mem_append_left _ (List.mem_append_left _ (List.mem_append_left _ (List.mem_append_left _ (List.mem_append_left _ (List.mem_append_right _ (List.mem_append_right _ (List.mem_append_right _ (List.mem_append_right _ (List.mem_append_right _ (List.mem_append_right _ (List.mem_append_left _ h)))))))))))))
theorem qc7 : ∀ w ∈ wsL_law0_r8, w ∈ wsL_law := fun _ h => List.mem_append_left _ (List.mem_append_left _ (List.mem_append_left _ (List.mem_append_left _ (List.mem_append_left _ (List.mem_append_left _ (List.mem_append_left _ (List.mem_append_right _ (List.mem_append_right _ (List.mem_append_right _ (List.mem_append_right _ (List.mem_append_right _ (List.mem_append_right _ (List.mem_append_right _ (List.mem_append_left _ h))))))))))))))
theorem qc8 : ∀ w ∈ wsL_law0_r9, w ∈ wsL_law := fun _ h => List.mem_append_left _ (List.mem_append_left _ (List.mem_append_left _ (List.mem_append_left _ (List.mem_append_left _ (List.mem_append_left _ (List.mem_append_left _ (List.mem_append_right _ (List.mem_append_right _ (List.mem_append_right _ (List.mem_append_right _ (List.mem_append_right _ (List.mem_append_right _ (List.mem_append_right _ (List.mem_append_right _ (List.mem_append_left _ h)))))))))))))))
theorem qc9 : ∀ w ∈ wsL_law0_r10, w ∈ wsL_law := fun _ h => List.mem_append_left _ (List.mem_append_left _ (List.mem_append_left _ (List.mem_append_left _ (List.mem_append_left _ (List.mem_append_left _ (List.mem_append_left _ (List.mem_append_right _ (List.mem_append_right _ (List.mem_append_right _ (List.mem_append_right _ (List.mem_append_right _ (List.mem_append_right _ (List.mem_append_right _ (List.mem_append_right _ (List.mem_append_right _ (List.mem_append_left _ h))))))))))))))))
theorem qc10 : ∀ w ∈ wsL_law0_r11, w ∈ wsL_law := fun _ h => List.mem_append_left _ (List.mem_append_left _ (List.mem_append_left _ (List.mem_append_left _ (List.mem_append_left _ (List.mem_append_left _ (List.mem_append_left _ (List.mem_append_right _ (List.mem_append_right _ (List.mem_append_right _ (List.mem_append_right _ (List.mem_append_right _ (List.mem_append_right _ (List.mem_append_right _ (List.mem_append_right _ (List.mem_append_right _ (List.mem_append_right _ (List.mem_append_left _ h)))))))))))))))))
theorem qc11 : ∀ w ∈ wsL_law0_r12, w ∈ wsL_law := fun _ h => List.mem_append_left _ (List.mem_append_left _ (List.mem_append_left _ (List.mem_append_left _ (List.mem_append_left _ (List.mem_append_left _ (List.mem_append_left _ (List.mem_append_right _ (List.mem_append_right _ (List.mem_append_right _ (List.mem_append_right _ (List.mem_append_right _ (List.mem_append_right _ (List.mem_append_right _ (List.mem_append_right _ (List.mem_append_right _ (List.mem_append_right _ (List.mem_append_right _ (h))))))))))))))))))
theorem q0 : Cond.classLink RL 29 RX0 ∈ wsL_law := qc0 _ (List.mem_of_getElem? (i := 0) rfl)
theorem q1 : Cond.instantiable RX0 14 ∈ wsL_law := qc0 _ (List.mem_of_getElem? (i := 1) rfl)
theorem q2 : Cond.initialized RX0 ∈ wsL_law := qc0 _ (List.mem_of_getElem? (i := 2) rfl)
theorem q3 : Cond.classLink RL 94 "[[I" ∈ wsL_law := qc0 _ (List.mem_of_getElem? (i := 3) rfl)
theorem q4 : Cond.arrayClass .int ∈ wsL_law := qc0 _ (List.mem_of_getElem? (i := 4) rfl)
theorem q5 : Cond.methodLink RL 86 yX0_init ∈ wsL_law := qc0 _ (List.mem_of_getElem? (i := 5) rfl)
theorem q6 : Cond.instanceMethod yX0_init ∈ wsL_law := qc0 _ (List.mem_of_getElem? (i := 6) rfl)
theorem q7 : Cond.code yX0_init cX0_init 1 none ∈ wsL_law := qc0 _ (List.mem_of_getElem? (i := 7) rfl)
theorem q8 : Cond.methodLink RX0 1 objectInit ∈ wsL_law := qc0 _ (List.mem_of_getElem? (i := 8) rfl)
theorem q9 : Cond.instanceMethod objectInit ∈ wsL_law := qc0 _ (List.mem_of_getElem? (i := 9) rfl)
theorem q10 : Cond.code objectInit ⟨#[0xb1]⟩ 1 none ∈ wsL_law := qc0 _ (List.mem_of_getElem? (i := 10) rfl)
theorem q11 : Cond.fieldLink RX0 9 "ReaperWages" "kinds" "[I" ∈ wsL_law := qc0 _ (List.mem_of_getElem? (i := 11) rfl)
theorem q12 : Cond.fieldLink RX0 13 "ReaperWages" "bound" "[I" ∈ wsL_law := qc0 _ (List.mem_of_getElem? (i := 12) rfl)
theorem q13 : Cond.fieldLink RX0 16 "ReaperWages" "worked" "[I" ∈ wsL_law := qc0 _ (List.mem_of_getElem? (i := 13) rfl)
theorem q14 : Cond.fieldLink RX0 19 "ReaperWages" "lateMarks" "[I" ∈ wsL_law := qc0 _ (List.mem_of_getElem? (i := 14) rfl)
theorem q15 : Cond.fieldLink RX0 22 "ReaperWages" "debts" "[I" ∈ wsL_law := qc0 _ (List.mem_of_getElem? (i := 15) rfl)
theorem q16 : Cond.fieldLink RX0 25 "ReaperWages" "carried" "[I" ∈ wsL_law := qc0 _ (List.mem_of_getElem? (i := 16) rfl)
theorem q17 : Cond.fieldLink RX0 28 "ReaperWages" "paidOut" "[I" ∈ wsL_law := qc0 _ (List.mem_of_getElem? (i := 17) rfl)
theorem q18 : Cond.fieldLink RX0 31 "ReaperWages" "rates" "[I" ∈ wsL_law := qc0 _ (List.mem_of_getElem? (i := 18) rfl)
theorem q19 : Cond.fieldLink RX0 34 "ReaperWages" "purse" "[I" ∈ wsL_law := qc0 _ (List.mem_of_getElem? (i := 19) rfl)
theorem q20 : Cond.fieldLink RX0 37 "ReaperWages" "trialRates" "[I" ∈ wsL_law := qc0 _ (List.mem_of_getElem? (i := 20) rfl)
theorem q21 : Cond.fieldLink RX0 40 "ReaperWages" "trialPurse" "[I" ∈ wsL_law := qc0 _ (List.mem_of_getElem? (i := 21) rfl)
theorem q22 : Cond.fieldLink RX0 43 "ReaperWages" "handed" "[I" ∈ wsL_law := qc0 _ (List.mem_of_getElem? (i := 22) rfl)
theorem q23 : Cond.methodLink RL 87 yL_build ∈ wsL_law := qc0 _ (List.mem_of_getElem? (i := 23) rfl)
theorem q24 : Cond.static yL_build ∈ wsL_law := qc1 _ (List.mem_of_getElem? (i := 0) rfl)
theorem q25 : Cond.initialized RL ∈ wsL_law := qc1 _ (List.mem_of_getElem? (i := 1) rfl)
theorem q26 : Cond.code yL_build cL_build 5 (some (.object "ReaperWagesLaw$Sim")) ∈ wsL_law := qc1 _ (List.mem_of_getElem? (i := 2) rfl)
theorem q27 : Cond.classLink RL 16 RX2 ∈ wsL_law := qc1 _ (List.mem_of_getElem? (i := 3) rfl)
theorem q28 : Cond.instantiable RX2 5 ∈ wsL_law := qc1 _ (List.mem_of_getElem? (i := 4) rfl)
theorem q29 : Cond.initialized RX2 ∈ wsL_law := qc1 _ (List.mem_of_getElem? (i := 5) rfl)
theorem q30 : Cond.instanceMethod yX2_init ∈ wsL_law := qc1 _ (List.mem_of_getElem? (i := 6) rfl)
theorem q31 : Cond.code yX2_init cX2_init 1 none ∈ wsL_law := qc1 _ (List.mem_of_getElem? (i := 7) rfl)
theorem q32 : Cond.methodLink RX2 1 objectInit ∈ wsL_law := qc1 _ (List.mem_of_getElem? (i := 8) rfl)
theorem q33 : Cond.fieldLink RX2 7 "ReaperWagesLaw$Sim" "rates" "[I" ∈ wsL_law := qc1 _ (List.mem_of_getElem? (i := 9) rfl)
theorem q34 : Cond.fieldLink RX2 13 "ReaperWagesLaw$Sim" "chest" "[I" ∈ wsL_law := qc1 _ (List.mem_of_getElem? (i := 10) rfl)
theorem q35 : Cond.classLink RX2 16 RX1 ∈ wsL_law := qc1 _ (List.mem_of_getElem? (i := 11) rfl)
theorem q36 : Cond.fieldLink RX2 18 "ReaperWagesLaw$Sim" "all" "[LReaperWagesLaw$Reaper;" ∈ wsL_law := qc1 _ (List.mem_of_getElem? (i := 12) rfl)
theorem q37 : Cond.methodLink RL 78 yL_cell ∈ wsL_law := qc1 _ (List.mem_of_getElem? (i := 13) rfl)
theorem q38 : Cond.static yL_cell ∈ wsL_law := qc1 _ (List.mem_of_getElem? (i := 14) rfl)
theorem q39 : Cond.code yL_cell cL_cell 2 (some .int) ∈ wsL_law := qc1 _ (List.mem_of_getElem? (i := 15) rfl)
theorem q40 : Cond.constant RL 8 (790386105) ∈ wsL_law := qc1 _ (List.mem_of_getElem? (i := 16) rfl)
theorem q41 : Cond.methodLink RL 9 yL_below ∈ wsL_law := qc1 _ (List.mem_of_getElem? (i := 17) rfl)
theorem q42 : Cond.static yL_below ∈ wsL_law := qc1 _ (List.mem_of_getElem? (i := 18) rfl)
theorem q43 : Cond.code yL_below cL_below 2 (some .int) ∈ wsL_law := qc1 _ (List.mem_of_getElem? (i := 19) rfl)
theorem q44 : Cond.constant RL 7 (2147483647) ∈ wsL_law := qc1 _ (List.mem_of_getElem? (i := 20) rfl)
theorem q45 : Cond.methodLink RL 82 yL_act ∈ wsL_law := qc1 _ (List.mem_of_getElem? (i := 21) rfl)
theorem q46 : Cond.static yL_act ∈ wsL_law := qc1 _ (List.mem_of_getElem? (i := 22) rfl)
theorem q47 : Cond.code yL_act cL_act 15 (some .boolean) ∈ wsL_law := qc1 _ (List.mem_of_getElem? (i := 23) rfl)
theorem q48 : Cond.fieldLink RL 15 "ReaperWagesLaw$Sim" "all" "[LReaperWagesLaw$Reaper;" ∈ wsL_law := qc2 _ (List.mem_of_getElem? (i := 0) rfl)
theorem q49 : Cond.classLink RL 21 RX1 ∈ wsL_law := qc2 _ (List.mem_of_getElem? (i := 1) rfl)
theorem q50 : Cond.instantiable RX1 7 ∈ wsL_law := qc2 _ (List.mem_of_getElem? (i := 2) rfl)
theorem q51 : Cond.initialized RX1 ∈ wsL_law := qc2 _ (List.mem_of_getElem? (i := 3) rfl)
theorem q52 : Cond.fieldLink RL 24 "ReaperWagesLaw$Reaper" "kind" "I" ∈ wsL_law := qc2 _ (List.mem_of_getElem? (i := 4) rfl)
theorem q53 : Cond.fieldLink RL 34 "ReaperWagesLaw$Sim" "rates" "[I" ∈ wsL_law := qc2 _ (List.mem_of_getElem? (i := 5) rfl)
theorem q54 : Cond.fieldLink RL 44 "ReaperWagesLaw$Sim" "chest" "[I" ∈ wsL_law := qc2 _ (List.mem_of_getElem? (i := 6) rfl)
theorem q55 : Cond.fieldLink RL 50 "ReaperWagesLaw$Reaper" "sheaves" "I" ∈ wsL_law := qc2 _ (List.mem_of_getElem? (i := 7) rfl)
theorem q56 : Cond.fieldLink RL 56 "ReaperWagesLaw$Reaper" "debt" "I" ∈ wsL_law := qc2 _ (List.mem_of_getElem? (i := 8) rfl)
theorem q57 : Cond.fieldLink RL 67 "ReaperWagesLaw$Reaper" "hours" "I" ∈ wsL_law := qc2 _ (List.mem_of_getElem? (i := 9) rfl)
theorem q58 : Cond.fieldLink RL 70 "ReaperWagesLaw$Reaper" "late" "I" ∈ wsL_law := qc2 _ (List.mem_of_getElem? (i := 10) rfl)
theorem q59 : Cond.instanceMethod yX1_init ∈ wsL_law := qc2 _ (List.mem_of_getElem? (i := 11) rfl)
theorem q60 : Cond.code yX1_init cX1_init 1 none ∈ wsL_law := qc2 _ (List.mem_of_getElem? (i := 12) rfl)
theorem q61 : Cond.methodLink RX1 1 objectInit ∈ wsL_law := qc2 _ (List.mem_of_getElem? (i := 13) rfl)
theorem q62 : Cond.methodLink RL 28 yX0_hire ∈ wsL_law := qc2 _ (List.mem_of_getElem? (i := 14) rfl)
theorem q63 : Cond.instanceMethod yX0_hire ∈ wsL_law := qc2 _ (List.mem_of_getElem? (i := 15) rfl)
theorem q64 : Cond.selects RX0 yX0_hire yX0_hire ∈ wsL_law := qc2 _ (List.mem_of_getElem? (i := 16) rfl)
theorem q65 : Cond.code yX0_hire cX0_hire 2 (some .int) ∈ wsL_law := qc2 _ (List.mem_of_getElem? (i := 17) rfl)
theorem q66 : Cond.fieldLink RX0 50 "ReaperWages" "hired" "I" ∈ wsL_law := qc2 _ (List.mem_of_getElem? (i := 18) rfl)
theorem q67 : Cond.methodLink RX0 46 yX0_requireArgument ∈ wsL_law := qc2 _ (List.mem_of_getElem? (i := 19) rfl)
theorem q68 : Cond.static yX0_requireArgument ∈ wsL_law := qc2 _ (List.mem_of_getElem? (i := 20) rfl)
theorem q69 : Cond.code yX0_requireArgument cX0_requireArgument 3 none ∈ wsL_law := qc2 _ (List.mem_of_getElem? (i := 21) rfl)
theorem q70 : Cond.classLink RX0 163 "java/lang/IllegalArgumentException" ∈ wsL_law := qc2 _ (List.mem_of_getElem? (i := 22) rfl)
theorem q71 : Cond.initialized "java/lang/IllegalArgumentException" ∈ wsL_law := qc2 _ (List.mem_of_getElem? (i := 23) rfl)
theorem q72 : Cond.methodLink RX0 54 yX0_requireState ∈ wsL_law := qc3 _ (List.mem_of_getElem? (i := 0) rfl)
theorem q73 : Cond.static yX0_requireState ∈ wsL_law := qc3 _ (List.mem_of_getElem? (i := 1) rfl)
theorem q74 : Cond.code yX0_requireState cX0_requireState 1 none ∈ wsL_law := qc3 _ (List.mem_of_getElem? (i := 2) rfl)
theorem q75 : Cond.classLink RX0 168 "java/lang/IllegalStateException" ∈ wsL_law := qc3 _ (List.mem_of_getElem? (i := 3) rfl)
theorem q76 : Cond.initialized "java/lang/IllegalStateException" ∈ wsL_law := qc3 _ (List.mem_of_getElem? (i := 4) rfl)
theorem q77 : Cond.methodLink RL 38 yL_rate ∈ wsL_law := qc3 _ (List.mem_of_getElem? (i := 5) rfl)
theorem q78 : Cond.static yL_rate ∈ wsL_law := qc3 _ (List.mem_of_getElem? (i := 6) rfl)
theorem q79 : Cond.code yL_rate cL_rate 4 (some .int) ∈ wsL_law := qc3 _ (List.mem_of_getElem? (i := 7) rfl)
theorem q80 : Cond.methodLink RL 41 yX0_setRate ∈ wsL_law := qc3 _ (List.mem_of_getElem? (i := 8) rfl)
theorem q81 : Cond.instanceMethod yX0_setRate ∈ wsL_law := qc3 _ (List.mem_of_getElem? (i := 9) rfl)
theorem q82 : Cond.selects RX0 yX0_setRate yX0_setRate ∈ wsL_law := qc3 _ (List.mem_of_getElem? (i := 10) rfl)
theorem q83 : Cond.code yX0_setRate cX0_setRate 4 (some .int) ∈ wsL_law := qc3 _ (List.mem_of_getElem? (i := 11) rfl)
theorem q84 : Cond.methodLink RX0 58 yX0_requireRate ∈ wsL_law := qc3 _ (List.mem_of_getElem? (i := 12) rfl)
theorem q85 : Cond.static yX0_requireRate ∈ wsL_law := qc3 _ (List.mem_of_getElem? (i := 13) rfl)
theorem q86 : Cond.code yX0_requireRate cX0_requireRate 2 none ∈ wsL_law := qc3 _ (List.mem_of_getElem? (i := 14) rfl)
theorem q87 : Cond.fieldLink RX0 114 "ReaperWages" "LEAST_RATE" "[I" ∈ wsL_law := qc3 _ (List.mem_of_getElem? (i := 15) rfl)
theorem q88 : Cond.fieldLink RX0 117 "ReaperWages" "MOST_RATE" "[I" ∈ wsL_law := qc3 _ (List.mem_of_getElem? (i := 16) rfl)
theorem q89 : Cond.methodLink RX0 62 yX0_requireIndex ∈ wsL_law := qc3 _ (List.mem_of_getElem? (i := 17) rfl)
theorem q90 : Cond.static yX0_requireIndex ∈ wsL_law := qc3 _ (List.mem_of_getElem? (i := 18) rfl)
theorem q91 : Cond.code yX0_requireIndex cX0_requireIndex 2 none ∈ wsL_law := qc3 _ (List.mem_of_getElem? (i := 19) rfl)
theorem q92 : Cond.classLink RX0 156 "java/lang/IndexOutOfBoundsException" ∈ wsL_law := qc3 _ (List.mem_of_getElem? (i := 20) rfl)
theorem q93 : Cond.initialized "java/lang/IndexOutOfBoundsException" ∈ wsL_law := qc3 _ (List.mem_of_getElem? (i := 21) rfl)
theorem q94 : Cond.methodLink RL 47 yX0_fill ∈ wsL_law := qc3 _ (List.mem_of_getElem? (i := 22) rfl)
theorem q95 : Cond.instanceMethod yX0_fill ∈ wsL_law := qc3 _ (List.mem_of_getElem? (i := 23) rfl)
theorem q96 : Cond.selects RX0 yX0_fill yX0_fill ∈ wsL_law := qc4 _ (List.mem_of_getElem? (i := 0) rfl)
theorem q97 : Cond.code yX0_fill cX0_fill 3 (some .int) ∈ wsL_law := qc4 _ (List.mem_of_getElem? (i := 1) rfl)
theorem q98 : Cond.methodLink RL 53 yX0_bind ∈ wsL_law := qc4 _ (List.mem_of_getElem? (i := 2) rfl)
theorem q99 : Cond.instanceMethod yX0_bind ∈ wsL_law := qc4 _ (List.mem_of_getElem? (i := 3) rfl)
theorem q100 : Cond.selects RX0 yX0_bind yX0_bind ∈ wsL_law := qc4 _ (List.mem_of_getElem? (i := 4) rfl)
theorem q101 : Cond.code yX0_bind cX0_bind 3 (some .int) ∈ wsL_law := qc4 _ (List.mem_of_getElem? (i := 5) rfl)
theorem q102 : Cond.methodLink RL 59 yX0_lend ∈ wsL_law := qc4 _ (List.mem_of_getElem? (i := 6) rfl)
theorem q103 : Cond.instanceMethod yX0_lend ∈ wsL_law := qc4 _ (List.mem_of_getElem? (i := 7) rfl)
theorem q104 : Cond.selects RX0 yX0_lend yX0_lend ∈ wsL_law := qc4 _ (List.mem_of_getElem? (i := 8) rfl)
theorem q105 : Cond.code yX0_lend cX0_lend 3 (some .int) ∈ wsL_law := qc4 _ (List.mem_of_getElem? (i := 9) rfl)
theorem q106 : Cond.methodLink RL 62 yX0_pay ∈ wsL_law := qc4 _ (List.mem_of_getElem? (i := 10) rfl)
theorem q107 : Cond.instanceMethod yX0_pay ∈ wsL_law := qc4 _ (List.mem_of_getElem? (i := 11) rfl)
theorem q108 : Cond.selects RX0 yX0_pay yX0_pay ∈ wsL_law := qc4 _ (List.mem_of_getElem? (i := 12) rfl)
theorem q109 : Cond.code yX0_pay cX0_pay 3 (some .int) ∈ wsL_law := qc4 _ (List.mem_of_getElem? (i := 13) rfl)
theorem q110 : Cond.fieldLink RX0 69 "ReaperWages" "week" "I" ∈ wsL_law := qc4 _ (List.mem_of_getElem? (i := 14) rfl)
theorem q111 : Cond.methodLink RX0 65 yX0_settle ∈ wsL_law := qc4 _ (List.mem_of_getElem? (i := 15) rfl)
theorem q112 : Cond.instanceMethod yX0_settle ∈ wsL_law := qc4 _ (List.mem_of_getElem? (i := 16) rfl)
theorem q113 : Cond.selects RX0 yX0_settle yX0_settle ∈ wsL_law := qc4 _ (List.mem_of_getElem? (i := 17) rfl)
theorem q114 : Cond.code yX0_settle cX0_settle 5 (some .int) ∈ wsL_law := qc4 _ (List.mem_of_getElem? (i := 18) rfl)
theorem q115 : Cond.methodLink RX0 85 yX0_coming ∈ wsL_law := qc4 _ (List.mem_of_getElem? (i := 19) rfl)
theorem q116 : Cond.instanceMethod yX0_coming ∈ wsL_law := qc4 _ (List.mem_of_getElem? (i := 20) rfl)
theorem q117 : Cond.selects RX0 yX0_coming yX0_coming ∈ wsL_law := qc4 _ (List.mem_of_getElem? (i := 21) rfl)
theorem q118 : Cond.code yX0_coming cX0_coming 2 (some .int) ∈ wsL_law := qc4 _ (List.mem_of_getElem? (i := 22) rfl)
theorem q119 : Cond.methodLink RX0 82 yX0_weekWage ∈ wsL_law := qc4 _ (List.mem_of_getElem? (i := 23) rfl)
theorem q120 : Cond.instanceMethod yX0_weekWage ∈ wsL_law := qc5 _ (List.mem_of_getElem? (i := 0) rfl)
theorem q121 : Cond.selects RX0 yX0_weekWage yX0_weekWage ∈ wsL_law := qc5 _ (List.mem_of_getElem? (i := 1) rfl)
theorem q122 : Cond.code yX0_weekWage cX0_weekWage 3 (some .int) ∈ wsL_law := qc5 _ (List.mem_of_getElem? (i := 2) rfl)
theorem q123 : Cond.methodLink RX0 147 Lib.Math.max.name ∈ wsL_law := qc5 _ (List.mem_of_getElem? (i := 3) rfl)
theorem q124 : Cond.static Lib.Math.max.name ∈ wsL_law := qc5 _ (List.mem_of_getElem? (i := 4) rfl)
theorem q125 : Cond.initialized "java/lang/Math" ∈ wsL_law := qc5 _ (List.mem_of_getElem? (i := 5) rfl)
theorem q126 : Cond.code Lib.Math.max.name Lib.Math.max.code 2 (some .int) ∈ wsL_law := qc5 _ (List.mem_of_getElem? (i := 6) rfl)
theorem q127 : Cond.methodLink RX0 75 yX0_wageByPieces ∈ wsL_law := qc5 _ (List.mem_of_getElem? (i := 7) rfl)
theorem q128 : Cond.instanceMethod yX0_wageByPieces ∈ wsL_law := qc5 _ (List.mem_of_getElem? (i := 8) rfl)
theorem q129 : Cond.selects RX0 yX0_wageByPieces yX0_wageByPieces ∈ wsL_law := qc5 _ (List.mem_of_getElem? (i := 9) rfl)
theorem q130 : Cond.code yX0_wageByPieces cX0_wageByPieces 8 (some .int) ∈ wsL_law := qc5 _ (List.mem_of_getElem? (i := 10) rfl)
theorem q131 : Cond.methodLink RX0 142 Lib.Math.min.name ∈ wsL_law := qc5 _ (List.mem_of_getElem? (i := 11) rfl)
theorem q132 : Cond.static Lib.Math.min.name ∈ wsL_law := qc5 _ (List.mem_of_getElem? (i := 12) rfl)
theorem q133 : Cond.code Lib.Math.min.name Lib.Math.min.code 2 (some .int) ∈ wsL_law := qc5 _ (List.mem_of_getElem? (i := 13) rfl)
theorem q134 : Cond.constantLong RX0 145 (1000) ∈ wsL_law := qc5 _ (List.mem_of_getElem? (i := 14) rfl)
theorem q135 : Cond.methodLink RX0 79 yX0_wageByHours ∈ wsL_law := qc5 _ (List.mem_of_getElem? (i := 15) rfl)
theorem q136 : Cond.instanceMethod yX0_wageByHours ∈ wsL_law := qc5 _ (List.mem_of_getElem? (i := 16) rfl)
theorem q137 : Cond.selects RX0 yX0_wageByHours yX0_wageByHours ∈ wsL_law := qc5 _ (List.mem_of_getElem? (i := 17) rfl)
theorem q138 : Cond.code yX0_wageByHours cX0_wageByHours 3 (some .int) ∈ wsL_law := qc5 _ (List.mem_of_getElem? (i := 18) rfl)
theorem q139 : Cond.methodLink RX0 72 yX0_hoursThatCount ∈ wsL_law := qc5 _ (List.mem_of_getElem? (i := 19) rfl)
theorem q140 : Cond.instanceMethod yX0_hoursThatCount ∈ wsL_law := qc5 _ (List.mem_of_getElem? (i := 20) rfl)
theorem q141 : Cond.selects RX0 yX0_hoursThatCount yX0_hoursThatCount ∈ wsL_law := qc5 _ (List.mem_of_getElem? (i := 21) rfl)
theorem q142 : Cond.code yX0_hoursThatCount cX0_hoursThatCount 5 (some .int) ∈ wsL_law := qc5 _ (List.mem_of_getElem? (i := 22) rfl)
theorem q143 : Cond.methodLink RX0 88 yX0_takenBack ∈ wsL_law := qc5 _ (List.mem_of_getElem? (i := 23) rfl)
theorem q144 : Cond.instanceMethod yX0_takenBack ∈ wsL_law := qc6 _ (List.mem_of_getElem? (i := 0) rfl)
theorem q145 : Cond.selects RX0 yX0_takenBack yX0_takenBack ∈ wsL_law := qc6 _ (List.mem_of_getElem? (i := 1) rfl)
theorem q146 : Cond.code yX0_takenBack cX0_takenBack 3 (some .int) ∈ wsL_law := qc6 _ (List.mem_of_getElem? (i := 2) rfl)
theorem q147 : Cond.methodLink RX0 150 yX0_wholeParts ∈ wsL_law := qc6 _ (List.mem_of_getElem? (i := 3) rfl)
theorem q148 : Cond.static yX0_wholeParts ∈ wsL_law := qc6 _ (List.mem_of_getElem? (i := 4) rfl)
theorem q149 : Cond.code yX0_wholeParts cX0_wholeParts 2 (some .int) ∈ wsL_law := qc6 _ (List.mem_of_getElem? (i := 5) rfl)
theorem q150 : Cond.methodLink RX0 99 yX0_handOut ∈ wsL_law := qc6 _ (List.mem_of_getElem? (i := 6) rfl)
theorem q151 : Cond.instanceMethod yX0_handOut ∈ wsL_law := qc6 _ (List.mem_of_getElem? (i := 7) rfl)
theorem q152 : Cond.selects RX0 yX0_handOut yX0_handOut ∈ wsL_law := qc6 _ (List.mem_of_getElem? (i := 8) rfl)
theorem q153 : Cond.code yX0_handOut cX0_handOut 6 (some .int) ∈ wsL_law := qc6 _ (List.mem_of_getElem? (i := 9) rfl)
theorem q154 : Cond.fieldLink RX0 153 "ReaperWages" "COIN_WORTH" "[I" ∈ wsL_law := qc6 _ (List.mem_of_getElem? (i := 10) rfl)
theorem q155 : Cond.methodLink RL 66 yX2_pay ∈ wsL_law := qc6 _ (List.mem_of_getElem? (i := 11) rfl)
theorem q156 : Cond.instanceMethod yX2_pay ∈ wsL_law := qc6 _ (List.mem_of_getElem? (i := 12) rfl)
theorem q157 : Cond.selects RX2 yX2_pay yX2_pay ∈ wsL_law := qc6 _ (List.mem_of_getElem? (i := 13) rfl)
theorem q158 : Cond.code yX2_pay cX2_pay 8 (some .int) ∈ wsL_law := qc6 _ (List.mem_of_getElem? (i := 14) rfl)
theorem q159 : Cond.classLink RX2 46 "[[I" ∈ wsL_law := qc6 _ (List.mem_of_getElem? (i := 15) rfl)
theorem q160 : Cond.fieldLink RX2 48 "ReaperWagesLaw$Sim" "handed" "[[I" ∈ wsL_law := qc6 _ (List.mem_of_getElem? (i := 16) rfl)
theorem q161 : Cond.fieldLink RX2 40 "ReaperWagesLaw$Reaper" "carried" "I" ∈ wsL_law := qc6 _ (List.mem_of_getElem? (i := 17) rfl)
theorem q162 : Cond.fieldLink RX2 43 "ReaperWagesLaw$Reaper" "debt" "I" ∈ wsL_law := qc6 _ (List.mem_of_getElem? (i := 18) rfl)
theorem q163 : Cond.fieldLink RX2 55 "ReaperWagesLaw$Reaper" "paid" "I" ∈ wsL_law := qc6 _ (List.mem_of_getElem? (i := 19) rfl)
theorem q164 : Cond.fieldLink RX2 58 "ReaperWagesLaw$Reaper" "sheaves" "I" ∈ wsL_law := qc6 _ (List.mem_of_getElem? (i := 20) rfl)
theorem q165 : Cond.fieldLink RX2 61 "ReaperWagesLaw$Reaper" "hours" "I" ∈ wsL_law := qc6 _ (List.mem_of_getElem? (i := 21) rfl)
theorem q166 : Cond.fieldLink RX2 64 "ReaperWagesLaw$Reaper" "late" "I" ∈ wsL_law := qc6 _ (List.mem_of_getElem? (i := 22) rfl)
theorem q167 : Cond.fieldLink RX2 23 "ReaperWagesLaw$Sim" "week" "I" ∈ wsL_law := qc6 _ (List.mem_of_getElem? (i := 23) rfl)
theorem q168 : Cond.methodLink RX2 51 yX2_back ∈ wsL_law := qc7 _ (List.mem_of_getElem? (i := 0) rfl)
theorem q169 : Cond.instanceMethod yX2_back ∈ wsL_law := qc7 _ (List.mem_of_getElem? (i := 1) rfl)
theorem q170 : Cond.selects RX2 yX2_back yX2_back ∈ wsL_law := qc7 _ (List.mem_of_getElem? (i := 2) rfl)
theorem q171 : Cond.code yX2_back cX2_back 3 (some .int) ∈ wsL_law := qc7 _ (List.mem_of_getElem? (i := 3) rfl)
theorem q172 : Cond.methodLink RX2 36 yX1_wage ∈ wsL_law := qc7 _ (List.mem_of_getElem? (i := 4) rfl)
theorem q173 : Cond.instanceMethod yX1_wage ∈ wsL_law := qc7 _ (List.mem_of_getElem? (i := 5) rfl)
theorem q174 : Cond.selects RX1 yX1_wage yX1_wage ∈ wsL_law := qc7 _ (List.mem_of_getElem? (i := 6) rfl)
theorem q175 : Cond.code yX1_wage cX1_wage 4 (some .int) ∈ wsL_law := qc7 _ (List.mem_of_getElem? (i := 7) rfl)
theorem q176 : Cond.fieldLink RX1 10 "ReaperWagesLaw$Reaper" "kind" "I" ∈ wsL_law := qc7 _ (List.mem_of_getElem? (i := 8) rfl)
theorem q177 : Cond.methodLink RX1 32 yX1_pieces ∈ wsL_law := qc7 _ (List.mem_of_getElem? (i := 9) rfl)
theorem q178 : Cond.instanceMethod yX1_pieces ∈ wsL_law := qc7 _ (List.mem_of_getElem? (i := 10) rfl)
theorem q179 : Cond.selects RX1 yX1_pieces yX1_pieces ∈ wsL_law := qc7 _ (List.mem_of_getElem? (i := 11) rfl)
theorem q180 : Cond.code yX1_pieces cX1_pieces 3 (some .int) ∈ wsL_law := qc7 _ (List.mem_of_getElem? (i := 12) rfl)
theorem q181 : Cond.fieldLink RX1 14 "ReaperWagesLaw$Reaper" "sheaves" "I" ∈ wsL_law := qc7 _ (List.mem_of_getElem? (i := 13) rfl)
theorem q182 : Cond.methodLink RX1 36 yX1_counting ∈ wsL_law := qc7 _ (List.mem_of_getElem? (i := 14) rfl)
theorem q183 : Cond.instanceMethod yX1_counting ∈ wsL_law := qc7 _ (List.mem_of_getElem? (i := 15) rfl)
theorem q184 : Cond.selects RX1 yX1_counting yX1_counting ∈ wsL_law := qc7 _ (List.mem_of_getElem? (i := 16) rfl)
theorem q185 : Cond.code yX1_counting cX1_counting 2 (some .int) ∈ wsL_law := qc7 _ (List.mem_of_getElem? (i := 17) rfl)
theorem q186 : Cond.fieldLink RX1 17 "ReaperWagesLaw$Reaper" "hours" "I" ∈ wsL_law := qc7 _ (List.mem_of_getElem? (i := 18) rfl)
theorem q187 : Cond.fieldLink RX1 20 "ReaperWagesLaw$Reaper" "late" "I" ∈ wsL_law := qc7 _ (List.mem_of_getElem? (i := 19) rfl)
theorem q188 : Cond.methodLink RL 73 yX0_work ∈ wsL_law := qc7 _ (List.mem_of_getElem? (i := 20) rfl)
theorem q189 : Cond.instanceMethod yX0_work ∈ wsL_law := qc7 _ (List.mem_of_getElem? (i := 21) rfl)
theorem q190 : Cond.selects RX0 yX0_work yX0_work ∈ wsL_law := qc7 _ (List.mem_of_getElem? (i := 22) rfl)
theorem q191 : Cond.code yX0_work cX0_work 4 (some .int) ∈ wsL_law := qc7 _ (List.mem_of_getElem? (i := 23) rfl)
theorem q192 : Cond.methodLink RL 91 yX0_count ∈ wsL_law := qc8 _ (List.mem_of_getElem? (i := 0) rfl)
theorem q193 : Cond.instanceMethod yX0_count ∈ wsL_law := qc8 _ (List.mem_of_getElem? (i := 1) rfl)
theorem q194 : Cond.selects RX0 yX0_count yX0_count ∈ wsL_law := qc8 _ (List.mem_of_getElem? (i := 2) rfl)
theorem q195 : Cond.code yX0_count cX0_count 2 (some .int) ∈ wsL_law := qc8 _ (List.mem_of_getElem? (i := 3) rfl)
theorem q196 : Cond.methodLink RX0 103 yX0_sumOfHired ∈ wsL_law := qc8 _ (List.mem_of_getElem? (i := 4) rfl)
theorem q197 : Cond.instanceMethod yX0_sumOfHired ∈ wsL_law := qc8 _ (List.mem_of_getElem? (i := 5) rfl)
theorem q198 : Cond.selects RX0 yX0_sumOfHired yX0_sumOfHired ∈ wsL_law := qc8 _ (List.mem_of_getElem? (i := 6) rfl)
theorem q199 : Cond.code yX0_sumOfHired cX0_sumOfHired 4 (some .int) ∈ wsL_law := qc8 _ (List.mem_of_getElem? (i := 7) rfl)
theorem q200 : Cond.methodLink RX0 107 yX0_worthOfPurse ∈ wsL_law := qc8 _ (List.mem_of_getElem? (i := 8) rfl)
theorem q201 : Cond.instanceMethod yX0_worthOfPurse ∈ wsL_law := qc8 _ (List.mem_of_getElem? (i := 9) rfl)
theorem q202 : Cond.selects RX0 yX0_worthOfPurse yX0_worthOfPurse ∈ wsL_law := qc8 _ (List.mem_of_getElem? (i := 10) rfl)
theorem q203 : Cond.code yX0_worthOfPurse cX0_worthOfPurse 3 (some .int) ∈ wsL_law := qc8 _ (List.mem_of_getElem? (i := 11) rfl)
theorem q204 : Cond.methodLink RX0 111 yX0_allWages ∈ wsL_law := qc8 _ (List.mem_of_getElem? (i := 12) rfl)
theorem q205 : Cond.instanceMethod yX0_allWages ∈ wsL_law := qc8 _ (List.mem_of_getElem? (i := 13) rfl)
theorem q206 : Cond.selects RX0 yX0_allWages yX0_allWages ∈ wsL_law := qc8 _ (List.mem_of_getElem? (i := 14) rfl)
theorem q207 : Cond.code yX0_allWages cX0_allWages 4 (some .int) ∈ wsL_law := qc8 _ (List.mem_of_getElem? (i := 15) rfl)
theorem q208 : Cond.methodLink RL 96 yX0_coins ∈ wsL_law := qc8 _ (List.mem_of_getElem? (i := 16) rfl)
theorem q209 : Cond.instanceMethod yX0_coins ∈ wsL_law := qc8 _ (List.mem_of_getElem? (i := 17) rfl)
theorem q210 : Cond.selects RX0 yX0_coins yX0_coins ∈ wsL_law := qc8 _ (List.mem_of_getElem? (i := 18) rfl)
theorem q211 : Cond.code yX0_coins cX0_coins 4 (some .int) ∈ wsL_law := qc8 _ (List.mem_of_getElem? (i := 19) rfl)
theorem q212 : Cond.methodLink RX0 95 yX0_copyRow ∈ wsL_law := qc8 _ (List.mem_of_getElem? (i := 20) rfl)
theorem q213 : Cond.static yX0_copyRow ∈ wsL_law := qc8 _ (List.mem_of_getElem? (i := 21) rfl)
theorem q214 : Cond.code yX0_copyRow cX0_copyRow 4 none ∈ wsL_law := qc8 _ (List.mem_of_getElem? (i := 22) rfl)
theorem q215 : Cond.methodLink RX0 92 yX0_restToPay ∈ wsL_law := qc8 _ (List.mem_of_getElem? (i := 23) rfl)
theorem q216 : Cond.instanceMethod yX0_restToPay ∈ wsL_law := qc9 _ (List.mem_of_getElem? (i := 0) rfl)
theorem q217 : Cond.selects RX0 yX0_restToPay yX0_restToPay ∈ wsL_law := qc9 _ (List.mem_of_getElem? (i := 1) rfl)
theorem q218 : Cond.code yX0_restToPay cX0_restToPay 3 (some .int) ∈ wsL_law := qc9 _ (List.mem_of_getElem? (i := 2) rfl)
theorem q219 : Cond.methodLink RL 99 yX0_told ∈ wsL_law := qc9 _ (List.mem_of_getElem? (i := 3) rfl)
theorem q220 : Cond.instanceMethod yX0_told ∈ wsL_law := qc9 _ (List.mem_of_getElem? (i := 4) rfl)
theorem q221 : Cond.selects RX0 yX0_told yX0_told ∈ wsL_law := qc9 _ (List.mem_of_getElem? (i := 5) rfl)
theorem q222 : Cond.code yX0_told cX0_told 3 (some .int) ∈ wsL_law := qc9 _ (List.mem_of_getElem? (i := 6) rfl)
theorem q223 : Cond.methodLink RL 102 yX0_wage ∈ wsL_law := qc9 _ (List.mem_of_getElem? (i := 7) rfl)
theorem q224 : Cond.instanceMethod yX0_wage ∈ wsL_law := qc9 _ (List.mem_of_getElem? (i := 8) rfl)
theorem q225 : Cond.selects RX0 yX0_wage yX0_wage ∈ wsL_law := qc9 _ (List.mem_of_getElem? (i := 9) rfl)
theorem q226 : Cond.code yX0_wage cX0_wage 3 (some .int) ∈ wsL_law := qc9 _ (List.mem_of_getElem? (i := 10) rfl)
theorem q227 : Cond.methodLink RL 105 yX0_mean ∈ wsL_law := qc9 _ (List.mem_of_getElem? (i := 11) rfl)
theorem q228 : Cond.instanceMethod yX0_mean ∈ wsL_law := qc9 _ (List.mem_of_getElem? (i := 12) rfl)
theorem q229 : Cond.selects RX0 yX0_mean yX0_mean ∈ wsL_law := qc9 _ (List.mem_of_getElem? (i := 13) rfl)
theorem q230 : Cond.code yX0_mean cX0_mean 1 (some .double) ∈ wsL_law := qc9 _ (List.mem_of_getElem? (i := 14) rfl)
theorem q231 : Cond.methodLink RL 109 yX0_chest ∈ wsL_law := qc9 _ (List.mem_of_getElem? (i := 15) rfl)
theorem q232 : Cond.instanceMethod yX0_chest ∈ wsL_law := qc9 _ (List.mem_of_getElem? (i := 16) rfl)
theorem q233 : Cond.selects RX0 yX0_chest yX0_chest ∈ wsL_law := qc9 _ (List.mem_of_getElem? (i := 17) rfl)
theorem q234 : Cond.code yX0_chest cX0_chest 2 (some .int) ∈ wsL_law := qc9 _ (List.mem_of_getElem? (i := 18) rfl)
theorem q235 : Cond.methodLink RL 111 yX0_lacks ∈ wsL_law := qc9 _ (List.mem_of_getElem? (i := 19) rfl)
theorem q236 : Cond.instanceMethod yX0_lacks ∈ wsL_law := qc9 _ (List.mem_of_getElem? (i := 20) rfl)
theorem q237 : Cond.selects RX0 yX0_lacks yX0_lacks ∈ wsL_law := qc9 _ (List.mem_of_getElem? (i := 21) rfl)
theorem q238 : Cond.code yX0_lacks cX0_lacks 4 (some .int) ∈ wsL_law := qc9 _ (List.mem_of_getElem? (i := 22) rfl)
theorem q239 : Cond.methodLink RL 114 yX2_isSame ∈ wsL_law := qc9 _ (List.mem_of_getElem? (i := 23) rfl)
theorem q240 : Cond.instanceMethod yX2_isSame ∈ wsL_law := qc10 _ (List.mem_of_getElem? (i := 0) rfl)
theorem q241 : Cond.selects RX2 yX2_isSame yX2_isSame ∈ wsL_law := qc10 _ (List.mem_of_getElem? (i := 1) rfl)
theorem q242 : Cond.code yX2_isSame cX2_isSame 12 (some .boolean) ∈ wsL_law := qc10 _ (List.mem_of_getElem? (i := 2) rfl)
theorem q243 : Cond.fieldLink RX2 74 "ReaperWagesLaw$Reaper" "kind" "I" ∈ wsL_law := qc10 _ (List.mem_of_getElem? (i := 3) rfl)
theorem q244 : Cond.methodLink RX2 67 yX2_copy ∈ wsL_law := qc10 _ (List.mem_of_getElem? (i := 4) rfl)
theorem q245 : Cond.instanceMethod yX2_copy ∈ wsL_law := qc10 _ (List.mem_of_getElem? (i := 5) rfl)
theorem q246 : Cond.selects RX2 yX2_copy yX2_copy ∈ wsL_law := qc10 _ (List.mem_of_getElem? (i := 6) rfl)
theorem q247 : Cond.code yX2_copy cX2_copy 3 (some (.object "ReaperWagesLaw$Sim")) ∈ wsL_law := qc10 _ (List.mem_of_getElem? (i := 7) rfl)
theorem q248 : Cond.classLink RX2 8 RX2 ∈ wsL_law := qc10 _ (List.mem_of_getElem? (i := 8) rfl)
theorem q249 : Cond.methodLink RX2 27 ⟨"[I", "clone", "()Ljava/lang/Object;"⟩ ∈ wsL_law := qc10 _ (List.mem_of_getElem? (i := 9) rfl)
theorem q250 : Cond.sameMethod "[I" "java/lang/Object" "clone" "()Ljava/lang/Object;" ∈ wsL_law := qc10 _ (List.mem_of_getElem? (i := 10) rfl)
theorem q251 : Cond.native ⟨"java/lang/Object", "clone", "()Ljava/lang/Object;"⟩ ∈ wsL_law := qc10 _ (List.mem_of_getElem? (i := 11) rfl)
theorem q252 : Cond.instanceMethod ⟨"java/lang/Object", "clone", "()Ljava/lang/Object;"⟩ ∈ wsL_law := qc10 _ (List.mem_of_getElem? (i := 12) rfl)
theorem q253 : Cond.selects "[I" ⟨"[I", "clone", "()Ljava/lang/Object;"⟩ ⟨"java/lang/Object", "clone", "()Ljava/lang/Object;"⟩ ∈ wsL_law := qc10 _ (List.mem_of_getElem? (i := 13) rfl)
theorem q254 : Cond.classLink RX2 28 "[I" ∈ wsL_law := qc10 _ (List.mem_of_getElem? (i := 14) rfl)
theorem q255 : Cond.methodLink RX2 22 yX2_init ∈ wsL_law := qc10 _ (List.mem_of_getElem? (i := 15) rfl)
theorem q256 : Cond.methodLink RX2 32 yX1_copy ∈ wsL_law := qc10 _ (List.mem_of_getElem? (i := 16) rfl)
theorem q257 : Cond.instanceMethod yX1_copy ∈ wsL_law := qc10 _ (List.mem_of_getElem? (i := 17) rfl)
theorem q258 : Cond.selects RX1 yX1_copy yX1_copy ∈ wsL_law := qc10 _ (List.mem_of_getElem? (i := 18) rfl)
theorem q259 : Cond.code yX1_copy cX1_copy 2 (some (.object "ReaperWagesLaw$Reaper")) ∈ wsL_law := qc10 _ (List.mem_of_getElem? (i := 19) rfl)
theorem q260 : Cond.classLink RX1 7 RX1 ∈ wsL_law := qc10 _ (List.mem_of_getElem? (i := 20) rfl)
theorem q261 : Cond.fieldLink RX1 23 "ReaperWagesLaw$Reaper" "debt" "I" ∈ wsL_law := qc10 _ (List.mem_of_getElem? (i := 21) rfl)
theorem q262 : Cond.fieldLink RX1 26 "ReaperWagesLaw$Reaper" "carried" "I" ∈ wsL_law := qc10 _ (List.mem_of_getElem? (i := 22) rfl)
theorem q263 : Cond.fieldLink RX1 29 "ReaperWagesLaw$Reaper" "paid" "I" ∈ wsL_law := qc10 _ (List.mem_of_getElem? (i := 23) rfl)
theorem q264 : Cond.methodLink RX1 9 yX1_init ∈ wsL_law := qc11 _ (List.mem_of_getElem? (i := 0) rfl)
theorem q265 : Cond.methodLink RX2 70 yX2_pay ∈ wsL_law := qc11 _ (List.mem_of_getElem? (i := 1) rfl)
theorem q266 : Cond.methodLink RX2 77 yX1_counting ∈ wsL_law := qc11 _ (List.mem_of_getElem? (i := 2) rfl)
theorem q267 : Cond.methodLink RX2 80 yX0_told ∈ wsL_law := qc11 _ (List.mem_of_getElem? (i := 3) rfl)
theorem q268 : Cond.methodLink RX2 86 yX1_pieces ∈ wsL_law := qc11 _ (List.mem_of_getElem? (i := 4) rfl)
theorem q269 : Cond.methodLink RX2 89 yX0_wage ∈ wsL_law := qc11 _ (List.mem_of_getElem? (i := 5) rfl)
theorem q270 : Cond.methodLink RX2 91 yX0_coins ∈ wsL_law := qc11 _ (List.mem_of_getElem? (i := 6) rfl)
theorem q271 : Cond.methodLink RX2 94 yX0_rate ∈ wsL_law := qc11 _ (List.mem_of_getElem? (i := 7) rfl)
theorem q272 : Cond.instanceMethod yX0_rate ∈ wsL_law := qc11 _ (List.mem_of_getElem? (i := 8) rfl)
theorem q273 : Cond.selects RX0 yX0_rate yX0_rate ∈ wsL_law := qc11 _ (List.mem_of_getElem? (i := 9) rfl)
theorem q274 : Cond.code yX0_rate cX0_rate 2 (some .int) ∈ wsL_law := qc11 _ (List.mem_of_getElem? (i := 10) rfl)
theorem q275 : Cond.methodLink RX2 98 yX0_chest ∈ wsL_law := qc11 _ (List.mem_of_getElem? (i := 11) rfl)
theorem q276 : Cond.methodLink RX2 100 yX2_wages ∈ wsL_law := qc11 _ (List.mem_of_getElem? (i := 12) rfl)
theorem q277 : Cond.instanceMethod yX2_wages ∈ wsL_law := qc11 _ (List.mem_of_getElem? (i := 13) rfl)
theorem q278 : Cond.selects RX2 yX2_wages yX2_wages ∈ wsL_law := qc11 _ (List.mem_of_getElem? (i := 14) rfl)
theorem q279 : Cond.code yX2_wages cX2_wages 6 (some .int) ∈ wsL_law := qc11 _ (List.mem_of_getElem? (i := 15) rfl)
theorem q280 : Cond.methodLink RX2 103 yX0_count ∈ wsL_law := qc11 _ (List.mem_of_getElem? (i := 16) rfl)
theorem q281 : Cond.methodLink RX2 106 yX0_mean ∈ wsL_law := qc11 _ (List.mem_of_getElem? (i := 17) rfl)

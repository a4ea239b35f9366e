set_option maxRecDepth 100000 in
theorem tq0 : Cond.classLink RL 8 RX0 ∈ lw_tbl := List.mem_of_getElem? (i := 41) rfl
set_option maxRecDepth 100000 in
theorem tq1 : Cond.instantiable RX0 14 ∈ lw_tbl := List.mem_of_getElem? (i := 42) rfl
set_option maxRecDepth 100000 in
theorem tq2 : Cond.initialized RX0 ∈ lw_tbl := List.mem_of_getElem? (i := 31) rfl
set_option maxRecDepth 100000 in
theorem tq3 : Cond.classLink RL 61 RX1 ∈ lw_tbl := List.mem_of_getElem? (i := 402) rfl
set_option maxRecDepth 100000 in
theorem tq4 : Cond.instantiable RX1 7 ∈ lw_tbl := List.mem_of_getElem? (i := 403) rfl
set_option maxRecDepth 100000 in
theorem tq5 : Cond.initialized RX1 ∈ lw_tbl := List.mem_of_getElem? (i := 32) rfl
set_option maxRecDepth 100000 in
theorem tq6 : Cond.arrayClass .long ∈ lw_tbl := List.mem_of_getElem? (i := 606) rfl
set_option maxRecDepth 100000 in
theorem tq7 : Cond.methodLink RL 60 yX0_init ∈ lw_tbl := List.mem_of_getElem? (i := 43) rfl
set_option maxRecDepth 100000 in
theorem tq8 : Cond.instanceMethod yX0_init ∈ lw_tbl := List.mem_of_getElem? (i := 44) rfl
set_option maxRecDepth 100000 in
theorem tq9 : Cond.code yX0_init cX0_init 1 none ∈ lw_tbl := List.mem_of_getElem? (i := 45) rfl
set_option maxRecDepth 100000 in
theorem tq10 : Cond.methodLink RX0 1 objectInit ∈ lw_tbl := List.mem_of_getElem? (i := 46) rfl
set_option maxRecDepth 100000 in
theorem tq11 : Cond.instanceMethod objectInit ∈ lw_tbl := List.mem_of_getElem? (i := 47) rfl
set_option maxRecDepth 100000 in
theorem tq12 : Cond.code objectInit ⟨#[0xb1]⟩ 1 none ∈ lw_tbl := List.mem_of_getElem? (i := 48) rfl
set_option maxRecDepth 100000 in
theorem tq13 : Cond.arrayClass .int ∈ lw_tbl := List.mem_of_getElem? (i := 92) rfl
set_option maxRecDepth 100000 in
theorem tq14 : Cond.fieldLink RX0 9 "ReaperWages" "kinds" "[I" ∈ lw_tbl := List.mem_of_getElem? (i := 49) rfl
set_option maxRecDepth 100000 in
theorem tq15 : Cond.fieldLink RX0 13 "ReaperWages" "bound" "[I" ∈ lw_tbl := List.mem_of_getElem? (i := 50) rfl
set_option maxRecDepth 100000 in
theorem tq16 : Cond.fieldLink RX0 16 "ReaperWages" "worked" "[I" ∈ lw_tbl := List.mem_of_getElem? (i := 51) rfl
set_option maxRecDepth 100000 in
theorem tq17 : Cond.fieldLink RX0 19 "ReaperWages" "lateMarks" "[I" ∈ lw_tbl := List.mem_of_getElem? (i := 52) rfl
set_option maxRecDepth 100000 in
theorem tq18 : Cond.fieldLink RX0 22 "ReaperWages" "debts" "[I" ∈ lw_tbl := List.mem_of_getElem? (i := 53) rfl
set_option maxRecDepth 100000 in
theorem tq19 : Cond.fieldLink RX0 25 "ReaperWages" "carried" "[I" ∈ lw_tbl := List.mem_of_getElem? (i := 54) rfl
set_option maxRecDepth 100000 in
theorem tq20 : Cond.fieldLink RX0 28 "ReaperWages" "paidOut" "[I" ∈ lw_tbl := List.mem_of_getElem? (i := 55) rfl
set_option maxRecDepth 100000 in
theorem tq21 : Cond.fieldLink RX0 31 "ReaperWages" "rates" "[I" ∈ lw_tbl := List.mem_of_getElem? (i := 56) rfl
set_option maxRecDepth 100000 in
theorem tq22 : Cond.fieldLink RX0 34 "ReaperWages" "purse" "[I" ∈ lw_tbl := List.mem_of_getElem? (i := 57) rfl
set_option maxRecDepth 100000 in
theorem tq23 : Cond.fieldLink RX0 37 "ReaperWages" "trialRates" "[I" ∈ lw_tbl := List.mem_of_getElem? (i := 60) rfl
theorem tc_wsL_law0_r1 : ∀ w ∈ wsL_law0_r1, w ∈ lw_tbl := List.forall_mem_cons.mpr ⟨tq0, List.forall_mem_cons.mpr ⟨tq1, List.forall_mem_cons.mpr ⟨tq2, List.forall_mem_cons.mpr ⟨tq3, List.forall_mem_cons.mpr ⟨tq4, List.forall_mem_cons.mpr ⟨tq5, List.forall_mem_cons.mpr ⟨tq6, List.forall_mem_cons.mpr ⟨tq7, List.forall_mem_cons.mpr ⟨tq8, List.forall_mem_cons.mpr ⟨tq9, List.forall_mem_cons.mpr ⟨tq10, List.forall_mem_cons.mpr ⟨tq11, List.forall_mem_cons.mpr ⟨tq12, List.forall_mem_cons.mpr ⟨tq13, List.forall_mem_cons.mpr ⟨tq14, List.forall_mem_cons.mpr ⟨tq15, List.forall_mem_cons.mpr ⟨tq16, List.forall_mem_cons.mpr ⟨tq17, List.forall_mem_cons.mpr ⟨tq18, List.forall_mem_cons.mpr ⟨tq19, List.forall_mem_cons.mpr ⟨tq20, List.forall_mem_cons.mpr ⟨tq21, List.forall_mem_cons.mpr ⟨tq22, List.forall_mem_cons.mpr ⟨tq23, fun _ h => absurd h List.not_mem_nil⟩⟩⟩⟩⟩⟩⟩⟩⟩⟩⟩⟩⟩⟩⟩⟩⟩⟩⟩⟩⟩⟩⟩⟩
set_option maxRecDepth 100000 in
theorem tq24 : Cond.fieldLink RX0 40 "ReaperWages" "trialPurse" "[I" ∈ lw_tbl := List.mem_of_getElem? (i := 61) rfl
set_option maxRecDepth 100000 in
theorem tq25 : Cond.fieldLink RX0 43 "ReaperWages" "handed" "[I" ∈ lw_tbl := List.mem_of_getElem? (i := 62) rfl
set_option maxRecDepth 100000 in
theorem tq26 : Cond.methodLink RL 63 yX1_init ∈ lw_tbl := List.mem_of_getElem? (i := 404) rfl
set_option maxRecDepth 100000 in
theorem tq27 : Cond.instanceMethod yX1_init ∈ lw_tbl := List.mem_of_getElem? (i := 405) rfl
set_option maxRecDepth 100000 in
theorem tq28 : Cond.code yX1_init cX1_init 1 none ∈ lw_tbl := List.mem_of_getElem? (i := 406) rfl
set_option maxRecDepth 100000 in
theorem tq29 : Cond.methodLink RX1 1 objectInit ∈ lw_tbl := List.mem_of_getElem? (i := 407) rfl
set_option maxRecDepth 100000 in
theorem tq30 : Cond.fieldLink RX1 7 "ReaperWagesModel" "rates" "[I" ∈ lw_tbl := List.mem_of_getElem? (i := 411) rfl
set_option maxRecDepth 100000 in
theorem tq31 : Cond.fieldLink RX1 13 "ReaperWagesModel" "chest" "[I" ∈ lw_tbl := List.mem_of_getElem? (i := 412) rfl
set_option maxRecDepth 100000 in
theorem tq32 : Cond.fieldLink RX1 16 "ReaperWagesModel" "rows" "[I" ∈ lw_tbl := List.mem_of_getElem? (i := 413) rfl
set_option maxRecDepth 100000 in
theorem tq33 : Cond.fieldLink RX1 19 "ReaperWagesModel" "handed" "[I" ∈ lw_tbl := List.mem_of_getElem? (i := 414) rfl
set_option maxRecDepth 100000 in
theorem tq34 : Cond.methodLink RL 64 yL_hire ∈ lw_tbl := List.mem_of_getElem? (i := 272) rfl
set_option maxRecDepth 100000 in
theorem tq35 : Cond.static yL_hire ∈ lw_tbl := List.mem_of_getElem? (i := 273) rfl
set_option maxRecDepth 100000 in
theorem tq36 : Cond.initialized RL ∈ lw_tbl := List.mem_of_getElem? (i := 30) rfl
set_option maxRecDepth 100000 in
theorem tq37 : Cond.codeWith yL_hire cL_hire 4 (some .int) [(0, 9, 12, 13), (0, 9, 15, 15)] ∈ lw_tbl := List.mem_of_getElem? (i := 274) rfl
set_option maxRecDepth 100000 in
theorem tq38 : Cond.classLink RL 13 "java/lang/IllegalArgumentException" ∈ lw_tbl := List.mem_of_getElem? (i := 275) rfl
set_option maxRecDepth 100000 in
theorem tq39 : Cond.classLink RL 15 "java/lang/IllegalStateException" ∈ lw_tbl := List.mem_of_getElem? (i := 276) rfl
set_option maxRecDepth 100000 in
theorem tq40 : Cond.methodLink RL 7 yX0_hire ∈ lw_tbl := List.mem_of_getElem? (i := 277) rfl
set_option maxRecDepth 100000 in
theorem tq41 : Cond.instanceMethod yX0_hire ∈ lw_tbl := List.mem_of_getElem? (i := 278) rfl
set_option maxRecDepth 100000 in
theorem tq42 : Cond.selects RX0 yX0_hire yX0_hire ∈ lw_tbl := List.mem_of_getElem? (i := 279) rfl
set_option maxRecDepth 100000 in
theorem tq43 : Cond.code yX0_hire cX0_hire 2 (some .int) ∈ lw_tbl := List.mem_of_getElem? (i := 280) rfl
set_option maxRecDepth 100000 in
theorem tq44 : Cond.fieldLink RX0 50 "ReaperWages" "hired" "I" ∈ lw_tbl := List.mem_of_getElem? (i := 58) rfl
set_option maxRecDepth 100000 in
theorem tq45 : Cond.methodLink RX0 46 yX0_requireArgument ∈ lw_tbl := List.mem_of_getElem? (i := 281) rfl
set_option maxRecDepth 100000 in
theorem tq46 : Cond.static yX0_requireArgument ∈ lw_tbl := List.mem_of_getElem? (i := 282) rfl
set_option maxRecDepth 100000 in
theorem tq47 : Cond.code yX0_requireArgument cX0_requireArgument 3 none ∈ lw_tbl := List.mem_of_getElem? (i := 283) rfl
theorem tc_wsL_law0_r2 : ∀ w ∈ wsL_law0_r2, w ∈ lw_tbl := List.forall_mem_cons.mpr ⟨tq24, List.forall_mem_cons.mpr ⟨tq25, List.forall_mem_cons.mpr ⟨tq26, List.forall_mem_cons.mpr ⟨tq27, List.forall_mem_cons.mpr ⟨tq28, List.forall_mem_cons.mpr ⟨tq29, List.forall_mem_cons.mpr ⟨tq30, List.forall_mem_cons.mpr ⟨tq31, List.forall_mem_cons.mpr ⟨tq32, List.forall_mem_cons.mpr ⟨tq33, List.forall_mem_cons.mpr ⟨tq34, List.forall_mem_cons.mpr ⟨tq35, List.forall_mem_cons.mpr ⟨tq36, List.forall_mem_cons.mpr ⟨tq37, List.forall_mem_cons.mpr ⟨tq38, List.forall_mem_cons.mpr ⟨tq39, List.forall_mem_cons.mpr ⟨tq40, List.forall_mem_cons.mpr ⟨tq41, List.forall_mem_cons.mpr ⟨tq42, List.forall_mem_cons.mpr ⟨tq43, List.forall_mem_cons.mpr ⟨tq44, List.forall_mem_cons.mpr ⟨tq45, List.forall_mem_cons.mpr ⟨tq46, List.forall_mem_cons.mpr ⟨tq47, fun _ h => absurd h List.not_mem_nil⟩⟩⟩⟩⟩⟩⟩⟩⟩⟩⟩⟩⟩⟩⟩⟩⟩⟩⟩⟩⟩⟩⟩⟩
set_option maxRecDepth 100000 in
theorem tq48 : Cond.classLink RX0 163 "java/lang/IllegalArgumentException" ∈ lw_tbl := List.mem_of_getElem? (i := 284) rfl
set_option maxRecDepth 100000 in
theorem tq49 : Cond.initialized "java/lang/IllegalArgumentException" ∈ lw_tbl := List.mem_of_getElem? (i := 36) rfl
set_option maxRecDepth 100000 in
theorem tq50 : Cond.methodLink RX0 54 yX0_requireState ∈ lw_tbl := List.mem_of_getElem? (i := 300) rfl
set_option maxRecDepth 100000 in
theorem tq51 : Cond.static yX0_requireState ∈ lw_tbl := List.mem_of_getElem? (i := 301) rfl
set_option maxRecDepth 100000 in
theorem tq52 : Cond.code yX0_requireState cX0_requireState 1 none ∈ lw_tbl := List.mem_of_getElem? (i := 302) rfl
set_option maxRecDepth 100000 in
theorem tq53 : Cond.classLink RX0 168 "java/lang/IllegalStateException" ∈ lw_tbl := List.mem_of_getElem? (i := 303) rfl
set_option maxRecDepth 100000 in
theorem tq54 : Cond.initialized "java/lang/IllegalStateException" ∈ lw_tbl := List.mem_of_getElem? (i := 37) rfl
set_option maxRecDepth 100000 in
theorem tq55 : Cond.methodLink RL 69 yX1_hire ∈ lw_tbl := List.mem_of_getElem? (i := 434) rfl
set_option maxRecDepth 100000 in
theorem tq56 : Cond.instanceMethod yX1_hire ∈ lw_tbl := List.mem_of_getElem? (i := 435) rfl
set_option maxRecDepth 100000 in
theorem tq57 : Cond.selects RX1 yX1_hire yX1_hire ∈ lw_tbl := List.mem_of_getElem? (i := 436) rfl
set_option maxRecDepth 100000 in
theorem tq58 : Cond.code yX1_hire cX1_hire 2 (some .int) ∈ lw_tbl := List.mem_of_getElem? (i := 437) rfl
set_option maxRecDepth 100000 in
theorem tq59 : Cond.fieldLink RX1 22 "ReaperWagesModel" "thrown" "I" ∈ lw_tbl := List.mem_of_getElem? (i := 408) rfl
set_option maxRecDepth 100000 in
theorem tq60 : Cond.fieldLink RX1 26 "ReaperWagesModel" "reapers" "I" ∈ lw_tbl := List.mem_of_getElem? (i := 409) rfl
set_option maxRecDepth 100000 in
theorem tq61 : Cond.methodLink RX1 29 yX1_isIn ∈ lw_tbl := List.mem_of_getElem? (i := 438) rfl
set_option maxRecDepth 100000 in
theorem tq62 : Cond.static yX1_isIn ∈ lw_tbl := List.mem_of_getElem? (i := 439) rfl
set_option maxRecDepth 100000 in
theorem tq63 : Cond.code yX1_isIn cX1_isIn 3 (some .boolean) ∈ lw_tbl := List.mem_of_getElem? (i := 440) rfl
set_option maxRecDepth 100000 in
theorem tq64 : Cond.methodLink RX1 61 yX1_fail ∈ lw_tbl := List.mem_of_getElem? (i := 441) rfl
set_option maxRecDepth 100000 in
theorem tq65 : Cond.instanceMethod yX1_fail ∈ lw_tbl := List.mem_of_getElem? (i := 443) rfl
set_option maxRecDepth 100000 in
theorem tq66 : Cond.selects RX1 yX1_fail yX1_fail ∈ lw_tbl := List.mem_of_getElem? (i := 13) rfl
set_option maxRecDepth 100000 in
theorem tq67 : Cond.code yX1_fail cX1_fail 2 (some .int) ∈ lw_tbl := List.mem_of_getElem? (i := 444) rfl
set_option maxRecDepth 100000 in
theorem tq68 : Cond.methodLink RX1 64 yX1_let ∈ lw_tbl := List.mem_of_getElem? (i := 445) rfl
set_option maxRecDepth 100000 in
theorem tq69 : Cond.instanceMethod yX1_let ∈ lw_tbl := List.mem_of_getElem? (i := 447) rfl
set_option maxRecDepth 100000 in
theorem tq70 : Cond.selects RX1 yX1_let yX1_let ∈ lw_tbl := List.mem_of_getElem? (i := 14) rfl
set_option maxRecDepth 100000 in
theorem tq71 : Cond.code yX1_let cX1_let 4 none ∈ lw_tbl := List.mem_of_getElem? (i := 448) rfl
theorem tc_wsL_law0_r3 : ∀ w ∈ wsL_law0_r3, w ∈ lw_tbl := List.forall_mem_cons.mpr ⟨tq48, List.forall_mem_cons.mpr ⟨tq49, List.forall_mem_cons.mpr ⟨tq50, List.forall_mem_cons.mpr ⟨tq51, List.forall_mem_cons.mpr ⟨tq52, List.forall_mem_cons.mpr ⟨tq53, List.forall_mem_cons.mpr ⟨tq54, List.forall_mem_cons.mpr ⟨tq55, List.forall_mem_cons.mpr ⟨tq56, List.forall_mem_cons.mpr ⟨tq57, List.forall_mem_cons.mpr ⟨tq58, List.forall_mem_cons.mpr ⟨tq59, List.forall_mem_cons.mpr ⟨tq60, List.forall_mem_cons.mpr ⟨tq61, List.forall_mem_cons.mpr ⟨tq62, List.forall_mem_cons.mpr ⟨tq63, List.forall_mem_cons.mpr ⟨tq64, List.forall_mem_cons.mpr ⟨tq65, List.forall_mem_cons.mpr ⟨tq66, List.forall_mem_cons.mpr ⟨tq67, List.forall_mem_cons.mpr ⟨tq68, List.forall_mem_cons.mpr ⟨tq69, List.forall_mem_cons.mpr ⟨tq70, List.forall_mem_cons.mpr ⟨tq71, fun _ h => absurd h List.not_mem_nil⟩⟩⟩⟩⟩⟩⟩⟩⟩⟩⟩⟩⟩⟩⟩⟩⟩⟩⟩⟩⟩⟩⟩⟩
set_option maxRecDepth 100000 in
theorem tq72 : Cond.methodLink RL 70 yL_setRate ∈ lw_tbl := List.mem_of_getElem? (i := 319) rfl
set_option maxRecDepth 100000 in
theorem tq73 : Cond.static yL_setRate ∈ lw_tbl := List.mem_of_getElem? (i := 320) rfl
set_option maxRecDepth 100000 in
theorem tq74 : Cond.codeWith yL_setRate cL_setRate 5 (some .int) [(0, 10, 13, 21), (0, 10, 17, 13)] ∈ lw_tbl := List.mem_of_getElem? (i := 321) rfl
set_option maxRecDepth 100000 in
theorem tq75 : Cond.classLink RL 21 "java/lang/IndexOutOfBoundsException" ∈ lw_tbl := List.mem_of_getElem? (i := 322) rfl
set_option maxRecDepth 100000 in
theorem tq76 : Cond.methodLink RL 17 yX0_setRate ∈ lw_tbl := List.mem_of_getElem? (i := 323) rfl
set_option maxRecDepth 100000 in
theorem tq77 : Cond.instanceMethod yX0_setRate ∈ lw_tbl := List.mem_of_getElem? (i := 324) rfl
set_option maxRecDepth 100000 in
theorem tq78 : Cond.selects RX0 yX0_setRate yX0_setRate ∈ lw_tbl := List.mem_of_getElem? (i := 325) rfl
set_option maxRecDepth 100000 in
theorem tq79 : Cond.code yX0_setRate cX0_setRate 4 (some .int) ∈ lw_tbl := List.mem_of_getElem? (i := 326) rfl
set_option maxRecDepth 100000 in
theorem tq80 : Cond.methodLink RX0 58 yX0_requireRate ∈ lw_tbl := List.mem_of_getElem? (i := 327) rfl
set_option maxRecDepth 100000 in
theorem tq81 : Cond.static yX0_requireRate ∈ lw_tbl := List.mem_of_getElem? (i := 328) rfl
set_option maxRecDepth 100000 in
theorem tq82 : Cond.code yX0_requireRate cX0_requireRate 2 none ∈ lw_tbl := List.mem_of_getElem? (i := 329) rfl
set_option maxRecDepth 100000 in
theorem tq83 : Cond.fieldLink RX0 114 "ReaperWages" "LEAST_RATE" "[I" ∈ lw_tbl := List.mem_of_getElem? (i := 156) rfl
set_option maxRecDepth 100000 in
theorem tq84 : Cond.fieldLink RX0 117 "ReaperWages" "MOST_RATE" "[I" ∈ lw_tbl := List.mem_of_getElem? (i := 158) rfl
set_option maxRecDepth 100000 in
theorem tq85 : Cond.methodLink RX0 62 yX0_requireIndex ∈ lw_tbl := List.mem_of_getElem? (i := 181) rfl
set_option maxRecDepth 100000 in
theorem tq86 : Cond.static yX0_requireIndex ∈ lw_tbl := List.mem_of_getElem? (i := 182) rfl
set_option maxRecDepth 100000 in
theorem tq87 : Cond.code yX0_requireIndex cX0_requireIndex 2 none ∈ lw_tbl := List.mem_of_getElem? (i := 183) rfl
set_option maxRecDepth 100000 in
theorem tq88 : Cond.classLink RX0 156 "java/lang/IndexOutOfBoundsException" ∈ lw_tbl := List.mem_of_getElem? (i := 184) rfl
set_option maxRecDepth 100000 in
theorem tq89 : Cond.initialized "java/lang/IndexOutOfBoundsException" ∈ lw_tbl := List.mem_of_getElem? (i := 38) rfl
set_option maxRecDepth 100000 in
theorem tq90 : Cond.methodLink RL 73 yX1_setRate ∈ lw_tbl := List.mem_of_getElem? (i := 449) rfl
set_option maxRecDepth 100000 in
theorem tq91 : Cond.instanceMethod yX1_setRate ∈ lw_tbl := List.mem_of_getElem? (i := 450) rfl
set_option maxRecDepth 100000 in
theorem tq92 : Cond.selects RX1 yX1_setRate yX1_setRate ∈ lw_tbl := List.mem_of_getElem? (i := 451) rfl
set_option maxRecDepth 100000 in
theorem tq93 : Cond.code yX1_setRate cX1_setRate 4 (some .int) ∈ lw_tbl := List.mem_of_getElem? (i := 452) rfl
set_option maxRecDepth 100000 in
theorem tq94 : Cond.fieldLink RX1 72 "ReaperWagesModel" "LOW" "[I" ∈ lw_tbl := List.mem_of_getElem? (i := 456) rfl
set_option maxRecDepth 100000 in
theorem tq95 : Cond.fieldLink RX1 75 "ReaperWagesModel" "HIGH" "[I" ∈ lw_tbl := List.mem_of_getElem? (i := 458) rfl
theorem tc_wsL_law0_r4 : ∀ w ∈ wsL_law0_r4, w ∈ lw_tbl := List.forall_mem_cons.mpr ⟨tq72, List.forall_mem_cons.mpr ⟨tq73, List.forall_mem_cons.mpr ⟨tq74, List.forall_mem_cons.mpr ⟨tq75, List.forall_mem_cons.mpr ⟨tq76, List.forall_mem_cons.mpr ⟨tq77, List.forall_mem_cons.mpr ⟨tq78, List.forall_mem_cons.mpr ⟨tq79, List.forall_mem_cons.mpr ⟨tq80, List.forall_mem_cons.mpr ⟨tq81, List.forall_mem_cons.mpr ⟨tq82, List.forall_mem_cons.mpr ⟨tq83, List.forall_mem_cons.mpr ⟨tq84, List.forall_mem_cons.mpr ⟨tq85, List.forall_mem_cons.mpr ⟨tq86, List.forall_mem_cons.mpr ⟨tq87, List.forall_mem_cons.mpr ⟨tq88, List.forall_mem_cons.mpr ⟨tq89, List.forall_mem_cons.mpr ⟨tq90, List.forall_mem_cons.mpr ⟨tq91, List.forall_mem_cons.mpr ⟨tq92, List.forall_mem_cons.mpr ⟨tq93, List.forall_mem_cons.mpr ⟨tq94, List.forall_mem_cons.mpr ⟨tq95, fun _ h => absurd h List.not_mem_nil⟩⟩⟩⟩⟩⟩⟩⟩⟩⟩⟩⟩⟩⟩⟩⟩⟩⟩⟩⟩⟩⟩⟩⟩
set_option maxRecDepth 100000 in
theorem tq96 : Cond.methodLink RX1 68 yX1_isRate ∈ lw_tbl := List.mem_of_getElem? (i := 453) rfl
set_option maxRecDepth 100000 in
theorem tq97 : Cond.static yX1_isRate ∈ lw_tbl := List.mem_of_getElem? (i := 454) rfl
set_option maxRecDepth 100000 in
theorem tq98 : Cond.code yX1_isRate cX1_isRate 1 (some .boolean) ∈ lw_tbl := List.mem_of_getElem? (i := 455) rfl
set_option maxRecDepth 100000 in
theorem tq99 : Cond.methodLink RL 74 yL_fill ∈ lw_tbl := List.mem_of_getElem? (i := 330) rfl
set_option maxRecDepth 100000 in
theorem tq100 : Cond.static yL_fill ∈ lw_tbl := List.mem_of_getElem? (i := 331) rfl
set_option maxRecDepth 100000 in
theorem tq101 : Cond.codeWith yL_fill cL_fill 5 (some .int) [(0, 10, 13, 21), (0, 10, 17, 13)] ∈ lw_tbl := List.mem_of_getElem? (i := 332) rfl
set_option maxRecDepth 100000 in
theorem tq102 : Cond.methodLink RL 23 yX0_fill ∈ lw_tbl := List.mem_of_getElem? (i := 333) rfl
set_option maxRecDepth 100000 in
theorem tq103 : Cond.instanceMethod yX0_fill ∈ lw_tbl := List.mem_of_getElem? (i := 334) rfl
set_option maxRecDepth 100000 in
theorem tq104 : Cond.selects RX0 yX0_fill yX0_fill ∈ lw_tbl := List.mem_of_getElem? (i := 335) rfl
set_option maxRecDepth 100000 in
theorem tq105 : Cond.code yX0_fill cX0_fill 3 (some .int) ∈ lw_tbl := List.mem_of_getElem? (i := 336) rfl
set_option maxRecDepth 100000 in
theorem tq106 : Cond.methodLink RL 76 yX1_fill ∈ lw_tbl := List.mem_of_getElem? (i := 460) rfl
set_option maxRecDepth 100000 in
theorem tq107 : Cond.instanceMethod yX1_fill ∈ lw_tbl := List.mem_of_getElem? (i := 461) rfl
set_option maxRecDepth 100000 in
theorem tq108 : Cond.selects RX1 yX1_fill yX1_fill ∈ lw_tbl := List.mem_of_getElem? (i := 462) rfl
set_option maxRecDepth 100000 in
theorem tq109 : Cond.code yX1_fill cX1_fill 3 (some .int) ∈ lw_tbl := List.mem_of_getElem? (i := 463) rfl
set_option maxRecDepth 100000 in
theorem tq110 : Cond.methodLink RX1 78 yX1_isCoin ∈ lw_tbl := List.mem_of_getElem? (i := 464) rfl
set_option maxRecDepth 100000 in
theorem tq111 : Cond.static yX1_isCoin ∈ lw_tbl := List.mem_of_getElem? (i := 465) rfl
set_option maxRecDepth 100000 in
theorem tq112 : Cond.code yX1_isCoin cX1_isCoin 1 (some .boolean) ∈ lw_tbl := List.mem_of_getElem? (i := 466) rfl
set_option maxRecDepth 100000 in
theorem tq113 : Cond.methodLink RL 77 yL_bind ∈ lw_tbl := List.mem_of_getElem? (i := 337) rfl
set_option maxRecDepth 100000 in
theorem tq114 : Cond.static yL_bind ∈ lw_tbl := List.mem_of_getElem? (i := 338) rfl
set_option maxRecDepth 100000 in
theorem tq115 : Cond.codeWith yL_bind cL_bind 5 (some .int) [(0, 10, 13, 21), (0, 10, 17, 13)] ∈ lw_tbl := List.mem_of_getElem? (i := 339) rfl
set_option maxRecDepth 100000 in
theorem tq116 : Cond.methodLink RL 26 yX0_bind ∈ lw_tbl := List.mem_of_getElem? (i := 340) rfl
set_option maxRecDepth 100000 in
theorem tq117 : Cond.instanceMethod yX0_bind ∈ lw_tbl := List.mem_of_getElem? (i := 341) rfl
set_option maxRecDepth 100000 in
theorem tq118 : Cond.selects RX0 yX0_bind yX0_bind ∈ lw_tbl := List.mem_of_getElem? (i := 342) rfl
set_option maxRecDepth 100000 in
theorem tq119 : Cond.code yX0_bind cX0_bind 3 (some .int) ∈ lw_tbl := List.mem_of_getElem? (i := 343) rfl
theorem tc_wsL_law0_r5 : ∀ w ∈ wsL_law0_r5, w ∈ lw_tbl := List.forall_mem_cons.mpr ⟨tq96, List.forall_mem_cons.mpr ⟨tq97, List.forall_mem_cons.mpr ⟨tq98, List.forall_mem_cons.mpr ⟨tq99, List.forall_mem_cons.mpr ⟨tq100, List.forall_mem_cons.mpr ⟨tq101, List.forall_mem_cons.mpr ⟨tq102, List.forall_mem_cons.mpr ⟨tq103, List.forall_mem_cons.mpr ⟨tq104, List.forall_mem_cons.mpr ⟨tq105, List.forall_mem_cons.mpr ⟨tq106, List.forall_mem_cons.mpr ⟨tq107, List.forall_mem_cons.mpr ⟨tq108, List.forall_mem_cons.mpr ⟨tq109, List.forall_mem_cons.mpr ⟨tq110, List.forall_mem_cons.mpr ⟨tq111, List.forall_mem_cons.mpr ⟨tq112, List.forall_mem_cons.mpr ⟨tq113, List.forall_mem_cons.mpr ⟨tq114, List.forall_mem_cons.mpr ⟨tq115, List.forall_mem_cons.mpr ⟨tq116, List.forall_mem_cons.mpr ⟨tq117, List.forall_mem_cons.mpr ⟨tq118, List.forall_mem_cons.mpr ⟨tq119, fun _ h => absurd h List.not_mem_nil⟩⟩⟩⟩⟩⟩⟩⟩⟩⟩⟩⟩⟩⟩⟩⟩⟩⟩⟩⟩⟩⟩⟩⟩
set_option maxRecDepth 100000 in
theorem tq120 : Cond.methodLink RL 79 yX1_bind ∈ lw_tbl := List.mem_of_getElem? (i := 467) rfl
set_option maxRecDepth 100000 in
theorem tq121 : Cond.instanceMethod yX1_bind ∈ lw_tbl := List.mem_of_getElem? (i := 468) rfl
set_option maxRecDepth 100000 in
theorem tq122 : Cond.selects RX1 yX1_bind yX1_bind ∈ lw_tbl := List.mem_of_getElem? (i := 469) rfl
set_option maxRecDepth 100000 in
theorem tq123 : Cond.code yX1_bind cX1_bind 3 (some .int) ∈ lw_tbl := List.mem_of_getElem? (i := 470) rfl
set_option maxRecDepth 100000 in
theorem tq124 : Cond.methodLink RX1 81 yX1_isReaper ∈ lw_tbl := List.mem_of_getElem? (i := 471) rfl
set_option maxRecDepth 100000 in
theorem tq125 : Cond.instanceMethod yX1_isReaper ∈ lw_tbl := List.mem_of_getElem? (i := 473) rfl
set_option maxRecDepth 100000 in
theorem tq126 : Cond.selects RX1 yX1_isReaper yX1_isReaper ∈ lw_tbl := List.mem_of_getElem? (i := 15) rfl
set_option maxRecDepth 100000 in
theorem tq127 : Cond.code yX1_isReaper cX1_isReaper 2 (some .boolean) ∈ lw_tbl := List.mem_of_getElem? (i := 474) rfl
set_option maxRecDepth 100000 in
theorem tq128 : Cond.methodLink RX1 33 yX1_re ∈ lw_tbl := List.mem_of_getElem? (i := 475) rfl
set_option maxRecDepth 100000 in
theorem tq129 : Cond.instanceMethod yX1_re ∈ lw_tbl := List.mem_of_getElem? (i := 477) rfl
set_option maxRecDepth 100000 in
theorem tq130 : Cond.selects RX1 yX1_re yX1_re ∈ lw_tbl := List.mem_of_getElem? (i := 16) rfl
set_option maxRecDepth 100000 in
theorem tq131 : Cond.code yX1_re cX1_re 3 (some .int) ∈ lw_tbl := List.mem_of_getElem? (i := 478) rfl
set_option maxRecDepth 100000 in
theorem tq132 : Cond.methodLink RL 80 yL_work ∈ lw_tbl := List.mem_of_getElem? (i := 344) rfl
set_option maxRecDepth 100000 in
theorem tq133 : Cond.static yL_work ∈ lw_tbl := List.mem_of_getElem? (i := 345) rfl
set_option maxRecDepth 100000 in
theorem tq134 : Cond.codeWith yL_work cL_work 6 (some .int) [(0, 12, 15, 21), (0, 12, 19, 13), (0, 12, 23, 15)] ∈ lw_tbl := List.mem_of_getElem? (i := 346) rfl
set_option maxRecDepth 100000 in
theorem tq135 : Cond.methodLink RL 29 yX0_work ∈ lw_tbl := List.mem_of_getElem? (i := 347) rfl
set_option maxRecDepth 100000 in
theorem tq136 : Cond.instanceMethod yX0_work ∈ lw_tbl := List.mem_of_getElem? (i := 348) rfl
set_option maxRecDepth 100000 in
theorem tq137 : Cond.selects RX0 yX0_work yX0_work ∈ lw_tbl := List.mem_of_getElem? (i := 349) rfl
set_option maxRecDepth 100000 in
theorem tq138 : Cond.code yX0_work cX0_work 4 (some .int) ∈ lw_tbl := List.mem_of_getElem? (i := 350) rfl
set_option maxRecDepth 100000 in
theorem tq139 : Cond.methodLink RL 83 yX1_work ∈ lw_tbl := List.mem_of_getElem? (i := 479) rfl
set_option maxRecDepth 100000 in
theorem tq140 : Cond.instanceMethod yX1_work ∈ lw_tbl := List.mem_of_getElem? (i := 480) rfl
set_option maxRecDepth 100000 in
theorem tq141 : Cond.selects RX1 yX1_work yX1_work ∈ lw_tbl := List.mem_of_getElem? (i := 481) rfl
set_option maxRecDepth 100000 in
theorem tq142 : Cond.code yX1_work cX1_work 4 (some .int) ∈ lw_tbl := List.mem_of_getElem? (i := 482) rfl
set_option maxRecDepth 100000 in
theorem tq143 : Cond.methodLink RL 84 yL_lend ∈ lw_tbl := List.mem_of_getElem? (i := 351) rfl
theorem tc_wsL_law0_r6 : ∀ w ∈ wsL_law0_r6, w ∈ lw_tbl := List.forall_mem_cons.mpr ⟨tq120, List.forall_mem_cons.mpr ⟨tq121, List.forall_mem_cons.mpr ⟨tq122, List.forall_mem_cons.mpr ⟨tq123, List.forall_mem_cons.mpr ⟨tq124, List.forall_mem_cons.mpr ⟨tq125, List.forall_mem_cons.mpr ⟨tq126, List.forall_mem_cons.mpr ⟨tq127, List.forall_mem_cons.mpr ⟨tq128, List.forall_mem_cons.mpr ⟨tq129, List.forall_mem_cons.mpr ⟨tq130, List.forall_mem_cons.mpr ⟨tq131, List.forall_mem_cons.mpr ⟨tq132, List.forall_mem_cons.mpr ⟨tq133, List.forall_mem_cons.mpr ⟨tq134, List.forall_mem_cons.mpr ⟨tq135, List.forall_mem_cons.mpr ⟨tq136, List.forall_mem_cons.mpr ⟨tq137, List.forall_mem_cons.mpr ⟨tq138, List.forall_mem_cons.mpr ⟨tq139, List.forall_mem_cons.mpr ⟨tq140, List.forall_mem_cons.mpr ⟨tq141, List.forall_mem_cons.mpr ⟨tq142, List.forall_mem_cons.mpr ⟨tq143, fun _ h => absurd h List.not_mem_nil⟩⟩⟩⟩⟩⟩⟩⟩⟩⟩⟩⟩⟩⟩⟩⟩⟩⟩⟩⟩⟩⟩⟩⟩
set_option maxRecDepth 100000 in
theorem tq144 : Cond.static yL_lend ∈ lw_tbl := List.mem_of_getElem? (i := 352) rfl
set_option maxRecDepth 100000 in
theorem tq145 : Cond.codeWith yL_lend cL_lend 5 (some .int) [(0, 10, 13, 21), (0, 10, 17, 13), (0, 10, 21, 15)] ∈ lw_tbl := List.mem_of_getElem? (i := 353) rfl
set_option maxRecDepth 100000 in
theorem tq146 : Cond.methodLink RL 33 yX0_lend ∈ lw_tbl := List.mem_of_getElem? (i := 354) rfl
set_option maxRecDepth 100000 in
theorem tq147 : Cond.instanceMethod yX0_lend ∈ lw_tbl := List.mem_of_getElem? (i := 355) rfl
set_option maxRecDepth 100000 in
theorem tq148 : Cond.selects RX0 yX0_lend yX0_lend ∈ lw_tbl := List.mem_of_getElem? (i := 356) rfl
set_option maxRecDepth 100000 in
theorem tq149 : Cond.code yX0_lend cX0_lend 3 (some .int) ∈ lw_tbl := List.mem_of_getElem? (i := 357) rfl
set_option maxRecDepth 100000 in
theorem tq150 : Cond.methodLink RL 86 yX1_lend ∈ lw_tbl := List.mem_of_getElem? (i := 483) rfl
set_option maxRecDepth 100000 in
theorem tq151 : Cond.instanceMethod yX1_lend ∈ lw_tbl := List.mem_of_getElem? (i := 484) rfl
set_option maxRecDepth 100000 in
theorem tq152 : Cond.selects RX1 yX1_lend yX1_lend ∈ lw_tbl := List.mem_of_getElem? (i := 485) rfl
set_option maxRecDepth 100000 in
theorem tq153 : Cond.code yX1_lend cX1_lend 3 (some .int) ∈ lw_tbl := List.mem_of_getElem? (i := 486) rfl
set_option maxRecDepth 100000 in
theorem tq154 : Cond.methodLink RL 87 yX0_pay ∈ lw_tbl := List.mem_of_getElem? (i := 93) rfl
set_option maxRecDepth 100000 in
theorem tq155 : Cond.instanceMethod yX0_pay ∈ lw_tbl := List.mem_of_getElem? (i := 94) rfl
set_option maxRecDepth 100000 in
theorem tq156 : Cond.selects RX0 yX0_pay yX0_pay ∈ lw_tbl := List.mem_of_getElem? (i := 95) rfl
set_option maxRecDepth 100000 in
theorem tq157 : Cond.code yX0_pay cX0_pay 3 (some .int) ∈ lw_tbl := List.mem_of_getElem? (i := 96) rfl
set_option maxRecDepth 100000 in
theorem tq158 : Cond.fieldLink RX0 69 "ReaperWages" "week" "I" ∈ lw_tbl := List.mem_of_getElem? (i := 59) rfl
set_option maxRecDepth 100000 in
theorem tq159 : Cond.methodLink RX0 65 yX0_settle ∈ lw_tbl := List.mem_of_getElem? (i := 97) rfl
set_option maxRecDepth 100000 in
theorem tq160 : Cond.instanceMethod yX0_settle ∈ lw_tbl := List.mem_of_getElem? (i := 99) rfl
set_option maxRecDepth 100000 in
theorem tq161 : Cond.selects RX0 yX0_settle yX0_settle ∈ lw_tbl := List.mem_of_getElem? (i := 0) rfl
set_option maxRecDepth 100000 in
theorem tq162 : Cond.code yX0_settle cX0_settle 5 (some .int) ∈ lw_tbl := List.mem_of_getElem? (i := 100) rfl
set_option maxRecDepth 100000 in
theorem tq163 : Cond.methodLink RX0 85 yX0_coming ∈ lw_tbl := List.mem_of_getElem? (i := 101) rfl
set_option maxRecDepth 100000 in
theorem tq164 : Cond.instanceMethod yX0_coming ∈ lw_tbl := List.mem_of_getElem? (i := 103) rfl
set_option maxRecDepth 100000 in
theorem tq165 : Cond.selects RX0 yX0_coming yX0_coming ∈ lw_tbl := List.mem_of_getElem? (i := 1) rfl
set_option maxRecDepth 100000 in
theorem tq166 : Cond.code yX0_coming cX0_coming 2 (some .int) ∈ lw_tbl := List.mem_of_getElem? (i := 104) rfl
set_option maxRecDepth 100000 in
theorem tq167 : Cond.methodLink RX0 82 yX0_weekWage ∈ lw_tbl := List.mem_of_getElem? (i := 105) rfl
theorem tc_wsL_law0_r7 : ∀ w ∈ wsL_law0_r7, w ∈ lw_tbl := List.forall_mem_cons.mpr ⟨tq144, List.forall_mem_cons.mpr ⟨tq145, List.forall_mem_cons.mpr ⟨tq146, List.forall_mem_cons.mpr ⟨tq147, List.forall_mem_cons.mpr ⟨tq148, List.forall_mem_cons.mpr ⟨tq149, List.forall_mem_cons.mpr ⟨tq150, List.forall_mem_cons.mpr ⟨tq151, List.forall_mem_cons.mpr ⟨tq152, List.forall_mem_cons.mpr ⟨tq153, List.forall_mem_cons.mpr ⟨tq154, List.forall_mem_cons.mpr ⟨tq155, List.forall_mem_cons.mpr ⟨tq156, List.forall_mem_cons.mpr ⟨tq157, List.forall_mem_cons.mpr ⟨tq158, List.forall_mem_cons.mpr ⟨tq159, List.forall_mem_cons.mpr ⟨tq160, List.forall_mem_cons.mpr ⟨tq161, List.forall_mem_cons.mpr ⟨tq162, List.forall_mem_cons.mpr ⟨tq163, List.forall_mem_cons.mpr ⟨tq164, List.forall_mem_cons.mpr ⟨tq165, List.forall_mem_cons.mpr ⟨tq166, List.forall_mem_cons.mpr ⟨tq167, fun _ h => absurd h List.not_mem_nil⟩⟩⟩⟩⟩⟩⟩⟩⟩⟩⟩⟩⟩⟩⟩⟩⟩⟩⟩⟩⟩⟩⟩⟩
set_option maxRecDepth 100000 in
theorem tq168 : Cond.instanceMethod yX0_weekWage ∈ lw_tbl := List.mem_of_getElem? (i := 107) rfl
set_option maxRecDepth 100000 in
theorem tq169 : Cond.selects RX0 yX0_weekWage yX0_weekWage ∈ lw_tbl := List.mem_of_getElem? (i := 2) rfl
set_option maxRecDepth 100000 in
theorem tq170 : Cond.code yX0_weekWage cX0_weekWage 3 (some .int) ∈ lw_tbl := List.mem_of_getElem? (i := 108) rfl
set_option maxRecDepth 100000 in
theorem tq171 : Cond.methodLink RX0 147 Lib.Math.max.name ∈ lw_tbl := List.mem_of_getElem? (i := 125) rfl
set_option maxRecDepth 100000 in
theorem tq172 : Cond.static Lib.Math.max.name ∈ lw_tbl := List.mem_of_getElem? (i := 126) rfl
set_option maxRecDepth 100000 in
theorem tq173 : Cond.initialized "java/lang/Math" ∈ lw_tbl := List.mem_of_getElem? (i := 39) rfl
set_option maxRecDepth 100000 in
theorem tq174 : Cond.code Lib.Math.max.name Lib.Math.max.code 2 (some .int) ∈ lw_tbl := List.mem_of_getElem? (i := 127) rfl
set_option maxRecDepth 100000 in
theorem tq175 : Cond.methodLink RX0 75 yX0_wageByPieces ∈ lw_tbl := List.mem_of_getElem? (i := 109) rfl
set_option maxRecDepth 100000 in
theorem tq176 : Cond.instanceMethod yX0_wageByPieces ∈ lw_tbl := List.mem_of_getElem? (i := 111) rfl
set_option maxRecDepth 100000 in
theorem tq177 : Cond.selects RX0 yX0_wageByPieces yX0_wageByPieces ∈ lw_tbl := List.mem_of_getElem? (i := 3) rfl
set_option maxRecDepth 100000 in
theorem tq178 : Cond.code yX0_wageByPieces cX0_wageByPieces 8 (some .int) ∈ lw_tbl := List.mem_of_getElem? (i := 112) rfl
set_option maxRecDepth 100000 in
theorem tq179 : Cond.methodLink RX0 142 Lib.Math.min.name ∈ lw_tbl := List.mem_of_getElem? (i := 113) rfl
set_option maxRecDepth 100000 in
theorem tq180 : Cond.static Lib.Math.min.name ∈ lw_tbl := List.mem_of_getElem? (i := 114) rfl
set_option maxRecDepth 100000 in
theorem tq181 : Cond.code Lib.Math.min.name Lib.Math.min.code 2 (some .int) ∈ lw_tbl := List.mem_of_getElem? (i := 115) rfl
set_option maxRecDepth 100000 in
theorem tq182 : Cond.constantLong RX0 145 (1000) ∈ lw_tbl := List.mem_of_getElem? (i := 116) rfl
set_option maxRecDepth 100000 in
theorem tq183 : Cond.methodLink RX0 79 yX0_wageByHours ∈ lw_tbl := List.mem_of_getElem? (i := 117) rfl
set_option maxRecDepth 100000 in
theorem tq184 : Cond.instanceMethod yX0_wageByHours ∈ lw_tbl := List.mem_of_getElem? (i := 119) rfl
set_option maxRecDepth 100000 in
theorem tq185 : Cond.selects RX0 yX0_wageByHours yX0_wageByHours ∈ lw_tbl := List.mem_of_getElem? (i := 4) rfl
set_option maxRecDepth 100000 in
theorem tq186 : Cond.code yX0_wageByHours cX0_wageByHours 3 (some .int) ∈ lw_tbl := List.mem_of_getElem? (i := 120) rfl
set_option maxRecDepth 100000 in
theorem tq187 : Cond.methodLink RX0 72 yX0_hoursThatCount ∈ lw_tbl := List.mem_of_getElem? (i := 121) rfl
set_option maxRecDepth 100000 in
theorem tq188 : Cond.instanceMethod yX0_hoursThatCount ∈ lw_tbl := List.mem_of_getElem? (i := 123) rfl
set_option maxRecDepth 100000 in
theorem tq189 : Cond.selects RX0 yX0_hoursThatCount yX0_hoursThatCount ∈ lw_tbl := List.mem_of_getElem? (i := 5) rfl
set_option maxRecDepth 100000 in
theorem tq190 : Cond.code yX0_hoursThatCount cX0_hoursThatCount 5 (some .int) ∈ lw_tbl := List.mem_of_getElem? (i := 124) rfl
set_option maxRecDepth 100000 in
theorem tq191 : Cond.methodLink RX0 88 yX0_takenBack ∈ lw_tbl := List.mem_of_getElem? (i := 128) rfl
theorem tc_wsL_law0_r8 : ∀ w ∈ wsL_law0_r8, w ∈ lw_tbl := List.forall_mem_cons.mpr ⟨tq168, List.forall_mem_cons.mpr ⟨tq169, List.forall_mem_cons.mpr ⟨tq170, List.forall_mem_cons.mpr ⟨tq171, List.forall_mem_cons.mpr ⟨tq172, List.forall_mem_cons.mpr ⟨tq173, List.forall_mem_cons.mpr ⟨tq174, List.forall_mem_cons.mpr ⟨tq175, List.forall_mem_cons.mpr ⟨tq176, List.forall_mem_cons.mpr ⟨tq177, List.forall_mem_cons.mpr ⟨tq178, List.forall_mem_cons.mpr ⟨tq179, List.forall_mem_cons.mpr ⟨tq180, List.forall_mem_cons.mpr ⟨tq181, List.forall_mem_cons.mpr ⟨tq182, List.forall_mem_cons.mpr ⟨tq183, List.forall_mem_cons.mpr ⟨tq184, List.forall_mem_cons.mpr ⟨tq185, List.forall_mem_cons.mpr ⟨tq186, List.forall_mem_cons.mpr ⟨tq187, List.forall_mem_cons.mpr ⟨tq188, List.forall_mem_cons.mpr ⟨tq189, List.forall_mem_cons.mpr ⟨tq190, List.forall_mem_cons.mpr ⟨tq191, fun _ h => absurd h List.not_mem_nil⟩⟩⟩⟩⟩⟩⟩⟩⟩⟩⟩⟩⟩⟩⟩⟩⟩⟩⟩⟩⟩⟩⟩⟩
set_option maxRecDepth 100000 in
theorem tq192 : Cond.instanceMethod yX0_takenBack ∈ lw_tbl := List.mem_of_getElem? (i := 130) rfl
set_option maxRecDepth 100000 in
theorem tq193 : Cond.selects RX0 yX0_takenBack yX0_takenBack ∈ lw_tbl := List.mem_of_getElem? (i := 6) rfl
set_option maxRecDepth 100000 in
theorem tq194 : Cond.code yX0_takenBack cX0_takenBack 3 (some .int) ∈ lw_tbl := List.mem_of_getElem? (i := 131) rfl
set_option maxRecDepth 100000 in
theorem tq195 : Cond.methodLink RX0 150 yX0_wholeParts ∈ lw_tbl := List.mem_of_getElem? (i := 132) rfl
set_option maxRecDepth 100000 in
theorem tq196 : Cond.static yX0_wholeParts ∈ lw_tbl := List.mem_of_getElem? (i := 133) rfl
set_option maxRecDepth 100000 in
theorem tq197 : Cond.code yX0_wholeParts cX0_wholeParts 2 (some .int) ∈ lw_tbl := List.mem_of_getElem? (i := 134) rfl
set_option maxRecDepth 100000 in
theorem tq198 : Cond.methodLink RX0 99 yX0_handOut ∈ lw_tbl := List.mem_of_getElem? (i := 135) rfl
set_option maxRecDepth 100000 in
theorem tq199 : Cond.instanceMethod yX0_handOut ∈ lw_tbl := List.mem_of_getElem? (i := 137) rfl
set_option maxRecDepth 100000 in
theorem tq200 : Cond.selects RX0 yX0_handOut yX0_handOut ∈ lw_tbl := List.mem_of_getElem? (i := 7) rfl
set_option maxRecDepth 100000 in
theorem tq201 : Cond.code yX0_handOut cX0_handOut 6 (some .int) ∈ lw_tbl := List.mem_of_getElem? (i := 138) rfl
set_option maxRecDepth 100000 in
theorem tq202 : Cond.fieldLink RX0 153 "ReaperWages" "COIN_WORTH" "[I" ∈ lw_tbl := List.mem_of_getElem? (i := 139) rfl
set_option maxRecDepth 100000 in
theorem tq203 : Cond.methodLink RL 91 yX1_pay ∈ lw_tbl := List.mem_of_getElem? (i := 487) rfl
set_option maxRecDepth 100000 in
theorem tq204 : Cond.instanceMethod yX1_pay ∈ lw_tbl := List.mem_of_getElem? (i := 488) rfl
set_option maxRecDepth 100000 in
theorem tq205 : Cond.selects RX1 yX1_pay yX1_pay ∈ lw_tbl := List.mem_of_getElem? (i := 489) rfl
set_option maxRecDepth 100000 in
theorem tq206 : Cond.code yX1_pay cX1_pay 1 (some .int) ∈ lw_tbl := List.mem_of_getElem? (i := 490) rfl
set_option maxRecDepth 100000 in
theorem tq207 : Cond.methodLink RX1 99 yX1_paid ∈ lw_tbl := List.mem_of_getElem? (i := 491) rfl
set_option maxRecDepth 100000 in
theorem tq208 : Cond.instanceMethod yX1_paid ∈ lw_tbl := List.mem_of_getElem? (i := 493) rfl
set_option maxRecDepth 100000 in
theorem tq209 : Cond.selects RX1 yX1_paid yX1_paid ∈ lw_tbl := List.mem_of_getElem? (i := 17) rfl
set_option maxRecDepth 100000 in
theorem tq210 : Cond.code yX1_paid cX1_paid 8 (some .int) ∈ lw_tbl := List.mem_of_getElem? (i := 494) rfl
set_option maxRecDepth 100000 in
theorem tq211 : Cond.fieldLink RX1 87 "ReaperWagesModel" "WORTH" "[I" ∈ lw_tbl := List.mem_of_getElem? (i := 521) rfl
set_option maxRecDepth 100000 in
theorem tq212 : Cond.methodLink RX1 58 Lib.Math.min.name ∈ lw_tbl := List.mem_of_getElem? (i := 520) rfl
set_option maxRecDepth 100000 in
theorem tq213 : Cond.methodLink RX1 90 arraycopyName ∈ lw_tbl := List.mem_of_getElem? (i := 523) rfl
set_option maxRecDepth 100000 in
theorem tq214 : Cond.native arraycopyName ∈ lw_tbl := List.mem_of_getElem? (i := 525) rfl
set_option maxRecDepth 100000 in
theorem tq215 : Cond.static arraycopyName ∈ lw_tbl := List.mem_of_getElem? (i := 524) rfl
theorem tc_wsL_law0_r9 : ∀ w ∈ wsL_law0_r9, w ∈ lw_tbl := List.forall_mem_cons.mpr ⟨tq192, List.forall_mem_cons.mpr ⟨tq193, List.forall_mem_cons.mpr ⟨tq194, List.forall_mem_cons.mpr ⟨tq195, List.forall_mem_cons.mpr ⟨tq196, List.forall_mem_cons.mpr ⟨tq197, List.forall_mem_cons.mpr ⟨tq198, List.forall_mem_cons.mpr ⟨tq199, List.forall_mem_cons.mpr ⟨tq200, List.forall_mem_cons.mpr ⟨tq201, List.forall_mem_cons.mpr ⟨tq202, List.forall_mem_cons.mpr ⟨tq203, List.forall_mem_cons.mpr ⟨tq204, List.forall_mem_cons.mpr ⟨tq205, List.forall_mem_cons.mpr ⟨tq206, List.forall_mem_cons.mpr ⟨tq207, List.forall_mem_cons.mpr ⟨tq208, List.forall_mem_cons.mpr ⟨tq209, List.forall_mem_cons.mpr ⟨tq210, List.forall_mem_cons.mpr ⟨tq211, List.forall_mem_cons.mpr ⟨tq212, List.forall_mem_cons.mpr ⟨tq213, List.forall_mem_cons.mpr ⟨tq214, List.forall_mem_cons.mpr ⟨tq215, fun _ h => absurd h List.not_mem_nil⟩⟩⟩⟩⟩⟩⟩⟩⟩⟩⟩⟩⟩⟩⟩⟩⟩⟩⟩⟩⟩⟩⟩⟩
set_option maxRecDepth 100000 in
theorem tq216 : Cond.initialized "java/lang/System" ∈ lw_tbl := List.mem_of_getElem? (i := 40) rfl
set_option maxRecDepth 100000 in
theorem tq217 : Cond.fieldLink RX1 96 "ReaperWagesModel" "week" "I" ∈ lw_tbl := List.mem_of_getElem? (i := 410) rfl
set_option maxRecDepth 100000 in
theorem tq218 : Cond.methodLink RX1 84 yX1_back ∈ lw_tbl := List.mem_of_getElem? (i := 495) rfl
set_option maxRecDepth 100000 in
theorem tq219 : Cond.instanceMethod yX1_back ∈ lw_tbl := List.mem_of_getElem? (i := 497) rfl
set_option maxRecDepth 100000 in
theorem tq220 : Cond.selects RX1 yX1_back yX1_back ∈ lw_tbl := List.mem_of_getElem? (i := 18) rfl
set_option maxRecDepth 100000 in
theorem tq221 : Cond.code yX1_back cX1_back 2 (some .int) ∈ lw_tbl := List.mem_of_getElem? (i := 498) rfl
set_option maxRecDepth 100000 in
theorem tq222 : Cond.methodLink RX1 55 yX1_coming ∈ lw_tbl := List.mem_of_getElem? (i := 499) rfl
set_option maxRecDepth 100000 in
theorem tq223 : Cond.instanceMethod yX1_coming ∈ lw_tbl := List.mem_of_getElem? (i := 501) rfl
set_option maxRecDepth 100000 in
theorem tq224 : Cond.selects RX1 yX1_coming yX1_coming ∈ lw_tbl := List.mem_of_getElem? (i := 19) rfl
set_option maxRecDepth 100000 in
theorem tq225 : Cond.code yX1_coming cX1_coming 2 (some .int) ∈ lw_tbl := List.mem_of_getElem? (i := 502) rfl
set_option maxRecDepth 100000 in
theorem tq226 : Cond.methodLink RX1 52 yX1_wageOf ∈ lw_tbl := List.mem_of_getElem? (i := 503) rfl
set_option maxRecDepth 100000 in
theorem tq227 : Cond.instanceMethod yX1_wageOf ∈ lw_tbl := List.mem_of_getElem? (i := 505) rfl
set_option maxRecDepth 100000 in
theorem tq228 : Cond.selects RX1 yX1_wageOf yX1_wageOf ∈ lw_tbl := List.mem_of_getElem? (i := 20) rfl
set_option maxRecDepth 100000 in
theorem tq229 : Cond.code yX1_wageOf cX1_wageOf 2 (some .int) ∈ lw_tbl := List.mem_of_getElem? (i := 506) rfl
set_option maxRecDepth 100000 in
theorem tq230 : Cond.methodLink RX1 37 Lib.Math.max.name ∈ lw_tbl := List.mem_of_getElem? (i := 511) rfl
set_option maxRecDepth 100000 in
theorem tq231 : Cond.methodLink RX1 46 yX1_pieces ∈ lw_tbl := List.mem_of_getElem? (i := 507) rfl
set_option maxRecDepth 100000 in
theorem tq232 : Cond.instanceMethod yX1_pieces ∈ lw_tbl := List.mem_of_getElem? (i := 509) rfl
set_option maxRecDepth 100000 in
theorem tq233 : Cond.selects RX1 yX1_pieces yX1_pieces ∈ lw_tbl := List.mem_of_getElem? (i := 21) rfl
set_option maxRecDepth 100000 in
theorem tq234 : Cond.code yX1_pieces cX1_pieces 3 (some .int) ∈ lw_tbl := List.mem_of_getElem? (i := 510) rfl
set_option maxRecDepth 100000 in
theorem tq235 : Cond.methodLink RX1 49 yX1_byHours ∈ lw_tbl := List.mem_of_getElem? (i := 512) rfl
set_option maxRecDepth 100000 in
theorem tq236 : Cond.instanceMethod yX1_byHours ∈ lw_tbl := List.mem_of_getElem? (i := 514) rfl
set_option maxRecDepth 100000 in
theorem tq237 : Cond.selects RX1 yX1_byHours yX1_byHours ∈ lw_tbl := List.mem_of_getElem? (i := 22) rfl
set_option maxRecDepth 100000 in
theorem tq238 : Cond.code yX1_byHours cX1_byHours 2 (some .int) ∈ lw_tbl := List.mem_of_getElem? (i := 515) rfl
set_option maxRecDepth 100000 in
theorem tq239 : Cond.methodLink RX1 42 yX1_counting ∈ lw_tbl := List.mem_of_getElem? (i := 516) rfl
theorem tc_wsL_law0_r10 : ∀ w ∈ wsL_law0_r10, w ∈ lw_tbl := List.forall_mem_cons.mpr ⟨tq216, List.forall_mem_cons.mpr ⟨tq217, List.forall_mem_cons.mpr ⟨tq218, List.forall_mem_cons.mpr ⟨tq219, List.forall_mem_cons.mpr ⟨tq220, List.forall_mem_cons.mpr ⟨tq221, List.forall_mem_cons.mpr ⟨tq222, List.forall_mem_cons.mpr ⟨tq223, List.forall_mem_cons.mpr ⟨tq224, List.forall_mem_cons.mpr ⟨tq225, List.forall_mem_cons.mpr ⟨tq226, List.forall_mem_cons.mpr ⟨tq227, List.forall_mem_cons.mpr ⟨tq228, List.forall_mem_cons.mpr ⟨tq229, List.forall_mem_cons.mpr ⟨tq230, List.forall_mem_cons.mpr ⟨tq231, List.forall_mem_cons.mpr ⟨tq232, List.forall_mem_cons.mpr ⟨tq233, List.forall_mem_cons.mpr ⟨tq234, List.forall_mem_cons.mpr ⟨tq235, List.forall_mem_cons.mpr ⟨tq236, List.forall_mem_cons.mpr ⟨tq237, List.forall_mem_cons.mpr ⟨tq238, List.forall_mem_cons.mpr ⟨tq239, fun _ h => absurd h List.not_mem_nil⟩⟩⟩⟩⟩⟩⟩⟩⟩⟩⟩⟩⟩⟩⟩⟩⟩⟩⟩⟩⟩⟩⟩⟩
set_option maxRecDepth 100000 in
theorem tq240 : Cond.instanceMethod yX1_counting ∈ lw_tbl := List.mem_of_getElem? (i := 518) rfl
set_option maxRecDepth 100000 in
theorem tq241 : Cond.selects RX1 yX1_counting yX1_counting ∈ lw_tbl := List.mem_of_getElem? (i := 23) rfl
set_option maxRecDepth 100000 in
theorem tq242 : Cond.code yX1_counting cX1_counting 3 (some .int) ∈ lw_tbl := List.mem_of_getElem? (i := 519) rfl
set_option maxRecDepth 100000 in
theorem tq243 : Cond.methodLink RL 92 yL_told ∈ lw_tbl := List.mem_of_getElem? (i := 358) rfl
set_option maxRecDepth 100000 in
theorem tq244 : Cond.static yL_told ∈ lw_tbl := List.mem_of_getElem? (i := 359) rfl
set_option maxRecDepth 100000 in
theorem tq245 : Cond.codeWith yL_told cL_told 5 (some .int) [(0, 10, 13, 21)] ∈ lw_tbl := List.mem_of_getElem? (i := 360) rfl
set_option maxRecDepth 100000 in
theorem tq246 : Cond.methodLink RL 36 yX0_told ∈ lw_tbl := List.mem_of_getElem? (i := 361) rfl
set_option maxRecDepth 100000 in
theorem tq247 : Cond.instanceMethod yX0_told ∈ lw_tbl := List.mem_of_getElem? (i := 261) rfl
set_option maxRecDepth 100000 in
theorem tq248 : Cond.selects RX0 yX0_told yX0_told ∈ lw_tbl := List.mem_of_getElem? (i := 262) rfl
set_option maxRecDepth 100000 in
theorem tq249 : Cond.code yX0_told cX0_told 3 (some .int) ∈ lw_tbl := List.mem_of_getElem? (i := 263) rfl
set_option maxRecDepth 100000 in
theorem tq250 : Cond.methodLink RL 94 yX1_told ∈ lw_tbl := List.mem_of_getElem? (i := 526) rfl
set_option maxRecDepth 100000 in
theorem tq251 : Cond.instanceMethod yX1_told ∈ lw_tbl := List.mem_of_getElem? (i := 527) rfl
set_option maxRecDepth 100000 in
theorem tq252 : Cond.selects RX1 yX1_told yX1_told ∈ lw_tbl := List.mem_of_getElem? (i := 528) rfl
set_option maxRecDepth 100000 in
theorem tq253 : Cond.code yX1_told cX1_told 3 (some .int) ∈ lw_tbl := List.mem_of_getElem? (i := 529) rfl
set_option maxRecDepth 100000 in
theorem tq254 : Cond.methodLink RX1 103 yX1_reaperTold ∈ lw_tbl := List.mem_of_getElem? (i := 530) rfl
set_option maxRecDepth 100000 in
theorem tq255 : Cond.instanceMethod yX1_reaperTold ∈ lw_tbl := List.mem_of_getElem? (i := 532) rfl
set_option maxRecDepth 100000 in
theorem tq256 : Cond.selects RX1 yX1_reaperTold yX1_reaperTold ∈ lw_tbl := List.mem_of_getElem? (i := 24) rfl
set_option maxRecDepth 100000 in
theorem tq257 : Cond.code yX1_reaperTold cX1_reaperTold 3 (some .int) ∈ lw_tbl := List.mem_of_getElem? (i := 533) rfl
set_option maxRecDepth 100000 in
theorem tq258 : Cond.methodLink RL 95 yL_wage ∈ lw_tbl := List.mem_of_getElem? (i := 362) rfl
set_option maxRecDepth 100000 in
theorem tq259 : Cond.static yL_wage ∈ lw_tbl := List.mem_of_getElem? (i := 363) rfl
set_option maxRecDepth 100000 in
theorem tq260 : Cond.codeWith yL_wage cL_wage 5 (some .int) [(0, 10, 13, 21)] ∈ lw_tbl := List.mem_of_getElem? (i := 364) rfl
set_option maxRecDepth 100000 in
theorem tq261 : Cond.methodLink RL 39 yX0_wage ∈ lw_tbl := List.mem_of_getElem? (i := 365) rfl
set_option maxRecDepth 100000 in
theorem tq262 : Cond.instanceMethod yX0_wage ∈ lw_tbl := List.mem_of_getElem? (i := 265) rfl
set_option maxRecDepth 100000 in
theorem tq263 : Cond.selects RX0 yX0_wage yX0_wage ∈ lw_tbl := List.mem_of_getElem? (i := 266) rfl
theorem tc_wsL_law0_r11 : ∀ w ∈ wsL_law0_r11, w ∈ lw_tbl := List.forall_mem_cons.mpr ⟨tq240, List.forall_mem_cons.mpr ⟨tq241, List.forall_mem_cons.mpr ⟨tq242, List.forall_mem_cons.mpr ⟨tq243, List.forall_mem_cons.mpr ⟨tq244, List.forall_mem_cons.mpr ⟨tq245, List.forall_mem_cons.mpr ⟨tq246, List.forall_mem_cons.mpr ⟨tq247, List.forall_mem_cons.mpr ⟨tq248, List.forall_mem_cons.mpr ⟨tq249, List.forall_mem_cons.mpr ⟨tq250, List.forall_mem_cons.mpr ⟨tq251, List.forall_mem_cons.mpr ⟨tq252, List.forall_mem_cons.mpr ⟨tq253, List.forall_mem_cons.mpr ⟨tq254, List.forall_mem_cons.mpr ⟨tq255, List.forall_mem_cons.mpr ⟨tq256, List.forall_mem_cons.mpr ⟨tq257, List.forall_mem_cons.mpr ⟨tq258, List.forall_mem_cons.mpr ⟨tq259, List.forall_mem_cons.mpr ⟨tq260, List.forall_mem_cons.mpr ⟨tq261, List.forall_mem_cons.mpr ⟨tq262, List.forall_mem_cons.mpr ⟨tq263, fun _ h => absurd h List.not_mem_nil⟩⟩⟩⟩⟩⟩⟩⟩⟩⟩⟩⟩⟩⟩⟩⟩⟩⟩⟩⟩⟩⟩⟩⟩
set_option maxRecDepth 100000 in
theorem tq264 : Cond.code yX0_wage cX0_wage 3 (some .int) ∈ lw_tbl := List.mem_of_getElem? (i := 267) rfl
set_option maxRecDepth 100000 in
theorem tq265 : Cond.methodLink RX0 92 yX0_restToPay ∈ lw_tbl := List.mem_of_getElem? (i := 148) rfl
set_option maxRecDepth 100000 in
theorem tq266 : Cond.instanceMethod yX0_restToPay ∈ lw_tbl := List.mem_of_getElem? (i := 150) rfl
set_option maxRecDepth 100000 in
theorem tq267 : Cond.selects RX0 yX0_restToPay yX0_restToPay ∈ lw_tbl := List.mem_of_getElem? (i := 8) rfl
set_option maxRecDepth 100000 in
theorem tq268 : Cond.code yX0_restToPay cX0_restToPay 3 (some .int) ∈ lw_tbl := List.mem_of_getElem? (i := 151) rfl
set_option maxRecDepth 100000 in
theorem tq269 : Cond.methodLink RL 97 yX1_wage ∈ lw_tbl := List.mem_of_getElem? (i := 534) rfl
set_option maxRecDepth 100000 in
theorem tq270 : Cond.instanceMethod yX1_wage ∈ lw_tbl := List.mem_of_getElem? (i := 535) rfl
set_option maxRecDepth 100000 in
theorem tq271 : Cond.selects RX1 yX1_wage yX1_wage ∈ lw_tbl := List.mem_of_getElem? (i := 536) rfl
set_option maxRecDepth 100000 in
theorem tq272 : Cond.code yX1_wage cX1_wage 3 (some .int) ∈ lw_tbl := List.mem_of_getElem? (i := 537) rfl
set_option maxRecDepth 100000 in
theorem tq273 : Cond.methodLink RX1 106 yX1_wageTold ∈ lw_tbl := List.mem_of_getElem? (i := 538) rfl
set_option maxRecDepth 100000 in
theorem tq274 : Cond.instanceMethod yX1_wageTold ∈ lw_tbl := List.mem_of_getElem? (i := 540) rfl
set_option maxRecDepth 100000 in
theorem tq275 : Cond.selects RX1 yX1_wageTold yX1_wageTold ∈ lw_tbl := List.mem_of_getElem? (i := 25) rfl
set_option maxRecDepth 100000 in
theorem tq276 : Cond.code yX1_wageTold cX1_wageTold 3 (some .int) ∈ lw_tbl := List.mem_of_getElem? (i := 541) rfl
set_option maxRecDepth 100000 in
theorem tq277 : Cond.methodLink RL 98 yL_chest ∈ lw_tbl := List.mem_of_getElem? (i := 366) rfl
set_option maxRecDepth 100000 in
theorem tq278 : Cond.static yL_chest ∈ lw_tbl := List.mem_of_getElem? (i := 367) rfl
set_option maxRecDepth 100000 in
theorem tq279 : Cond.codeWith yL_chest cL_chest 4 (some .int) [(0, 9, 12, 21)] ∈ lw_tbl := List.mem_of_getElem? (i := 368) rfl
set_option maxRecDepth 100000 in
theorem tq280 : Cond.methodLink RL 42 yX0_chest ∈ lw_tbl := List.mem_of_getElem? (i := 369) rfl
set_option maxRecDepth 100000 in
theorem tq281 : Cond.instanceMethod yX0_chest ∈ lw_tbl := List.mem_of_getElem? (i := 370) rfl
set_option maxRecDepth 100000 in
theorem tq282 : Cond.selects RX0 yX0_chest yX0_chest ∈ lw_tbl := List.mem_of_getElem? (i := 371) rfl
set_option maxRecDepth 100000 in
theorem tq283 : Cond.code yX0_chest cX0_chest 2 (some .int) ∈ lw_tbl := List.mem_of_getElem? (i := 372) rfl
set_option maxRecDepth 100000 in
theorem tq284 : Cond.methodLink RL 100 yX1_chest ∈ lw_tbl := List.mem_of_getElem? (i := 542) rfl
set_option maxRecDepth 100000 in
theorem tq285 : Cond.instanceMethod yX1_chest ∈ lw_tbl := List.mem_of_getElem? (i := 543) rfl
set_option maxRecDepth 100000 in
theorem tq286 : Cond.selects RX1 yX1_chest yX1_chest ∈ lw_tbl := List.mem_of_getElem? (i := 544) rfl
set_option maxRecDepth 100000 in
theorem tq287 : Cond.code yX1_chest cX1_chest 2 (some .int) ∈ lw_tbl := List.mem_of_getElem? (i := 545) rfl
theorem tc_wsL_law0_r12 : ∀ w ∈ wsL_law0_r12, w ∈ lw_tbl := List.forall_mem_cons.mpr ⟨tq264, List.forall_mem_cons.mpr ⟨tq265, List.forall_mem_cons.mpr ⟨tq266, List.forall_mem_cons.mpr ⟨tq267, List.forall_mem_cons.mpr ⟨tq268, List.forall_mem_cons.mpr ⟨tq269, List.forall_mem_cons.mpr ⟨tq270, List.forall_mem_cons.mpr ⟨tq271, List.forall_mem_cons.mpr ⟨tq272, List.forall_mem_cons.mpr ⟨tq273, List.forall_mem_cons.mpr ⟨tq274, List.forall_mem_cons.mpr ⟨tq275, List.forall_mem_cons.mpr ⟨tq276, List.forall_mem_cons.mpr ⟨tq277, List.forall_mem_cons.mpr ⟨tq278, List.forall_mem_cons.mpr ⟨tq279, List.forall_mem_cons.mpr ⟨tq280, List.forall_mem_cons.mpr ⟨tq281, List.forall_mem_cons.mpr ⟨tq282, List.forall_mem_cons.mpr ⟨tq283, List.forall_mem_cons.mpr ⟨tq284, List.forall_mem_cons.mpr ⟨tq285, List.forall_mem_cons.mpr ⟨tq286, List.forall_mem_cons.mpr ⟨tq287, fun _ h => absurd h List.not_mem_nil⟩⟩⟩⟩⟩⟩⟩⟩⟩⟩⟩⟩⟩⟩⟩⟩⟩⟩⟩⟩⟩⟩⟩⟩
set_option maxRecDepth 100000 in
theorem tq288 : Cond.methodLink RL 101 yL_coins ∈ lw_tbl := List.mem_of_getElem? (i := 373) rfl
set_option maxRecDepth 100000 in
theorem tq289 : Cond.static yL_coins ∈ lw_tbl := List.mem_of_getElem? (i := 374) rfl
set_option maxRecDepth 100000 in
theorem tq290 : Cond.codeWith yL_coins cL_coins 5 (some .int) [(0, 10, 13, 21)] ∈ lw_tbl := List.mem_of_getElem? (i := 375) rfl
set_option maxRecDepth 100000 in
theorem tq291 : Cond.methodLink RL 45 yX0_coins ∈ lw_tbl := List.mem_of_getElem? (i := 376) rfl
set_option maxRecDepth 100000 in
theorem tq292 : Cond.instanceMethod yX0_coins ∈ lw_tbl := List.mem_of_getElem? (i := 269) rfl
set_option maxRecDepth 100000 in
theorem tq293 : Cond.selects RX0 yX0_coins yX0_coins ∈ lw_tbl := List.mem_of_getElem? (i := 270) rfl
set_option maxRecDepth 100000 in
theorem tq294 : Cond.code yX0_coins cX0_coins 4 (some .int) ∈ lw_tbl := List.mem_of_getElem? (i := 271) rfl
set_option maxRecDepth 100000 in
theorem tq295 : Cond.methodLink RX0 95 yX0_copyRow ∈ lw_tbl := List.mem_of_getElem? (i := 145) rfl
set_option maxRecDepth 100000 in
theorem tq296 : Cond.static yX0_copyRow ∈ lw_tbl := List.mem_of_getElem? (i := 146) rfl
set_option maxRecDepth 100000 in
theorem tq297 : Cond.code yX0_copyRow cX0_copyRow 4 none ∈ lw_tbl := List.mem_of_getElem? (i := 147) rfl
set_option maxRecDepth 100000 in
theorem tq298 : Cond.methodLink RL 103 yX1_coins ∈ lw_tbl := List.mem_of_getElem? (i := 546) rfl
set_option maxRecDepth 100000 in
theorem tq299 : Cond.instanceMethod yX1_coins ∈ lw_tbl := List.mem_of_getElem? (i := 547) rfl
set_option maxRecDepth 100000 in
theorem tq300 : Cond.selects RX1 yX1_coins yX1_coins ∈ lw_tbl := List.mem_of_getElem? (i := 548) rfl
set_option maxRecDepth 100000 in
theorem tq301 : Cond.code yX1_coins cX1_coins 3 (some .int) ∈ lw_tbl := List.mem_of_getElem? (i := 549) rfl
set_option maxRecDepth 100000 in
theorem tq302 : Cond.methodLink RX1 113 yX1_look ∈ lw_tbl := List.mem_of_getElem? (i := 550) rfl
set_option maxRecDepth 100000 in
theorem tq303 : Cond.instanceMethod yX1_look ∈ lw_tbl := List.mem_of_getElem? (i := 552) rfl
set_option maxRecDepth 100000 in
theorem tq304 : Cond.selects RX1 yX1_look yX1_look ∈ lw_tbl := List.mem_of_getElem? (i := 26) rfl
set_option maxRecDepth 100000 in
theorem tq305 : Cond.code yX1_look cX1_look 3 none ∈ lw_tbl := List.mem_of_getElem? (i := 553) rfl
set_option maxRecDepth 100000 in
theorem tq306 : Cond.methodLink RX1 109 yX1_copy ∈ lw_tbl := List.mem_of_getElem? (i := 554) rfl
set_option maxRecDepth 100000 in
theorem tq307 : Cond.static yX1_copy ∈ lw_tbl := List.mem_of_getElem? (i := 555) rfl
set_option maxRecDepth 100000 in
theorem tq308 : Cond.code yX1_copy cX1_copy 2 (some (.array .int)) ∈ lw_tbl := List.mem_of_getElem? (i := 556) rfl
set_option maxRecDepth 100000 in
theorem tq309 : Cond.methodLink RL 104 yL_count ∈ lw_tbl := List.mem_of_getElem? (i := 377) rfl
set_option maxRecDepth 100000 in
theorem tq310 : Cond.static yL_count ∈ lw_tbl := List.mem_of_getElem? (i := 378) rfl
set_option maxRecDepth 100000 in
theorem tq311 : Cond.codeWith yL_count cL_count 4 (some .int) [(0, 9, 12, 21)] ∈ lw_tbl := List.mem_of_getElem? (i := 379) rfl
theorem tc_wsL_law0_r13 : ∀ w ∈ wsL_law0_r13, w ∈ lw_tbl := List.forall_mem_cons.mpr ⟨tq288, List.forall_mem_cons.mpr ⟨tq289, List.forall_mem_cons.mpr ⟨tq290, List.forall_mem_cons.mpr ⟨tq291, List.forall_mem_cons.mpr ⟨tq292, List.forall_mem_cons.mpr ⟨tq293, List.forall_mem_cons.mpr ⟨tq294, List.forall_mem_cons.mpr ⟨tq295, List.forall_mem_cons.mpr ⟨tq296, List.forall_mem_cons.mpr ⟨tq297, List.forall_mem_cons.mpr ⟨tq298, List.forall_mem_cons.mpr ⟨tq299, List.forall_mem_cons.mpr ⟨tq300, List.forall_mem_cons.mpr ⟨tq301, List.forall_mem_cons.mpr ⟨tq302, List.forall_mem_cons.mpr ⟨tq303, List.forall_mem_cons.mpr ⟨tq304, List.forall_mem_cons.mpr ⟨tq305, List.forall_mem_cons.mpr ⟨tq306, List.forall_mem_cons.mpr ⟨tq307, List.forall_mem_cons.mpr ⟨tq308, List.forall_mem_cons.mpr ⟨tq309, List.forall_mem_cons.mpr ⟨tq310, List.forall_mem_cons.mpr ⟨tq311, fun _ h => absurd h List.not_mem_nil⟩⟩⟩⟩⟩⟩⟩⟩⟩⟩⟩⟩⟩⟩⟩⟩⟩⟩⟩⟩⟩⟩⟩⟩
set_option maxRecDepth 100000 in
theorem tq312 : Cond.methodLink RL 48 yX0_count ∈ lw_tbl := List.mem_of_getElem? (i := 380) rfl
set_option maxRecDepth 100000 in
theorem tq313 : Cond.instanceMethod yX0_count ∈ lw_tbl := List.mem_of_getElem? (i := 178) rfl
set_option maxRecDepth 100000 in
theorem tq314 : Cond.selects RX0 yX0_count yX0_count ∈ lw_tbl := List.mem_of_getElem? (i := 179) rfl
set_option maxRecDepth 100000 in
theorem tq315 : Cond.code yX0_count cX0_count 2 (some .int) ∈ lw_tbl := List.mem_of_getElem? (i := 180) rfl
set_option maxRecDepth 100000 in
theorem tq316 : Cond.methodLink RX0 103 yX0_sumOfHired ∈ lw_tbl := List.mem_of_getElem? (i := 252) rfl
set_option maxRecDepth 100000 in
theorem tq317 : Cond.instanceMethod yX0_sumOfHired ∈ lw_tbl := List.mem_of_getElem? (i := 254) rfl
set_option maxRecDepth 100000 in
theorem tq318 : Cond.selects RX0 yX0_sumOfHired yX0_sumOfHired ∈ lw_tbl := List.mem_of_getElem? (i := 11) rfl
set_option maxRecDepth 100000 in
theorem tq319 : Cond.code yX0_sumOfHired cX0_sumOfHired 4 (some .int) ∈ lw_tbl := List.mem_of_getElem? (i := 255) rfl
set_option maxRecDepth 100000 in
theorem tq320 : Cond.methodLink RX0 107 yX0_worthOfPurse ∈ lw_tbl := List.mem_of_getElem? (i := 256) rfl
set_option maxRecDepth 100000 in
theorem tq321 : Cond.instanceMethod yX0_worthOfPurse ∈ lw_tbl := List.mem_of_getElem? (i := 258) rfl
set_option maxRecDepth 100000 in
theorem tq322 : Cond.selects RX0 yX0_worthOfPurse yX0_worthOfPurse ∈ lw_tbl := List.mem_of_getElem? (i := 12) rfl
set_option maxRecDepth 100000 in
theorem tq323 : Cond.code yX0_worthOfPurse cX0_worthOfPurse 3 (some .int) ∈ lw_tbl := List.mem_of_getElem? (i := 259) rfl
set_option maxRecDepth 100000 in
theorem tq324 : Cond.methodLink RX0 111 yX0_allWages ∈ lw_tbl := List.mem_of_getElem? (i := 167) rfl
set_option maxRecDepth 100000 in
theorem tq325 : Cond.instanceMethod yX0_allWages ∈ lw_tbl := List.mem_of_getElem? (i := 169) rfl
set_option maxRecDepth 100000 in
theorem tq326 : Cond.selects RX0 yX0_allWages yX0_allWages ∈ lw_tbl := List.mem_of_getElem? (i := 9) rfl
set_option maxRecDepth 100000 in
theorem tq327 : Cond.code yX0_allWages cX0_allWages 4 (some .int) ∈ lw_tbl := List.mem_of_getElem? (i := 170) rfl
set_option maxRecDepth 100000 in
theorem tq328 : Cond.methodLink RL 106 yX1_count ∈ lw_tbl := List.mem_of_getElem? (i := 557) rfl
set_option maxRecDepth 100000 in
theorem tq329 : Cond.instanceMethod yX1_count ∈ lw_tbl := List.mem_of_getElem? (i := 558) rfl
set_option maxRecDepth 100000 in
theorem tq330 : Cond.selects RX1 yX1_count yX1_count ∈ lw_tbl := List.mem_of_getElem? (i := 559) rfl
set_option maxRecDepth 100000 in
theorem tq331 : Cond.code yX1_count cX1_count 2 (some .int) ∈ lw_tbl := List.mem_of_getElem? (i := 560) rfl
set_option maxRecDepth 100000 in
theorem tq332 : Cond.methodLink RX1 122 yX1_counted ∈ lw_tbl := List.mem_of_getElem? (i := 561) rfl
set_option maxRecDepth 100000 in
theorem tq333 : Cond.instanceMethod yX1_counted ∈ lw_tbl := List.mem_of_getElem? (i := 563) rfl
set_option maxRecDepth 100000 in
theorem tq334 : Cond.selects RX1 yX1_counted yX1_counted ∈ lw_tbl := List.mem_of_getElem? (i := 27) rfl
set_option maxRecDepth 100000 in
theorem tq335 : Cond.code yX1_counted cX1_counted 2 (some .int) ∈ lw_tbl := List.mem_of_getElem? (i := 564) rfl
theorem tc_wsL_law0_r14 : ∀ w ∈ wsL_law0_r14, w ∈ lw_tbl := List.forall_mem_cons.mpr ⟨tq312, List.forall_mem_cons.mpr ⟨tq313, List.forall_mem_cons.mpr ⟨tq314, List.forall_mem_cons.mpr ⟨tq315, List.forall_mem_cons.mpr ⟨tq316, List.forall_mem_cons.mpr ⟨tq317, List.forall_mem_cons.mpr ⟨tq318, List.forall_mem_cons.mpr ⟨tq319, List.forall_mem_cons.mpr ⟨tq320, List.forall_mem_cons.mpr ⟨tq321, List.forall_mem_cons.mpr ⟨tq322, List.forall_mem_cons.mpr ⟨tq323, List.forall_mem_cons.mpr ⟨tq324, List.forall_mem_cons.mpr ⟨tq325, List.forall_mem_cons.mpr ⟨tq326, List.forall_mem_cons.mpr ⟨tq327, List.forall_mem_cons.mpr ⟨tq328, List.forall_mem_cons.mpr ⟨tq329, List.forall_mem_cons.mpr ⟨tq330, List.forall_mem_cons.mpr ⟨tq331, List.forall_mem_cons.mpr ⟨tq332, List.forall_mem_cons.mpr ⟨tq333, List.forall_mem_cons.mpr ⟨tq334, List.forall_mem_cons.mpr ⟨tq335, fun _ h => absurd h List.not_mem_nil⟩⟩⟩⟩⟩⟩⟩⟩⟩⟩⟩⟩⟩⟩⟩⟩⟩⟩⟩⟩⟩⟩⟩⟩
set_option maxRecDepth 100000 in
theorem tq336 : Cond.methodLink RX1 116 yX1_sum ∈ lw_tbl := List.mem_of_getElem? (i := 565) rfl
set_option maxRecDepth 100000 in
theorem tq337 : Cond.instanceMethod yX1_sum ∈ lw_tbl := List.mem_of_getElem? (i := 567) rfl
set_option maxRecDepth 100000 in
theorem tq338 : Cond.selects RX1 yX1_sum yX1_sum ∈ lw_tbl := List.mem_of_getElem? (i := 28) rfl
set_option maxRecDepth 100000 in
theorem tq339 : Cond.code yX1_sum cX1_sum 4 (some .int) ∈ lw_tbl := List.mem_of_getElem? (i := 568) rfl
set_option maxRecDepth 100000 in
theorem tq340 : Cond.methodLink RX1 119 yX1_all ∈ lw_tbl := List.mem_of_getElem? (i := 569) rfl
set_option maxRecDepth 100000 in
theorem tq341 : Cond.instanceMethod yX1_all ∈ lw_tbl := List.mem_of_getElem? (i := 571) rfl
set_option maxRecDepth 100000 in
theorem tq342 : Cond.selects RX1 yX1_all yX1_all ∈ lw_tbl := List.mem_of_getElem? (i := 29) rfl
set_option maxRecDepth 100000 in
theorem tq343 : Cond.code yX1_all cX1_all 3 (some .int) ∈ lw_tbl := List.mem_of_getElem? (i := 572) rfl
set_option maxRecDepth 100000 in
theorem tq344 : Cond.methodLink RL 107 yL_rate ∈ lw_tbl := List.mem_of_getElem? (i := 381) rfl
set_option maxRecDepth 100000 in
theorem tq345 : Cond.static yL_rate ∈ lw_tbl := List.mem_of_getElem? (i := 382) rfl
set_option maxRecDepth 100000 in
theorem tq346 : Cond.codeWith yL_rate cL_rate 4 (some .int) [(0, 9, 12, 21)] ∈ lw_tbl := List.mem_of_getElem? (i := 383) rfl
set_option maxRecDepth 100000 in
theorem tq347 : Cond.methodLink RL 51 yX0_rate ∈ lw_tbl := List.mem_of_getElem? (i := 384) rfl
set_option maxRecDepth 100000 in
theorem tq348 : Cond.instanceMethod yX0_rate ∈ lw_tbl := List.mem_of_getElem? (i := 385) rfl
set_option maxRecDepth 100000 in
theorem tq349 : Cond.selects RX0 yX0_rate yX0_rate ∈ lw_tbl := List.mem_of_getElem? (i := 386) rfl
set_option maxRecDepth 100000 in
theorem tq350 : Cond.code yX0_rate cX0_rate 2 (some .int) ∈ lw_tbl := List.mem_of_getElem? (i := 387) rfl
set_option maxRecDepth 100000 in
theorem tq351 : Cond.methodLink RL 109 yX1_rate ∈ lw_tbl := List.mem_of_getElem? (i := 573) rfl
set_option maxRecDepth 100000 in
theorem tq352 : Cond.instanceMethod yX1_rate ∈ lw_tbl := List.mem_of_getElem? (i := 574) rfl
set_option maxRecDepth 100000 in
theorem tq353 : Cond.selects RX1 yX1_rate yX1_rate ∈ lw_tbl := List.mem_of_getElem? (i := 575) rfl
set_option maxRecDepth 100000 in
theorem tq354 : Cond.code yX1_rate cX1_rate 2 (some .int) ∈ lw_tbl := List.mem_of_getElem? (i := 576) rfl
set_option maxRecDepth 100000 in
theorem tq355 : Cond.methodLink RL 110 yX1_thrown ∈ lw_tbl := List.mem_of_getElem? (i := 430) rfl
set_option maxRecDepth 100000 in
theorem tq356 : Cond.instanceMethod yX1_thrown ∈ lw_tbl := List.mem_of_getElem? (i := 431) rfl
set_option maxRecDepth 100000 in
theorem tq357 : Cond.selects RX1 yX1_thrown yX1_thrown ∈ lw_tbl := List.mem_of_getElem? (i := 432) rfl
set_option maxRecDepth 100000 in
theorem tq358 : Cond.code yX1_thrown cX1_thrown 1 (some .int) ∈ lw_tbl := List.mem_of_getElem? (i := 433) rfl
set_option maxRecDepth 100000 in
theorem tq359 : Cond.methodLink RL 113 yL_would ∈ lw_tbl := List.mem_of_getElem? (i := 388) rfl
theorem tc_wsL_law0_r15 : ∀ w ∈ wsL_law0_r15, w ∈ lw_tbl := List.forall_mem_cons.mpr ⟨tq336, List.forall_mem_cons.mpr ⟨tq337, List.forall_mem_cons.mpr ⟨tq338, List.forall_mem_cons.mpr ⟨tq339, List.forall_mem_cons.mpr ⟨tq340, List.forall_mem_cons.mpr ⟨tq341, List.forall_mem_cons.mpr ⟨tq342, List.forall_mem_cons.mpr ⟨tq343, List.forall_mem_cons.mpr ⟨tq344, List.forall_mem_cons.mpr ⟨tq345, List.forall_mem_cons.mpr ⟨tq346, List.forall_mem_cons.mpr ⟨tq347, List.forall_mem_cons.mpr ⟨tq348, List.forall_mem_cons.mpr ⟨tq349, List.forall_mem_cons.mpr ⟨tq350, List.forall_mem_cons.mpr ⟨tq351, List.forall_mem_cons.mpr ⟨tq352, List.forall_mem_cons.mpr ⟨tq353, List.forall_mem_cons.mpr ⟨tq354, List.forall_mem_cons.mpr ⟨tq355, List.forall_mem_cons.mpr ⟨tq356, List.forall_mem_cons.mpr ⟨tq357, List.forall_mem_cons.mpr ⟨tq358, List.forall_mem_cons.mpr ⟨tq359, fun _ h => absurd h List.not_mem_nil⟩⟩⟩⟩⟩⟩⟩⟩⟩⟩⟩⟩⟩⟩⟩⟩⟩⟩⟩⟩⟩⟩⟩⟩
set_option maxRecDepth 100000 in
theorem tq360 : Cond.static yL_would ∈ lw_tbl := List.mem_of_getElem? (i := 389) rfl
set_option maxRecDepth 100000 in
theorem tq361 : Cond.codeWith yL_would cL_would 5 (some .int) [(0, 10, 13, 21), (0, 10, 17, 13)] ∈ lw_tbl := List.mem_of_getElem? (i := 390) rfl
set_option maxRecDepth 100000 in
theorem tq362 : Cond.methodLink RL 54 yX0_would ∈ lw_tbl := List.mem_of_getElem? (i := 391) rfl
set_option maxRecDepth 100000 in
theorem tq363 : Cond.instanceMethod yX0_would ∈ lw_tbl := List.mem_of_getElem? (i := 392) rfl
set_option maxRecDepth 100000 in
theorem tq364 : Cond.selects RX0 yX0_would yX0_would ∈ lw_tbl := List.mem_of_getElem? (i := 393) rfl
set_option maxRecDepth 100000 in
theorem tq365 : Cond.code yX0_would cX0_would 3 (some .int) ∈ lw_tbl := List.mem_of_getElem? (i := 394) rfl
set_option maxRecDepth 100000 in
theorem tq366 : Cond.methodLink RL 115 yX1_would ∈ lw_tbl := List.mem_of_getElem? (i := 577) rfl
set_option maxRecDepth 100000 in
theorem tq367 : Cond.instanceMethod yX1_would ∈ lw_tbl := List.mem_of_getElem? (i := 578) rfl
set_option maxRecDepth 100000 in
theorem tq368 : Cond.selects RX1 yX1_would yX1_would ∈ lw_tbl := List.mem_of_getElem? (i := 579) rfl
set_option maxRecDepth 100000 in
theorem tq369 : Cond.code yX1_would cX1_would 5 (some .int) ∈ lw_tbl := List.mem_of_getElem? (i := 580) rfl
set_option maxRecDepth 100000 in
theorem tq370 : Cond.methodLink RL 116 yL_until ∈ lw_tbl := List.mem_of_getElem? (i := 395) rfl
set_option maxRecDepth 100000 in
theorem tq371 : Cond.static yL_until ∈ lw_tbl := List.mem_of_getElem? (i := 396) rfl
set_option maxRecDepth 100000 in
theorem tq372 : Cond.codeWith yL_until cL_until 4 (some .int) [(0, 9, 12, 21)] ∈ lw_tbl := List.mem_of_getElem? (i := 397) rfl
set_option maxRecDepth 100000 in
theorem tq373 : Cond.methodLink RL 57 yX0_until ∈ lw_tbl := List.mem_of_getElem? (i := 398) rfl
set_option maxRecDepth 100000 in
theorem tq374 : Cond.instanceMethod yX0_until ∈ lw_tbl := List.mem_of_getElem? (i := 399) rfl
set_option maxRecDepth 100000 in
theorem tq375 : Cond.selects RX0 yX0_until yX0_until ∈ lw_tbl := List.mem_of_getElem? (i := 400) rfl
set_option maxRecDepth 100000 in
theorem tq376 : Cond.code yX0_until cX0_until 5 (some .int) ∈ lw_tbl := List.mem_of_getElem? (i := 401) rfl
set_option maxRecDepth 100000 in
theorem tq377 : Cond.methodLink RL 118 yX1_until ∈ lw_tbl := List.mem_of_getElem? (i := 581) rfl
set_option maxRecDepth 100000 in
theorem tq378 : Cond.instanceMethod yX1_until ∈ lw_tbl := List.mem_of_getElem? (i := 582) rfl
set_option maxRecDepth 100000 in
theorem tq379 : Cond.selects RX1 yX1_until yX1_until ∈ lw_tbl := List.mem_of_getElem? (i := 583) rfl
set_option maxRecDepth 100000 in
theorem tq380 : Cond.code yX1_until cX1_until 5 (some .int) ∈ lw_tbl := List.mem_of_getElem? (i := 584) rfl
set_option maxRecDepth 100000 in
theorem tq381 : Cond.methodLink RL 119 yX0_lacks ∈ lw_tbl := List.mem_of_getElem? (i := 141) rfl
set_option maxRecDepth 100000 in
theorem tq382 : Cond.instanceMethod yX0_lacks ∈ lw_tbl := List.mem_of_getElem? (i := 142) rfl
set_option maxRecDepth 100000 in
theorem tq383 : Cond.selects RX0 yX0_lacks yX0_lacks ∈ lw_tbl := List.mem_of_getElem? (i := 143) rfl
theorem tc_wsL_law0_r16 : ∀ w ∈ wsL_law0_r16, w ∈ lw_tbl := List.forall_mem_cons.mpr ⟨tq360, List.forall_mem_cons.mpr ⟨tq361, List.forall_mem_cons.mpr ⟨tq362, List.forall_mem_cons.mpr ⟨tq363, List.forall_mem_cons.mpr ⟨tq364, List.forall_mem_cons.mpr ⟨tq365, List.forall_mem_cons.mpr ⟨tq366, List.forall_mem_cons.mpr ⟨tq367, List.forall_mem_cons.mpr ⟨tq368, List.forall_mem_cons.mpr ⟨tq369, List.forall_mem_cons.mpr ⟨tq370, List.forall_mem_cons.mpr ⟨tq371, List.forall_mem_cons.mpr ⟨tq372, List.forall_mem_cons.mpr ⟨tq373, List.forall_mem_cons.mpr ⟨tq374, List.forall_mem_cons.mpr ⟨tq375, List.forall_mem_cons.mpr ⟨tq376, List.forall_mem_cons.mpr ⟨tq377, List.forall_mem_cons.mpr ⟨tq378, List.forall_mem_cons.mpr ⟨tq379, List.forall_mem_cons.mpr ⟨tq380, List.forall_mem_cons.mpr ⟨tq381, List.forall_mem_cons.mpr ⟨tq382, List.forall_mem_cons.mpr ⟨tq383, fun _ h => absurd h List.not_mem_nil⟩⟩⟩⟩⟩⟩⟩⟩⟩⟩⟩⟩⟩⟩⟩⟩⟩⟩⟩⟩⟩⟩⟩⟩
set_option maxRecDepth 100000 in
theorem tq384 : Cond.code yX0_lacks cX0_lacks 4 (some .int) ∈ lw_tbl := List.mem_of_getElem? (i := 144) rfl
set_option maxRecDepth 100000 in
theorem tq385 : Cond.methodLink RL 122 yX1_lacks ∈ lw_tbl := List.mem_of_getElem? (i := 585) rfl
set_option maxRecDepth 100000 in
theorem tq386 : Cond.instanceMethod yX1_lacks ∈ lw_tbl := List.mem_of_getElem? (i := 586) rfl
set_option maxRecDepth 100000 in
theorem tq387 : Cond.selects RX1 yX1_lacks yX1_lacks ∈ lw_tbl := List.mem_of_getElem? (i := 587) rfl
set_option maxRecDepth 100000 in
theorem tq388 : Cond.code yX1_lacks cX1_lacks 5 (some .int) ∈ lw_tbl := List.mem_of_getElem? (i := 588) rfl
set_option maxRecDepth 100000 in
theorem tq389 : Cond.methodLink RL 123 yX0_advise ∈ lw_tbl := List.mem_of_getElem? (i := 152) rfl
set_option maxRecDepth 100000 in
theorem tq390 : Cond.instanceMethod yX0_advise ∈ lw_tbl := List.mem_of_getElem? (i := 153) rfl
set_option maxRecDepth 100000 in
theorem tq391 : Cond.selects RX0 yX0_advise yX0_advise ∈ lw_tbl := List.mem_of_getElem? (i := 154) rfl
set_option maxRecDepth 100000 in
theorem tq392 : Cond.code yX0_advise cX0_advise 7 (some .int) ∈ lw_tbl := List.mem_of_getElem? (i := 155) rfl
set_option maxRecDepth 100000 in
theorem tq393 : Cond.methodLink RX0 120 Lib.MathLoose.abs_long.x ∈ lw_tbl := List.mem_of_getElem? (i := 160) rfl
set_option maxRecDepth 100000 in
theorem tq394 : Cond.static Lib.MathLoose.abs_long.x ∈ lw_tbl := List.mem_of_getElem? (i := 161) rfl
set_option maxRecDepth 100000 in
theorem tq395 : Cond.code Lib.MathLoose.abs_long.x Lib.MathLoose.abs_long.code 2 (some .long) ∈ lw_tbl := List.mem_of_getElem? (i := 162) rfl
set_option maxRecDepth 100000 in
theorem tq396 : Cond.methodLink RL 126 yX1_advise ∈ lw_tbl := List.mem_of_getElem? (i := 589) rfl
set_option maxRecDepth 100000 in
theorem tq397 : Cond.instanceMethod yX1_advise ∈ lw_tbl := List.mem_of_getElem? (i := 590) rfl
set_option maxRecDepth 100000 in
theorem tq398 : Cond.selects RX1 yX1_advise yX1_advise ∈ lw_tbl := List.mem_of_getElem? (i := 591) rfl
set_option maxRecDepth 100000 in
theorem tq399 : Cond.code yX1_advise cX1_advise 5 (some .int) ∈ lw_tbl := List.mem_of_getElem? (i := 592) rfl
set_option maxRecDepth 100000 in
theorem tq400 : Cond.methodLink RX1 125 Lib.Math.abs.name ∈ lw_tbl := List.mem_of_getElem? (i := 593) rfl
set_option maxRecDepth 100000 in
theorem tq401 : Cond.static Lib.Math.abs.name ∈ lw_tbl := List.mem_of_getElem? (i := 594) rfl
set_option maxRecDepth 100000 in
theorem tq402 : Cond.code Lib.Math.abs.name Lib.Math.abs.code 1 (some .int) ∈ lw_tbl := List.mem_of_getElem? (i := 595) rfl
set_option maxRecDepth 100000 in
theorem tq403 : Cond.methodLink RL 127 yX0_mean ∈ lw_tbl := List.mem_of_getElem? (i := 163) rfl
set_option maxRecDepth 100000 in
theorem tq404 : Cond.instanceMethod yX0_mean ∈ lw_tbl := List.mem_of_getElem? (i := 164) rfl
set_option maxRecDepth 100000 in
theorem tq405 : Cond.selects RX0 yX0_mean yX0_mean ∈ lw_tbl := List.mem_of_getElem? (i := 165) rfl
set_option maxRecDepth 100000 in
theorem tq406 : Cond.code yX0_mean cX0_mean 1 (some .double) ∈ lw_tbl := List.mem_of_getElem? (i := 166) rfl
set_option maxRecDepth 100000 in
theorem tq407 : Cond.methodLink RL 131 yX1_mean ∈ lw_tbl := List.mem_of_getElem? (i := 596) rfl
theorem tc_wsL_law0_r17 : ∀ w ∈ wsL_law0_r17, w ∈ lw_tbl := List.forall_mem_cons.mpr ⟨tq384, List.forall_mem_cons.mpr ⟨tq385, List.forall_mem_cons.mpr ⟨tq386, List.forall_mem_cons.mpr ⟨tq387, List.forall_mem_cons.mpr ⟨tq388, List.forall_mem_cons.mpr ⟨tq389, List.forall_mem_cons.mpr ⟨tq390, List.forall_mem_cons.mpr ⟨tq391, List.forall_mem_cons.mpr ⟨tq392, List.forall_mem_cons.mpr ⟨tq393, List.forall_mem_cons.mpr ⟨tq394, List.forall_mem_cons.mpr ⟨tq395, List.forall_mem_cons.mpr ⟨tq396, List.forall_mem_cons.mpr ⟨tq397, List.forall_mem_cons.mpr ⟨tq398, List.forall_mem_cons.mpr ⟨tq399, List.forall_mem_cons.mpr ⟨tq400, List.forall_mem_cons.mpr ⟨tq401, List.forall_mem_cons.mpr ⟨tq402, List.forall_mem_cons.mpr ⟨tq403, List.forall_mem_cons.mpr ⟨tq404, List.forall_mem_cons.mpr ⟨tq405, List.forall_mem_cons.mpr ⟨tq406, List.forall_mem_cons.mpr ⟨tq407, fun _ h => absurd h List.not_mem_nil⟩⟩⟩⟩⟩⟩⟩⟩⟩⟩⟩⟩⟩⟩⟩⟩⟩⟩⟩⟩⟩⟩⟩⟩
set_option maxRecDepth 100000 in
theorem tq408 : Cond.instanceMethod yX1_mean ∈ lw_tbl := List.mem_of_getElem? (i := 597) rfl
set_option maxRecDepth 100000 in
theorem tq409 : Cond.selects RX1 yX1_mean yX1_mean ∈ lw_tbl := List.mem_of_getElem? (i := 598) rfl
set_option maxRecDepth 100000 in
theorem tq410 : Cond.code yX1_mean cX1_mean 1 (some .double) ∈ lw_tbl := List.mem_of_getElem? (i := 599) rfl
set_option maxRecDepth 100000 in
theorem tq411 : Cond.methodLink RL 132 yX0_digest ∈ lw_tbl := List.mem_of_getElem? (i := 171) rfl
set_option maxRecDepth 100000 in
theorem tq412 : Cond.instanceMethod yX0_digest ∈ lw_tbl := List.mem_of_getElem? (i := 172) rfl
set_option maxRecDepth 100000 in
theorem tq413 : Cond.selects RX0 yX0_digest yX0_digest ∈ lw_tbl := List.mem_of_getElem? (i := 173) rfl
set_option maxRecDepth 100000 in
theorem tq414 : Cond.code yX0_digest cX0_digest 5 (some .long) ∈ lw_tbl := List.mem_of_getElem? (i := 174) rfl
set_option maxRecDepth 100000 in
theorem tq415 : Cond.constantLong RX0 126 (1657) ∈ lw_tbl := List.mem_of_getElem? (i := 175) rfl
set_option maxRecDepth 100000 in
theorem tq416 : Cond.constantLong RX0 128 (31) ∈ lw_tbl := List.mem_of_getElem? (i := 176) rfl
set_option maxRecDepth 100000 in
theorem tq417 : Cond.methodLink RX0 130 yX0_count ∈ lw_tbl := List.mem_of_getElem? (i := 177) rfl
set_option maxRecDepth 100000 in
theorem tq418 : Cond.methodLink RX0 133 yX0_told ∈ lw_tbl := List.mem_of_getElem? (i := 260) rfl
set_option maxRecDepth 100000 in
theorem tq419 : Cond.methodLink RX0 136 yX0_wage ∈ lw_tbl := List.mem_of_getElem? (i := 264) rfl
set_option maxRecDepth 100000 in
theorem tq420 : Cond.methodLink RX0 139 yX0_coins ∈ lw_tbl := List.mem_of_getElem? (i := 268) rfl
set_option maxRecDepth 100000 in
theorem tq421 : Cond.methodLink RL 136 yX1_digest ∈ lw_tbl := List.mem_of_getElem? (i := 600) rfl
set_option maxRecDepth 100000 in
theorem tq422 : Cond.instanceMethod yX1_digest ∈ lw_tbl := List.mem_of_getElem? (i := 601) rfl
set_option maxRecDepth 100000 in
theorem tq423 : Cond.selects RX1 yX1_digest yX1_digest ∈ lw_tbl := List.mem_of_getElem? (i := 602) rfl
set_option maxRecDepth 100000 in
theorem tq424 : Cond.code yX1_digest cX1_digest 7 (some .long) ∈ lw_tbl := List.mem_of_getElem? (i := 603) rfl
set_option maxRecDepth 100000 in
theorem tq425 : Cond.constantLong RX1 128 (1657) ∈ lw_tbl := List.mem_of_getElem? (i := 604) rfl
set_option maxRecDepth 100000 in
theorem tq426 : Cond.constantLong RX1 130 (31) ∈ lw_tbl := List.mem_of_getElem? (i := 605) rfl
theorem tc_wsL_law0_r18 : ∀ w ∈ wsL_law0_r18, w ∈ lw_tbl := List.forall_mem_cons.mpr ⟨tq408, List.forall_mem_cons.mpr ⟨tq409, List.forall_mem_cons.mpr ⟨tq410, List.forall_mem_cons.mpr ⟨tq411, List.forall_mem_cons.mpr ⟨tq412, List.forall_mem_cons.mpr ⟨tq413, List.forall_mem_cons.mpr ⟨tq414, List.forall_mem_cons.mpr ⟨tq415, List.forall_mem_cons.mpr ⟨tq416, List.forall_mem_cons.mpr ⟨tq417, List.forall_mem_cons.mpr ⟨tq418, List.forall_mem_cons.mpr ⟨tq419, List.forall_mem_cons.mpr ⟨tq420, List.forall_mem_cons.mpr ⟨tq421, List.forall_mem_cons.mpr ⟨tq422, List.forall_mem_cons.mpr ⟨tq423, List.forall_mem_cons.mpr ⟨tq424, List.forall_mem_cons.mpr ⟨tq425, List.forall_mem_cons.mpr ⟨tq426, fun _ h => absurd h List.not_mem_nil⟩⟩⟩⟩⟩⟩⟩⟩⟩⟩⟩⟩⟩⟩⟩⟩⟩⟩⟩
theorem tc_wsX0 : ∀ w ∈ wsX00, w ∈ lw_tbl := by decide +kernel
theorem tc_wsX1 : ∀ w ∈ wsX10, w ∈ lw_tbl := by decide +kernel
theorem wsL_law_in0 : ∀ w ∈ wsL_law0, w ∈ lw_tbl := fun w h => (List.mem_append.mp h).elim (fun h => (List.mem_append.mp h).elim (fun h => (List.mem_append.mp h).elim (fun h => (List.mem_append.mp h).elim (fun h => tc_wsL_law0_r1 w h) (fun h => (List.mem_append.mp h).elim (fun h => tc_wsL_law0_r2 w h) (fun h => (List.mem_append.mp h).elim (fun h => tc_wsL_law0_r3 w h) (fun h => (List.mem_append.mp h).elim (fun h => tc_wsL_law0_r4 w h) (fun h => (List.mem_append.mp h).elim (fun h => tc_wsL_law0_r5 w h) (fun h => (List.mem_append.mp h).elim (fun h => tc_wsL_law0_r6 w h) (fun h => (List.mem_append.mp h).elim (fun h => tc_wsL_law0_r7 w h) (fun h => (List.mem_append.mp h).elim (fun h => tc_wsL_law0_r8 w h) (fun h => (List.mem_append.mp h).elim (fun h => tc_wsL_law0_r9 w h) (fun h => (List.mem_append.mp h).elim (fun h => tc_wsL_law0_r10 w h) (fun h => (List.mem_append.mp h).elim (fun h => tc_wsL_law0_r11 w h) (fun h => (List.mem_append.mp h).elim (fun h => tc_wsL_law0_r12 w h) (fun h => (List.mem_append.mp h).elim (fun h => tc_wsL_law0_r13 w h) (fun h => (List.mem_append.mp h).elim (fun h => tc_wsL_law0_r14 w h) (fun h => (List.mem_append.mp h).elim (fun h => tc_wsL_law0_r15 w h) (fun h => (List.mem_append.mp h).elim (fun h => tc_wsL_law0_r16 w h) (fun h => (List.mem_append.mp h).elim (fun h => tc_wsL_law0_r17 w h) (fun h => tc_wsL_law0_r18 w h)))))))))))))))))) (fun h => tc_wsX0 w h)) (fun h => tc_wsX1 w h)) (fun h => absurd h List.not_mem_nil)
theorem wsL_law_x0 : ∀ w ∈ (vx_atS RX0 167 "java/lang/IllegalArgumentException" ["java/lang/RuntimeException", "java/lang/Exception"]).filter goodWord, w ∈ lw_tbl := by decide +kernel
theorem wsL_law_x1 : ∀ w ∈ (vx_atS RX0 172 "java/lang/IllegalStateException" ["java/lang/RuntimeException", "java/lang/Exception"]).filter goodWord, w ∈ lw_tbl := by decide +kernel
theorem wsL_law_x2 : ∀ w ∈ (vx_atS RX0 160 "java/lang/IndexOutOfBoundsException" ["java/lang/RuntimeException", "java/lang/Exception"]).filter goodWord, w ∈ lw_tbl := by decide +kernel
theorem wsL_law_in : ∀ w ∈ wsL_law, w ∈ lw_tbl := fun w h => (List.mem_append.mp h).elim (fun h => (List.mem_append.mp h).elim (fun h => (List.mem_append.mp h).elim (fun h => wsL_law_in0 w h) (fun h => wsL_law_x0 w h)) (fun h => wsL_law_x1 w h)) (fun h => wsL_law_x2 w h)
theorem inX0 : ∀ w ∈ wsX00, w ∈ lw_tbl := fun w h => wsL_law_in w (inlX0 w h)
theorem inX1 : ∀ w ∈ wsX10, w ∈ lw_tbl := fun w h => wsL_law_in w (inlX1 w h)

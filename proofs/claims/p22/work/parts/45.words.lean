set_option maxRecDepth 100000 in
theorem tq0 : Cond.classLink RL 29 RX0 ∈ lw_tbl := List.mem_of_getElem? (i := 24) rfl
set_option maxRecDepth 100000 in
theorem tq1 : Cond.instantiable RX0 14 ∈ lw_tbl := List.mem_of_getElem? (i := 25) rfl
set_option maxRecDepth 100000 in
theorem tq2 : Cond.initialized RX0 ∈ lw_tbl := List.mem_of_getElem? (i := 14) rfl
set_option maxRecDepth 100000 in
theorem tq3 : Cond.classLink RL 94 "[[I" ∈ lw_tbl := List.mem_of_getElem? (i := 457) rfl
set_option maxRecDepth 100000 in
theorem tq4 : Cond.arrayClass .int ∈ lw_tbl := List.mem_of_getElem? (i := 75) rfl
set_option maxRecDepth 100000 in
theorem tq5 : Cond.methodLink RL 86 yX0_init ∈ lw_tbl := List.mem_of_getElem? (i := 26) rfl
set_option maxRecDepth 100000 in
theorem tq6 : Cond.instanceMethod yX0_init ∈ lw_tbl := List.mem_of_getElem? (i := 27) rfl
set_option maxRecDepth 100000 in
theorem tq7 : Cond.code yX0_init cX0_init 1 none ∈ lw_tbl := List.mem_of_getElem? (i := 28) rfl
set_option maxRecDepth 100000 in
theorem tq8 : Cond.methodLink RX0 1 objectInit ∈ lw_tbl := List.mem_of_getElem? (i := 29) rfl
set_option maxRecDepth 100000 in
theorem tq9 : Cond.instanceMethod objectInit ∈ lw_tbl := List.mem_of_getElem? (i := 30) rfl
set_option maxRecDepth 100000 in
theorem tq10 : Cond.code objectInit ⟨#[0xb1]⟩ 1 none ∈ lw_tbl := List.mem_of_getElem? (i := 31) rfl
set_option maxRecDepth 100000 in
theorem tq11 : Cond.fieldLink RX0 9 "ReaperWages" "kinds" "[I" ∈ lw_tbl := List.mem_of_getElem? (i := 32) rfl
set_option maxRecDepth 100000 in
theorem tq12 : Cond.fieldLink RX0 13 "ReaperWages" "bound" "[I" ∈ lw_tbl := List.mem_of_getElem? (i := 33) rfl
set_option maxRecDepth 100000 in
theorem tq13 : Cond.fieldLink RX0 16 "ReaperWages" "worked" "[I" ∈ lw_tbl := List.mem_of_getElem? (i := 34) rfl
set_option maxRecDepth 100000 in
theorem tq14 : Cond.fieldLink RX0 19 "ReaperWages" "lateMarks" "[I" ∈ lw_tbl := List.mem_of_getElem? (i := 35) rfl
set_option maxRecDepth 100000 in
theorem tq15 : Cond.fieldLink RX0 22 "ReaperWages" "debts" "[I" ∈ lw_tbl := List.mem_of_getElem? (i := 36) rfl
set_option maxRecDepth 100000 in
theorem tq16 : Cond.fieldLink RX0 25 "ReaperWages" "carried" "[I" ∈ lw_tbl := List.mem_of_getElem? (i := 37) rfl
set_option maxRecDepth 100000 in
theorem tq17 : Cond.fieldLink RX0 28 "ReaperWages" "paidOut" "[I" ∈ lw_tbl := List.mem_of_getElem? (i := 38) rfl
set_option maxRecDepth 100000 in
theorem tq18 : Cond.fieldLink RX0 31 "ReaperWages" "rates" "[I" ∈ lw_tbl := List.mem_of_getElem? (i := 39) rfl
set_option maxRecDepth 100000 in
theorem tq19 : Cond.fieldLink RX0 34 "ReaperWages" "purse" "[I" ∈ lw_tbl := List.mem_of_getElem? (i := 40) rfl
set_option maxRecDepth 100000 in
theorem tq20 : Cond.fieldLink RX0 37 "ReaperWages" "trialRates" "[I" ∈ lw_tbl := List.mem_of_getElem? (i := 43) rfl
set_option maxRecDepth 100000 in
theorem tq21 : Cond.fieldLink RX0 40 "ReaperWages" "trialPurse" "[I" ∈ lw_tbl := List.mem_of_getElem? (i := 44) rfl
set_option maxRecDepth 100000 in
theorem tq22 : Cond.fieldLink RX0 43 "ReaperWages" "handed" "[I" ∈ lw_tbl := List.mem_of_getElem? (i := 45) rfl
set_option maxRecDepth 100000 in
theorem tq23 : Cond.methodLink RL 87 yL_build ∈ lw_tbl := List.mem_of_getElem? (i := 452) rfl
theorem tc_wsL_law0_r1 : ∀ w ∈ wsL_law0_r1, w ∈ lw_tbl := List.forall_mem_cons.mpr ⟨tq0, List.forall_mem_cons.mpr ⟨tq1, List.forall_mem_cons.mpr ⟨tq2, List.forall_mem_cons.mpr ⟨tq3, List.forall_mem_cons.mpr ⟨tq4, List.forall_mem_cons.mpr ⟨tq5, List.forall_mem_cons.mpr ⟨tq6, List.forall_mem_cons.mpr ⟨tq7, List.forall_mem_cons.mpr ⟨tq8, List.forall_mem_cons.mpr ⟨tq9, List.forall_mem_cons.mpr ⟨tq10, List.forall_mem_cons.mpr ⟨tq11, List.forall_mem_cons.mpr ⟨tq12, List.forall_mem_cons.mpr ⟨tq13, List.forall_mem_cons.mpr ⟨tq14, List.forall_mem_cons.mpr ⟨tq15, List.forall_mem_cons.mpr ⟨tq16, List.forall_mem_cons.mpr ⟨tq17, List.forall_mem_cons.mpr ⟨tq18, List.forall_mem_cons.mpr ⟨tq19, List.forall_mem_cons.mpr ⟨tq20, List.forall_mem_cons.mpr ⟨tq21, List.forall_mem_cons.mpr ⟨tq22, List.forall_mem_cons.mpr ⟨tq23, fun _ h => absurd h List.not_mem_nil⟩⟩⟩⟩⟩⟩⟩⟩⟩⟩⟩⟩⟩⟩⟩⟩⟩⟩⟩⟩⟩⟩⟩⟩
set_option maxRecDepth 100000 in
theorem tq24 : Cond.static yL_build ∈ lw_tbl := List.mem_of_getElem? (i := 453) rfl
set_option maxRecDepth 100000 in
theorem tq25 : Cond.initialized RL ∈ lw_tbl := List.mem_of_getElem? (i := 13) rfl
set_option maxRecDepth 100000 in
theorem tq26 : Cond.code yL_build cL_build 5 (some (.object "ReaperWagesLaw$Sim")) ∈ lw_tbl := List.mem_of_getElem? (i := 454) rfl
set_option maxRecDepth 100000 in
theorem tq27 : Cond.classLink RL 16 RX2 ∈ lw_tbl := List.mem_of_getElem? (i := 455) rfl
set_option maxRecDepth 100000 in
theorem tq28 : Cond.instantiable RX2 5 ∈ lw_tbl := List.mem_of_getElem? (i := 273) rfl
set_option maxRecDepth 100000 in
theorem tq29 : Cond.initialized RX2 ∈ lw_tbl := List.mem_of_getElem? (i := 15) rfl
set_option maxRecDepth 100000 in
theorem tq30 : Cond.instanceMethod yX2_init ∈ lw_tbl := List.mem_of_getElem? (i := 275) rfl
set_option maxRecDepth 100000 in
theorem tq31 : Cond.code yX2_init cX2_init 1 none ∈ lw_tbl := List.mem_of_getElem? (i := 276) rfl
set_option maxRecDepth 100000 in
theorem tq32 : Cond.methodLink RX2 1 objectInit ∈ lw_tbl := List.mem_of_getElem? (i := 277) rfl
set_option maxRecDepth 100000 in
theorem tq33 : Cond.fieldLink RX2 7 "ReaperWagesLaw$Sim" "rates" "[I" ∈ lw_tbl := List.mem_of_getElem? (i := 281) rfl
set_option maxRecDepth 100000 in
theorem tq34 : Cond.fieldLink RX2 13 "ReaperWagesLaw$Sim" "chest" "[I" ∈ lw_tbl := List.mem_of_getElem? (i := 283) rfl
set_option maxRecDepth 100000 in
theorem tq35 : Cond.classLink RX2 16 RX1 ∈ lw_tbl := List.mem_of_getElem? (i := 278) rfl
set_option maxRecDepth 100000 in
theorem tq36 : Cond.fieldLink RX2 18 "ReaperWagesLaw$Sim" "all" "[LReaperWagesLaw$Reaper;" ∈ lw_tbl := List.mem_of_getElem? (i := 285) rfl
set_option maxRecDepth 100000 in
theorem tq37 : Cond.methodLink RL 78 yL_cell ∈ lw_tbl := List.mem_of_getElem? (i := 367) rfl
set_option maxRecDepth 100000 in
theorem tq38 : Cond.static yL_cell ∈ lw_tbl := List.mem_of_getElem? (i := 368) rfl
set_option maxRecDepth 100000 in
theorem tq39 : Cond.code yL_cell cL_cell 2 (some .int) ∈ lw_tbl := List.mem_of_getElem? (i := 369) rfl
set_option maxRecDepth 100000 in
theorem tq40 : Cond.constant RL 8 (790386105) ∈ lw_tbl := List.mem_of_getElem? (i := 370) rfl
set_option maxRecDepth 100000 in
theorem tq41 : Cond.methodLink RL 9 yL_below ∈ lw_tbl := List.mem_of_getElem? (i := 374) rfl
set_option maxRecDepth 100000 in
theorem tq42 : Cond.static yL_below ∈ lw_tbl := List.mem_of_getElem? (i := 375) rfl
set_option maxRecDepth 100000 in
theorem tq43 : Cond.code yL_below cL_below 2 (some .int) ∈ lw_tbl := List.mem_of_getElem? (i := 376) rfl
set_option maxRecDepth 100000 in
theorem tq44 : Cond.constant RL 7 (2147483647) ∈ lw_tbl := List.mem_of_getElem? (i := 377) rfl
set_option maxRecDepth 100000 in
theorem tq45 : Cond.methodLink RL 82 yL_act ∈ lw_tbl := List.mem_of_getElem? (i := 371) rfl
set_option maxRecDepth 100000 in
theorem tq46 : Cond.static yL_act ∈ lw_tbl := List.mem_of_getElem? (i := 372) rfl
set_option maxRecDepth 100000 in
theorem tq47 : Cond.code yL_act cL_act 15 (some .boolean) ∈ lw_tbl := List.mem_of_getElem? (i := 373) rfl
theorem tc_wsL_law0_r2 : ∀ w ∈ wsL_law0_r2, w ∈ lw_tbl := List.forall_mem_cons.mpr ⟨tq24, List.forall_mem_cons.mpr ⟨tq25, List.forall_mem_cons.mpr ⟨tq26, List.forall_mem_cons.mpr ⟨tq27, List.forall_mem_cons.mpr ⟨tq28, List.forall_mem_cons.mpr ⟨tq29, List.forall_mem_cons.mpr ⟨tq30, List.forall_mem_cons.mpr ⟨tq31, List.forall_mem_cons.mpr ⟨tq32, List.forall_mem_cons.mpr ⟨tq33, List.forall_mem_cons.mpr ⟨tq34, List.forall_mem_cons.mpr ⟨tq35, List.forall_mem_cons.mpr ⟨tq36, List.forall_mem_cons.mpr ⟨tq37, List.forall_mem_cons.mpr ⟨tq38, List.forall_mem_cons.mpr ⟨tq39, List.forall_mem_cons.mpr ⟨tq40, List.forall_mem_cons.mpr ⟨tq41, List.forall_mem_cons.mpr ⟨tq42, List.forall_mem_cons.mpr ⟨tq43, List.forall_mem_cons.mpr ⟨tq44, List.forall_mem_cons.mpr ⟨tq45, List.forall_mem_cons.mpr ⟨tq46, List.forall_mem_cons.mpr ⟨tq47, fun _ h => absurd h List.not_mem_nil⟩⟩⟩⟩⟩⟩⟩⟩⟩⟩⟩⟩⟩⟩⟩⟩⟩⟩⟩⟩⟩⟩⟩⟩
set_option maxRecDepth 100000 in
theorem tq48 : Cond.fieldLink RL 15 "ReaperWagesLaw$Sim" "all" "[LReaperWagesLaw$Reaper;" ∈ lw_tbl := List.mem_of_getElem? (i := 286) rfl
set_option maxRecDepth 100000 in
theorem tq49 : Cond.classLink RL 21 RX1 ∈ lw_tbl := List.mem_of_getElem? (i := 378) rfl
set_option maxRecDepth 100000 in
theorem tq50 : Cond.instantiable RX1 7 ∈ lw_tbl := List.mem_of_getElem? (i := 311) rfl
set_option maxRecDepth 100000 in
theorem tq51 : Cond.initialized RX1 ∈ lw_tbl := List.mem_of_getElem? (i := 16) rfl
set_option maxRecDepth 100000 in
theorem tq52 : Cond.fieldLink RL 24 "ReaperWagesLaw$Reaper" "kind" "I" ∈ lw_tbl := List.mem_of_getElem? (i := 317) rfl
set_option maxRecDepth 100000 in
theorem tq53 : Cond.fieldLink RL 34 "ReaperWagesLaw$Sim" "rates" "[I" ∈ lw_tbl := List.mem_of_getElem? (i := 282) rfl
set_option maxRecDepth 100000 in
theorem tq54 : Cond.fieldLink RL 44 "ReaperWagesLaw$Sim" "chest" "[I" ∈ lw_tbl := List.mem_of_getElem? (i := 284) rfl
set_option maxRecDepth 100000 in
theorem tq55 : Cond.fieldLink RL 50 "ReaperWagesLaw$Reaper" "sheaves" "I" ∈ lw_tbl := List.mem_of_getElem? (i := 321) rfl
set_option maxRecDepth 100000 in
theorem tq56 : Cond.fieldLink RL 56 "ReaperWagesLaw$Reaper" "debt" "I" ∈ lw_tbl := List.mem_of_getElem? (i := 330) rfl
set_option maxRecDepth 100000 in
theorem tq57 : Cond.fieldLink RL 67 "ReaperWagesLaw$Reaper" "hours" "I" ∈ lw_tbl := List.mem_of_getElem? (i := 324) rfl
set_option maxRecDepth 100000 in
theorem tq58 : Cond.fieldLink RL 70 "ReaperWagesLaw$Reaper" "late" "I" ∈ lw_tbl := List.mem_of_getElem? (i := 327) rfl
set_option maxRecDepth 100000 in
theorem tq59 : Cond.instanceMethod yX1_init ∈ lw_tbl := List.mem_of_getElem? (i := 313) rfl
set_option maxRecDepth 100000 in
theorem tq60 : Cond.code yX1_init cX1_init 1 none ∈ lw_tbl := List.mem_of_getElem? (i := 314) rfl
set_option maxRecDepth 100000 in
theorem tq61 : Cond.methodLink RX1 1 objectInit ∈ lw_tbl := List.mem_of_getElem? (i := 315) rfl
set_option maxRecDepth 100000 in
theorem tq62 : Cond.methodLink RL 28 yX0_hire ∈ lw_tbl := List.mem_of_getElem? (i := 380) rfl
set_option maxRecDepth 100000 in
theorem tq63 : Cond.instanceMethod yX0_hire ∈ lw_tbl := List.mem_of_getElem? (i := 381) rfl
set_option maxRecDepth 100000 in
theorem tq64 : Cond.selects RX0 yX0_hire yX0_hire ∈ lw_tbl := List.mem_of_getElem? (i := 382) rfl
set_option maxRecDepth 100000 in
theorem tq65 : Cond.code yX0_hire cX0_hire 2 (some .int) ∈ lw_tbl := List.mem_of_getElem? (i := 383) rfl
set_option maxRecDepth 100000 in
theorem tq66 : Cond.fieldLink RX0 50 "ReaperWages" "hired" "I" ∈ lw_tbl := List.mem_of_getElem? (i := 41) rfl
set_option maxRecDepth 100000 in
theorem tq67 : Cond.methodLink RX0 46 yX0_requireArgument ∈ lw_tbl := List.mem_of_getElem? (i := 384) rfl
set_option maxRecDepth 100000 in
theorem tq68 : Cond.static yX0_requireArgument ∈ lw_tbl := List.mem_of_getElem? (i := 385) rfl
set_option maxRecDepth 100000 in
theorem tq69 : Cond.code yX0_requireArgument cX0_requireArgument 3 none ∈ lw_tbl := List.mem_of_getElem? (i := 386) rfl
set_option maxRecDepth 100000 in
theorem tq70 : Cond.classLink RX0 163 "java/lang/IllegalArgumentException" ∈ lw_tbl := List.mem_of_getElem? (i := 387) rfl
set_option maxRecDepth 100000 in
theorem tq71 : Cond.initialized "java/lang/IllegalArgumentException" ∈ lw_tbl := List.mem_of_getElem? (i := 20) rfl
theorem tc_wsL_law0_r3 : ∀ w ∈ wsL_law0_r3, w ∈ lw_tbl := List.forall_mem_cons.mpr ⟨tq48, List.forall_mem_cons.mpr ⟨tq49, List.forall_mem_cons.mpr ⟨tq50, List.forall_mem_cons.mpr ⟨tq51, List.forall_mem_cons.mpr ⟨tq52, List.forall_mem_cons.mpr ⟨tq53, List.forall_mem_cons.mpr ⟨tq54, List.forall_mem_cons.mpr ⟨tq55, List.forall_mem_cons.mpr ⟨tq56, List.forall_mem_cons.mpr ⟨tq57, List.forall_mem_cons.mpr ⟨tq58, List.forall_mem_cons.mpr ⟨tq59, List.forall_mem_cons.mpr ⟨tq60, List.forall_mem_cons.mpr ⟨tq61, List.forall_mem_cons.mpr ⟨tq62, List.forall_mem_cons.mpr ⟨tq63, List.forall_mem_cons.mpr ⟨tq64, List.forall_mem_cons.mpr ⟨tq65, List.forall_mem_cons.mpr ⟨tq66, List.forall_mem_cons.mpr ⟨tq67, List.forall_mem_cons.mpr ⟨tq68, List.forall_mem_cons.mpr ⟨tq69, List.forall_mem_cons.mpr ⟨tq70, List.forall_mem_cons.mpr ⟨tq71, fun _ h => absurd h List.not_mem_nil⟩⟩⟩⟩⟩⟩⟩⟩⟩⟩⟩⟩⟩⟩⟩⟩⟩⟩⟩⟩⟩⟩⟩⟩
set_option maxRecDepth 100000 in
theorem tq72 : Cond.methodLink RX0 54 yX0_requireState ∈ lw_tbl := List.mem_of_getElem? (i := 403) rfl
set_option maxRecDepth 100000 in
theorem tq73 : Cond.static yX0_requireState ∈ lw_tbl := List.mem_of_getElem? (i := 404) rfl
set_option maxRecDepth 100000 in
theorem tq74 : Cond.code yX0_requireState cX0_requireState 1 none ∈ lw_tbl := List.mem_of_getElem? (i := 405) rfl
set_option maxRecDepth 100000 in
theorem tq75 : Cond.classLink RX0 168 "java/lang/IllegalStateException" ∈ lw_tbl := List.mem_of_getElem? (i := 406) rfl
set_option maxRecDepth 100000 in
theorem tq76 : Cond.initialized "java/lang/IllegalStateException" ∈ lw_tbl := List.mem_of_getElem? (i := 21) rfl
set_option maxRecDepth 100000 in
theorem tq77 : Cond.methodLink RL 38 yL_rate ∈ lw_tbl := List.mem_of_getElem? (i := 422) rfl
set_option maxRecDepth 100000 in
theorem tq78 : Cond.static yL_rate ∈ lw_tbl := List.mem_of_getElem? (i := 423) rfl
set_option maxRecDepth 100000 in
theorem tq79 : Cond.code yL_rate cL_rate 4 (some .int) ∈ lw_tbl := List.mem_of_getElem? (i := 424) rfl
set_option maxRecDepth 100000 in
theorem tq80 : Cond.methodLink RL 41 yX0_setRate ∈ lw_tbl := List.mem_of_getElem? (i := 425) rfl
set_option maxRecDepth 100000 in
theorem tq81 : Cond.instanceMethod yX0_setRate ∈ lw_tbl := List.mem_of_getElem? (i := 426) rfl
set_option maxRecDepth 100000 in
theorem tq82 : Cond.selects RX0 yX0_setRate yX0_setRate ∈ lw_tbl := List.mem_of_getElem? (i := 427) rfl
set_option maxRecDepth 100000 in
theorem tq83 : Cond.code yX0_setRate cX0_setRate 4 (some .int) ∈ lw_tbl := List.mem_of_getElem? (i := 428) rfl
set_option maxRecDepth 100000 in
theorem tq84 : Cond.methodLink RX0 58 yX0_requireRate ∈ lw_tbl := List.mem_of_getElem? (i := 429) rfl
set_option maxRecDepth 100000 in
theorem tq85 : Cond.static yX0_requireRate ∈ lw_tbl := List.mem_of_getElem? (i := 430) rfl
set_option maxRecDepth 100000 in
theorem tq86 : Cond.code yX0_requireRate cX0_requireRate 2 none ∈ lw_tbl := List.mem_of_getElem? (i := 431) rfl
set_option maxRecDepth 100000 in
theorem tq87 : Cond.fieldLink RX0 114 "ReaperWages" "LEAST_RATE" "[I" ∈ lw_tbl := List.mem_of_getElem? (i := 432) rfl
set_option maxRecDepth 100000 in
theorem tq88 : Cond.fieldLink RX0 117 "ReaperWages" "MOST_RATE" "[I" ∈ lw_tbl := List.mem_of_getElem? (i := 434) rfl
set_option maxRecDepth 100000 in
theorem tq89 : Cond.methodLink RX0 62 yX0_requireIndex ∈ lw_tbl := List.mem_of_getElem? (i := 128) rfl
set_option maxRecDepth 100000 in
theorem tq90 : Cond.static yX0_requireIndex ∈ lw_tbl := List.mem_of_getElem? (i := 129) rfl
set_option maxRecDepth 100000 in
theorem tq91 : Cond.code yX0_requireIndex cX0_requireIndex 2 none ∈ lw_tbl := List.mem_of_getElem? (i := 130) rfl
set_option maxRecDepth 100000 in
theorem tq92 : Cond.classLink RX0 156 "java/lang/IndexOutOfBoundsException" ∈ lw_tbl := List.mem_of_getElem? (i := 131) rfl
set_option maxRecDepth 100000 in
theorem tq93 : Cond.initialized "java/lang/IndexOutOfBoundsException" ∈ lw_tbl := List.mem_of_getElem? (i := 22) rfl
set_option maxRecDepth 100000 in
theorem tq94 : Cond.methodLink RL 47 yX0_fill ∈ lw_tbl := List.mem_of_getElem? (i := 436) rfl
set_option maxRecDepth 100000 in
theorem tq95 : Cond.instanceMethod yX0_fill ∈ lw_tbl := List.mem_of_getElem? (i := 437) rfl
theorem tc_wsL_law0_r4 : ∀ w ∈ wsL_law0_r4, w ∈ lw_tbl := List.forall_mem_cons.mpr ⟨tq72, List.forall_mem_cons.mpr ⟨tq73, List.forall_mem_cons.mpr ⟨tq74, List.forall_mem_cons.mpr ⟨tq75, List.forall_mem_cons.mpr ⟨tq76, List.forall_mem_cons.mpr ⟨tq77, List.forall_mem_cons.mpr ⟨tq78, List.forall_mem_cons.mpr ⟨tq79, List.forall_mem_cons.mpr ⟨tq80, List.forall_mem_cons.mpr ⟨tq81, List.forall_mem_cons.mpr ⟨tq82, List.forall_mem_cons.mpr ⟨tq83, List.forall_mem_cons.mpr ⟨tq84, List.forall_mem_cons.mpr ⟨tq85, List.forall_mem_cons.mpr ⟨tq86, List.forall_mem_cons.mpr ⟨tq87, List.forall_mem_cons.mpr ⟨tq88, List.forall_mem_cons.mpr ⟨tq89, List.forall_mem_cons.mpr ⟨tq90, List.forall_mem_cons.mpr ⟨tq91, List.forall_mem_cons.mpr ⟨tq92, List.forall_mem_cons.mpr ⟨tq93, List.forall_mem_cons.mpr ⟨tq94, List.forall_mem_cons.mpr ⟨tq95, fun _ h => absurd h List.not_mem_nil⟩⟩⟩⟩⟩⟩⟩⟩⟩⟩⟩⟩⟩⟩⟩⟩⟩⟩⟩⟩⟩⟩⟩⟩
set_option maxRecDepth 100000 in
theorem tq96 : Cond.selects RX0 yX0_fill yX0_fill ∈ lw_tbl := List.mem_of_getElem? (i := 438) rfl
set_option maxRecDepth 100000 in
theorem tq97 : Cond.code yX0_fill cX0_fill 3 (some .int) ∈ lw_tbl := List.mem_of_getElem? (i := 439) rfl
set_option maxRecDepth 100000 in
theorem tq98 : Cond.methodLink RL 53 yX0_bind ∈ lw_tbl := List.mem_of_getElem? (i := 440) rfl
set_option maxRecDepth 100000 in
theorem tq99 : Cond.instanceMethod yX0_bind ∈ lw_tbl := List.mem_of_getElem? (i := 441) rfl
set_option maxRecDepth 100000 in
theorem tq100 : Cond.selects RX0 yX0_bind yX0_bind ∈ lw_tbl := List.mem_of_getElem? (i := 442) rfl
set_option maxRecDepth 100000 in
theorem tq101 : Cond.code yX0_bind cX0_bind 3 (some .int) ∈ lw_tbl := List.mem_of_getElem? (i := 443) rfl
set_option maxRecDepth 100000 in
theorem tq102 : Cond.methodLink RL 59 yX0_lend ∈ lw_tbl := List.mem_of_getElem? (i := 444) rfl
set_option maxRecDepth 100000 in
theorem tq103 : Cond.instanceMethod yX0_lend ∈ lw_tbl := List.mem_of_getElem? (i := 445) rfl
set_option maxRecDepth 100000 in
theorem tq104 : Cond.selects RX0 yX0_lend yX0_lend ∈ lw_tbl := List.mem_of_getElem? (i := 446) rfl
set_option maxRecDepth 100000 in
theorem tq105 : Cond.code yX0_lend cX0_lend 3 (some .int) ∈ lw_tbl := List.mem_of_getElem? (i := 447) rfl
set_option maxRecDepth 100000 in
theorem tq106 : Cond.methodLink RL 62 yX0_pay ∈ lw_tbl := List.mem_of_getElem? (i := 76) rfl
set_option maxRecDepth 100000 in
theorem tq107 : Cond.instanceMethod yX0_pay ∈ lw_tbl := List.mem_of_getElem? (i := 77) rfl
set_option maxRecDepth 100000 in
theorem tq108 : Cond.selects RX0 yX0_pay yX0_pay ∈ lw_tbl := List.mem_of_getElem? (i := 78) rfl
set_option maxRecDepth 100000 in
theorem tq109 : Cond.code yX0_pay cX0_pay 3 (some .int) ∈ lw_tbl := List.mem_of_getElem? (i := 79) rfl
set_option maxRecDepth 100000 in
theorem tq110 : Cond.fieldLink RX0 69 "ReaperWages" "week" "I" ∈ lw_tbl := List.mem_of_getElem? (i := 42) rfl
set_option maxRecDepth 100000 in
theorem tq111 : Cond.methodLink RX0 65 yX0_settle ∈ lw_tbl := List.mem_of_getElem? (i := 80) rfl
set_option maxRecDepth 100000 in
theorem tq112 : Cond.instanceMethod yX0_settle ∈ lw_tbl := List.mem_of_getElem? (i := 82) rfl
set_option maxRecDepth 100000 in
theorem tq113 : Cond.selects RX0 yX0_settle yX0_settle ∈ lw_tbl := List.mem_of_getElem? (i := 0) rfl
set_option maxRecDepth 100000 in
theorem tq114 : Cond.code yX0_settle cX0_settle 5 (some .int) ∈ lw_tbl := List.mem_of_getElem? (i := 83) rfl
set_option maxRecDepth 100000 in
theorem tq115 : Cond.methodLink RX0 85 yX0_coming ∈ lw_tbl := List.mem_of_getElem? (i := 84) rfl
set_option maxRecDepth 100000 in
theorem tq116 : Cond.instanceMethod yX0_coming ∈ lw_tbl := List.mem_of_getElem? (i := 86) rfl
set_option maxRecDepth 100000 in
theorem tq117 : Cond.selects RX0 yX0_coming yX0_coming ∈ lw_tbl := List.mem_of_getElem? (i := 1) rfl
set_option maxRecDepth 100000 in
theorem tq118 : Cond.code yX0_coming cX0_coming 2 (some .int) ∈ lw_tbl := List.mem_of_getElem? (i := 87) rfl
set_option maxRecDepth 100000 in
theorem tq119 : Cond.methodLink RX0 82 yX0_weekWage ∈ lw_tbl := List.mem_of_getElem? (i := 88) rfl
theorem tc_wsL_law0_r5 : ∀ w ∈ wsL_law0_r5, w ∈ lw_tbl := List.forall_mem_cons.mpr ⟨tq96, List.forall_mem_cons.mpr ⟨tq97, List.forall_mem_cons.mpr ⟨tq98, List.forall_mem_cons.mpr ⟨tq99, List.forall_mem_cons.mpr ⟨tq100, List.forall_mem_cons.mpr ⟨tq101, List.forall_mem_cons.mpr ⟨tq102, List.forall_mem_cons.mpr ⟨tq103, List.forall_mem_cons.mpr ⟨tq104, List.forall_mem_cons.mpr ⟨tq105, List.forall_mem_cons.mpr ⟨tq106, List.forall_mem_cons.mpr ⟨tq107, List.forall_mem_cons.mpr ⟨tq108, List.forall_mem_cons.mpr ⟨tq109, List.forall_mem_cons.mpr ⟨tq110, List.forall_mem_cons.mpr ⟨tq111, List.forall_mem_cons.mpr ⟨tq112, List.forall_mem_cons.mpr ⟨tq113, List.forall_mem_cons.mpr ⟨tq114, List.forall_mem_cons.mpr ⟨tq115, List.forall_mem_cons.mpr ⟨tq116, List.forall_mem_cons.mpr ⟨tq117, List.forall_mem_cons.mpr ⟨tq118, List.forall_mem_cons.mpr ⟨tq119, fun _ h => absurd h List.not_mem_nil⟩⟩⟩⟩⟩⟩⟩⟩⟩⟩⟩⟩⟩⟩⟩⟩⟩⟩⟩⟩⟩⟩⟩⟩
set_option maxRecDepth 100000 in
theorem tq120 : Cond.instanceMethod yX0_weekWage ∈ lw_tbl := List.mem_of_getElem? (i := 90) rfl
set_option maxRecDepth 100000 in
theorem tq121 : Cond.selects RX0 yX0_weekWage yX0_weekWage ∈ lw_tbl := List.mem_of_getElem? (i := 2) rfl
set_option maxRecDepth 100000 in
theorem tq122 : Cond.code yX0_weekWage cX0_weekWage 3 (some .int) ∈ lw_tbl := List.mem_of_getElem? (i := 91) rfl
set_option maxRecDepth 100000 in
theorem tq123 : Cond.methodLink RX0 147 Lib.Math.max.name ∈ lw_tbl := List.mem_of_getElem? (i := 108) rfl
set_option maxRecDepth 100000 in
theorem tq124 : Cond.static Lib.Math.max.name ∈ lw_tbl := List.mem_of_getElem? (i := 109) rfl
set_option maxRecDepth 100000 in
theorem tq125 : Cond.initialized "java/lang/Math" ∈ lw_tbl := List.mem_of_getElem? (i := 23) rfl
set_option maxRecDepth 100000 in
theorem tq126 : Cond.code Lib.Math.max.name Lib.Math.max.code 2 (some .int) ∈ lw_tbl := by decide +kernel
set_option maxRecDepth 100000 in
theorem tq127 : Cond.methodLink RX0 75 yX0_wageByPieces ∈ lw_tbl := List.mem_of_getElem? (i := 92) rfl
set_option maxRecDepth 100000 in
theorem tq128 : Cond.instanceMethod yX0_wageByPieces ∈ lw_tbl := List.mem_of_getElem? (i := 94) rfl
set_option maxRecDepth 100000 in
theorem tq129 : Cond.selects RX0 yX0_wageByPieces yX0_wageByPieces ∈ lw_tbl := List.mem_of_getElem? (i := 3) rfl
set_option maxRecDepth 100000 in
theorem tq130 : Cond.code yX0_wageByPieces cX0_wageByPieces 8 (some .int) ∈ lw_tbl := List.mem_of_getElem? (i := 95) rfl
set_option maxRecDepth 100000 in
theorem tq131 : Cond.methodLink RX0 142 Lib.Math.min.name ∈ lw_tbl := List.mem_of_getElem? (i := 96) rfl
set_option maxRecDepth 100000 in
theorem tq132 : Cond.static Lib.Math.min.name ∈ lw_tbl := List.mem_of_getElem? (i := 97) rfl
set_option maxRecDepth 100000 in
theorem tq133 : Cond.code Lib.Math.min.name Lib.Math.min.code 2 (some .int) ∈ lw_tbl := by decide +kernel
set_option maxRecDepth 100000 in
theorem tq134 : Cond.constantLong RX0 145 (1000) ∈ lw_tbl := List.mem_of_getElem? (i := 99) rfl
set_option maxRecDepth 100000 in
theorem tq135 : Cond.methodLink RX0 79 yX0_wageByHours ∈ lw_tbl := List.mem_of_getElem? (i := 100) rfl
set_option maxRecDepth 100000 in
theorem tq136 : Cond.instanceMethod yX0_wageByHours ∈ lw_tbl := List.mem_of_getElem? (i := 102) rfl
set_option maxRecDepth 100000 in
theorem tq137 : Cond.selects RX0 yX0_wageByHours yX0_wageByHours ∈ lw_tbl := List.mem_of_getElem? (i := 4) rfl
set_option maxRecDepth 100000 in
theorem tq138 : Cond.code yX0_wageByHours cX0_wageByHours 3 (some .int) ∈ lw_tbl := List.mem_of_getElem? (i := 103) rfl
set_option maxRecDepth 100000 in
theorem tq139 : Cond.methodLink RX0 72 yX0_hoursThatCount ∈ lw_tbl := List.mem_of_getElem? (i := 104) rfl
set_option maxRecDepth 100000 in
theorem tq140 : Cond.instanceMethod yX0_hoursThatCount ∈ lw_tbl := List.mem_of_getElem? (i := 106) rfl
set_option maxRecDepth 100000 in
theorem tq141 : Cond.selects RX0 yX0_hoursThatCount yX0_hoursThatCount ∈ lw_tbl := List.mem_of_getElem? (i := 5) rfl
set_option maxRecDepth 100000 in
theorem tq142 : Cond.code yX0_hoursThatCount cX0_hoursThatCount 5 (some .int) ∈ lw_tbl := List.mem_of_getElem? (i := 107) rfl
set_option maxRecDepth 100000 in
theorem tq143 : Cond.methodLink RX0 88 yX0_takenBack ∈ lw_tbl := List.mem_of_getElem? (i := 111) rfl
theorem tc_wsL_law0_r6 : ∀ w ∈ wsL_law0_r6, w ∈ lw_tbl := List.forall_mem_cons.mpr ⟨tq120, List.forall_mem_cons.mpr ⟨tq121, List.forall_mem_cons.mpr ⟨tq122, List.forall_mem_cons.mpr ⟨tq123, List.forall_mem_cons.mpr ⟨tq124, List.forall_mem_cons.mpr ⟨tq125, List.forall_mem_cons.mpr ⟨tq126, List.forall_mem_cons.mpr ⟨tq127, List.forall_mem_cons.mpr ⟨tq128, List.forall_mem_cons.mpr ⟨tq129, List.forall_mem_cons.mpr ⟨tq130, List.forall_mem_cons.mpr ⟨tq131, List.forall_mem_cons.mpr ⟨tq132, List.forall_mem_cons.mpr ⟨tq133, List.forall_mem_cons.mpr ⟨tq134, List.forall_mem_cons.mpr ⟨tq135, List.forall_mem_cons.mpr ⟨tq136, List.forall_mem_cons.mpr ⟨tq137, List.forall_mem_cons.mpr ⟨tq138, List.forall_mem_cons.mpr ⟨tq139, List.forall_mem_cons.mpr ⟨tq140, List.forall_mem_cons.mpr ⟨tq141, List.forall_mem_cons.mpr ⟨tq142, List.forall_mem_cons.mpr ⟨tq143, fun _ h => absurd h List.not_mem_nil⟩⟩⟩⟩⟩⟩⟩⟩⟩⟩⟩⟩⟩⟩⟩⟩⟩⟩⟩⟩⟩⟩⟩⟩
set_option maxRecDepth 100000 in
theorem tq144 : Cond.instanceMethod yX0_takenBack ∈ lw_tbl := List.mem_of_getElem? (i := 113) rfl
set_option maxRecDepth 100000 in
theorem tq145 : Cond.selects RX0 yX0_takenBack yX0_takenBack ∈ lw_tbl := List.mem_of_getElem? (i := 6) rfl
set_option maxRecDepth 100000 in
theorem tq146 : Cond.code yX0_takenBack cX0_takenBack 3 (some .int) ∈ lw_tbl := List.mem_of_getElem? (i := 114) rfl
set_option maxRecDepth 100000 in
theorem tq147 : Cond.methodLink RX0 150 yX0_wholeParts ∈ lw_tbl := List.mem_of_getElem? (i := 115) rfl
set_option maxRecDepth 100000 in
theorem tq148 : Cond.static yX0_wholeParts ∈ lw_tbl := List.mem_of_getElem? (i := 116) rfl
set_option maxRecDepth 100000 in
theorem tq149 : Cond.code yX0_wholeParts cX0_wholeParts 2 (some .int) ∈ lw_tbl := List.mem_of_getElem? (i := 117) rfl
set_option maxRecDepth 100000 in
theorem tq150 : Cond.methodLink RX0 99 yX0_handOut ∈ lw_tbl := List.mem_of_getElem? (i := 118) rfl
set_option maxRecDepth 100000 in
theorem tq151 : Cond.instanceMethod yX0_handOut ∈ lw_tbl := List.mem_of_getElem? (i := 120) rfl
set_option maxRecDepth 100000 in
theorem tq152 : Cond.selects RX0 yX0_handOut yX0_handOut ∈ lw_tbl := List.mem_of_getElem? (i := 7) rfl
set_option maxRecDepth 100000 in
theorem tq153 : Cond.code yX0_handOut cX0_handOut 6 (some .int) ∈ lw_tbl := List.mem_of_getElem? (i := 121) rfl
set_option maxRecDepth 100000 in
theorem tq154 : Cond.fieldLink RX0 153 "ReaperWages" "COIN_WORTH" "[I" ∈ lw_tbl := List.mem_of_getElem? (i := 122) rfl
set_option maxRecDepth 100000 in
theorem tq155 : Cond.methodLink RL 66 yX2_pay ∈ lw_tbl := List.mem_of_getElem? (i := 242) rfl
set_option maxRecDepth 100000 in
theorem tq156 : Cond.instanceMethod yX2_pay ∈ lw_tbl := List.mem_of_getElem? (i := 243) rfl
set_option maxRecDepth 100000 in
theorem tq157 : Cond.selects RX2 yX2_pay yX2_pay ∈ lw_tbl := List.mem_of_getElem? (i := 244) rfl
set_option maxRecDepth 100000 in
theorem tq158 : Cond.code yX2_pay cX2_pay 8 (some .int) ∈ lw_tbl := List.mem_of_getElem? (i := 245) rfl
set_option maxRecDepth 100000 in
theorem tq159 : Cond.classLink RX2 46 "[[I" ∈ lw_tbl := List.mem_of_getElem? (i := 246) rfl
set_option maxRecDepth 100000 in
theorem tq160 : Cond.fieldLink RX2 48 "ReaperWagesLaw$Sim" "handed" "[[I" ∈ lw_tbl := List.mem_of_getElem? (i := 287) rfl
set_option maxRecDepth 100000 in
theorem tq161 : Cond.fieldLink RX2 40 "ReaperWagesLaw$Reaper" "carried" "I" ∈ lw_tbl := List.mem_of_getElem? (i := 332) rfl
set_option maxRecDepth 100000 in
theorem tq162 : Cond.fieldLink RX2 43 "ReaperWagesLaw$Reaper" "debt" "I" ∈ lw_tbl := List.mem_of_getElem? (i := 329) rfl
set_option maxRecDepth 100000 in
theorem tq163 : Cond.fieldLink RX2 55 "ReaperWagesLaw$Reaper" "paid" "I" ∈ lw_tbl := List.mem_of_getElem? (i := 334) rfl
set_option maxRecDepth 100000 in
theorem tq164 : Cond.fieldLink RX2 58 "ReaperWagesLaw$Reaper" "sheaves" "I" ∈ lw_tbl := List.mem_of_getElem? (i := 320) rfl
set_option maxRecDepth 100000 in
theorem tq165 : Cond.fieldLink RX2 61 "ReaperWagesLaw$Reaper" "hours" "I" ∈ lw_tbl := List.mem_of_getElem? (i := 323) rfl
set_option maxRecDepth 100000 in
theorem tq166 : Cond.fieldLink RX2 64 "ReaperWagesLaw$Reaper" "late" "I" ∈ lw_tbl := List.mem_of_getElem? (i := 326) rfl
set_option maxRecDepth 100000 in
theorem tq167 : Cond.fieldLink RX2 23 "ReaperWagesLaw$Sim" "week" "I" ∈ lw_tbl := List.mem_of_getElem? (i := 280) rfl
theorem tc_wsL_law0_r7 : ∀ w ∈ wsL_law0_r7, w ∈ lw_tbl := List.forall_mem_cons.mpr ⟨tq144, List.forall_mem_cons.mpr ⟨tq145, List.forall_mem_cons.mpr ⟨tq146, List.forall_mem_cons.mpr ⟨tq147, List.forall_mem_cons.mpr ⟨tq148, List.forall_mem_cons.mpr ⟨tq149, List.forall_mem_cons.mpr ⟨tq150, List.forall_mem_cons.mpr ⟨tq151, List.forall_mem_cons.mpr ⟨tq152, List.forall_mem_cons.mpr ⟨tq153, List.forall_mem_cons.mpr ⟨tq154, List.forall_mem_cons.mpr ⟨tq155, List.forall_mem_cons.mpr ⟨tq156, List.forall_mem_cons.mpr ⟨tq157, List.forall_mem_cons.mpr ⟨tq158, List.forall_mem_cons.mpr ⟨tq159, List.forall_mem_cons.mpr ⟨tq160, List.forall_mem_cons.mpr ⟨tq161, List.forall_mem_cons.mpr ⟨tq162, List.forall_mem_cons.mpr ⟨tq163, List.forall_mem_cons.mpr ⟨tq164, List.forall_mem_cons.mpr ⟨tq165, List.forall_mem_cons.mpr ⟨tq166, List.forall_mem_cons.mpr ⟨tq167, fun _ h => absurd h List.not_mem_nil⟩⟩⟩⟩⟩⟩⟩⟩⟩⟩⟩⟩⟩⟩⟩⟩⟩⟩⟩⟩⟩⟩⟩⟩
set_option maxRecDepth 100000 in
theorem tq168 : Cond.methodLink RX2 51 yX2_back ∈ lw_tbl := List.mem_of_getElem? (i := 248) rfl
set_option maxRecDepth 100000 in
theorem tq169 : Cond.instanceMethod yX2_back ∈ lw_tbl := List.mem_of_getElem? (i := 249) rfl
set_option maxRecDepth 100000 in
theorem tq170 : Cond.selects RX2 yX2_back yX2_back ∈ lw_tbl := List.mem_of_getElem? (i := 250) rfl
set_option maxRecDepth 100000 in
theorem tq171 : Cond.code yX2_back cX2_back 3 (some .int) ∈ lw_tbl := List.mem_of_getElem? (i := 251) rfl
set_option maxRecDepth 100000 in
theorem tq172 : Cond.methodLink RX2 36 yX1_wage ∈ lw_tbl := List.mem_of_getElem? (i := 252) rfl
set_option maxRecDepth 100000 in
theorem tq173 : Cond.instanceMethod yX1_wage ∈ lw_tbl := List.mem_of_getElem? (i := 253) rfl
set_option maxRecDepth 100000 in
theorem tq174 : Cond.selects RX1 yX1_wage yX1_wage ∈ lw_tbl := List.mem_of_getElem? (i := 254) rfl
set_option maxRecDepth 100000 in
theorem tq175 : Cond.code yX1_wage cX1_wage 4 (some .int) ∈ lw_tbl := List.mem_of_getElem? (i := 255) rfl
set_option maxRecDepth 100000 in
theorem tq176 : Cond.fieldLink RX1 10 "ReaperWagesLaw$Reaper" "kind" "I" ∈ lw_tbl := List.mem_of_getElem? (i := 316) rfl
set_option maxRecDepth 100000 in
theorem tq177 : Cond.methodLink RX1 32 yX1_pieces ∈ lw_tbl := List.mem_of_getElem? (i := 256) rfl
set_option maxRecDepth 100000 in
theorem tq178 : Cond.instanceMethod yX1_pieces ∈ lw_tbl := List.mem_of_getElem? (i := 257) rfl
set_option maxRecDepth 100000 in
theorem tq179 : Cond.selects RX1 yX1_pieces yX1_pieces ∈ lw_tbl := List.mem_of_getElem? (i := 258) rfl
set_option maxRecDepth 100000 in
theorem tq180 : Cond.code yX1_pieces cX1_pieces 3 (some .int) ∈ lw_tbl := List.mem_of_getElem? (i := 259) rfl
set_option maxRecDepth 100000 in
theorem tq181 : Cond.fieldLink RX1 14 "ReaperWagesLaw$Reaper" "sheaves" "I" ∈ lw_tbl := List.mem_of_getElem? (i := 319) rfl
set_option maxRecDepth 100000 in
theorem tq182 : Cond.methodLink RX1 36 yX1_counting ∈ lw_tbl := List.mem_of_getElem? (i := 260) rfl
set_option maxRecDepth 100000 in
theorem tq183 : Cond.instanceMethod yX1_counting ∈ lw_tbl := List.mem_of_getElem? (i := 261) rfl
set_option maxRecDepth 100000 in
theorem tq184 : Cond.selects RX1 yX1_counting yX1_counting ∈ lw_tbl := List.mem_of_getElem? (i := 262) rfl
set_option maxRecDepth 100000 in
theorem tq185 : Cond.code yX1_counting cX1_counting 2 (some .int) ∈ lw_tbl := List.mem_of_getElem? (i := 263) rfl
set_option maxRecDepth 100000 in
theorem tq186 : Cond.fieldLink RX1 17 "ReaperWagesLaw$Reaper" "hours" "I" ∈ lw_tbl := List.mem_of_getElem? (i := 322) rfl
set_option maxRecDepth 100000 in
theorem tq187 : Cond.fieldLink RX1 20 "ReaperWagesLaw$Reaper" "late" "I" ∈ lw_tbl := List.mem_of_getElem? (i := 325) rfl
set_option maxRecDepth 100000 in
theorem tq188 : Cond.methodLink RL 73 yX0_work ∈ lw_tbl := List.mem_of_getElem? (i := 448) rfl
set_option maxRecDepth 100000 in
theorem tq189 : Cond.instanceMethod yX0_work ∈ lw_tbl := List.mem_of_getElem? (i := 449) rfl
set_option maxRecDepth 100000 in
theorem tq190 : Cond.selects RX0 yX0_work yX0_work ∈ lw_tbl := List.mem_of_getElem? (i := 450) rfl
set_option maxRecDepth 100000 in
theorem tq191 : Cond.code yX0_work cX0_work 4 (some .int) ∈ lw_tbl := List.mem_of_getElem? (i := 451) rfl
theorem tc_wsL_law0_r8 : ∀ w ∈ wsL_law0_r8, w ∈ lw_tbl := List.forall_mem_cons.mpr ⟨tq168, List.forall_mem_cons.mpr ⟨tq169, List.forall_mem_cons.mpr ⟨tq170, List.forall_mem_cons.mpr ⟨tq171, List.forall_mem_cons.mpr ⟨tq172, List.forall_mem_cons.mpr ⟨tq173, List.forall_mem_cons.mpr ⟨tq174, List.forall_mem_cons.mpr ⟨tq175, List.forall_mem_cons.mpr ⟨tq176, List.forall_mem_cons.mpr ⟨tq177, List.forall_mem_cons.mpr ⟨tq178, List.forall_mem_cons.mpr ⟨tq179, List.forall_mem_cons.mpr ⟨tq180, List.forall_mem_cons.mpr ⟨tq181, List.forall_mem_cons.mpr ⟨tq182, List.forall_mem_cons.mpr ⟨tq183, List.forall_mem_cons.mpr ⟨tq184, List.forall_mem_cons.mpr ⟨tq185, List.forall_mem_cons.mpr ⟨tq186, List.forall_mem_cons.mpr ⟨tq187, List.forall_mem_cons.mpr ⟨tq188, List.forall_mem_cons.mpr ⟨tq189, List.forall_mem_cons.mpr ⟨tq190, List.forall_mem_cons.mpr ⟨tq191, fun _ h => absurd h List.not_mem_nil⟩⟩⟩⟩⟩⟩⟩⟩⟩⟩⟩⟩⟩⟩⟩⟩⟩⟩⟩⟩⟩⟩⟩⟩
set_option maxRecDepth 100000 in
theorem tq192 : Cond.methodLink RL 91 yX0_count ∈ lw_tbl := List.mem_of_getElem? (i := 218) rfl
set_option maxRecDepth 100000 in
theorem tq193 : Cond.instanceMethod yX0_count ∈ lw_tbl := List.mem_of_getElem? (i := 219) rfl
set_option maxRecDepth 100000 in
theorem tq194 : Cond.selects RX0 yX0_count yX0_count ∈ lw_tbl := List.mem_of_getElem? (i := 220) rfl
set_option maxRecDepth 100000 in
theorem tq195 : Cond.code yX0_count cX0_count 2 (some .int) ∈ lw_tbl := List.mem_of_getElem? (i := 221) rfl
set_option maxRecDepth 100000 in
theorem tq196 : Cond.methodLink RX0 103 yX0_sumOfHired ∈ lw_tbl := List.mem_of_getElem? (i := 222) rfl
set_option maxRecDepth 100000 in
theorem tq197 : Cond.instanceMethod yX0_sumOfHired ∈ lw_tbl := List.mem_of_getElem? (i := 224) rfl
set_option maxRecDepth 100000 in
theorem tq198 : Cond.selects RX0 yX0_sumOfHired yX0_sumOfHired ∈ lw_tbl := List.mem_of_getElem? (i := 10) rfl
set_option maxRecDepth 100000 in
theorem tq199 : Cond.code yX0_sumOfHired cX0_sumOfHired 4 (some .int) ∈ lw_tbl := List.mem_of_getElem? (i := 225) rfl
set_option maxRecDepth 100000 in
theorem tq200 : Cond.methodLink RX0 107 yX0_worthOfPurse ∈ lw_tbl := List.mem_of_getElem? (i := 226) rfl
set_option maxRecDepth 100000 in
theorem tq201 : Cond.instanceMethod yX0_worthOfPurse ∈ lw_tbl := List.mem_of_getElem? (i := 228) rfl
set_option maxRecDepth 100000 in
theorem tq202 : Cond.selects RX0 yX0_worthOfPurse yX0_worthOfPurse ∈ lw_tbl := List.mem_of_getElem? (i := 11) rfl
set_option maxRecDepth 100000 in
theorem tq203 : Cond.code yX0_worthOfPurse cX0_worthOfPurse 3 (some .int) ∈ lw_tbl := List.mem_of_getElem? (i := 229) rfl
set_option maxRecDepth 100000 in
theorem tq204 : Cond.methodLink RX0 111 yX0_allWages ∈ lw_tbl := List.mem_of_getElem? (i := 230) rfl
set_option maxRecDepth 100000 in
theorem tq205 : Cond.instanceMethod yX0_allWages ∈ lw_tbl := List.mem_of_getElem? (i := 232) rfl
set_option maxRecDepth 100000 in
theorem tq206 : Cond.selects RX0 yX0_allWages yX0_allWages ∈ lw_tbl := List.mem_of_getElem? (i := 12) rfl
set_option maxRecDepth 100000 in
theorem tq207 : Cond.code yX0_allWages cX0_allWages 4 (some .int) ∈ lw_tbl := List.mem_of_getElem? (i := 233) rfl
set_option maxRecDepth 100000 in
theorem tq208 : Cond.methodLink RL 96 yX0_coins ∈ lw_tbl := List.mem_of_getElem? (i := 211) rfl
set_option maxRecDepth 100000 in
theorem tq209 : Cond.instanceMethod yX0_coins ∈ lw_tbl := List.mem_of_getElem? (i := 212) rfl
set_option maxRecDepth 100000 in
theorem tq210 : Cond.selects RX0 yX0_coins yX0_coins ∈ lw_tbl := List.mem_of_getElem? (i := 213) rfl
set_option maxRecDepth 100000 in
theorem tq211 : Cond.code yX0_coins cX0_coins 4 (some .int) ∈ lw_tbl := List.mem_of_getElem? (i := 214) rfl
set_option maxRecDepth 100000 in
theorem tq212 : Cond.methodLink RX0 95 yX0_copyRow ∈ lw_tbl := List.mem_of_getElem? (i := 215) rfl
set_option maxRecDepth 100000 in
theorem tq213 : Cond.static yX0_copyRow ∈ lw_tbl := List.mem_of_getElem? (i := 216) rfl
set_option maxRecDepth 100000 in
theorem tq214 : Cond.code yX0_copyRow cX0_copyRow 4 none ∈ lw_tbl := List.mem_of_getElem? (i := 217) rfl
set_option maxRecDepth 100000 in
theorem tq215 : Cond.methodLink RX0 92 yX0_restToPay ∈ lw_tbl := List.mem_of_getElem? (i := 203) rfl
theorem tc_wsL_law0_r9 : ∀ w ∈ wsL_law0_r9, w ∈ lw_tbl := List.forall_mem_cons.mpr ⟨tq192, List.forall_mem_cons.mpr ⟨tq193, List.forall_mem_cons.mpr ⟨tq194, List.forall_mem_cons.mpr ⟨tq195, List.forall_mem_cons.mpr ⟨tq196, List.forall_mem_cons.mpr ⟨tq197, List.forall_mem_cons.mpr ⟨tq198, List.forall_mem_cons.mpr ⟨tq199, List.forall_mem_cons.mpr ⟨tq200, List.forall_mem_cons.mpr ⟨tq201, List.forall_mem_cons.mpr ⟨tq202, List.forall_mem_cons.mpr ⟨tq203, List.forall_mem_cons.mpr ⟨tq204, List.forall_mem_cons.mpr ⟨tq205, List.forall_mem_cons.mpr ⟨tq206, List.forall_mem_cons.mpr ⟨tq207, List.forall_mem_cons.mpr ⟨tq208, List.forall_mem_cons.mpr ⟨tq209, List.forall_mem_cons.mpr ⟨tq210, List.forall_mem_cons.mpr ⟨tq211, List.forall_mem_cons.mpr ⟨tq212, List.forall_mem_cons.mpr ⟨tq213, List.forall_mem_cons.mpr ⟨tq214, List.forall_mem_cons.mpr ⟨tq215, fun _ h => absurd h List.not_mem_nil⟩⟩⟩⟩⟩⟩⟩⟩⟩⟩⟩⟩⟩⟩⟩⟩⟩⟩⟩⟩⟩⟩⟩⟩
set_option maxRecDepth 100000 in
theorem tq216 : Cond.instanceMethod yX0_restToPay ∈ lw_tbl := List.mem_of_getElem? (i := 205) rfl
set_option maxRecDepth 100000 in
theorem tq217 : Cond.selects RX0 yX0_restToPay yX0_restToPay ∈ lw_tbl := List.mem_of_getElem? (i := 9) rfl
set_option maxRecDepth 100000 in
theorem tq218 : Cond.code yX0_restToPay cX0_restToPay 3 (some .int) ∈ lw_tbl := List.mem_of_getElem? (i := 206) rfl
set_option maxRecDepth 100000 in
theorem tq219 : Cond.methodLink RL 99 yX0_told ∈ lw_tbl := List.mem_of_getElem? (i := 124) rfl
set_option maxRecDepth 100000 in
theorem tq220 : Cond.instanceMethod yX0_told ∈ lw_tbl := List.mem_of_getElem? (i := 125) rfl
set_option maxRecDepth 100000 in
theorem tq221 : Cond.selects RX0 yX0_told yX0_told ∈ lw_tbl := List.mem_of_getElem? (i := 126) rfl
set_option maxRecDepth 100000 in
theorem tq222 : Cond.code yX0_told cX0_told 3 (some .int) ∈ lw_tbl := List.mem_of_getElem? (i := 127) rfl
set_option maxRecDepth 100000 in
theorem tq223 : Cond.methodLink RL 102 yX0_wage ∈ lw_tbl := List.mem_of_getElem? (i := 199) rfl
set_option maxRecDepth 100000 in
theorem tq224 : Cond.instanceMethod yX0_wage ∈ lw_tbl := List.mem_of_getElem? (i := 200) rfl
set_option maxRecDepth 100000 in
theorem tq225 : Cond.selects RX0 yX0_wage yX0_wage ∈ lw_tbl := List.mem_of_getElem? (i := 201) rfl
set_option maxRecDepth 100000 in
theorem tq226 : Cond.code yX0_wage cX0_wage 3 (some .int) ∈ lw_tbl := List.mem_of_getElem? (i := 202) rfl
set_option maxRecDepth 100000 in
theorem tq227 : Cond.methodLink RL 105 yX0_mean ∈ lw_tbl := List.mem_of_getElem? (i := 238) rfl
set_option maxRecDepth 100000 in
theorem tq228 : Cond.instanceMethod yX0_mean ∈ lw_tbl := List.mem_of_getElem? (i := 239) rfl
set_option maxRecDepth 100000 in
theorem tq229 : Cond.selects RX0 yX0_mean yX0_mean ∈ lw_tbl := List.mem_of_getElem? (i := 240) rfl
set_option maxRecDepth 100000 in
theorem tq230 : Cond.code yX0_mean cX0_mean 1 (some .double) ∈ lw_tbl := List.mem_of_getElem? (i := 241) rfl
set_option maxRecDepth 100000 in
theorem tq231 : Cond.methodLink RL 109 yX0_chest ∈ lw_tbl := List.mem_of_getElem? (i := 207) rfl
set_option maxRecDepth 100000 in
theorem tq232 : Cond.instanceMethod yX0_chest ∈ lw_tbl := List.mem_of_getElem? (i := 208) rfl
set_option maxRecDepth 100000 in
theorem tq233 : Cond.selects RX0 yX0_chest yX0_chest ∈ lw_tbl := List.mem_of_getElem? (i := 209) rfl
set_option maxRecDepth 100000 in
theorem tq234 : Cond.code yX0_chest cX0_chest 2 (some .int) ∈ lw_tbl := List.mem_of_getElem? (i := 210) rfl
set_option maxRecDepth 100000 in
theorem tq235 : Cond.methodLink RL 111 yX0_lacks ∈ lw_tbl := List.mem_of_getElem? (i := 234) rfl
set_option maxRecDepth 100000 in
theorem tq236 : Cond.instanceMethod yX0_lacks ∈ lw_tbl := List.mem_of_getElem? (i := 235) rfl
set_option maxRecDepth 100000 in
theorem tq237 : Cond.selects RX0 yX0_lacks yX0_lacks ∈ lw_tbl := List.mem_of_getElem? (i := 236) rfl
set_option maxRecDepth 100000 in
theorem tq238 : Cond.code yX0_lacks cX0_lacks 4 (some .int) ∈ lw_tbl := List.mem_of_getElem? (i := 237) rfl
set_option maxRecDepth 100000 in
theorem tq239 : Cond.methodLink RL 114 yX2_isSame ∈ lw_tbl := List.mem_of_getElem? (i := 264) rfl
theorem tc_wsL_law0_r10 : ∀ w ∈ wsL_law0_r10, w ∈ lw_tbl := List.forall_mem_cons.mpr ⟨tq216, List.forall_mem_cons.mpr ⟨tq217, List.forall_mem_cons.mpr ⟨tq218, List.forall_mem_cons.mpr ⟨tq219, List.forall_mem_cons.mpr ⟨tq220, List.forall_mem_cons.mpr ⟨tq221, List.forall_mem_cons.mpr ⟨tq222, List.forall_mem_cons.mpr ⟨tq223, List.forall_mem_cons.mpr ⟨tq224, List.forall_mem_cons.mpr ⟨tq225, List.forall_mem_cons.mpr ⟨tq226, List.forall_mem_cons.mpr ⟨tq227, List.forall_mem_cons.mpr ⟨tq228, List.forall_mem_cons.mpr ⟨tq229, List.forall_mem_cons.mpr ⟨tq230, List.forall_mem_cons.mpr ⟨tq231, List.forall_mem_cons.mpr ⟨tq232, List.forall_mem_cons.mpr ⟨tq233, List.forall_mem_cons.mpr ⟨tq234, List.forall_mem_cons.mpr ⟨tq235, List.forall_mem_cons.mpr ⟨tq236, List.forall_mem_cons.mpr ⟨tq237, List.forall_mem_cons.mpr ⟨tq238, List.forall_mem_cons.mpr ⟨tq239, fun _ h => absurd h List.not_mem_nil⟩⟩⟩⟩⟩⟩⟩⟩⟩⟩⟩⟩⟩⟩⟩⟩⟩⟩⟩⟩⟩⟩⟩⟩
set_option maxRecDepth 100000 in
theorem tq240 : Cond.instanceMethod yX2_isSame ∈ lw_tbl := List.mem_of_getElem? (i := 265) rfl
set_option maxRecDepth 100000 in
theorem tq241 : Cond.selects RX2 yX2_isSame yX2_isSame ∈ lw_tbl := List.mem_of_getElem? (i := 266) rfl
set_option maxRecDepth 100000 in
theorem tq242 : Cond.code yX2_isSame cX2_isSame 12 (some .boolean) ∈ lw_tbl := List.mem_of_getElem? (i := 267) rfl
set_option maxRecDepth 100000 in
theorem tq243 : Cond.fieldLink RX2 74 "ReaperWagesLaw$Reaper" "kind" "I" ∈ lw_tbl := List.mem_of_getElem? (i := 318) rfl
set_option maxRecDepth 100000 in
theorem tq244 : Cond.methodLink RX2 67 yX2_copy ∈ lw_tbl := List.mem_of_getElem? (i := 268) rfl
set_option maxRecDepth 100000 in
theorem tq245 : Cond.instanceMethod yX2_copy ∈ lw_tbl := List.mem_of_getElem? (i := 269) rfl
set_option maxRecDepth 100000 in
theorem tq246 : Cond.selects RX2 yX2_copy yX2_copy ∈ lw_tbl := List.mem_of_getElem? (i := 270) rfl
set_option maxRecDepth 100000 in
theorem tq247 : Cond.code yX2_copy cX2_copy 3 (some (.object "ReaperWagesLaw$Sim")) ∈ lw_tbl := List.mem_of_getElem? (i := 271) rfl
set_option maxRecDepth 100000 in
theorem tq248 : Cond.classLink RX2 8 RX2 ∈ lw_tbl := List.mem_of_getElem? (i := 272) rfl
set_option maxRecDepth 100000 in
theorem tq249 : Cond.methodLink RX2 27 ⟨"[I", "clone", "()Ljava/lang/Object;"⟩ ∈ lw_tbl := by decide +kernel
set_option maxRecDepth 100000 in
theorem tq250 : Cond.sameMethod "[I" "java/lang/Object" "clone" "()Ljava/lang/Object;" ∈ lw_tbl := List.mem_of_getElem? (i := 300) rfl
set_option maxRecDepth 100000 in
theorem tq251 : Cond.native ⟨"java/lang/Object", "clone", "()Ljava/lang/Object;"⟩ ∈ lw_tbl := by decide +kernel
set_option maxRecDepth 100000 in
theorem tq252 : Cond.instanceMethod ⟨"java/lang/Object", "clone", "()Ljava/lang/Object;"⟩ ∈ lw_tbl := by decide +kernel
set_option maxRecDepth 100000 in
theorem tq253 : Cond.selects "[I" ⟨"[I", "clone", "()Ljava/lang/Object;"⟩ ⟨"java/lang/Object", "clone", "()Ljava/lang/Object;"⟩ ∈ lw_tbl := by decide +kernel
set_option maxRecDepth 100000 in
theorem tq254 : Cond.classLink RX2 28 "[I" ∈ lw_tbl := List.mem_of_getElem? (i := 305) rfl
set_option maxRecDepth 100000 in
theorem tq255 : Cond.methodLink RX2 22 yX2_init ∈ lw_tbl := List.mem_of_getElem? (i := 274) rfl
set_option maxRecDepth 100000 in
theorem tq256 : Cond.methodLink RX2 32 yX1_copy ∈ lw_tbl := List.mem_of_getElem? (i := 306) rfl
set_option maxRecDepth 100000 in
theorem tq257 : Cond.instanceMethod yX1_copy ∈ lw_tbl := List.mem_of_getElem? (i := 307) rfl
set_option maxRecDepth 100000 in
theorem tq258 : Cond.selects RX1 yX1_copy yX1_copy ∈ lw_tbl := List.mem_of_getElem? (i := 308) rfl
set_option maxRecDepth 100000 in
theorem tq259 : Cond.code yX1_copy cX1_copy 2 (some (.object "ReaperWagesLaw$Reaper")) ∈ lw_tbl := List.mem_of_getElem? (i := 309) rfl
set_option maxRecDepth 100000 in
theorem tq260 : Cond.classLink RX1 7 RX1 ∈ lw_tbl := List.mem_of_getElem? (i := 310) rfl
set_option maxRecDepth 100000 in
theorem tq261 : Cond.fieldLink RX1 23 "ReaperWagesLaw$Reaper" "debt" "I" ∈ lw_tbl := List.mem_of_getElem? (i := 328) rfl
set_option maxRecDepth 100000 in
theorem tq262 : Cond.fieldLink RX1 26 "ReaperWagesLaw$Reaper" "carried" "I" ∈ lw_tbl := List.mem_of_getElem? (i := 331) rfl
set_option maxRecDepth 100000 in
theorem tq263 : Cond.fieldLink RX1 29 "ReaperWagesLaw$Reaper" "paid" "I" ∈ lw_tbl := List.mem_of_getElem? (i := 333) rfl
theorem tc_wsL_law0_r11 : ∀ w ∈ wsL_law0_r11, w ∈ lw_tbl := List.forall_mem_cons.mpr ⟨tq240, List.forall_mem_cons.mpr ⟨tq241, List.forall_mem_cons.mpr ⟨tq242, List.forall_mem_cons.mpr ⟨tq243, List.forall_mem_cons.mpr ⟨tq244, List.forall_mem_cons.mpr ⟨tq245, List.forall_mem_cons.mpr ⟨tq246, List.forall_mem_cons.mpr ⟨tq247, List.forall_mem_cons.mpr ⟨tq248, List.forall_mem_cons.mpr ⟨tq249, List.forall_mem_cons.mpr ⟨tq250, List.forall_mem_cons.mpr ⟨tq251, List.forall_mem_cons.mpr ⟨tq252, List.forall_mem_cons.mpr ⟨tq253, List.forall_mem_cons.mpr ⟨tq254, List.forall_mem_cons.mpr ⟨tq255, List.forall_mem_cons.mpr ⟨tq256, List.forall_mem_cons.mpr ⟨tq257, List.forall_mem_cons.mpr ⟨tq258, List.forall_mem_cons.mpr ⟨tq259, List.forall_mem_cons.mpr ⟨tq260, List.forall_mem_cons.mpr ⟨tq261, List.forall_mem_cons.mpr ⟨tq262, List.forall_mem_cons.mpr ⟨tq263, fun _ h => absurd h List.not_mem_nil⟩⟩⟩⟩⟩⟩⟩⟩⟩⟩⟩⟩⟩⟩⟩⟩⟩⟩⟩⟩⟩⟩⟩⟩
set_option maxRecDepth 100000 in
theorem tq264 : Cond.methodLink RX1 9 yX1_init ∈ lw_tbl := List.mem_of_getElem? (i := 312) rfl
set_option maxRecDepth 100000 in
theorem tq265 : Cond.methodLink RX2 70 yX2_pay ∈ lw_tbl := List.mem_of_getElem? (i := 350) rfl
set_option maxRecDepth 100000 in
theorem tq266 : Cond.methodLink RX2 77 yX1_counting ∈ lw_tbl := List.mem_of_getElem? (i := 351) rfl
set_option maxRecDepth 100000 in
theorem tq267 : Cond.methodLink RX2 80 yX0_told ∈ lw_tbl := List.mem_of_getElem? (i := 352) rfl
set_option maxRecDepth 100000 in
theorem tq268 : Cond.methodLink RX2 86 yX1_pieces ∈ lw_tbl := List.mem_of_getElem? (i := 353) rfl
set_option maxRecDepth 100000 in
theorem tq269 : Cond.methodLink RX2 89 yX0_wage ∈ lw_tbl := List.mem_of_getElem? (i := 354) rfl
set_option maxRecDepth 100000 in
theorem tq270 : Cond.methodLink RX2 91 yX0_coins ∈ lw_tbl := List.mem_of_getElem? (i := 355) rfl
set_option maxRecDepth 100000 in
theorem tq271 : Cond.methodLink RX2 94 yX0_rate ∈ lw_tbl := List.mem_of_getElem? (i := 356) rfl
set_option maxRecDepth 100000 in
theorem tq272 : Cond.instanceMethod yX0_rate ∈ lw_tbl := List.mem_of_getElem? (i := 357) rfl
set_option maxRecDepth 100000 in
theorem tq273 : Cond.selects RX0 yX0_rate yX0_rate ∈ lw_tbl := List.mem_of_getElem? (i := 358) rfl
set_option maxRecDepth 100000 in
theorem tq274 : Cond.code yX0_rate cX0_rate 2 (some .int) ∈ lw_tbl := List.mem_of_getElem? (i := 359) rfl
set_option maxRecDepth 100000 in
theorem tq275 : Cond.methodLink RX2 98 yX0_chest ∈ lw_tbl := List.mem_of_getElem? (i := 360) rfl
set_option maxRecDepth 100000 in
theorem tq276 : Cond.methodLink RX2 100 yX2_wages ∈ lw_tbl := List.mem_of_getElem? (i := 361) rfl
set_option maxRecDepth 100000 in
theorem tq277 : Cond.instanceMethod yX2_wages ∈ lw_tbl := List.mem_of_getElem? (i := 362) rfl
set_option maxRecDepth 100000 in
theorem tq278 : Cond.selects RX2 yX2_wages yX2_wages ∈ lw_tbl := List.mem_of_getElem? (i := 363) rfl
set_option maxRecDepth 100000 in
theorem tq279 : Cond.code yX2_wages cX2_wages 6 (some .int) ∈ lw_tbl := List.mem_of_getElem? (i := 364) rfl
set_option maxRecDepth 100000 in
theorem tq280 : Cond.methodLink RX2 103 yX0_count ∈ lw_tbl := List.mem_of_getElem? (i := 365) rfl
set_option maxRecDepth 100000 in
theorem tq281 : Cond.methodLink RX2 106 yX0_mean ∈ lw_tbl := List.mem_of_getElem? (i := 366) rfl
theorem tc_wsL_law0_r12 : ∀ w ∈ wsL_law0_r12, w ∈ lw_tbl := List.forall_mem_cons.mpr ⟨tq264, List.forall_mem_cons.mpr ⟨tq265, List.forall_mem_cons.mpr ⟨tq266, List.forall_mem_cons.mpr ⟨tq267, List.forall_mem_cons.mpr ⟨tq268, List.forall_mem_cons.mpr ⟨tq269, List.forall_mem_cons.mpr ⟨tq270, List.forall_mem_cons.mpr ⟨tq271, List.forall_mem_cons.mpr ⟨tq272, List.forall_mem_cons.mpr ⟨tq273, List.forall_mem_cons.mpr ⟨tq274, List.forall_mem_cons.mpr ⟨tq275, List.forall_mem_cons.mpr ⟨tq276, List.forall_mem_cons.mpr ⟨tq277, List.forall_mem_cons.mpr ⟨tq278, List.forall_mem_cons.mpr ⟨tq279, List.forall_mem_cons.mpr ⟨tq280, List.forall_mem_cons.mpr ⟨tq281, fun _ h => absurd h List.not_mem_nil⟩⟩⟩⟩⟩⟩⟩⟩⟩⟩⟩⟩⟩⟩⟩⟩⟩⟩
theorem tc_wsX0 : ∀ w ∈ wsX00, w ∈ lw_tbl := by decide +kernel
theorem tc_wsX1 : ∀ w ∈ wsX10, w ∈ lw_tbl := by decide +kernel
theorem tc_wsX2 : ∀ w ∈ wsX20, w ∈ lw_tbl := by decide +kernel
theorem wsL_law_in0 : ∀ w ∈ wsL_law0, w ∈ lw_tbl := fun w h => (List.mem_append.mp h).elim (fun h => (List.mem_append.mp h).elim (fun h => (List.mem_append.mp h).elim (fun h => (List.mem_append.mp h).elim (fun h => (List.mem_append.mp h).elim (fun h => tc_wsL_law0_r1 w h) (fun h => (List.mem_append.mp h).elim (fun h => tc_wsL_law0_r2 w h) (fun h => (List.mem_append.mp h).elim (fun h => tc_wsL_law0_r3 w h) (fun h => (List.mem_append.mp h).elim (fun h => tc_wsL_law0_r4 w h) (fun h => (List.mem_append.mp h).elim (fun h => tc_wsL_law0_r5 w h) (fun h => (List.mem_append.mp h).elim (fun h => tc_wsL_law0_r6 w h) (fun h => (List.mem_append.mp h).elim (fun h => tc_wsL_law0_r7 w h) (fun h => (List.mem_append.mp h).elim (fun h => tc_wsL_law0_r8 w h) (fun h => (List.mem_append.mp h).elim (fun h => tc_wsL_law0_r9 w h) (fun h => (List.mem_append.mp h).elim (fun h => tc_wsL_law0_r10 w h) (fun h => (List.mem_append.mp h).elim (fun h => tc_wsL_law0_r11 w h) (fun h => tc_wsL_law0_r12 w h)))))))))))) (fun h => tc_wsX0 w h)) (fun h => tc_wsX2 w h)) (fun h => tc_wsX1 w h)) (fun h => absurd h List.not_mem_nil)
theorem wsL_law_x0 : ∀ w ∈ (vx_atS RX0 167 "java/lang/IllegalArgumentException" ["java/lang/RuntimeException", "java/lang/Exception"]).filter goodWord, w ∈ lw_tbl := by decide +kernel
theorem wsL_law_x1 : ∀ w ∈ (vx_atS RX0 172 "java/lang/IllegalStateException" ["java/lang/RuntimeException", "java/lang/Exception"]).filter goodWord, w ∈ lw_tbl := by decide +kernel
theorem wsL_law_x2 : ∀ w ∈ (vx_atS RX0 160 "java/lang/IndexOutOfBoundsException" ["java/lang/RuntimeException", "java/lang/Exception"]).filter goodWord, w ∈ lw_tbl := by decide +kernel
theorem wsL_law_in : ∀ w ∈ wsL_law, w ∈ lw_tbl := fun w h => (List.mem_append.mp h).elim (fun h => (List.mem_append.mp h).elim (fun h => (List.mem_append.mp h).elim (fun h => wsL_law_in0 w h) (fun h => wsL_law_x0 w h)) (fun h => wsL_law_x1 w h)) (fun h => wsL_law_x2 w h)
theorem inX0 : ∀ w ∈ wsX00, w ∈ lw_tbl := fun w h => wsL_law_in w (inlX0 w h)
theorem inX1 : ∀ w ∈ wsX10, w ∈ lw_tbl := fun w h => wsL_law_in w (inlX1 w h)
theorem inX2 : ∀ w ∈ wsX20, w ∈ lw_tbl := fun w h => wsL_law_in w (inlX2 w h)
theorem inX3 : ∀ w ∈ wsX30, w ∈ lw_tbl := by decide +kernel

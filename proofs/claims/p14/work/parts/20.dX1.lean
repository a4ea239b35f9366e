theorem dX1_init_0 : decode cX1_init 0 = .ok (.aload_n 0, 1) := by decide +kernel
theorem dX1_init_1 : decode cX1_init 1 = .ok (.invokespecial 1, 3) := by decide +kernel
theorem dX1_init_4 : decode cX1_init 4 = .ok (.aload_n 0, 1) := by decide +kernel
theorem dX1_init_5 : decode cX1_init 5 = .ok (.iconst 5, 1) := by decide +kernel
theorem dX1_init_6 : decode cX1_init 6 = .ok (.newarray .int, 2) := by decide +kernel
theorem dX1_init_8 : decode cX1_init 8 = .ok (.dup, 1) := by decide +kernel
theorem dX1_init_9 : decode cX1_init 9 = .ok (.iconst 0, 1) := by decide +kernel
theorem dX1_init_10 : decode cX1_init 10 = .ok (.bipush 12, 2) := by decide +kernel
theorem dX1_init_12 : decode cX1_init 12 = .ok (.iastore, 1) := by decide +kernel
theorem dX1_init_13 : decode cX1_init 13 = .ok (.dup, 1) := by decide +kernel
theorem dX1_init_14 : decode cX1_init 14 = .ok (.iconst 1, 1) := by decide +kernel
theorem dX1_init_15 : decode cX1_init 15 = .ok (.bipush 20, 2) := by decide +kernel
theorem dX1_init_17 : decode cX1_init 17 = .ok (.iastore, 1) := by decide +kernel
theorem dX1_init_18 : decode cX1_init 18 = .ok (.dup, 1) := by decide +kernel
theorem dX1_init_19 : decode cX1_init 19 = .ok (.iconst 2, 1) := by decide +kernel
theorem dX1_init_20 : decode cX1_init 20 = .ok (.sipush 400, 3) := by decide +kernel
theorem dX1_init_23 : decode cX1_init 23 = .ok (.iastore, 1) := by decide +kernel
theorem dX1_init_24 : decode cX1_init 24 = .ok (.dup, 1) := by decide +kernel
theorem dX1_init_25 : decode cX1_init 25 = .ok (.iconst 3, 1) := by decide +kernel
theorem dX1_init_26 : decode cX1_init 26 = .ok (.bipush 25, 2) := by decide +kernel
theorem dX1_init_28 : decode cX1_init 28 = .ok (.iastore, 1) := by decide +kernel
theorem dX1_init_29 : decode cX1_init 29 = .ok (.dup, 1) := by decide +kernel
theorem dX1_init_30 : decode cX1_init 30 = .ok (.iconst 4, 1) := by decide +kernel
theorem dX1_init_31 : decode cX1_init 31 = .ok (.iconst 4, 1) := by decide +kernel
theorem dX1_init_32 : decode cX1_init 32 = .ok (.iastore, 1) := by decide +kernel
theorem dX1_init_33 : decode cX1_init 33 = .ok (.putfield 7, 3) := by decide +kernel
theorem dX1_init_36 : decode cX1_init 36 = .ok (.aload_n 0, 1) := by decide +kernel
theorem dX1_init_37 : decode cX1_init 37 = .ok (.iconst 3, 1) := by decide +kernel
theorem dX1_init_38 : decode cX1_init 38 = .ok (.newarray .int, 2) := by decide +kernel
theorem dX1_init_40 : decode cX1_init 40 = .ok (.putfield 13, 3) := by decide +kernel
theorem dX1_init_43 : decode cX1_init 43 = .ok (.aload_n 0, 1) := by decide +kernel
theorem dX1_init_44 : decode cX1_init 44 = .ok (.bipush 56, 2) := by decide +kernel
theorem dX1_init_46 : decode cX1_init 46 = .ok (.newarray .int, 2) := by decide +kernel
theorem dX1_init_48 : decode cX1_init 48 = .ok (.putfield 16, 3) := by decide +kernel
theorem dX1_init_51 : decode cX1_init 51 = .ok (.aload_n 0, 1) := by decide +kernel
theorem dX1_init_52 : decode cX1_init 52 = .ok (.bipush 24, 2) := by decide +kernel
theorem dX1_init_54 : decode cX1_init 54 = .ok (.newarray .int, 2) := by decide +kernel
theorem dX1_init_56 : decode cX1_init 56 = .ok (.putfield 19, 3) := by decide +kernel
theorem dX1_init_59 : decode cX1_init 59 = .ok (.return_, 1) := by decide +kernel
theorem dX1_thrown_0 : decode cX1_thrown 0 = .ok (.aload_n 0, 1) := by decide +kernel
theorem dX1_thrown_1 : decode cX1_thrown 1 = .ok (.getfield 22, 3) := by decide +kernel
theorem dX1_thrown_4 : decode cX1_thrown 4 = .ok (.ireturn, 1) := by decide +kernel
theorem dX1_fail_0 : decode cX1_fail 0 = .ok (.aload_n 0, 1) := by decide +kernel
theorem dX1_fail_1 : decode cX1_fail 1 = .ok (.iload_n 1, 1) := by decide +kernel
theorem dX1_fail_2 : decode cX1_fail 2 = .ok (.putfield 22, 3) := by decide +kernel
theorem dX1_fail_5 : decode cX1_fail 5 = .ok (.iconst 0, 1) := by decide +kernel
theorem dX1_fail_6 : decode cX1_fail 6 = .ok (.ireturn, 1) := by decide +kernel
theorem dX1_isIn_0 : decode cX1_isIn 0 = .ok (.iload_n 0, 1) := by decide +kernel
theorem dX1_isIn_1 : decode cX1_isIn 1 = .ok (.iload_n 1, 1) := by decide +kernel
theorem dX1_isIn_2 : decode cX1_isIn 2 = .ok (.if_icmp .lt 12, 3) := by decide +kernel
theorem dX1_isIn_5 : decode cX1_isIn 5 = .ok (.iload_n 0, 1) := by decide +kernel
theorem dX1_isIn_6 : decode cX1_isIn 6 = .ok (.iload_n 2, 1) := by decide +kernel
theorem dX1_isIn_7 : decode cX1_isIn 7 = .ok (.if_icmp .gt 7, 3) := by decide +kernel
theorem dX1_isIn_10 : decode cX1_isIn 10 = .ok (.iconst 1, 1) := by decide +kernel
theorem dX1_isIn_11 : decode cX1_isIn 11 = .ok (.goto 4, 3) := by decide +kernel
theorem dX1_isIn_14 : decode cX1_isIn 14 = .ok (.iconst 0, 1) := by decide +kernel
theorem dX1_isIn_15 : decode cX1_isIn 15 = .ok (.ireturn, 1) := by decide +kernel
theorem dX1_isReaper_0 : decode cX1_isReaper 0 = .ok (.iload_n 1, 1) := by decide +kernel
theorem dX1_isReaper_1 : decode cX1_isReaper 1 = .ok (.iconst 0, 1) := by decide +kernel
theorem dX1_isReaper_2 : decode cX1_isReaper 2 = .ok (.aload_n 0, 1) := by decide +kernel
theorem dX1_isReaper_3 : decode cX1_isReaper 3 = .ok (.getfield 26, 3) := by decide +kernel
theorem dX1_isReaper_6 : decode cX1_isReaper 6 = .ok (.iconst 1, 1) := by decide +kernel
theorem dX1_isReaper_7 : decode cX1_isReaper 7 = .ok (.isub, 1) := by decide +kernel
theorem dX1_isReaper_8 : decode cX1_isReaper 8 = .ok (.invokestatic 29, 3) := by decide +kernel
theorem dX1_isReaper_11 : decode cX1_isReaper 11 = .ok (.ireturn, 1) := by decide +kernel
theorem dX1_isRate_0 : decode cX1_isRate 0 = .ok (.iload_n 0, 1) := by decide +kernel
theorem dX1_isRate_1 : decode cX1_isRate 1 = .ok (.iconst 0, 1) := by decide +kernel
theorem dX1_isRate_2 : decode cX1_isRate 2 = .ok (.iconst 4, 1) := by decide +kernel
theorem dX1_isRate_3 : decode cX1_isRate 3 = .ok (.invokestatic 29, 3) := by decide +kernel
theorem dX1_isRate_6 : decode cX1_isRate 6 = .ok (.ireturn, 1) := by decide +kernel
theorem dX1_isCoin_0 : decode cX1_isCoin 0 = .ok (.iload_n 0, 1) := by decide +kernel
theorem dX1_isCoin_1 : decode cX1_isCoin 1 = .ok (.iconst 0, 1) := by decide +kernel
theorem dX1_isCoin_2 : decode cX1_isCoin 2 = .ok (.iconst 2, 1) := by decide +kernel
theorem dX1_isCoin_3 : decode cX1_isCoin 3 = .ok (.invokestatic 29, 3) := by decide +kernel
theorem dX1_isCoin_6 : decode cX1_isCoin 6 = .ok (.ireturn, 1) := by decide +kernel
theorem dX1_re_0 : decode cX1_re 0 = .ok (.aload_n 0, 1) := by decide +kernel
theorem dX1_re_1 : decode cX1_re 1 = .ok (.getfield 16, 3) := by decide +kernel
theorem dX1_re_4 : decode cX1_re 4 = .ok (.bipush 7, 2) := by decide +kernel
theorem dX1_re_6 : decode cX1_re 6 = .ok (.iload_n 1, 1) := by decide +kernel
theorem dX1_re_7 : decode cX1_re 7 = .ok (.imul, 1) := by decide +kernel
theorem dX1_re_8 : decode cX1_re 8 = .ok (.iload_n 2, 1) := by decide +kernel
theorem dX1_re_9 : decode cX1_re 9 = .ok (.iadd, 1) := by decide +kernel
theorem dX1_re_10 : decode cX1_re 10 = .ok (.iaload, 1) := by decide +kernel
theorem dX1_re_11 : decode cX1_re 11 = .ok (.ireturn, 1) := by decide +kernel
theorem dX1_let_0 : decode cX1_let 0 = .ok (.aload_n 0, 1) := by decide +kernel
theorem dX1_let_1 : decode cX1_let 1 = .ok (.getfield 16, 3) := by decide +kernel
theorem dX1_let_4 : decode cX1_let 4 = .ok (.bipush 7, 2) := by decide +kernel
theorem dX1_let_6 : decode cX1_let 6 = .ok (.iload_n 1, 1) := by decide +kernel
theorem dX1_let_7 : decode cX1_let 7 = .ok (.imul, 1) := by decide +kernel
theorem dX1_let_8 : decode cX1_let 8 = .ok (.iload_n 2, 1) := by decide +kernel
theorem dX1_let_9 : decode cX1_let 9 = .ok (.iadd, 1) := by decide +kernel
theorem dX1_let_10 : decode cX1_let 10 = .ok (.iload_n 3, 1) := by decide +kernel
theorem dX1_let_11 : decode cX1_let 11 = .ok (.iastore, 1) := by decide +kernel
theorem dX1_let_12 : decode cX1_let 12 = .ok (.return_, 1) := by decide +kernel
theorem dX1_pieces_0 : decode cX1_pieces 0 = .ok (.iconst 0, 1) := by decide +kernel
theorem dX1_pieces_1 : decode cX1_pieces 1 = .ok (.aload_n 0, 1) := by decide +kernel
theorem dX1_pieces_2 : decode cX1_pieces 2 = .ok (.iload_n 1, 1) := by decide +kernel
theorem dX1_pieces_3 : decode cX1_pieces 3 = .ok (.iconst 1, 1) := by decide +kernel
theorem dX1_pieces_4 : decode cX1_pieces 4 = .ok (.invokevirtual 33, 3) := by decide +kernel
theorem dX1_pieces_7 : decode cX1_pieces 7 = .ok (.aload_n 0, 1) := by decide +kernel
theorem dX1_pieces_8 : decode cX1_pieces 8 = .ok (.getfield 7, 3) := by decide +kernel
theorem dX1_pieces_11 : decode cX1_pieces 11 = .ok (.iconst 2, 1) := by decide +kernel
theorem dX1_pieces_12 : decode cX1_pieces 12 = .ok (.iaload, 1) := by decide +kernel
theorem dX1_pieces_13 : decode cX1_pieces 13 = .ok (.isub, 1) := by decide +kernel
theorem dX1_pieces_14 : decode cX1_pieces 14 = .ok (.invokestatic 37, 3) := by decide +kernel
theorem dX1_pieces_17 : decode cX1_pieces 17 = .ok (.istore_n 2, 1) := by decide +kernel
theorem dX1_pieces_18 : decode cX1_pieces 18 = .ok (.aload_n 0, 1) := by decide +kernel
theorem dX1_pieces_19 : decode cX1_pieces 19 = .ok (.getfield 7, 3) := by decide +kernel
theorem dX1_pieces_22 : decode cX1_pieces 22 = .ok (.iconst 0, 1) := by decide +kernel
theorem dX1_pieces_23 : decode cX1_pieces 23 = .ok (.iaload, 1) := by decide +kernel
theorem dX1_pieces_24 : decode cX1_pieces 24 = .ok (.aload_n 0, 1) := by decide +kernel
theorem dX1_pieces_25 : decode cX1_pieces 25 = .ok (.iload_n 1, 1) := by decide +kernel
theorem dX1_pieces_26 : decode cX1_pieces 26 = .ok (.iconst 1, 1) := by decide +kernel
theorem dX1_pieces_27 : decode cX1_pieces 27 = .ok (.invokevirtual 33, 3) := by decide +kernel
theorem dX1_pieces_30 : decode cX1_pieces 30 = .ok (.iload_n 2, 1) := by decide +kernel
theorem dX1_pieces_31 : decode cX1_pieces 31 = .ok (.isub, 1) := by decide +kernel
theorem dX1_pieces_32 : decode cX1_pieces 32 = .ok (.imul, 1) := by decide +kernel
theorem dX1_pieces_33 : decode cX1_pieces 33 = .ok (.bipush 10, 2) := by decide +kernel
theorem dX1_pieces_35 : decode cX1_pieces 35 = .ok (.idiv, 1) := by decide +kernel
theorem dX1_pieces_36 : decode cX1_pieces 36 = .ok (.aload_n 0, 1) := by decide +kernel
theorem dX1_pieces_37 : decode cX1_pieces 37 = .ok (.getfield 7, 3) := by decide +kernel
theorem dX1_pieces_40 : decode cX1_pieces 40 = .ok (.iconst 0, 1) := by decide +kernel
theorem dX1_pieces_41 : decode cX1_pieces 41 = .ok (.iaload, 1) := by decide +kernel
theorem dX1_pieces_42 : decode cX1_pieces 42 = .ok (.iload_n 2, 1) := by decide +kernel
theorem dX1_pieces_43 : decode cX1_pieces 43 = .ok (.imul, 1) := by decide +kernel
theorem dX1_pieces_44 : decode cX1_pieces 44 = .ok (.bipush 100, 2) := by decide +kernel
theorem dX1_pieces_46 : decode cX1_pieces 46 = .ok (.aload_n 0, 1) := by decide +kernel
theorem dX1_pieces_47 : decode cX1_pieces 47 = .ok (.getfield 7, 3) := by decide +kernel
theorem dX1_pieces_50 : decode cX1_pieces 50 = .ok (.iconst 3, 1) := by decide +kernel
theorem dX1_pieces_51 : decode cX1_pieces 51 = .ok (.iaload, 1) := by decide +kernel
theorem dX1_pieces_52 : decode cX1_pieces 52 = .ok (.iadd, 1) := by decide +kernel
theorem dX1_pieces_53 : decode cX1_pieces 53 = .ok (.imul, 1) := by decide +kernel
theorem dX1_pieces_54 : decode cX1_pieces 54 = .ok (.sipush 1000, 3) := by decide +kernel
theorem dX1_pieces_57 : decode cX1_pieces 57 = .ok (.idiv, 1) := by decide +kernel
theorem dX1_pieces_58 : decode cX1_pieces 58 = .ok (.iadd, 1) := by decide +kernel
theorem dX1_pieces_59 : decode cX1_pieces 59 = .ok (.ireturn, 1) := by decide +kernel
theorem dX1_counting_0 : decode cX1_counting 0 = .ok (.iconst 0, 1) := by decide +kernel
theorem dX1_counting_1 : decode cX1_counting 1 = .ok (.aload_n 0, 1) := by decide +kernel
theorem dX1_counting_2 : decode cX1_counting 2 = .ok (.iload_n 1, 1) := by decide +kernel
theorem dX1_counting_3 : decode cX1_counting 3 = .ok (.iconst 2, 1) := by decide +kernel
theorem dX1_counting_4 : decode cX1_counting 4 = .ok (.invokevirtual 33, 3) := by decide +kernel
theorem dX1_counting_7 : decode cX1_counting 7 = .ok (.aload_n 0, 1) := by decide +kernel
theorem dX1_counting_8 : decode cX1_counting 8 = .ok (.iload_n 1, 1) := by decide +kernel
theorem dX1_counting_9 : decode cX1_counting 9 = .ok (.iconst 3, 1) := by decide +kernel
theorem dX1_counting_10 : decode cX1_counting 10 = .ok (.invokevirtual 33, 3) := by decide +kernel
theorem dX1_counting_13 : decode cX1_counting 13 = .ok (.iconst 1, 1) := by decide +kernel
theorem dX1_counting_14 : decode cX1_counting 14 = .ok (.iadd, 1) := by decide +kernel
theorem dX1_counting_15 : decode cX1_counting 15 = .ok (.iconst 2, 1) := by decide +kernel
theorem dX1_counting_16 : decode cX1_counting 16 = .ok (.idiv, 1) := by decide +kernel
theorem dX1_counting_17 : decode cX1_counting 17 = .ok (.isub, 1) := by decide +kernel
theorem dX1_counting_18 : decode cX1_counting 18 = .ok (.invokestatic 37, 3) := by decide +kernel
theorem dX1_counting_21 : decode cX1_counting 21 = .ok (.istore_n 2, 1) := by decide +kernel
theorem dX1_counting_22 : decode cX1_counting 22 = .ok (.iload_n 2, 1) := by decide +kernel
theorem dX1_counting_23 : decode cX1_counting 23 = .ok (.iconst 0, 1) := by decide +kernel
theorem dX1_counting_24 : decode cX1_counting 24 = .ok (.iload_n 2, 1) := by decide +kernel
theorem dX1_counting_25 : decode cX1_counting 25 = .ok (.bipush 60, 2) := by decide +kernel
theorem dX1_counting_27 : decode cX1_counting 27 = .ok (.isub, 1) := by decide +kernel
theorem dX1_counting_28 : decode cX1_counting 28 = .ok (.invokestatic 37, 3) := by decide +kernel
theorem dX1_counting_31 : decode cX1_counting 31 = .ok (.iconst 2, 1) := by decide +kernel
theorem dX1_counting_32 : decode cX1_counting 32 = .ok (.idiv, 1) := by decide +kernel
theorem dX1_counting_33 : decode cX1_counting 33 = .ok (.iadd, 1) := by decide +kernel
theorem dX1_counting_34 : decode cX1_counting 34 = .ok (.ireturn, 1) := by decide +kernel
theorem dX1_byHours_0 : decode cX1_byHours 0 = .ok (.aload_n 0, 1) := by decide +kernel
theorem dX1_byHours_1 : decode cX1_byHours 1 = .ok (.getfield 7, 3) := by decide +kernel
theorem dX1_byHours_4 : decode cX1_byHours 4 = .ok (.iconst 1, 1) := by decide +kernel
theorem dX1_byHours_5 : decode cX1_byHours 5 = .ok (.iaload, 1) := by decide +kernel
theorem dX1_byHours_6 : decode cX1_byHours 6 = .ok (.aload_n 0, 1) := by decide +kernel
theorem dX1_byHours_7 : decode cX1_byHours 7 = .ok (.iload_n 1, 1) := by decide +kernel
theorem dX1_byHours_8 : decode cX1_byHours 8 = .ok (.invokevirtual 42, 3) := by decide +kernel
theorem dX1_byHours_11 : decode cX1_byHours 11 = .ok (.imul, 1) := by decide +kernel
theorem dX1_byHours_12 : decode cX1_byHours 12 = .ok (.ireturn, 1) := by decide +kernel
theorem dX1_wageOf_0 : decode cX1_wageOf 0 = .ok (.aload_n 0, 1) := by decide +kernel
theorem dX1_wageOf_1 : decode cX1_wageOf 1 = .ok (.iload_n 1, 1) := by decide +kernel
theorem dX1_wageOf_2 : decode cX1_wageOf 2 = .ok (.iconst 0, 1) := by decide +kernel
theorem dX1_wageOf_3 : decode cX1_wageOf 3 = .ok (.invokevirtual 33, 3) := by decide +kernel
theorem dX1_wageOf_6 : decode cX1_wageOf 6 = .ok (.ifCond .ne 11, 3) := by decide +kernel
theorem dX1_wageOf_9 : decode cX1_wageOf 9 = .ok (.aload_n 0, 1) := by decide +kernel
theorem dX1_wageOf_10 : decode cX1_wageOf 10 = .ok (.iload_n 1, 1) := by decide +kernel
theorem dX1_wageOf_11 : decode cX1_wageOf 11 = .ok (.invokevirtual 46, 3) := by decide +kernel
theorem dX1_wageOf_14 : decode cX1_wageOf 14 = .ok (.goto 34, 3) := by decide +kernel
theorem dX1_wageOf_17 : decode cX1_wageOf 17 = .ok (.aload_n 0, 1) := by decide +kernel
theorem dX1_wageOf_18 : decode cX1_wageOf 18 = .ok (.iload_n 1, 1) := by decide +kernel
theorem dX1_wageOf_19 : decode cX1_wageOf 19 = .ok (.iconst 0, 1) := by decide +kernel
theorem dX1_wageOf_20 : decode cX1_wageOf 20 = .ok (.invokevirtual 33, 3) := by decide +kernel
theorem dX1_wageOf_23 : decode cX1_wageOf 23 = .ok (.iconst 1, 1) := by decide +kernel
theorem dX1_wageOf_24 : decode cX1_wageOf 24 = .ok (.if_icmp .ne 11, 3) := by decide +kernel
theorem dX1_wageOf_27 : decode cX1_wageOf 27 = .ok (.aload_n 0, 1) := by decide +kernel
theorem dX1_wageOf_28 : decode cX1_wageOf 28 = .ok (.iload_n 1, 1) := by decide +kernel
theorem dX1_wageOf_29 : decode cX1_wageOf 29 = .ok (.invokevirtual 49, 3) := by decide +kernel
theorem dX1_wageOf_32 : decode cX1_wageOf 32 = .ok (.goto 16, 3) := by decide +kernel
theorem dX1_wageOf_35 : decode cX1_wageOf 35 = .ok (.aload_n 0, 1) := by decide +kernel
theorem dX1_wageOf_36 : decode cX1_wageOf 36 = .ok (.iload_n 1, 1) := by decide +kernel
theorem dX1_wageOf_37 : decode cX1_wageOf 37 = .ok (.invokevirtual 46, 3) := by decide +kernel
theorem dX1_wageOf_40 : decode cX1_wageOf 40 = .ok (.aload_n 0, 1) := by decide +kernel
theorem dX1_wageOf_41 : decode cX1_wageOf 41 = .ok (.iload_n 1, 1) := by decide +kernel
theorem dX1_wageOf_42 : decode cX1_wageOf 42 = .ok (.invokevirtual 49, 3) := by decide +kernel
theorem dX1_wageOf_45 : decode cX1_wageOf 45 = .ok (.invokestatic 37, 3) := by decide +kernel
theorem dX1_wageOf_48 : decode cX1_wageOf 48 = .ok (.ireturn, 1) := by decide +kernel
theorem dX1_all_0 : decode cX1_all 0 = .ok (.iconst 0, 1) := by decide +kernel
theorem dX1_all_1 : decode cX1_all 1 = .ok (.istore_n 1, 1) := by decide +kernel
theorem dX1_all_2 : decode cX1_all 2 = .ok (.iconst 0, 1) := by decide +kernel
theorem dX1_all_3 : decode cX1_all 3 = .ok (.istore_n 2, 1) := by decide +kernel
theorem dX1_all_4 : decode cX1_all 4 = .ok (.iload_n 2, 1) := by decide +kernel
theorem dX1_all_5 : decode cX1_all 5 = .ok (.aload_n 0, 1) := by decide +kernel
theorem dX1_all_6 : decode cX1_all 6 = .ok (.getfield 26, 3) := by decide +kernel
theorem dX1_all_9 : decode cX1_all 9 = .ok (.if_icmp .ge 17, 3) := by decide +kernel
theorem dX1_all_12 : decode cX1_all 12 = .ok (.iload_n 1, 1) := by decide +kernel
theorem dX1_all_13 : decode cX1_all 13 = .ok (.aload_n 0, 1) := by decide +kernel
theorem dX1_all_14 : decode cX1_all 14 = .ok (.iload_n 2, 1) := by decide +kernel
theorem dX1_all_15 : decode cX1_all 15 = .ok (.invokevirtual 52, 3) := by decide +kernel
theorem dX1_all_18 : decode cX1_all 18 = .ok (.iadd, 1) := by decide +kernel
theorem dX1_all_19 : decode cX1_all 19 = .ok (.istore_n 1, 1) := by decide +kernel
theorem dX1_all_20 : decode cX1_all 20 = .ok (.iinc 2 1, 3) := by decide +kernel
theorem dX1_all_23 : decode cX1_all 23 = .ok (.goto (-19), 3) := by decide +kernel
theorem dX1_all_26 : decode cX1_all 26 = .ok (.iload_n 1, 1) := by decide +kernel
theorem dX1_all_27 : decode cX1_all 27 = .ok (.ireturn, 1) := by decide +kernel
theorem dX1_coming_0 : decode cX1_coming 0 = .ok (.aload_n 0, 1) := by decide +kernel
theorem dX1_coming_1 : decode cX1_coming 1 = .ok (.iload_n 1, 1) := by decide +kernel
theorem dX1_coming_2 : decode cX1_coming 2 = .ok (.invokevirtual 52, 3) := by decide +kernel
theorem dX1_coming_5 : decode cX1_coming 5 = .ok (.aload_n 0, 1) := by decide +kernel
theorem dX1_coming_6 : decode cX1_coming 6 = .ok (.iload_n 1, 1) := by decide +kernel
theorem dX1_coming_7 : decode cX1_coming 7 = .ok (.iconst 5, 1) := by decide +kernel
theorem dX1_coming_8 : decode cX1_coming 8 = .ok (.invokevirtual 33, 3) := by decide +kernel
theorem dX1_coming_11 : decode cX1_coming 11 = .ok (.iadd, 1) := by decide +kernel
theorem dX1_coming_12 : decode cX1_coming 12 = .ok (.ireturn, 1) := by decide +kernel
theorem dX1_back_0 : decode cX1_back 0 = .ok (.aload_n 0, 1) := by decide +kernel
theorem dX1_back_1 : decode cX1_back 1 = .ok (.iload_n 1, 1) := by decide +kernel
theorem dX1_back_2 : decode cX1_back 2 = .ok (.iconst 4, 1) := by decide +kernel
theorem dX1_back_3 : decode cX1_back 3 = .ok (.invokevirtual 33, 3) := by decide +kernel
theorem dX1_back_6 : decode cX1_back 6 = .ok (.aload_n 0, 1) := by decide +kernel
theorem dX1_back_7 : decode cX1_back 7 = .ok (.iload_n 1, 1) := by decide +kernel
theorem dX1_back_8 : decode cX1_back 8 = .ok (.invokevirtual 55, 3) := by decide +kernel
theorem dX1_back_11 : decode cX1_back 11 = .ok (.aload_n 0, 1) := by decide +kernel
theorem dX1_back_12 : decode cX1_back 12 = .ok (.getfield 7, 3) := by decide +kernel
theorem dX1_back_15 : decode cX1_back 15 = .ok (.iconst 4, 1) := by decide +kernel
theorem dX1_back_16 : decode cX1_back 16 = .ok (.iaload, 1) := by decide +kernel
theorem dX1_back_17 : decode cX1_back 17 = .ok (.idiv, 1) := by decide +kernel
theorem dX1_back_18 : decode cX1_back 18 = .ok (.invokestatic 58, 3) := by decide +kernel
theorem dX1_back_21 : decode cX1_back 21 = .ok (.ireturn, 1) := by decide +kernel
theorem dX1_hire_0 : decode cX1_hire 0 = .ok (.aload_n 0, 1) := by decide +kernel
theorem dX1_hire_1 : decode cX1_hire 1 = .ok (.iconst 0, 1) := by decide +kernel
theorem dX1_hire_2 : decode cX1_hire 2 = .ok (.putfield 22, 3) := by decide +kernel
theorem dX1_hire_5 : decode cX1_hire 5 = .ok (.iload_n 1, 1) := by decide +kernel
theorem dX1_hire_6 : decode cX1_hire 6 = .ok (.iconst 0, 1) := by decide +kernel
theorem dX1_hire_7 : decode cX1_hire 7 = .ok (.iconst 2, 1) := by decide +kernel
theorem dX1_hire_8 : decode cX1_hire 8 = .ok (.invokestatic 29, 3) := by decide +kernel
theorem dX1_hire_11 : decode cX1_hire 11 = .ok (.ifCond .ne 9, 3) := by decide +kernel
theorem dX1_hire_14 : decode cX1_hire 14 = .ok (.aload_n 0, 1) := by decide +kernel
theorem dX1_hire_15 : decode cX1_hire 15 = .ok (.iconst 1, 1) := by decide +kernel
theorem dX1_hire_16 : decode cX1_hire 16 = .ok (.invokevirtual 61, 3) := by decide +kernel
theorem dX1_hire_19 : decode cX1_hire 19 = .ok (.ireturn, 1) := by decide +kernel
theorem dX1_hire_20 : decode cX1_hire 20 = .ok (.aload_n 0, 1) := by decide +kernel
theorem dX1_hire_21 : decode cX1_hire 21 = .ok (.getfield 26, 3) := by decide +kernel
theorem dX1_hire_24 : decode cX1_hire 24 = .ok (.bipush 8, 2) := by decide +kernel
theorem dX1_hire_26 : decode cX1_hire 26 = .ok (.if_icmp .ne 9, 3) := by decide +kernel
theorem dX1_hire_29 : decode cX1_hire 29 = .ok (.aload_n 0, 1) := by decide +kernel
theorem dX1_hire_30 : decode cX1_hire 30 = .ok (.iconst 2, 1) := by decide +kernel
theorem dX1_hire_31 : decode cX1_hire 31 = .ok (.invokevirtual 61, 3) := by decide +kernel
theorem dX1_hire_34 : decode cX1_hire 34 = .ok (.ireturn, 1) := by decide +kernel
theorem dX1_hire_35 : decode cX1_hire 35 = .ok (.aload_n 0, 1) := by decide +kernel
theorem dX1_hire_36 : decode cX1_hire 36 = .ok (.aload_n 0, 1) := by decide +kernel
theorem dX1_hire_37 : decode cX1_hire 37 = .ok (.getfield 26, 3) := by decide +kernel
theorem dX1_hire_40 : decode cX1_hire 40 = .ok (.iconst 0, 1) := by decide +kernel
theorem dX1_hire_41 : decode cX1_hire 41 = .ok (.iload_n 1, 1) := by decide +kernel
theorem dX1_hire_42 : decode cX1_hire 42 = .ok (.invokevirtual 64, 3) := by decide +kernel
theorem dX1_hire_45 : decode cX1_hire 45 = .ok (.aload_n 0, 1) := by decide +kernel
theorem dX1_hire_46 : decode cX1_hire 46 = .ok (.dup, 1) := by decide +kernel
theorem dX1_hire_47 : decode cX1_hire 47 = .ok (.getfield 26, 3) := by decide +kernel
theorem dX1_hire_50 : decode cX1_hire 50 = .ok (.iconst 1, 1) := by decide +kernel
theorem dX1_hire_51 : decode cX1_hire 51 = .ok (.iadd, 1) := by decide +kernel
theorem dX1_hire_52 : decode cX1_hire 52 = .ok (.putfield 26, 3) := by decide +kernel
theorem dX1_hire_55 : decode cX1_hire 55 = .ok (.aload_n 0, 1) := by decide +kernel
theorem dX1_hire_56 : decode cX1_hire 56 = .ok (.getfield 26, 3) := by decide +kernel
theorem dX1_hire_59 : decode cX1_hire 59 = .ok (.iconst 1, 1) := by decide +kernel
theorem dX1_hire_60 : decode cX1_hire 60 = .ok (.isub, 1) := by decide +kernel
theorem dX1_hire_61 : decode cX1_hire 61 = .ok (.ireturn, 1) := by decide +kernel
theorem dX1_setRate_0 : decode cX1_setRate 0 = .ok (.aload_n 0, 1) := by decide +kernel
theorem dX1_setRate_1 : decode cX1_setRate 1 = .ok (.iconst 0, 1) := by decide +kernel
theorem dX1_setRate_2 : decode cX1_setRate 2 = .ok (.putfield 22, 3) := by decide +kernel
theorem dX1_setRate_5 : decode cX1_setRate 5 = .ok (.iload_n 1, 1) := by decide +kernel
theorem dX1_setRate_6 : decode cX1_setRate 6 = .ok (.invokestatic 68, 3) := by decide +kernel
theorem dX1_setRate_9 : decode cX1_setRate 9 = .ok (.ifCond .ne 9, 3) := by decide +kernel
theorem dX1_setRate_12 : decode cX1_setRate 12 = .ok (.aload_n 0, 1) := by decide +kernel
theorem dX1_setRate_13 : decode cX1_setRate 13 = .ok (.iconst 1, 1) := by decide +kernel
theorem dX1_setRate_14 : decode cX1_setRate 14 = .ok (.invokevirtual 61, 3) := by decide +kernel
theorem dX1_setRate_17 : decode cX1_setRate 17 = .ok (.ireturn, 1) := by decide +kernel
theorem dX1_setRate_18 : decode cX1_setRate 18 = .ok (.iload_n 2, 1) := by decide +kernel
theorem dX1_setRate_19 : decode cX1_setRate 19 = .ok (.getstatic 72, 3) := by decide +kernel
theorem dX1_setRate_22 : decode cX1_setRate 22 = .ok (.iload_n 1, 1) := by decide +kernel
theorem dX1_setRate_23 : decode cX1_setRate 23 = .ok (.iaload, 1) := by decide +kernel
theorem dX1_setRate_24 : decode cX1_setRate 24 = .ok (.getstatic 75, 3) := by decide +kernel
theorem dX1_setRate_27 : decode cX1_setRate 27 = .ok (.iload_n 1, 1) := by decide +kernel
theorem dX1_setRate_28 : decode cX1_setRate 28 = .ok (.iaload, 1) := by decide +kernel
theorem dX1_setRate_29 : decode cX1_setRate 29 = .ok (.invokestatic 29, 3) := by decide +kernel
theorem dX1_setRate_32 : decode cX1_setRate 32 = .ok (.ifCond .ne 9, 3) := by decide +kernel
theorem dX1_setRate_35 : decode cX1_setRate 35 = .ok (.aload_n 0, 1) := by decide +kernel
theorem dX1_setRate_36 : decode cX1_setRate 36 = .ok (.iconst 2, 1) := by decide +kernel
theorem dX1_setRate_37 : decode cX1_setRate 37 = .ok (.invokevirtual 61, 3) := by decide +kernel
theorem dX1_setRate_40 : decode cX1_setRate 40 = .ok (.ireturn, 1) := by decide +kernel
theorem dX1_setRate_41 : decode cX1_setRate 41 = .ok (.aload_n 0, 1) := by decide +kernel
theorem dX1_setRate_42 : decode cX1_setRate 42 = .ok (.getfield 7, 3) := by decide +kernel
theorem dX1_setRate_45 : decode cX1_setRate 45 = .ok (.iload_n 1, 1) := by decide +kernel
theorem dX1_setRate_46 : decode cX1_setRate 46 = .ok (.iaload, 1) := by decide +kernel
theorem dX1_setRate_47 : decode cX1_setRate 47 = .ok (.istore_n 3, 1) := by decide +kernel
theorem dX1_setRate_48 : decode cX1_setRate 48 = .ok (.aload_n 0, 1) := by decide +kernel
theorem dX1_setRate_49 : decode cX1_setRate 49 = .ok (.getfield 7, 3) := by decide +kernel
theorem dX1_setRate_52 : decode cX1_setRate 52 = .ok (.iload_n 1, 1) := by decide +kernel
theorem dX1_setRate_53 : decode cX1_setRate 53 = .ok (.iload_n 2, 1) := by decide +kernel
theorem dX1_setRate_54 : decode cX1_setRate 54 = .ok (.iastore, 1) := by decide +kernel
theorem dX1_setRate_55 : decode cX1_setRate 55 = .ok (.iload_n 3, 1) := by decide +kernel
theorem dX1_setRate_56 : decode cX1_setRate 56 = .ok (.ireturn, 1) := by decide +kernel
theorem dX1_fill_0 : decode cX1_fill 0 = .ok (.aload_n 0, 1) := by decide +kernel
theorem dX1_fill_1 : decode cX1_fill 1 = .ok (.iconst 0, 1) := by decide +kernel
theorem dX1_fill_2 : decode cX1_fill 2 = .ok (.putfield 22, 3) := by decide +kernel
theorem dX1_fill_5 : decode cX1_fill 5 = .ok (.iload_n 1, 1) := by decide +kernel
theorem dX1_fill_6 : decode cX1_fill 6 = .ok (.invokestatic 78, 3) := by decide +kernel
theorem dX1_fill_9 : decode cX1_fill 9 = .ok (.ifCond .ne 9, 3) := by decide +kernel
theorem dX1_fill_12 : decode cX1_fill 12 = .ok (.aload_n 0, 1) := by decide +kernel
theorem dX1_fill_13 : decode cX1_fill 13 = .ok (.iconst 1, 1) := by decide +kernel
theorem dX1_fill_14 : decode cX1_fill 14 = .ok (.invokevirtual 61, 3) := by decide +kernel
theorem dX1_fill_17 : decode cX1_fill 17 = .ok (.ireturn, 1) := by decide +kernel
theorem dX1_fill_18 : decode cX1_fill 18 = .ok (.iload_n 2, 1) := by decide +kernel
theorem dX1_fill_19 : decode cX1_fill 19 = .ok (.iconst 1, 1) := by decide +kernel
theorem dX1_fill_20 : decode cX1_fill 20 = .ok (.sipush 500, 3) := by decide +kernel
theorem dX1_fill_23 : decode cX1_fill 23 = .ok (.invokestatic 29, 3) := by decide +kernel
theorem dX1_fill_26 : decode cX1_fill 26 = .ok (.ifCond .ne 9, 3) := by decide +kernel
theorem dX1_fill_29 : decode cX1_fill 29 = .ok (.aload_n 0, 1) := by decide +kernel
theorem dX1_fill_30 : decode cX1_fill 30 = .ok (.iconst 2, 1) := by decide +kernel
theorem dX1_fill_31 : decode cX1_fill 31 = .ok (.invokevirtual 61, 3) := by decide +kernel
theorem dX1_fill_34 : decode cX1_fill 34 = .ok (.ireturn, 1) := by decide +kernel
theorem dX1_fill_35 : decode cX1_fill 35 = .ok (.aload_n 0, 1) := by decide +kernel
theorem dX1_fill_36 : decode cX1_fill 36 = .ok (.getfield 13, 3) := by decide +kernel
theorem dX1_fill_39 : decode cX1_fill 39 = .ok (.iload_n 1, 1) := by decide +kernel
theorem dX1_fill_40 : decode cX1_fill 40 = .ok (.dup2, 1) := by decide +kernel
theorem dX1_fill_41 : decode cX1_fill 41 = .ok (.iaload, 1) := by decide +kernel
theorem dX1_fill_42 : decode cX1_fill 42 = .ok (.iload_n 2, 1) := by decide +kernel
theorem dX1_fill_43 : decode cX1_fill 43 = .ok (.iadd, 1) := by decide +kernel
theorem dX1_fill_44 : decode cX1_fill 44 = .ok (.iastore, 1) := by decide +kernel
theorem dX1_fill_45 : decode cX1_fill 45 = .ok (.aload_n 0, 1) := by decide +kernel
theorem dX1_fill_46 : decode cX1_fill 46 = .ok (.getfield 13, 3) := by decide +kernel
theorem dX1_fill_49 : decode cX1_fill 49 = .ok (.iload_n 1, 1) := by decide +kernel
theorem dX1_fill_50 : decode cX1_fill 50 = .ok (.iaload, 1) := by decide +kernel
theorem dX1_fill_51 : decode cX1_fill 51 = .ok (.ireturn, 1) := by decide +kernel
theorem dX1_bind_0 : decode cX1_bind 0 = .ok (.aload_n 0, 1) := by decide +kernel
theorem dX1_bind_1 : decode cX1_bind 1 = .ok (.iconst 0, 1) := by decide +kernel
theorem dX1_bind_2 : decode cX1_bind 2 = .ok (.putfield 22, 3) := by decide +kernel
theorem dX1_bind_5 : decode cX1_bind 5 = .ok (.aload_n 0, 1) := by decide +kernel
theorem dX1_bind_6 : decode cX1_bind 6 = .ok (.iload_n 1, 1) := by decide +kernel
theorem dX1_bind_7 : decode cX1_bind 7 = .ok (.invokevirtual 81, 3) := by decide +kernel
theorem dX1_bind_10 : decode cX1_bind 10 = .ok (.ifCond .ne 9, 3) := by decide +kernel
theorem dX1_bind_13 : decode cX1_bind 13 = .ok (.aload_n 0, 1) := by decide +kernel
theorem dX1_bind_14 : decode cX1_bind 14 = .ok (.iconst 1, 1) := by decide +kernel
theorem dX1_bind_15 : decode cX1_bind 15 = .ok (.invokevirtual 61, 3) := by decide +kernel
theorem dX1_bind_18 : decode cX1_bind 18 = .ok (.ireturn, 1) := by decide +kernel
theorem dX1_bind_19 : decode cX1_bind 19 = .ok (.iload_n 2, 1) := by decide +kernel
theorem dX1_bind_20 : decode cX1_bind 20 = .ok (.iconst 1, 1) := by decide +kernel
theorem dX1_bind_21 : decode cX1_bind 21 = .ok (.sipush 999, 3) := by decide +kernel
theorem dX1_bind_24 : decode cX1_bind 24 = .ok (.invokestatic 29, 3) := by decide +kernel
theorem dX1_bind_27 : decode cX1_bind 27 = .ok (.ifCond .ne 9, 3) := by decide +kernel
theorem dX1_bind_30 : decode cX1_bind 30 = .ok (.aload_n 0, 1) := by decide +kernel
theorem dX1_bind_31 : decode cX1_bind 31 = .ok (.iconst 2, 1) := by decide +kernel
theorem dX1_bind_32 : decode cX1_bind 32 = .ok (.invokevirtual 61, 3) := by decide +kernel
theorem dX1_bind_35 : decode cX1_bind 35 = .ok (.ireturn, 1) := by decide +kernel
theorem dX1_bind_36 : decode cX1_bind 36 = .ok (.aload_n 0, 1) := by decide +kernel
theorem dX1_bind_37 : decode cX1_bind 37 = .ok (.iload_n 1, 1) := by decide +kernel
theorem dX1_bind_38 : decode cX1_bind 38 = .ok (.iconst 1, 1) := by decide +kernel
theorem dX1_bind_39 : decode cX1_bind 39 = .ok (.aload_n 0, 1) := by decide +kernel
theorem dX1_bind_40 : decode cX1_bind 40 = .ok (.iload_n 1, 1) := by decide +kernel
theorem dX1_bind_41 : decode cX1_bind 41 = .ok (.iconst 1, 1) := by decide +kernel
theorem dX1_bind_42 : decode cX1_bind 42 = .ok (.invokevirtual 33, 3) := by decide +kernel
theorem dX1_bind_45 : decode cX1_bind 45 = .ok (.iload_n 2, 1) := by decide +kernel
theorem dX1_bind_46 : decode cX1_bind 46 = .ok (.iadd, 1) := by decide +kernel
theorem dX1_bind_47 : decode cX1_bind 47 = .ok (.invokevirtual 64, 3) := by decide +kernel
theorem dX1_bind_50 : decode cX1_bind 50 = .ok (.aload_n 0, 1) := by decide +kernel
theorem dX1_bind_51 : decode cX1_bind 51 = .ok (.iload_n 1, 1) := by decide +kernel
theorem dX1_bind_52 : decode cX1_bind 52 = .ok (.iconst 1, 1) := by decide +kernel
theorem dX1_bind_53 : decode cX1_bind 53 = .ok (.invokevirtual 33, 3) := by decide +kernel
theorem dX1_bind_56 : decode cX1_bind 56 = .ok (.ireturn, 1) := by decide +kernel
theorem dX1_work_0 : decode cX1_work 0 = .ok (.aload_n 0, 1) := by decide +kernel
theorem dX1_work_1 : decode cX1_work 1 = .ok (.iconst 0, 1) := by decide +kernel
theorem dX1_work_2 : decode cX1_work 2 = .ok (.putfield 22, 3) := by decide +kernel
theorem dX1_work_5 : decode cX1_work 5 = .ok (.aload_n 0, 1) := by decide +kernel
theorem dX1_work_6 : decode cX1_work 6 = .ok (.iload_n 1, 1) := by decide +kernel
theorem dX1_work_7 : decode cX1_work 7 = .ok (.invokevirtual 81, 3) := by decide +kernel
theorem dX1_work_10 : decode cX1_work 10 = .ok (.ifCond .ne 9, 3) := by decide +kernel
theorem dX1_work_13 : decode cX1_work 13 = .ok (.aload_n 0, 1) := by decide +kernel
theorem dX1_work_14 : decode cX1_work 14 = .ok (.iconst 1, 1) := by decide +kernel
theorem dX1_work_15 : decode cX1_work 15 = .ok (.invokevirtual 61, 3) := by decide +kernel
theorem dX1_work_18 : decode cX1_work 18 = .ok (.ireturn, 1) := by decide +kernel
theorem dX1_work_19 : decode cX1_work 19 = .ok (.iload_n 2, 1) := by decide +kernel
theorem dX1_work_20 : decode cX1_work 20 = .ok (.iconst 0, 1) := by decide +kernel
theorem dX1_work_21 : decode cX1_work 21 = .ok (.bipush 16, 2) := by decide +kernel
theorem dX1_work_23 : decode cX1_work 23 = .ok (.invokestatic 29, 3) := by decide +kernel
theorem dX1_work_26 : decode cX1_work 26 = .ok (.ifCond .ne 9, 3) := by decide +kernel
theorem dX1_work_29 : decode cX1_work 29 = .ok (.aload_n 0, 1) := by decide +kernel
theorem dX1_work_30 : decode cX1_work 30 = .ok (.iconst 2, 1) := by decide +kernel
theorem dX1_work_31 : decode cX1_work 31 = .ok (.invokevirtual 61, 3) := by decide +kernel
theorem dX1_work_34 : decode cX1_work 34 = .ok (.ireturn, 1) := by decide +kernel
theorem dX1_work_35 : decode cX1_work 35 = .ok (.aload_n 0, 1) := by decide +kernel
theorem dX1_work_36 : decode cX1_work 36 = .ok (.iload_n 1, 1) := by decide +kernel
theorem dX1_work_37 : decode cX1_work 37 = .ok (.iconst 2, 1) := by decide +kernel
theorem dX1_work_38 : decode cX1_work 38 = .ok (.invokevirtual 33, 3) := by decide +kernel
theorem dX1_work_41 : decode cX1_work 41 = .ok (.iload_n 2, 1) := by decide +kernel
theorem dX1_work_42 : decode cX1_work 42 = .ok (.iadd, 1) := by decide +kernel
theorem dX1_work_43 : decode cX1_work 43 = .ok (.bipush 99, 2) := by decide +kernel
theorem dX1_work_45 : decode cX1_work 45 = .ok (.if_icmp .le 9, 3) := by decide +kernel
theorem dX1_work_48 : decode cX1_work 48 = .ok (.aload_n 0, 1) := by decide +kernel
theorem dX1_work_49 : decode cX1_work 49 = .ok (.iconst 3, 1) := by decide +kernel
theorem dX1_work_50 : decode cX1_work 50 = .ok (.invokevirtual 61, 3) := by decide +kernel
theorem dX1_work_53 : decode cX1_work 53 = .ok (.ireturn, 1) := by decide +kernel
theorem dX1_work_54 : decode cX1_work 54 = .ok (.aload_n 0, 1) := by decide +kernel
theorem dX1_work_55 : decode cX1_work 55 = .ok (.iload_n 1, 1) := by decide +kernel
theorem dX1_work_56 : decode cX1_work 56 = .ok (.iconst 2, 1) := by decide +kernel
theorem dX1_work_57 : decode cX1_work 57 = .ok (.aload_n 0, 1) := by decide +kernel
theorem dX1_work_58 : decode cX1_work 58 = .ok (.iload_n 1, 1) := by decide +kernel
theorem dX1_work_59 : decode cX1_work 59 = .ok (.iconst 2, 1) := by decide +kernel
theorem dX1_work_60 : decode cX1_work 60 = .ok (.invokevirtual 33, 3) := by decide +kernel
theorem dX1_work_63 : decode cX1_work 63 = .ok (.iload_n 2, 1) := by decide +kernel
theorem dX1_work_64 : decode cX1_work 64 = .ok (.iadd, 1) := by decide +kernel
theorem dX1_work_65 : decode cX1_work 65 = .ok (.invokevirtual 64, 3) := by decide +kernel
theorem dX1_work_68 : decode cX1_work 68 = .ok (.aload_n 0, 1) := by decide +kernel
theorem dX1_work_69 : decode cX1_work 69 = .ok (.iload_n 1, 1) := by decide +kernel
theorem dX1_work_70 : decode cX1_work 70 = .ok (.iconst 3, 1) := by decide +kernel
theorem dX1_work_71 : decode cX1_work 71 = .ok (.aload_n 0, 1) := by decide +kernel
theorem dX1_work_72 : decode cX1_work 72 = .ok (.iload_n 1, 1) := by decide +kernel
theorem dX1_work_73 : decode cX1_work 73 = .ok (.iconst 3, 1) := by decide +kernel
theorem dX1_work_74 : decode cX1_work 74 = .ok (.invokevirtual 33, 3) := by decide +kernel
theorem dX1_work_77 : decode cX1_work 77 = .ok (.iload_n 3, 1) := by decide +kernel
theorem dX1_work_78 : decode cX1_work 78 = .ok (.ifCond .eq 7, 3) := by decide +kernel
theorem dX1_work_81 : decode cX1_work 81 = .ok (.iconst 1, 1) := by decide +kernel
theorem dX1_work_82 : decode cX1_work 82 = .ok (.goto 4, 3) := by decide +kernel
theorem dX1_work_85 : decode cX1_work 85 = .ok (.iconst 0, 1) := by decide +kernel
theorem dX1_work_86 : decode cX1_work 86 = .ok (.iadd, 1) := by decide +kernel
theorem dX1_work_87 : decode cX1_work 87 = .ok (.invokevirtual 64, 3) := by decide +kernel
theorem dX1_work_90 : decode cX1_work 90 = .ok (.aload_n 0, 1) := by decide +kernel
theorem dX1_work_91 : decode cX1_work 91 = .ok (.iload_n 1, 1) := by decide +kernel
theorem dX1_work_92 : decode cX1_work 92 = .ok (.iconst 2, 1) := by decide +kernel
theorem dX1_work_93 : decode cX1_work 93 = .ok (.invokevirtual 33, 3) := by decide +kernel
theorem dX1_work_96 : decode cX1_work 96 = .ok (.ireturn, 1) := by decide +kernel
theorem dX1_lend_0 : decode cX1_lend 0 = .ok (.aload_n 0, 1) := by decide +kernel
theorem dX1_lend_1 : decode cX1_lend 1 = .ok (.iconst 0, 1) := by decide +kernel
theorem dX1_lend_2 : decode cX1_lend 2 = .ok (.putfield 22, 3) := by decide +kernel
theorem dX1_lend_5 : decode cX1_lend 5 = .ok (.aload_n 0, 1) := by decide +kernel
theorem dX1_lend_6 : decode cX1_lend 6 = .ok (.iload_n 1, 1) := by decide +kernel
theorem dX1_lend_7 : decode cX1_lend 7 = .ok (.invokevirtual 81, 3) := by decide +kernel
theorem dX1_lend_10 : decode cX1_lend 10 = .ok (.ifCond .ne 9, 3) := by decide +kernel
theorem dX1_lend_13 : decode cX1_lend 13 = .ok (.aload_n 0, 1) := by decide +kernel
theorem dX1_lend_14 : decode cX1_lend 14 = .ok (.iconst 1, 1) := by decide +kernel
theorem dX1_lend_15 : decode cX1_lend 15 = .ok (.invokevirtual 61, 3) := by decide +kernel
theorem dX1_lend_18 : decode cX1_lend 18 = .ok (.ireturn, 1) := by decide +kernel
theorem dX1_lend_19 : decode cX1_lend 19 = .ok (.iload_n 2, 1) := by decide +kernel
theorem dX1_lend_20 : decode cX1_lend 20 = .ok (.iconst 1, 1) := by decide +kernel
theorem dX1_lend_21 : decode cX1_lend 21 = .ok (.sipush 2000, 3) := by decide +kernel
theorem dX1_lend_24 : decode cX1_lend 24 = .ok (.invokestatic 29, 3) := by decide +kernel
theorem dX1_lend_27 : decode cX1_lend 27 = .ok (.ifCond .ne 9, 3) := by decide +kernel
theorem dX1_lend_30 : decode cX1_lend 30 = .ok (.aload_n 0, 1) := by decide +kernel
theorem dX1_lend_31 : decode cX1_lend 31 = .ok (.iconst 2, 1) := by decide +kernel
theorem dX1_lend_32 : decode cX1_lend 32 = .ok (.invokevirtual 61, 3) := by decide +kernel
theorem dX1_lend_35 : decode cX1_lend 35 = .ok (.ireturn, 1) := by decide +kernel
theorem dX1_lend_36 : decode cX1_lend 36 = .ok (.aload_n 0, 1) := by decide +kernel
theorem dX1_lend_37 : decode cX1_lend 37 = .ok (.iload_n 1, 1) := by decide +kernel
theorem dX1_lend_38 : decode cX1_lend 38 = .ok (.iconst 4, 1) := by decide +kernel
theorem dX1_lend_39 : decode cX1_lend 39 = .ok (.invokevirtual 33, 3) := by decide +kernel
theorem dX1_lend_42 : decode cX1_lend 42 = .ok (.iload_n 2, 1) := by decide +kernel
theorem dX1_lend_43 : decode cX1_lend 43 = .ok (.iadd, 1) := by decide +kernel
theorem dX1_lend_44 : decode cX1_lend 44 = .ok (.sipush 5000, 3) := by decide +kernel
theorem dX1_lend_47 : decode cX1_lend 47 = .ok (.if_icmp .le 9, 3) := by decide +kernel
theorem dX1_lend_50 : decode cX1_lend 50 = .ok (.aload_n 0, 1) := by decide +kernel
theorem dX1_lend_51 : decode cX1_lend 51 = .ok (.iconst 3, 1) := by decide +kernel
theorem dX1_lend_52 : decode cX1_lend 52 = .ok (.invokevirtual 61, 3) := by decide +kernel
theorem dX1_lend_55 : decode cX1_lend 55 = .ok (.ireturn, 1) := by decide +kernel
theorem dX1_lend_56 : decode cX1_lend 56 = .ok (.aload_n 0, 1) := by decide +kernel
theorem dX1_lend_57 : decode cX1_lend 57 = .ok (.iload_n 1, 1) := by decide +kernel
theorem dX1_lend_58 : decode cX1_lend 58 = .ok (.iconst 4, 1) := by decide +kernel
theorem dX1_lend_59 : decode cX1_lend 59 = .ok (.aload_n 0, 1) := by decide +kernel
theorem dX1_lend_60 : decode cX1_lend 60 = .ok (.iload_n 1, 1) := by decide +kernel
theorem dX1_lend_61 : decode cX1_lend 61 = .ok (.iconst 4, 1) := by decide +kernel
theorem dX1_lend_62 : decode cX1_lend 62 = .ok (.invokevirtual 33, 3) := by decide +kernel
theorem dX1_lend_65 : decode cX1_lend 65 = .ok (.iload_n 2, 1) := by decide +kernel
theorem dX1_lend_66 : decode cX1_lend 66 = .ok (.iadd, 1) := by decide +kernel
theorem dX1_lend_67 : decode cX1_lend 67 = .ok (.invokevirtual 64, 3) := by decide +kernel
theorem dX1_lend_70 : decode cX1_lend 70 = .ok (.aload_n 0, 1) := by decide +kernel
theorem dX1_lend_71 : decode cX1_lend 71 = .ok (.iload_n 1, 1) := by decide +kernel
theorem dX1_lend_72 : decode cX1_lend 72 = .ok (.iconst 4, 1) := by decide +kernel
theorem dX1_lend_73 : decode cX1_lend 73 = .ok (.invokevirtual 33, 3) := by decide +kernel
theorem dX1_lend_76 : decode cX1_lend 76 = .ok (.ireturn, 1) := by decide +kernel
theorem dX1_paid_0 : decode cX1_paid 0 = .ok (.iconst 0, 1) := by decide +kernel
theorem dX1_paid_1 : decode cX1_paid 1 = .ok (.istore_n 1, 1) := by decide +kernel
theorem dX1_paid_2 : decode cX1_paid 2 = .ok (.iconst 0, 1) := by decide +kernel
theorem dX1_paid_3 : decode cX1_paid 3 = .ok (.istore_n 2, 1) := by decide +kernel
theorem dX1_paid_4 : decode cX1_paid 4 = .ok (.iload_n 2, 1) := by decide +kernel
theorem dX1_paid_5 : decode cX1_paid 5 = .ok (.aload_n 0, 1) := by decide +kernel
theorem dX1_paid_6 : decode cX1_paid 6 = .ok (.getfield 26, 3) := by decide +kernel
theorem dX1_paid_9 : decode cX1_paid 9 = .ok (.if_icmp .ge 194, 3) := by decide +kernel
theorem dX1_paid_12 : decode cX1_paid 12 = .ok (.aload_n 0, 1) := by decide +kernel
theorem dX1_paid_13 : decode cX1_paid 13 = .ok (.iload_n 2, 1) := by decide +kernel
theorem dX1_paid_14 : decode cX1_paid 14 = .ok (.invokevirtual 84, 3) := by decide +kernel
theorem dX1_paid_17 : decode cX1_paid 17 = .ok (.istore_n 3, 1) := by decide +kernel
theorem dX1_paid_18 : decode cX1_paid 18 = .ok (.aload_n 0, 1) := by decide +kernel
theorem dX1_paid_19 : decode cX1_paid 19 = .ok (.iload_n 2, 1) := by decide +kernel
theorem dX1_paid_20 : decode cX1_paid 20 = .ok (.invokevirtual 55, 3) := by decide +kernel
theorem dX1_paid_23 : decode cX1_paid 23 = .ok (.iload_n 3, 1) := by decide +kernel
theorem dX1_paid_24 : decode cX1_paid 24 = .ok (.isub, 1) := by decide +kernel
theorem dX1_paid_25 : decode cX1_paid 25 = .ok (.istore 4, 2) := by decide +kernel
theorem dX1_paid_27 : decode cX1_paid 27 = .ok (.iconst 0, 1) := by decide +kernel
theorem dX1_paid_28 : decode cX1_paid 28 = .ok (.istore 5, 2) := by decide +kernel
theorem dX1_paid_30 : decode cX1_paid 30 = .ok (.iconst 0, 1) := by decide +kernel
theorem dX1_paid_31 : decode cX1_paid 31 = .ok (.istore 6, 2) := by decide +kernel
theorem dX1_paid_33 : decode cX1_paid 33 = .ok (.iload 6, 2) := by decide +kernel
theorem dX1_paid_35 : decode cX1_paid 35 = .ok (.iconst 3, 1) := by decide +kernel
theorem dX1_paid_36 : decode cX1_paid 36 = .ok (.if_icmp .ge 83, 3) := by decide +kernel
theorem dX1_paid_39 : decode cX1_paid 39 = .ok (.iload 4, 2) := by decide +kernel
theorem dX1_paid_41 : decode cX1_paid 41 = .ok (.getstatic 87, 3) := by decide +kernel
theorem dX1_paid_44 : decode cX1_paid 44 = .ok (.iload 6, 2) := by decide +kernel
theorem dX1_paid_46 : decode cX1_paid 46 = .ok (.iaload, 1) := by decide +kernel
theorem dX1_paid_47 : decode cX1_paid 47 = .ok (.idiv, 1) := by decide +kernel
theorem dX1_paid_48 : decode cX1_paid 48 = .ok (.aload_n 0, 1) := by decide +kernel
theorem dX1_paid_49 : decode cX1_paid 49 = .ok (.getfield 13, 3) := by decide +kernel
theorem dX1_paid_52 : decode cX1_paid 52 = .ok (.iload 6, 2) := by decide +kernel
theorem dX1_paid_54 : decode cX1_paid 54 = .ok (.iaload, 1) := by decide +kernel
theorem dX1_paid_55 : decode cX1_paid 55 = .ok (.invokestatic 58, 3) := by decide +kernel
theorem dX1_paid_58 : decode cX1_paid 58 = .ok (.istore 7, 2) := by decide +kernel
theorem dX1_paid_60 : decode cX1_paid 60 = .ok (.aload_n 0, 1) := by decide +kernel
theorem dX1_paid_61 : decode cX1_paid 61 = .ok (.getfield 13, 3) := by decide +kernel
theorem dX1_paid_64 : decode cX1_paid 64 = .ok (.iload 6, 2) := by decide +kernel
theorem dX1_paid_66 : decode cX1_paid 66 = .ok (.dup2, 1) := by decide +kernel
theorem dX1_paid_67 : decode cX1_paid 67 = .ok (.iaload, 1) := by decide +kernel
theorem dX1_paid_68 : decode cX1_paid 68 = .ok (.iload 7, 2) := by decide +kernel
theorem dX1_paid_70 : decode cX1_paid 70 = .ok (.isub, 1) := by decide +kernel
theorem dX1_paid_71 : decode cX1_paid 71 = .ok (.iastore, 1) := by decide +kernel
theorem dX1_paid_72 : decode cX1_paid 72 = .ok (.aload_n 0, 1) := by decide +kernel
theorem dX1_paid_73 : decode cX1_paid 73 = .ok (.getfield 19, 3) := by decide +kernel
theorem dX1_paid_76 : decode cX1_paid 76 = .ok (.iconst 3, 1) := by decide +kernel
theorem dX1_paid_77 : decode cX1_paid 77 = .ok (.iload_n 2, 1) := by decide +kernel
theorem dX1_paid_78 : decode cX1_paid 78 = .ok (.imul, 1) := by decide +kernel
theorem dX1_paid_79 : decode cX1_paid 79 = .ok (.iload 6, 2) := by decide +kernel
theorem dX1_paid_81 : decode cX1_paid 81 = .ok (.iadd, 1) := by decide +kernel
theorem dX1_paid_82 : decode cX1_paid 82 = .ok (.iload 7, 2) := by decide +kernel
theorem dX1_paid_84 : decode cX1_paid 84 = .ok (.iastore, 1) := by decide +kernel
theorem dX1_paid_85 : decode cX1_paid 85 = .ok (.iload 5, 2) := by decide +kernel
theorem dX1_paid_87 : decode cX1_paid 87 = .ok (.iload 7, 2) := by decide +kernel
theorem dX1_paid_89 : decode cX1_paid 89 = .ok (.getstatic 87, 3) := by decide +kernel
theorem dX1_paid_92 : decode cX1_paid 92 = .ok (.iload 6, 2) := by decide +kernel
theorem dX1_paid_94 : decode cX1_paid 94 = .ok (.iaload, 1) := by decide +kernel
theorem dX1_paid_95 : decode cX1_paid 95 = .ok (.imul, 1) := by decide +kernel
theorem dX1_paid_96 : decode cX1_paid 96 = .ok (.iadd, 1) := by decide +kernel
theorem dX1_paid_97 : decode cX1_paid 97 = .ok (.istore 5, 2) := by decide +kernel
theorem dX1_paid_99 : decode cX1_paid 99 = .ok (.iload 4, 2) := by decide +kernel
theorem dX1_paid_101 : decode cX1_paid 101 = .ok (.iload 7, 2) := by decide +kernel
theorem dX1_paid_103 : decode cX1_paid 103 = .ok (.getstatic 87, 3) := by decide +kernel
theorem dX1_paid_106 : decode cX1_paid 106 = .ok (.iload 6, 2) := by decide +kernel
theorem dX1_paid_108 : decode cX1_paid 108 = .ok (.iaload, 1) := by decide +kernel
theorem dX1_paid_109 : decode cX1_paid 109 = .ok (.imul, 1) := by decide +kernel
theorem dX1_paid_110 : decode cX1_paid 110 = .ok (.isub, 1) := by decide +kernel
theorem dX1_paid_111 : decode cX1_paid 111 = .ok (.istore 4, 2) := by decide +kernel
theorem dX1_paid_113 : decode cX1_paid 113 = .ok (.iinc 6 1, 3) := by decide +kernel
theorem dX1_paid_116 : decode cX1_paid 116 = .ok (.goto (-83), 3) := by decide +kernel
theorem dX1_paid_119 : decode cX1_paid 119 = .ok (.bipush 7, 2) := by decide +kernel
theorem dX1_paid_121 : decode cX1_paid 121 = .ok (.newarray .int, 2) := by decide +kernel
theorem dX1_paid_123 : decode cX1_paid 123 = .ok (.dup, 1) := by decide +kernel
theorem dX1_paid_124 : decode cX1_paid 124 = .ok (.iconst 0, 1) := by decide +kernel
theorem dX1_paid_125 : decode cX1_paid 125 = .ok (.aload_n 0, 1) := by decide +kernel
theorem dX1_paid_126 : decode cX1_paid 126 = .ok (.iload_n 2, 1) := by decide +kernel
theorem dX1_paid_127 : decode cX1_paid 127 = .ok (.iconst 0, 1) := by decide +kernel
theorem dX1_paid_128 : decode cX1_paid 128 = .ok (.invokevirtual 33, 3) := by decide +kernel
theorem dX1_paid_131 : decode cX1_paid 131 = .ok (.iastore, 1) := by decide +kernel
theorem dX1_paid_132 : decode cX1_paid 132 = .ok (.dup, 1) := by decide +kernel
theorem dX1_paid_133 : decode cX1_paid 133 = .ok (.iconst 1, 1) := by decide +kernel
theorem dX1_paid_134 : decode cX1_paid 134 = .ok (.iconst 0, 1) := by decide +kernel
theorem dX1_paid_135 : decode cX1_paid 135 = .ok (.iastore, 1) := by decide +kernel
theorem dX1_paid_136 : decode cX1_paid 136 = .ok (.dup, 1) := by decide +kernel
theorem dX1_paid_137 : decode cX1_paid 137 = .ok (.iconst 2, 1) := by decide +kernel
theorem dX1_paid_138 : decode cX1_paid 138 = .ok (.iconst 0, 1) := by decide +kernel
theorem dX1_paid_139 : decode cX1_paid 139 = .ok (.iastore, 1) := by decide +kernel
theorem dX1_paid_140 : decode cX1_paid 140 = .ok (.dup, 1) := by decide +kernel
theorem dX1_paid_141 : decode cX1_paid 141 = .ok (.iconst 3, 1) := by decide +kernel
theorem dX1_paid_142 : decode cX1_paid 142 = .ok (.iconst 0, 1) := by decide +kernel
theorem dX1_paid_143 : decode cX1_paid 143 = .ok (.iastore, 1) := by decide +kernel
theorem dX1_paid_144 : decode cX1_paid 144 = .ok (.dup, 1) := by decide +kernel
theorem dX1_paid_145 : decode cX1_paid 145 = .ok (.iconst 4, 1) := by decide +kernel
theorem dX1_paid_146 : decode cX1_paid 146 = .ok (.aload_n 0, 1) := by decide +kernel
theorem dX1_paid_147 : decode cX1_paid 147 = .ok (.iload_n 2, 1) := by decide +kernel
theorem dX1_paid_148 : decode cX1_paid 148 = .ok (.iconst 4, 1) := by decide +kernel
theorem dX1_paid_149 : decode cX1_paid 149 = .ok (.invokevirtual 33, 3) := by decide +kernel
theorem dX1_paid_152 : decode cX1_paid 152 = .ok (.iload_n 3, 1) := by decide +kernel
theorem dX1_paid_153 : decode cX1_paid 153 = .ok (.isub, 1) := by decide +kernel
theorem dX1_paid_154 : decode cX1_paid 154 = .ok (.iastore, 1) := by decide +kernel
theorem dX1_paid_155 : decode cX1_paid 155 = .ok (.dup, 1) := by decide +kernel
theorem dX1_paid_156 : decode cX1_paid 156 = .ok (.iconst 5, 1) := by decide +kernel
theorem dX1_paid_157 : decode cX1_paid 157 = .ok (.iload 4, 2) := by decide +kernel
theorem dX1_paid_159 : decode cX1_paid 159 = .ok (.iastore, 1) := by decide +kernel
theorem dX1_paid_160 : decode cX1_paid 160 = .ok (.dup, 1) := by decide +kernel
theorem dX1_paid_161 : decode cX1_paid 161 = .ok (.bipush 6, 2) := by decide +kernel
theorem dX1_paid_163 : decode cX1_paid 163 = .ok (.aload_n 0, 1) := by decide +kernel
theorem dX1_paid_164 : decode cX1_paid 164 = .ok (.iload_n 2, 1) := by decide +kernel
theorem dX1_paid_165 : decode cX1_paid 165 = .ok (.bipush 6, 2) := by decide +kernel
theorem dX1_paid_167 : decode cX1_paid 167 = .ok (.invokevirtual 33, 3) := by decide +kernel
theorem dX1_paid_170 : decode cX1_paid 170 = .ok (.iload 5, 2) := by decide +kernel
theorem dX1_paid_172 : decode cX1_paid 172 = .ok (.iadd, 1) := by decide +kernel
theorem dX1_paid_173 : decode cX1_paid 173 = .ok (.iastore, 1) := by decide +kernel
theorem dX1_paid_174 : decode cX1_paid 174 = .ok (.astore 6, 2) := by decide +kernel
theorem dX1_paid_176 : decode cX1_paid 176 = .ok (.aload 6, 2) := by decide +kernel
theorem dX1_paid_178 : decode cX1_paid 178 = .ok (.iconst 0, 1) := by decide +kernel
theorem dX1_paid_179 : decode cX1_paid 179 = .ok (.aload_n 0, 1) := by decide +kernel
theorem dX1_paid_180 : decode cX1_paid 180 = .ok (.getfield 16, 3) := by decide +kernel
theorem dX1_paid_183 : decode cX1_paid 183 = .ok (.bipush 7, 2) := by decide +kernel
theorem dX1_paid_185 : decode cX1_paid 185 = .ok (.iload_n 2, 1) := by decide +kernel
theorem dX1_paid_186 : decode cX1_paid 186 = .ok (.imul, 1) := by decide +kernel
theorem dX1_paid_187 : decode cX1_paid 187 = .ok (.bipush 7, 2) := by decide +kernel
theorem dX1_paid_189 : decode cX1_paid 189 = .ok (.invokestatic 90, 3) := by decide +kernel
theorem dX1_paid_192 : decode cX1_paid 192 = .ok (.iload_n 1, 1) := by decide +kernel
theorem dX1_paid_193 : decode cX1_paid 193 = .ok (.iload 5, 2) := by decide +kernel
theorem dX1_paid_195 : decode cX1_paid 195 = .ok (.iadd, 1) := by decide +kernel
theorem dX1_paid_196 : decode cX1_paid 196 = .ok (.istore_n 1, 1) := by decide +kernel
theorem dX1_paid_197 : decode cX1_paid 197 = .ok (.iinc 2 1, 3) := by decide +kernel
theorem dX1_paid_200 : decode cX1_paid 200 = .ok (.goto (-196), 3) := by decide +kernel
theorem dX1_paid_203 : decode cX1_paid 203 = .ok (.aload_n 0, 1) := by decide +kernel
theorem dX1_paid_204 : decode cX1_paid 204 = .ok (.dup, 1) := by decide +kernel
theorem dX1_paid_205 : decode cX1_paid 205 = .ok (.getfield 96, 3) := by decide +kernel
theorem dX1_paid_208 : decode cX1_paid 208 = .ok (.iconst 1, 1) := by decide +kernel
theorem dX1_paid_209 : decode cX1_paid 209 = .ok (.iadd, 1) := by decide +kernel
theorem dX1_paid_210 : decode cX1_paid 210 = .ok (.putfield 96, 3) := by decide +kernel
theorem dX1_paid_213 : decode cX1_paid 213 = .ok (.iload_n 1, 1) := by decide +kernel
theorem dX1_paid_214 : decode cX1_paid 214 = .ok (.ireturn, 1) := by decide +kernel
theorem dX1_pay_0 : decode cX1_pay 0 = .ok (.aload_n 0, 1) := by decide +kernel
theorem dX1_pay_1 : decode cX1_pay 1 = .ok (.iconst 0, 1) := by decide +kernel
theorem dX1_pay_2 : decode cX1_pay 2 = .ok (.putfield 22, 3) := by decide +kernel
theorem dX1_pay_5 : decode cX1_pay 5 = .ok (.aload_n 0, 1) := by decide +kernel
theorem dX1_pay_6 : decode cX1_pay 6 = .ok (.invokevirtual 99, 3) := by decide +kernel
theorem dX1_pay_9 : decode cX1_pay 9 = .ok (.ireturn, 1) := by decide +kernel
theorem dX1_reaperTold_0 : decode cX1_reaperTold 0 = .ok (.iload_n 2, 1) := by decide +kernel
theorem dX1_reaperTold_1 : decode cX1_reaperTold 1 = .ok (.bipush 7, 2) := by decide +kernel
theorem dX1_reaperTold_3 : decode cX1_reaperTold 3 = .ok (.if_icmp .ge 12, 3) := by decide +kernel
theorem dX1_reaperTold_6 : decode cX1_reaperTold 6 = .ok (.aload_n 0, 1) := by decide +kernel
theorem dX1_reaperTold_7 : decode cX1_reaperTold 7 = .ok (.iload_n 1, 1) := by decide +kernel
theorem dX1_reaperTold_8 : decode cX1_reaperTold 8 = .ok (.iload_n 2, 1) := by decide +kernel
theorem dX1_reaperTold_9 : decode cX1_reaperTold 9 = .ok (.invokevirtual 33, 3) := by decide +kernel
theorem dX1_reaperTold_12 : decode cX1_reaperTold 12 = .ok (.goto 8, 3) := by decide +kernel
theorem dX1_reaperTold_15 : decode cX1_reaperTold 15 = .ok (.aload_n 0, 1) := by decide +kernel
theorem dX1_reaperTold_16 : decode cX1_reaperTold 16 = .ok (.iload_n 1, 1) := by decide +kernel
theorem dX1_reaperTold_17 : decode cX1_reaperTold 17 = .ok (.invokevirtual 42, 3) := by decide +kernel
theorem dX1_reaperTold_20 : decode cX1_reaperTold 20 = .ok (.ireturn, 1) := by decide +kernel
theorem dX1_told_0 : decode cX1_told 0 = .ok (.aload_n 0, 1) := by decide +kernel
theorem dX1_told_1 : decode cX1_told 1 = .ok (.iconst 0, 1) := by decide +kernel
theorem dX1_told_2 : decode cX1_told 2 = .ok (.putfield 22, 3) := by decide +kernel
theorem dX1_told_5 : decode cX1_told 5 = .ok (.aload_n 0, 1) := by decide +kernel
theorem dX1_told_6 : decode cX1_told 6 = .ok (.iload_n 1, 1) := by decide +kernel
theorem dX1_told_7 : decode cX1_told 7 = .ok (.invokevirtual 81, 3) := by decide +kernel
theorem dX1_told_10 : decode cX1_told 10 = .ok (.ifCond .eq 22, 3) := by decide +kernel
theorem dX1_told_13 : decode cX1_told 13 = .ok (.iload_n 2, 1) := by decide +kernel
theorem dX1_told_14 : decode cX1_told 14 = .ok (.iconst 0, 1) := by decide +kernel
theorem dX1_told_15 : decode cX1_told 15 = .ok (.bipush 7, 2) := by decide +kernel
theorem dX1_told_17 : decode cX1_told 17 = .ok (.invokestatic 29, 3) := by decide +kernel
theorem dX1_told_20 : decode cX1_told 20 = .ok (.ifCond .eq 12, 3) := by decide +kernel
theorem dX1_told_23 : decode cX1_told 23 = .ok (.aload_n 0, 1) := by decide +kernel
theorem dX1_told_24 : decode cX1_told 24 = .ok (.iload_n 1, 1) := by decide +kernel
theorem dX1_told_25 : decode cX1_told 25 = .ok (.iload_n 2, 1) := by decide +kernel
theorem dX1_told_26 : decode cX1_told 26 = .ok (.invokevirtual 103, 3) := by decide +kernel
theorem dX1_told_29 : decode cX1_told 29 = .ok (.goto 8, 3) := by decide +kernel
theorem dX1_told_32 : decode cX1_told 32 = .ok (.aload_n 0, 1) := by decide +kernel
theorem dX1_told_33 : decode cX1_told 33 = .ok (.iconst 1, 1) := by decide +kernel
theorem dX1_told_34 : decode cX1_told 34 = .ok (.invokevirtual 61, 3) := by decide +kernel
theorem dX1_told_37 : decode cX1_told 37 = .ok (.ireturn, 1) := by decide +kernel
theorem dX1_wageTold_0 : decode cX1_wageTold 0 = .ok (.iload_n 2, 1) := by decide +kernel
theorem dX1_wageTold_1 : decode cX1_wageTold 1 = .ok (.tableswitch 65 0 4 #[35, 41, 47, 53, 59], 35) := by decide +kernel
theorem dX1_wageTold_36 : decode cX1_wageTold 36 = .ok (.aload_n 0, 1) := by decide +kernel
theorem dX1_wageTold_37 : decode cX1_wageTold 37 = .ok (.iload_n 1, 1) := by decide +kernel
theorem dX1_wageTold_38 : decode cX1_wageTold 38 = .ok (.invokevirtual 46, 3) := by decide +kernel
theorem dX1_wageTold_41 : decode cX1_wageTold 41 = .ok (.ireturn, 1) := by decide +kernel
theorem dX1_wageTold_42 : decode cX1_wageTold 42 = .ok (.aload_n 0, 1) := by decide +kernel
theorem dX1_wageTold_43 : decode cX1_wageTold 43 = .ok (.iload_n 1, 1) := by decide +kernel
theorem dX1_wageTold_44 : decode cX1_wageTold 44 = .ok (.invokevirtual 49, 3) := by decide +kernel
theorem dX1_wageTold_47 : decode cX1_wageTold 47 = .ok (.ireturn, 1) := by decide +kernel
theorem dX1_wageTold_48 : decode cX1_wageTold 48 = .ok (.aload_n 0, 1) := by decide +kernel
theorem dX1_wageTold_49 : decode cX1_wageTold 49 = .ok (.iload_n 1, 1) := by decide +kernel
theorem dX1_wageTold_50 : decode cX1_wageTold 50 = .ok (.invokevirtual 52, 3) := by decide +kernel
theorem dX1_wageTold_53 : decode cX1_wageTold 53 = .ok (.ireturn, 1) := by decide +kernel
theorem dX1_wageTold_54 : decode cX1_wageTold 54 = .ok (.aload_n 0, 1) := by decide +kernel
theorem dX1_wageTold_55 : decode cX1_wageTold 55 = .ok (.iload_n 1, 1) := by decide +kernel
theorem dX1_wageTold_56 : decode cX1_wageTold 56 = .ok (.invokevirtual 55, 3) := by decide +kernel
theorem dX1_wageTold_59 : decode cX1_wageTold 59 = .ok (.ireturn, 1) := by decide +kernel
theorem dX1_wageTold_60 : decode cX1_wageTold 60 = .ok (.aload_n 0, 1) := by decide +kernel
theorem dX1_wageTold_61 : decode cX1_wageTold 61 = .ok (.iload_n 1, 1) := by decide +kernel
theorem dX1_wageTold_62 : decode cX1_wageTold 62 = .ok (.invokevirtual 84, 3) := by decide +kernel
theorem dX1_wageTold_65 : decode cX1_wageTold 65 = .ok (.ireturn, 1) := by decide +kernel
theorem dX1_wageTold_66 : decode cX1_wageTold 66 = .ok (.aload_n 0, 1) := by decide +kernel
theorem dX1_wageTold_67 : decode cX1_wageTold 67 = .ok (.iload_n 1, 1) := by decide +kernel
theorem dX1_wageTold_68 : decode cX1_wageTold 68 = .ok (.invokevirtual 55, 3) := by decide +kernel
theorem dX1_wageTold_71 : decode cX1_wageTold 71 = .ok (.aload_n 0, 1) := by decide +kernel
theorem dX1_wageTold_72 : decode cX1_wageTold 72 = .ok (.iload_n 1, 1) := by decide +kernel
theorem dX1_wageTold_73 : decode cX1_wageTold 73 = .ok (.invokevirtual 84, 3) := by decide +kernel
theorem dX1_wageTold_76 : decode cX1_wageTold 76 = .ok (.isub, 1) := by decide +kernel
theorem dX1_wageTold_77 : decode cX1_wageTold 77 = .ok (.ireturn, 1) := by decide +kernel
theorem dX1_wage_0 : decode cX1_wage 0 = .ok (.aload_n 0, 1) := by decide +kernel
theorem dX1_wage_1 : decode cX1_wage 1 = .ok (.iconst 0, 1) := by decide +kernel
theorem dX1_wage_2 : decode cX1_wage 2 = .ok (.putfield 22, 3) := by decide +kernel
theorem dX1_wage_5 : decode cX1_wage 5 = .ok (.aload_n 0, 1) := by decide +kernel
theorem dX1_wage_6 : decode cX1_wage 6 = .ok (.iload_n 1, 1) := by decide +kernel
theorem dX1_wage_7 : decode cX1_wage 7 = .ok (.invokevirtual 81, 3) := by decide +kernel
theorem dX1_wage_10 : decode cX1_wage 10 = .ok (.ifCond .eq 21, 3) := by decide +kernel
theorem dX1_wage_13 : decode cX1_wage 13 = .ok (.iload_n 2, 1) := by decide +kernel
theorem dX1_wage_14 : decode cX1_wage 14 = .ok (.iconst 0, 1) := by decide +kernel
theorem dX1_wage_15 : decode cX1_wage 15 = .ok (.iconst 5, 1) := by decide +kernel
theorem dX1_wage_16 : decode cX1_wage 16 = .ok (.invokestatic 29, 3) := by decide +kernel
theorem dX1_wage_19 : decode cX1_wage 19 = .ok (.ifCond .eq 12, 3) := by decide +kernel
theorem dX1_wage_22 : decode cX1_wage 22 = .ok (.aload_n 0, 1) := by decide +kernel
theorem dX1_wage_23 : decode cX1_wage 23 = .ok (.iload_n 1, 1) := by decide +kernel
theorem dX1_wage_24 : decode cX1_wage 24 = .ok (.iload_n 2, 1) := by decide +kernel
theorem dX1_wage_25 : decode cX1_wage 25 = .ok (.invokevirtual 106, 3) := by decide +kernel
theorem dX1_wage_28 : decode cX1_wage 28 = .ok (.goto 8, 3) := by decide +kernel
theorem dX1_wage_31 : decode cX1_wage 31 = .ok (.aload_n 0, 1) := by decide +kernel
theorem dX1_wage_32 : decode cX1_wage 32 = .ok (.iconst 1, 1) := by decide +kernel
theorem dX1_wage_33 : decode cX1_wage 33 = .ok (.invokevirtual 61, 3) := by decide +kernel
theorem dX1_wage_36 : decode cX1_wage 36 = .ok (.ireturn, 1) := by decide +kernel
theorem dX1_chest_0 : decode cX1_chest 0 = .ok (.aload_n 0, 1) := by decide +kernel
theorem dX1_chest_1 : decode cX1_chest 1 = .ok (.iconst 0, 1) := by decide +kernel
theorem dX1_chest_2 : decode cX1_chest 2 = .ok (.putfield 22, 3) := by decide +kernel
theorem dX1_chest_5 : decode cX1_chest 5 = .ok (.iload_n 1, 1) := by decide +kernel
theorem dX1_chest_6 : decode cX1_chest 6 = .ok (.invokestatic 78, 3) := by decide +kernel
theorem dX1_chest_9 : decode cX1_chest 9 = .ok (.ifCond .eq 12, 3) := by decide +kernel
theorem dX1_chest_12 : decode cX1_chest 12 = .ok (.aload_n 0, 1) := by decide +kernel
theorem dX1_chest_13 : decode cX1_chest 13 = .ok (.getfield 13, 3) := by decide +kernel
theorem dX1_chest_16 : decode cX1_chest 16 = .ok (.iload_n 1, 1) := by decide +kernel
theorem dX1_chest_17 : decode cX1_chest 17 = .ok (.iaload, 1) := by decide +kernel
theorem dX1_chest_18 : decode cX1_chest 18 = .ok (.goto 8, 3) := by decide +kernel
theorem dX1_chest_21 : decode cX1_chest 21 = .ok (.aload_n 0, 1) := by decide +kernel
theorem dX1_chest_22 : decode cX1_chest 22 = .ok (.iconst 1, 1) := by decide +kernel
theorem dX1_chest_23 : decode cX1_chest 23 = .ok (.invokevirtual 61, 3) := by decide +kernel
theorem dX1_chest_26 : decode cX1_chest 26 = .ok (.ireturn, 1) := by decide +kernel
theorem dX1_copy_0 : decode cX1_copy 0 = .ok (.aload_n 0, 1) := by decide +kernel
theorem dX1_copy_1 : decode cX1_copy 1 = .ok (.arraylength, 1) := by decide +kernel
theorem dX1_copy_2 : decode cX1_copy 2 = .ok (.newarray .int, 2) := by decide +kernel
theorem dX1_copy_4 : decode cX1_copy 4 = .ok (.astore_n 1, 1) := by decide +kernel
theorem dX1_copy_5 : decode cX1_copy 5 = .ok (.aload_n 0, 1) := by decide +kernel
theorem dX1_copy_6 : decode cX1_copy 6 = .ok (.iconst 0, 1) := by decide +kernel
theorem dX1_copy_7 : decode cX1_copy 7 = .ok (.aload_n 1, 1) := by decide +kernel
theorem dX1_copy_8 : decode cX1_copy 8 = .ok (.iconst 0, 1) := by decide +kernel
theorem dX1_copy_9 : decode cX1_copy 9 = .ok (.aload_n 0, 1) := by decide +kernel
theorem dX1_copy_10 : decode cX1_copy 10 = .ok (.arraylength, 1) := by decide +kernel
theorem dX1_copy_11 : decode cX1_copy 11 = .ok (.invokestatic 90, 3) := by decide +kernel
theorem dX1_copy_14 : decode cX1_copy 14 = .ok (.aload_n 1, 1) := by decide +kernel
theorem dX1_copy_15 : decode cX1_copy 15 = .ok (.areturn, 1) := by decide +kernel
theorem dX1_look_0 : decode cX1_look 0 = .ok (.aload_n 0, 1) := by decide +kernel
theorem dX1_look_1 : decode cX1_look 1 = .ok (.getfield 16, 3) := by decide +kernel
theorem dX1_look_4 : decode cX1_look 4 = .ok (.invokestatic 109, 3) := by decide +kernel
theorem dX1_look_7 : decode cX1_look 7 = .ok (.astore_n 1, 1) := by decide +kernel
theorem dX1_look_8 : decode cX1_look 8 = .ok (.aload_n 0, 1) := by decide +kernel
theorem dX1_look_9 : decode cX1_look 9 = .ok (.getfield 13, 3) := by decide +kernel
theorem dX1_look_12 : decode cX1_look 12 = .ok (.invokestatic 109, 3) := by decide +kernel
theorem dX1_look_15 : decode cX1_look 15 = .ok (.astore_n 2, 1) := by decide +kernel
theorem dX1_look_16 : decode cX1_look 16 = .ok (.aload_n 0, 1) := by decide +kernel
theorem dX1_look_17 : decode cX1_look 17 = .ok (.invokevirtual 99, 3) := by decide +kernel
theorem dX1_look_20 : decode cX1_look 20 = .ok (.pop, 1) := by decide +kernel
theorem dX1_look_21 : decode cX1_look 21 = .ok (.aload_n 0, 1) := by decide +kernel
theorem dX1_look_22 : decode cX1_look 22 = .ok (.dup, 1) := by decide +kernel
theorem dX1_look_23 : decode cX1_look 23 = .ok (.getfield 96, 3) := by decide +kernel
theorem dX1_look_26 : decode cX1_look 26 = .ok (.iconst 1, 1) := by decide +kernel
theorem dX1_look_27 : decode cX1_look 27 = .ok (.isub, 1) := by decide +kernel
theorem dX1_look_28 : decode cX1_look 28 = .ok (.putfield 96, 3) := by decide +kernel
theorem dX1_look_31 : decode cX1_look 31 = .ok (.aload_n 0, 1) := by decide +kernel
theorem dX1_look_32 : decode cX1_look 32 = .ok (.aload_n 1, 1) := by decide +kernel
theorem dX1_look_33 : decode cX1_look 33 = .ok (.putfield 16, 3) := by decide +kernel
theorem dX1_look_36 : decode cX1_look 36 = .ok (.aload_n 0, 1) := by decide +kernel
theorem dX1_look_37 : decode cX1_look 37 = .ok (.aload_n 2, 1) := by decide +kernel
theorem dX1_look_38 : decode cX1_look 38 = .ok (.putfield 13, 3) := by decide +kernel
theorem dX1_look_41 : decode cX1_look 41 = .ok (.return_, 1) := by decide +kernel
theorem dX1_coins_0 : decode cX1_coins 0 = .ok (.aload_n 0, 1) := by decide +kernel
theorem dX1_coins_1 : decode cX1_coins 1 = .ok (.iconst 0, 1) := by decide +kernel
theorem dX1_coins_2 : decode cX1_coins 2 = .ok (.putfield 22, 3) := by decide +kernel
theorem dX1_coins_5 : decode cX1_coins 5 = .ok (.aload_n 0, 1) := by decide +kernel
theorem dX1_coins_6 : decode cX1_coins 6 = .ok (.iload_n 1, 1) := by decide +kernel
theorem dX1_coins_7 : decode cX1_coins 7 = .ok (.invokevirtual 81, 3) := by decide +kernel
theorem dX1_coins_10 : decode cX1_coins 10 = .ok (.ifCond .eq 10, 3) := by decide +kernel
theorem dX1_coins_13 : decode cX1_coins 13 = .ok (.iload_n 2, 1) := by decide +kernel
theorem dX1_coins_14 : decode cX1_coins 14 = .ok (.invokestatic 78, 3) := by decide +kernel
theorem dX1_coins_17 : decode cX1_coins 17 = .ok (.ifCond .ne 9, 3) := by decide +kernel
theorem dX1_coins_20 : decode cX1_coins 20 = .ok (.aload_n 0, 1) := by decide +kernel
theorem dX1_coins_21 : decode cX1_coins 21 = .ok (.iconst 1, 1) := by decide +kernel
theorem dX1_coins_22 : decode cX1_coins 22 = .ok (.invokevirtual 61, 3) := by decide +kernel
theorem dX1_coins_25 : decode cX1_coins 25 = .ok (.ireturn, 1) := by decide +kernel
theorem dX1_coins_26 : decode cX1_coins 26 = .ok (.aload_n 0, 1) := by decide +kernel
theorem dX1_coins_27 : decode cX1_coins 27 = .ok (.invokevirtual 113, 3) := by decide +kernel
theorem dX1_coins_30 : decode cX1_coins 30 = .ok (.aload_n 0, 1) := by decide +kernel
theorem dX1_coins_31 : decode cX1_coins 31 = .ok (.getfield 19, 3) := by decide +kernel
theorem dX1_coins_34 : decode cX1_coins 34 = .ok (.iconst 3, 1) := by decide +kernel
theorem dX1_coins_35 : decode cX1_coins 35 = .ok (.iload_n 1, 1) := by decide +kernel
theorem dX1_coins_36 : decode cX1_coins 36 = .ok (.imul, 1) := by decide +kernel
theorem dX1_coins_37 : decode cX1_coins 37 = .ok (.iload_n 2, 1) := by decide +kernel
theorem dX1_coins_38 : decode cX1_coins 38 = .ok (.iadd, 1) := by decide +kernel
theorem dX1_coins_39 : decode cX1_coins 39 = .ok (.iaload, 1) := by decide +kernel
theorem dX1_coins_40 : decode cX1_coins 40 = .ok (.ireturn, 1) := by decide +kernel
theorem dX1_sum_0 : decode cX1_sum 0 = .ok (.iconst 0, 1) := by decide +kernel
theorem dX1_sum_1 : decode cX1_sum 1 = .ok (.istore_n 2, 1) := by decide +kernel
theorem dX1_sum_2 : decode cX1_sum 2 = .ok (.iconst 0, 1) := by decide +kernel
theorem dX1_sum_3 : decode cX1_sum 3 = .ok (.istore_n 3, 1) := by decide +kernel
theorem dX1_sum_4 : decode cX1_sum 4 = .ok (.iload_n 3, 1) := by decide +kernel
theorem dX1_sum_5 : decode cX1_sum 5 = .ok (.aload_n 0, 1) := by decide +kernel
theorem dX1_sum_6 : decode cX1_sum 6 = .ok (.getfield 26, 3) := by decide +kernel
theorem dX1_sum_9 : decode cX1_sum 9 = .ok (.if_icmp .ge 18, 3) := by decide +kernel
theorem dX1_sum_12 : decode cX1_sum 12 = .ok (.iload_n 2, 1) := by decide +kernel
theorem dX1_sum_13 : decode cX1_sum 13 = .ok (.aload_n 0, 1) := by decide +kernel
theorem dX1_sum_14 : decode cX1_sum 14 = .ok (.iload_n 3, 1) := by decide +kernel
theorem dX1_sum_15 : decode cX1_sum 15 = .ok (.iload_n 1, 1) := by decide +kernel
theorem dX1_sum_16 : decode cX1_sum 16 = .ok (.invokevirtual 33, 3) := by decide +kernel
theorem dX1_sum_19 : decode cX1_sum 19 = .ok (.iadd, 1) := by decide +kernel
theorem dX1_sum_20 : decode cX1_sum 20 = .ok (.istore_n 2, 1) := by decide +kernel
theorem dX1_sum_21 : decode cX1_sum 21 = .ok (.iinc 3 1, 3) := by decide +kernel
theorem dX1_sum_24 : decode cX1_sum 24 = .ok (.goto (-20), 3) := by decide +kernel
theorem dX1_sum_27 : decode cX1_sum 27 = .ok (.iload_n 2, 1) := by decide +kernel
theorem dX1_sum_28 : decode cX1_sum 28 = .ok (.ireturn, 1) := by decide +kernel
theorem dX1_counted_0 : decode cX1_counted 0 = .ok (.iload_n 1, 1) := by decide +kernel
theorem dX1_counted_1 : decode cX1_counted 1 = .ok (.tableswitch 95 0 5 #[39, 44, 49, 55, 61, 90], 39) := by decide +kernel
theorem dX1_counted_40 : decode cX1_counted 40 = .ok (.aload_n 0, 1) := by decide +kernel
theorem dX1_counted_41 : decode cX1_counted 41 = .ok (.getfield 96, 3) := by decide +kernel
theorem dX1_counted_44 : decode cX1_counted 44 = .ok (.ireturn, 1) := by decide +kernel
theorem dX1_counted_45 : decode cX1_counted 45 = .ok (.aload_n 0, 1) := by decide +kernel
theorem dX1_counted_46 : decode cX1_counted 46 = .ok (.getfield 26, 3) := by decide +kernel
theorem dX1_counted_49 : decode cX1_counted 49 = .ok (.ireturn, 1) := by decide +kernel
theorem dX1_counted_50 : decode cX1_counted 50 = .ok (.aload_n 0, 1) := by decide +kernel
theorem dX1_counted_51 : decode cX1_counted 51 = .ok (.iconst 4, 1) := by decide +kernel
theorem dX1_counted_52 : decode cX1_counted 52 = .ok (.invokevirtual 116, 3) := by decide +kernel
theorem dX1_counted_55 : decode cX1_counted 55 = .ok (.ireturn, 1) := by decide +kernel
theorem dX1_counted_56 : decode cX1_counted 56 = .ok (.aload_n 0, 1) := by decide +kernel
theorem dX1_counted_57 : decode cX1_counted 57 = .ok (.iconst 5, 1) := by decide +kernel
theorem dX1_counted_58 : decode cX1_counted 58 = .ok (.invokevirtual 116, 3) := by decide +kernel
theorem dX1_counted_61 : decode cX1_counted 61 = .ok (.ireturn, 1) := by decide +kernel
theorem dX1_counted_62 : decode cX1_counted 62 = .ok (.bipush 120, 2) := by decide +kernel
theorem dX1_counted_64 : decode cX1_counted 64 = .ok (.aload_n 0, 1) := by decide +kernel
theorem dX1_counted_65 : decode cX1_counted 65 = .ok (.getfield 13, 3) := by decide +kernel
theorem dX1_counted_68 : decode cX1_counted 68 = .ok (.iconst 0, 1) := by decide +kernel
theorem dX1_counted_69 : decode cX1_counted 69 = .ok (.iaload, 1) := by decide +kernel
theorem dX1_counted_70 : decode cX1_counted 70 = .ok (.imul, 1) := by decide +kernel
theorem dX1_counted_71 : decode cX1_counted 71 = .ok (.bipush 48, 2) := by decide +kernel
theorem dX1_counted_73 : decode cX1_counted 73 = .ok (.aload_n 0, 1) := by decide +kernel
theorem dX1_counted_74 : decode cX1_counted 74 = .ok (.getfield 13, 3) := by decide +kernel
theorem dX1_counted_77 : decode cX1_counted 77 = .ok (.iconst 1, 1) := by decide +kernel
theorem dX1_counted_78 : decode cX1_counted 78 = .ok (.iaload, 1) := by decide +kernel
theorem dX1_counted_79 : decode cX1_counted 79 = .ok (.imul, 1) := by decide +kernel
theorem dX1_counted_80 : decode cX1_counted 80 = .ok (.iadd, 1) := by decide +kernel
theorem dX1_counted_81 : decode cX1_counted 81 = .ok (.iconst 4, 1) := by decide +kernel
theorem dX1_counted_82 : decode cX1_counted 82 = .ok (.aload_n 0, 1) := by decide +kernel
theorem dX1_counted_83 : decode cX1_counted 83 = .ok (.getfield 13, 3) := by decide +kernel
theorem dX1_counted_86 : decode cX1_counted 86 = .ok (.iconst 2, 1) := by decide +kernel
theorem dX1_counted_87 : decode cX1_counted 87 = .ok (.iaload, 1) := by decide +kernel
theorem dX1_counted_88 : decode cX1_counted 88 = .ok (.imul, 1) := by decide +kernel
theorem dX1_counted_89 : decode cX1_counted 89 = .ok (.iadd, 1) := by decide +kernel
theorem dX1_counted_90 : decode cX1_counted 90 = .ok (.ireturn, 1) := by decide +kernel
theorem dX1_counted_91 : decode cX1_counted 91 = .ok (.aload_n 0, 1) := by decide +kernel
theorem dX1_counted_92 : decode cX1_counted 92 = .ok (.invokevirtual 119, 3) := by decide +kernel
theorem dX1_counted_95 : decode cX1_counted 95 = .ok (.ireturn, 1) := by decide +kernel
theorem dX1_counted_96 : decode cX1_counted 96 = .ok (.aload_n 0, 1) := by decide +kernel
theorem dX1_counted_97 : decode cX1_counted 97 = .ok (.bipush 6, 2) := by decide +kernel
theorem dX1_counted_99 : decode cX1_counted 99 = .ok (.invokevirtual 116, 3) := by decide +kernel
theorem dX1_counted_102 : decode cX1_counted 102 = .ok (.ireturn, 1) := by decide +kernel
theorem dX1_count_0 : decode cX1_count 0 = .ok (.aload_n 0, 1) := by decide +kernel
theorem dX1_count_1 : decode cX1_count 1 = .ok (.iconst 0, 1) := by decide +kernel
theorem dX1_count_2 : decode cX1_count 2 = .ok (.putfield 22, 3) := by decide +kernel
theorem dX1_count_5 : decode cX1_count 5 = .ok (.iload_n 1, 1) := by decide +kernel
theorem dX1_count_6 : decode cX1_count 6 = .ok (.iconst 0, 1) := by decide +kernel
theorem dX1_count_7 : decode cX1_count 7 = .ok (.bipush 6, 2) := by decide +kernel
theorem dX1_count_9 : decode cX1_count 9 = .ok (.invokestatic 29, 3) := by decide +kernel
theorem dX1_count_12 : decode cX1_count 12 = .ok (.ifCond .eq 11, 3) := by decide +kernel
theorem dX1_count_15 : decode cX1_count 15 = .ok (.aload_n 0, 1) := by decide +kernel
theorem dX1_count_16 : decode cX1_count 16 = .ok (.iload_n 1, 1) := by decide +kernel
theorem dX1_count_17 : decode cX1_count 17 = .ok (.invokevirtual 122, 3) := by decide +kernel
theorem dX1_count_20 : decode cX1_count 20 = .ok (.goto 8, 3) := by decide +kernel
theorem dX1_count_23 : decode cX1_count 23 = .ok (.aload_n 0, 1) := by decide +kernel
theorem dX1_count_24 : decode cX1_count 24 = .ok (.iconst 1, 1) := by decide +kernel
theorem dX1_count_25 : decode cX1_count 25 = .ok (.invokevirtual 61, 3) := by decide +kernel
theorem dX1_count_28 : decode cX1_count 28 = .ok (.ireturn, 1) := by decide +kernel
theorem dX1_rate_0 : decode cX1_rate 0 = .ok (.aload_n 0, 1) := by decide +kernel
theorem dX1_rate_1 : decode cX1_rate 1 = .ok (.iconst 0, 1) := by decide +kernel
theorem dX1_rate_2 : decode cX1_rate 2 = .ok (.putfield 22, 3) := by decide +kernel
theorem dX1_rate_5 : decode cX1_rate 5 = .ok (.iload_n 1, 1) := by decide +kernel
theorem dX1_rate_6 : decode cX1_rate 6 = .ok (.invokestatic 68, 3) := by decide +kernel
theorem dX1_rate_9 : decode cX1_rate 9 = .ok (.ifCond .eq 12, 3) := by decide +kernel
theorem dX1_rate_12 : decode cX1_rate 12 = .ok (.aload_n 0, 1) := by decide +kernel
theorem dX1_rate_13 : decode cX1_rate 13 = .ok (.getfield 7, 3) := by decide +kernel
theorem dX1_rate_16 : decode cX1_rate 16 = .ok (.iload_n 1, 1) := by decide +kernel
theorem dX1_rate_17 : decode cX1_rate 17 = .ok (.iaload, 1) := by decide +kernel
theorem dX1_rate_18 : decode cX1_rate 18 = .ok (.goto 8, 3) := by decide +kernel
theorem dX1_rate_21 : decode cX1_rate 21 = .ok (.aload_n 0, 1) := by decide +kernel
theorem dX1_rate_22 : decode cX1_rate 22 = .ok (.iconst 1, 1) := by decide +kernel
theorem dX1_rate_23 : decode cX1_rate 23 = .ok (.invokevirtual 61, 3) := by decide +kernel
theorem dX1_rate_26 : decode cX1_rate 26 = .ok (.ireturn, 1) := by decide +kernel
theorem dX1_would_0 : decode cX1_would 0 = .ok (.aload_n 0, 1) := by decide +kernel
theorem dX1_would_1 : decode cX1_would 1 = .ok (.iconst 0, 1) := by decide +kernel
theorem dX1_would_2 : decode cX1_would 2 = .ok (.putfield 22, 3) := by decide +kernel
theorem dX1_would_5 : decode cX1_would 5 = .ok (.iload_n 1, 1) := by decide +kernel
theorem dX1_would_6 : decode cX1_would 6 = .ok (.invokestatic 68, 3) := by decide +kernel
theorem dX1_would_9 : decode cX1_would 9 = .ok (.ifCond .ne 9, 3) := by decide +kernel
theorem dX1_would_12 : decode cX1_would 12 = .ok (.aload_n 0, 1) := by decide +kernel
theorem dX1_would_13 : decode cX1_would 13 = .ok (.iconst 1, 1) := by decide +kernel
theorem dX1_would_14 : decode cX1_would 14 = .ok (.invokevirtual 61, 3) := by decide +kernel
theorem dX1_would_17 : decode cX1_would 17 = .ok (.ireturn, 1) := by decide +kernel
theorem dX1_would_18 : decode cX1_would 18 = .ok (.iload_n 2, 1) := by decide +kernel
theorem dX1_would_19 : decode cX1_would 19 = .ok (.getstatic 72, 3) := by decide +kernel
theorem dX1_would_22 : decode cX1_would 22 = .ok (.iload_n 1, 1) := by decide +kernel
theorem dX1_would_23 : decode cX1_would 23 = .ok (.iaload, 1) := by decide +kernel
theorem dX1_would_24 : decode cX1_would 24 = .ok (.getstatic 75, 3) := by decide +kernel
theorem dX1_would_27 : decode cX1_would 27 = .ok (.iload_n 1, 1) := by decide +kernel
theorem dX1_would_28 : decode cX1_would 28 = .ok (.iaload, 1) := by decide +kernel
theorem dX1_would_29 : decode cX1_would 29 = .ok (.invokestatic 29, 3) := by decide +kernel
theorem dX1_would_32 : decode cX1_would 32 = .ok (.ifCond .ne 9, 3) := by decide +kernel
theorem dX1_would_35 : decode cX1_would 35 = .ok (.aload_n 0, 1) := by decide +kernel
theorem dX1_would_36 : decode cX1_would 36 = .ok (.iconst 2, 1) := by decide +kernel
theorem dX1_would_37 : decode cX1_would 37 = .ok (.invokevirtual 61, 3) := by decide +kernel
theorem dX1_would_40 : decode cX1_would 40 = .ok (.ireturn, 1) := by decide +kernel
theorem dX1_would_41 : decode cX1_would 41 = .ok (.aload_n 0, 1) := by decide +kernel
theorem dX1_would_42 : decode cX1_would 42 = .ok (.getfield 7, 3) := by decide +kernel
theorem dX1_would_45 : decode cX1_would 45 = .ok (.iload_n 1, 1) := by decide +kernel
theorem dX1_would_46 : decode cX1_would 46 = .ok (.iaload, 1) := by decide +kernel
theorem dX1_would_47 : decode cX1_would 47 = .ok (.istore_n 3, 1) := by decide +kernel
theorem dX1_would_48 : decode cX1_would 48 = .ok (.aload_n 0, 1) := by decide +kernel
theorem dX1_would_49 : decode cX1_would 49 = .ok (.getfield 7, 3) := by decide +kernel
theorem dX1_would_52 : decode cX1_would 52 = .ok (.iload_n 1, 1) := by decide +kernel
theorem dX1_would_53 : decode cX1_would 53 = .ok (.iload_n 2, 1) := by decide +kernel
theorem dX1_would_54 : decode cX1_would 54 = .ok (.iastore, 1) := by decide +kernel
theorem dX1_would_55 : decode cX1_would 55 = .ok (.aload_n 0, 1) := by decide +kernel
theorem dX1_would_56 : decode cX1_would 56 = .ok (.invokevirtual 119, 3) := by decide +kernel
theorem dX1_would_59 : decode cX1_would 59 = .ok (.istore 4, 2) := by decide +kernel
theorem dX1_would_61 : decode cX1_would 61 = .ok (.aload_n 0, 1) := by decide +kernel
theorem dX1_would_62 : decode cX1_would 62 = .ok (.getfield 7, 3) := by decide +kernel
theorem dX1_would_65 : decode cX1_would 65 = .ok (.iload_n 1, 1) := by decide +kernel
theorem dX1_would_66 : decode cX1_would 66 = .ok (.iload_n 3, 1) := by decide +kernel
theorem dX1_would_67 : decode cX1_would 67 = .ok (.iastore, 1) := by decide +kernel
theorem dX1_would_68 : decode cX1_would 68 = .ok (.iload 4, 2) := by decide +kernel
theorem dX1_would_70 : decode cX1_would 70 = .ok (.ireturn, 1) := by decide +kernel
theorem dX1_until_0 : decode cX1_until 0 = .ok (.aload_n 0, 1) := by decide +kernel
theorem dX1_until_1 : decode cX1_until 1 = .ok (.iconst 0, 1) := by decide +kernel
theorem dX1_until_2 : decode cX1_until 2 = .ok (.putfield 22, 3) := by decide +kernel
theorem dX1_until_5 : decode cX1_until 5 = .ok (.aload_n 0, 1) := by decide +kernel
theorem dX1_until_6 : decode cX1_until 6 = .ok (.iload_n 1, 1) := by decide +kernel
theorem dX1_until_7 : decode cX1_until 7 = .ok (.invokevirtual 81, 3) := by decide +kernel
theorem dX1_until_10 : decode cX1_until 10 = .ok (.ifCond .ne 9, 3) := by decide +kernel
theorem dX1_until_13 : decode cX1_until 13 = .ok (.aload_n 0, 1) := by decide +kernel
theorem dX1_until_14 : decode cX1_until 14 = .ok (.iconst 1, 1) := by decide +kernel
theorem dX1_until_15 : decode cX1_until 15 = .ok (.invokevirtual 61, 3) := by decide +kernel
theorem dX1_until_18 : decode cX1_until 18 = .ok (.ireturn, 1) := by decide +kernel
theorem dX1_until_19 : decode cX1_until 19 = .ok (.aload_n 0, 1) := by decide +kernel
theorem dX1_until_20 : decode cX1_until 20 = .ok (.iload_n 1, 1) := by decide +kernel
theorem dX1_until_21 : decode cX1_until 21 = .ok (.iconst 4, 1) := by decide +kernel
theorem dX1_until_22 : decode cX1_until 22 = .ok (.invokevirtual 33, 3) := by decide +kernel
theorem dX1_until_25 : decode cX1_until 25 = .ok (.istore_n 2, 1) := by decide +kernel
theorem dX1_until_26 : decode cX1_until 26 = .ok (.aload_n 0, 1) := by decide +kernel
theorem dX1_until_27 : decode cX1_until 27 = .ok (.iload_n 1, 1) := by decide +kernel
theorem dX1_until_28 : decode cX1_until 28 = .ok (.invokevirtual 55, 3) := by decide +kernel
theorem dX1_until_31 : decode cX1_until 31 = .ok (.istore_n 3, 1) := by decide +kernel
theorem dX1_until_32 : decode cX1_until 32 = .ok (.iconst 0, 1) := by decide +kernel
theorem dX1_until_33 : decode cX1_until 33 = .ok (.istore 4, 2) := by decide +kernel
theorem dX1_until_35 : decode cX1_until 35 = .ok (.iload_n 2, 1) := by decide +kernel
theorem dX1_until_36 : decode cX1_until 36 = .ok (.ifCond .le 37, 3) := by decide +kernel
theorem dX1_until_39 : decode cX1_until 39 = .ok (.iload 4, 2) := by decide +kernel
theorem dX1_until_41 : decode cX1_until 41 = .ok (.bipush 99, 2) := by decide +kernel
theorem dX1_until_43 : decode cX1_until 43 = .ok (.if_icmp .ge 30, 3) := by decide +kernel
theorem dX1_until_46 : decode cX1_until 46 = .ok (.iload_n 2, 1) := by decide +kernel
theorem dX1_until_47 : decode cX1_until 47 = .ok (.iload_n 2, 1) := by decide +kernel
theorem dX1_until_48 : decode cX1_until 48 = .ok (.iload_n 3, 1) := by decide +kernel
theorem dX1_until_49 : decode cX1_until 49 = .ok (.aload_n 0, 1) := by decide +kernel
theorem dX1_until_50 : decode cX1_until 50 = .ok (.getfield 7, 3) := by decide +kernel
theorem dX1_until_53 : decode cX1_until 53 = .ok (.iconst 4, 1) := by decide +kernel
theorem dX1_until_54 : decode cX1_until 54 = .ok (.iaload, 1) := by decide +kernel
theorem dX1_until_55 : decode cX1_until 55 = .ok (.idiv, 1) := by decide +kernel
theorem dX1_until_56 : decode cX1_until 56 = .ok (.invokestatic 58, 3) := by decide +kernel
theorem dX1_until_59 : decode cX1_until 59 = .ok (.isub, 1) := by decide +kernel
theorem dX1_until_60 : decode cX1_until 60 = .ok (.istore_n 2, 1) := by decide +kernel
theorem dX1_until_61 : decode cX1_until 61 = .ok (.aload_n 0, 1) := by decide +kernel
theorem dX1_until_62 : decode cX1_until 62 = .ok (.iload_n 1, 1) := by decide +kernel
theorem dX1_until_63 : decode cX1_until 63 = .ok (.invokevirtual 52, 3) := by decide +kernel
theorem dX1_until_66 : decode cX1_until 66 = .ok (.istore_n 3, 1) := by decide +kernel
theorem dX1_until_67 : decode cX1_until 67 = .ok (.iinc 4 1, 3) := by decide +kernel
theorem dX1_until_70 : decode cX1_until 70 = .ok (.goto (-35), 3) := by decide +kernel
theorem dX1_until_73 : decode cX1_until 73 = .ok (.iload_n 2, 1) := by decide +kernel
theorem dX1_until_74 : decode cX1_until 74 = .ok (.ifCond .le 7, 3) := by decide +kernel
theorem dX1_until_77 : decode cX1_until 77 = .ok (.iconst (-1), 1) := by decide +kernel
theorem dX1_until_78 : decode cX1_until 78 = .ok (.goto 5, 3) := by decide +kernel
theorem dX1_until_81 : decode cX1_until 81 = .ok (.iload 4, 2) := by decide +kernel
theorem dX1_until_83 : decode cX1_until 83 = .ok (.ireturn, 1) := by decide +kernel
theorem dX1_lacks_0 : decode cX1_lacks 0 = .ok (.aload_n 0, 1) := by decide +kernel
theorem dX1_lacks_1 : decode cX1_lacks 1 = .ok (.iconst 0, 1) := by decide +kernel
theorem dX1_lacks_2 : decode cX1_lacks 2 = .ok (.putfield 22, 3) := by decide +kernel
theorem dX1_lacks_5 : decode cX1_lacks 5 = .ok (.aload_n 0, 1) := by decide +kernel
theorem dX1_lacks_6 : decode cX1_lacks 6 = .ok (.getfield 13, 3) := by decide +kernel
theorem dX1_lacks_9 : decode cX1_lacks 9 = .ok (.iconst 2, 1) := by decide +kernel
theorem dX1_lacks_10 : decode cX1_lacks 10 = .ok (.iaload, 1) := by decide +kernel
theorem dX1_lacks_11 : decode cX1_lacks 11 = .ok (.istore_n 1, 1) := by decide +kernel
theorem dX1_lacks_12 : decode cX1_lacks 12 = .ok (.iconst 0, 1) := by decide +kernel
theorem dX1_lacks_13 : decode cX1_lacks 13 = .ok (.istore_n 2, 1) := by decide +kernel
theorem dX1_lacks_14 : decode cX1_lacks 14 = .ok (.iconst 0, 1) := by decide +kernel
theorem dX1_lacks_15 : decode cX1_lacks 15 = .ok (.istore_n 3, 1) := by decide +kernel
theorem dX1_lacks_16 : decode cX1_lacks 16 = .ok (.iload_n 3, 1) := by decide +kernel
theorem dX1_lacks_17 : decode cX1_lacks 17 = .ok (.aload_n 0, 1) := by decide +kernel
theorem dX1_lacks_18 : decode cX1_lacks 18 = .ok (.getfield 26, 3) := by decide +kernel
theorem dX1_lacks_21 : decode cX1_lacks 21 = .ok (.if_icmp .ge 23, 3) := by decide +kernel
theorem dX1_lacks_24 : decode cX1_lacks 24 = .ok (.iload_n 2, 1) := by decide +kernel
theorem dX1_lacks_25 : decode cX1_lacks 25 = .ok (.aload_n 0, 1) := by decide +kernel
theorem dX1_lacks_26 : decode cX1_lacks 26 = .ok (.iload_n 3, 1) := by decide +kernel
theorem dX1_lacks_27 : decode cX1_lacks 27 = .ok (.invokevirtual 55, 3) := by decide +kernel
theorem dX1_lacks_30 : decode cX1_lacks 30 = .ok (.aload_n 0, 1) := by decide +kernel
theorem dX1_lacks_31 : decode cX1_lacks 31 = .ok (.iload_n 3, 1) := by decide +kernel
theorem dX1_lacks_32 : decode cX1_lacks 32 = .ok (.invokevirtual 84, 3) := by decide +kernel
theorem dX1_lacks_35 : decode cX1_lacks 35 = .ok (.isub, 1) := by decide +kernel
theorem dX1_lacks_36 : decode cX1_lacks 36 = .ok (.iadd, 1) := by decide +kernel
theorem dX1_lacks_37 : decode cX1_lacks 37 = .ok (.istore_n 2, 1) := by decide +kernel
theorem dX1_lacks_38 : decode cX1_lacks 38 = .ok (.iinc 3 1, 3) := by decide +kernel
theorem dX1_lacks_41 : decode cX1_lacks 41 = .ok (.goto (-25), 3) := by decide +kernel
theorem dX1_lacks_44 : decode cX1_lacks 44 = .ok (.aload_n 0, 1) := by decide +kernel
theorem dX1_lacks_45 : decode cX1_lacks 45 = .ok (.getfield 13, 3) := by decide +kernel
theorem dX1_lacks_48 : decode cX1_lacks 48 = .ok (.iconst 2, 1) := by decide +kernel
theorem dX1_lacks_49 : decode cX1_lacks 49 = .ok (.iload_n 1, 1) := by decide +kernel
theorem dX1_lacks_50 : decode cX1_lacks 50 = .ok (.iload_n 2, 1) := by decide +kernel
theorem dX1_lacks_51 : decode cX1_lacks 51 = .ok (.iadd, 1) := by decide +kernel
theorem dX1_lacks_52 : decode cX1_lacks 52 = .ok (.iastore, 1) := by decide +kernel
theorem dX1_lacks_53 : decode cX1_lacks 53 = .ok (.aload_n 0, 1) := by decide +kernel
theorem dX1_lacks_54 : decode cX1_lacks 54 = .ok (.invokevirtual 113, 3) := by decide +kernel
theorem dX1_lacks_57 : decode cX1_lacks 57 = .ok (.aload_n 0, 1) := by decide +kernel
theorem dX1_lacks_58 : decode cX1_lacks 58 = .ok (.getfield 13, 3) := by decide +kernel
theorem dX1_lacks_61 : decode cX1_lacks 61 = .ok (.iconst 2, 1) := by decide +kernel
theorem dX1_lacks_62 : decode cX1_lacks 62 = .ok (.iload_n 1, 1) := by decide +kernel
theorem dX1_lacks_63 : decode cX1_lacks 63 = .ok (.iastore, 1) := by decide +kernel
theorem dX1_lacks_64 : decode cX1_lacks 64 = .ok (.iconst 0, 1) := by decide +kernel
theorem dX1_lacks_65 : decode cX1_lacks 65 = .ok (.istore_n 3, 1) := by decide +kernel
theorem dX1_lacks_66 : decode cX1_lacks 66 = .ok (.iconst 0, 1) := by decide +kernel
theorem dX1_lacks_67 : decode cX1_lacks 67 = .ok (.istore 4, 2) := by decide +kernel
theorem dX1_lacks_69 : decode cX1_lacks 69 = .ok (.iload 4, 2) := by decide +kernel
theorem dX1_lacks_71 : decode cX1_lacks 71 = .ok (.aload_n 0, 1) := by decide +kernel
theorem dX1_lacks_72 : decode cX1_lacks 72 = .ok (.getfield 26, 3) := by decide +kernel
theorem dX1_lacks_75 : decode cX1_lacks 75 = .ok (.if_icmp .ge 23, 3) := by decide +kernel
theorem dX1_lacks_78 : decode cX1_lacks 78 = .ok (.iload_n 3, 1) := by decide +kernel
theorem dX1_lacks_79 : decode cX1_lacks 79 = .ok (.aload_n 0, 1) := by decide +kernel
theorem dX1_lacks_80 : decode cX1_lacks 80 = .ok (.getfield 19, 3) := by decide +kernel
theorem dX1_lacks_83 : decode cX1_lacks 83 = .ok (.iconst 3, 1) := by decide +kernel
theorem dX1_lacks_84 : decode cX1_lacks 84 = .ok (.iload 4, 2) := by decide +kernel
theorem dX1_lacks_86 : decode cX1_lacks 86 = .ok (.imul, 1) := by decide +kernel
theorem dX1_lacks_87 : decode cX1_lacks 87 = .ok (.iconst 2, 1) := by decide +kernel
theorem dX1_lacks_88 : decode cX1_lacks 88 = .ok (.iadd, 1) := by decide +kernel
theorem dX1_lacks_89 : decode cX1_lacks 89 = .ok (.iaload, 1) := by decide +kernel
theorem dX1_lacks_90 : decode cX1_lacks 90 = .ok (.iadd, 1) := by decide +kernel
theorem dX1_lacks_91 : decode cX1_lacks 91 = .ok (.istore_n 3, 1) := by decide +kernel
theorem dX1_lacks_92 : decode cX1_lacks 92 = .ok (.iinc 4 1, 3) := by decide +kernel
theorem dX1_lacks_95 : decode cX1_lacks 95 = .ok (.goto (-26), 3) := by decide +kernel
theorem dX1_lacks_98 : decode cX1_lacks 98 = .ok (.iconst 0, 1) := by decide +kernel
theorem dX1_lacks_99 : decode cX1_lacks 99 = .ok (.iload_n 3, 1) := by decide +kernel
theorem dX1_lacks_100 : decode cX1_lacks 100 = .ok (.iload_n 1, 1) := by decide +kernel
theorem dX1_lacks_101 : decode cX1_lacks 101 = .ok (.isub, 1) := by decide +kernel
theorem dX1_lacks_102 : decode cX1_lacks 102 = .ok (.invokestatic 37, 3) := by decide +kernel
theorem dX1_lacks_105 : decode cX1_lacks 105 = .ok (.ireturn, 1) := by decide +kernel
theorem dX1_advise_0 : decode cX1_advise 0 = .ok (.aload_n 0, 1) := by decide +kernel
theorem dX1_advise_1 : decode cX1_advise 1 = .ok (.iconst 0, 1) := by decide +kernel
theorem dX1_advise_2 : decode cX1_advise 2 = .ok (.putfield 22, 3) := by decide +kernel
theorem dX1_advise_5 : decode cX1_advise 5 = .ok (.iconst 0, 1) := by decide +kernel
theorem dX1_advise_6 : decode cX1_advise 6 = .ok (.istore_n 1, 1) := by decide +kernel
theorem dX1_advise_7 : decode cX1_advise 7 = .ok (.iconst 0, 1) := by decide +kernel
theorem dX1_advise_8 : decode cX1_advise 8 = .ok (.istore_n 2, 1) := by decide +kernel
theorem dX1_advise_9 : decode cX1_advise 9 = .ok (.iconst 0, 1) := by decide +kernel
theorem dX1_advise_10 : decode cX1_advise 10 = .ok (.istore_n 3, 1) := by decide +kernel
theorem dX1_advise_11 : decode cX1_advise 11 = .ok (.iload_n 3, 1) := by decide +kernel
theorem dX1_advise_12 : decode cX1_advise 12 = .ok (.aload_n 0, 1) := by decide +kernel
theorem dX1_advise_13 : decode cX1_advise 13 = .ok (.getfield 26, 3) := by decide +kernel
theorem dX1_advise_16 : decode cX1_advise 16 = .ok (.if_icmp .ge 25, 3) := by decide +kernel
theorem dX1_advise_19 : decode cX1_advise 19 = .ok (.iload_n 1, 1) := by decide +kernel
theorem dX1_advise_20 : decode cX1_advise 20 = .ok (.aload_n 0, 1) := by decide +kernel
theorem dX1_advise_21 : decode cX1_advise 21 = .ok (.iload_n 3, 1) := by decide +kernel
theorem dX1_advise_22 : decode cX1_advise 22 = .ok (.invokevirtual 46, 3) := by decide +kernel
theorem dX1_advise_25 : decode cX1_advise 25 = .ok (.iadd, 1) := by decide +kernel
theorem dX1_advise_26 : decode cX1_advise 26 = .ok (.istore_n 1, 1) := by decide +kernel
theorem dX1_advise_27 : decode cX1_advise 27 = .ok (.iload_n 2, 1) := by decide +kernel
theorem dX1_advise_28 : decode cX1_advise 28 = .ok (.aload_n 0, 1) := by decide +kernel
theorem dX1_advise_29 : decode cX1_advise 29 = .ok (.iload_n 3, 1) := by decide +kernel
theorem dX1_advise_30 : decode cX1_advise 30 = .ok (.invokevirtual 42, 3) := by decide +kernel
theorem dX1_advise_33 : decode cX1_advise 33 = .ok (.iadd, 1) := by decide +kernel
theorem dX1_advise_34 : decode cX1_advise 34 = .ok (.istore_n 2, 1) := by decide +kernel
theorem dX1_advise_35 : decode cX1_advise 35 = .ok (.iinc 3 1, 3) := by decide +kernel
theorem dX1_advise_38 : decode cX1_advise 38 = .ok (.goto (-27), 3) := by decide +kernel
theorem dX1_advise_41 : decode cX1_advise 41 = .ok (.iconst 1, 1) := by decide +kernel
theorem dX1_advise_42 : decode cX1_advise 42 = .ok (.istore_n 3, 1) := by decide +kernel
theorem dX1_advise_43 : decode cX1_advise 43 = .ok (.iconst 2, 1) := by decide +kernel
theorem dX1_advise_44 : decode cX1_advise 44 = .ok (.istore 4, 2) := by decide +kernel
theorem dX1_advise_46 : decode cX1_advise 46 = .ok (.iload 4, 2) := by decide +kernel
theorem dX1_advise_48 : decode cX1_advise 48 = .ok (.getstatic 75, 3) := by decide +kernel
theorem dX1_advise_51 : decode cX1_advise 51 = .ok (.iconst 1, 1) := by decide +kernel
theorem dX1_advise_52 : decode cX1_advise 52 = .ok (.iaload, 1) := by decide +kernel
theorem dX1_advise_53 : decode cX1_advise 53 = .ok (.if_icmp .gt 32, 3) := by decide +kernel
theorem dX1_advise_56 : decode cX1_advise 56 = .ok (.iload 4, 2) := by decide +kernel
theorem dX1_advise_58 : decode cX1_advise 58 = .ok (.iload_n 2, 1) := by decide +kernel
theorem dX1_advise_59 : decode cX1_advise 59 = .ok (.imul, 1) := by decide +kernel
theorem dX1_advise_60 : decode cX1_advise 60 = .ok (.iload_n 1, 1) := by decide +kernel
theorem dX1_advise_61 : decode cX1_advise 61 = .ok (.isub, 1) := by decide +kernel
theorem dX1_advise_62 : decode cX1_advise 62 = .ok (.invokestatic 125, 3) := by decide +kernel
theorem dX1_advise_65 : decode cX1_advise 65 = .ok (.iload_n 3, 1) := by decide +kernel
theorem dX1_advise_66 : decode cX1_advise 66 = .ok (.iload_n 2, 1) := by decide +kernel
theorem dX1_advise_67 : decode cX1_advise 67 = .ok (.imul, 1) := by decide +kernel
theorem dX1_advise_68 : decode cX1_advise 68 = .ok (.iload_n 1, 1) := by decide +kernel
theorem dX1_advise_69 : decode cX1_advise 69 = .ok (.isub, 1) := by decide +kernel
theorem dX1_advise_70 : decode cX1_advise 70 = .ok (.invokestatic 125, 3) := by decide +kernel
theorem dX1_advise_73 : decode cX1_advise 73 = .ok (.if_icmp .ge 6, 3) := by decide +kernel
theorem dX1_advise_76 : decode cX1_advise 76 = .ok (.iload 4, 2) := by decide +kernel
theorem dX1_advise_78 : decode cX1_advise 78 = .ok (.istore_n 3, 1) := by decide +kernel
theorem dX1_advise_79 : decode cX1_advise 79 = .ok (.iinc 4 1, 3) := by decide +kernel
theorem dX1_advise_82 : decode cX1_advise 82 = .ok (.goto (-36), 3) := by decide +kernel
theorem dX1_advise_85 : decode cX1_advise 85 = .ok (.iload_n 3, 1) := by decide +kernel
theorem dX1_advise_86 : decode cX1_advise 86 = .ok (.ireturn, 1) := by decide +kernel
theorem dX1_mean_0 : decode cX1_mean 0 = .ok (.aload_n 0, 1) := by decide +kernel
theorem dX1_mean_1 : decode cX1_mean 1 = .ok (.iconst 0, 1) := by decide +kernel
theorem dX1_mean_2 : decode cX1_mean 2 = .ok (.putfield 22, 3) := by decide +kernel
theorem dX1_mean_5 : decode cX1_mean 5 = .ok (.aload_n 0, 1) := by decide +kernel
theorem dX1_mean_6 : decode cX1_mean 6 = .ok (.getfield 26, 3) := by decide +kernel
theorem dX1_mean_9 : decode cX1_mean 9 = .ok (.ifCond .ne 7, 3) := by decide +kernel
theorem dX1_mean_12 : decode cX1_mean 12 = .ok (.dconst 0, 1) := by decide +kernel
theorem dX1_mean_13 : decode cX1_mean 13 = .ok (.goto 14, 3) := by decide +kernel
theorem dX1_mean_16 : decode cX1_mean 16 = .ok (.aload_n 0, 1) := by decide +kernel
theorem dX1_mean_17 : decode cX1_mean 17 = .ok (.invokevirtual 119, 3) := by decide +kernel
theorem dX1_mean_20 : decode cX1_mean 20 = .ok (.i2d, 1) := by decide +kernel
theorem dX1_mean_21 : decode cX1_mean 21 = .ok (.aload_n 0, 1) := by decide +kernel
theorem dX1_mean_22 : decode cX1_mean 22 = .ok (.getfield 26, 3) := by decide +kernel
theorem dX1_mean_25 : decode cX1_mean 25 = .ok (.i2d, 1) := by decide +kernel
theorem dX1_mean_26 : decode cX1_mean 26 = .ok (.ddiv, 1) := by decide +kernel
theorem dX1_mean_27 : decode cX1_mean 27 = .ok (.dreturn, 1) := by decide +kernel
theorem dX1_digest_0 : decode cX1_digest 0 = .ok (.aload_n 0, 1) := by decide +kernel
theorem dX1_digest_1 : decode cX1_digest 1 = .ok (.iconst 0, 1) := by decide +kernel
theorem dX1_digest_2 : decode cX1_digest 2 = .ok (.putfield 22, 3) := by decide +kernel
theorem dX1_digest_5 : decode cX1_digest 5 = .ok (.ldc2_w 128, 3) := by decide +kernel
theorem dX1_digest_8 : decode cX1_digest 8 = .ok (.lstore_n 1, 1) := by decide +kernel
theorem dX1_digest_9 : decode cX1_digest 9 = .ok (.iconst 0, 1) := by decide +kernel
theorem dX1_digest_10 : decode cX1_digest 10 = .ok (.istore_n 3, 1) := by decide +kernel
theorem dX1_digest_11 : decode cX1_digest 11 = .ok (.iload_n 3, 1) := by decide +kernel
theorem dX1_digest_12 : decode cX1_digest 12 = .ok (.bipush 7, 2) := by decide +kernel
theorem dX1_digest_14 : decode cX1_digest 14 = .ok (.if_icmp .ge 22, 3) := by decide +kernel
theorem dX1_digest_17 : decode cX1_digest 17 = .ok (.lload_n 1, 1) := by decide +kernel
theorem dX1_digest_18 : decode cX1_digest 18 = .ok (.ldc2_w 130, 3) := by decide +kernel
theorem dX1_digest_21 : decode cX1_digest 21 = .ok (.lmul, 1) := by decide +kernel
theorem dX1_digest_22 : decode cX1_digest 22 = .ok (.aload_n 0, 1) := by decide +kernel
theorem dX1_digest_23 : decode cX1_digest 23 = .ok (.iload_n 3, 1) := by decide +kernel
theorem dX1_digest_24 : decode cX1_digest 24 = .ok (.invokevirtual 122, 3) := by decide +kernel
theorem dX1_digest_27 : decode cX1_digest 27 = .ok (.i2l, 1) := by decide +kernel
theorem dX1_digest_28 : decode cX1_digest 28 = .ok (.ladd, 1) := by decide +kernel
theorem dX1_digest_29 : decode cX1_digest 29 = .ok (.lstore_n 1, 1) := by decide +kernel
theorem dX1_digest_30 : decode cX1_digest 30 = .ok (.iinc 3 1, 3) := by decide +kernel
theorem dX1_digest_33 : decode cX1_digest 33 = .ok (.goto (-22), 3) := by decide +kernel
theorem dX1_digest_36 : decode cX1_digest 36 = .ok (.aload_n 0, 1) := by decide +kernel
theorem dX1_digest_37 : decode cX1_digest 37 = .ok (.getfield 7, 3) := by decide +kernel
theorem dX1_digest_40 : decode cX1_digest 40 = .ok (.astore_n 3, 1) := by decide +kernel
theorem dX1_digest_41 : decode cX1_digest 41 = .ok (.aload_n 3, 1) := by decide +kernel
theorem dX1_digest_42 : decode cX1_digest 42 = .ok (.arraylength, 1) := by decide +kernel
theorem dX1_digest_43 : decode cX1_digest 43 = .ok (.istore 4, 2) := by decide +kernel
theorem dX1_digest_45 : decode cX1_digest 45 = .ok (.iconst 0, 1) := by decide +kernel
theorem dX1_digest_46 : decode cX1_digest 46 = .ok (.istore 5, 2) := by decide +kernel
theorem dX1_digest_48 : decode cX1_digest 48 = .ok (.iload 5, 2) := by decide +kernel
theorem dX1_digest_50 : decode cX1_digest 50 = .ok (.iload 4, 2) := by decide +kernel
theorem dX1_digest_52 : decode cX1_digest 52 = .ok (.if_icmp .ge 25, 3) := by decide +kernel
theorem dX1_digest_55 : decode cX1_digest 55 = .ok (.aload_n 3, 1) := by decide +kernel
theorem dX1_digest_56 : decode cX1_digest 56 = .ok (.iload 5, 2) := by decide +kernel
theorem dX1_digest_58 : decode cX1_digest 58 = .ok (.iaload, 1) := by decide +kernel
theorem dX1_digest_59 : decode cX1_digest 59 = .ok (.istore 6, 2) := by decide +kernel
theorem dX1_digest_61 : decode cX1_digest 61 = .ok (.lload_n 1, 1) := by decide +kernel
theorem dX1_digest_62 : decode cX1_digest 62 = .ok (.ldc2_w 130, 3) := by decide +kernel
theorem dX1_digest_65 : decode cX1_digest 65 = .ok (.lmul, 1) := by decide +kernel
theorem dX1_digest_66 : decode cX1_digest 66 = .ok (.iload 6, 2) := by decide +kernel
theorem dX1_digest_68 : decode cX1_digest 68 = .ok (.i2l, 1) := by decide +kernel
theorem dX1_digest_69 : decode cX1_digest 69 = .ok (.ladd, 1) := by decide +kernel
theorem dX1_digest_70 : decode cX1_digest 70 = .ok (.lstore_n 1, 1) := by decide +kernel
theorem dX1_digest_71 : decode cX1_digest 71 = .ok (.iinc 5 1, 3) := by decide +kernel
theorem dX1_digest_74 : decode cX1_digest 74 = .ok (.goto (-26), 3) := by decide +kernel
theorem dX1_digest_77 : decode cX1_digest 77 = .ok (.aload_n 0, 1) := by decide +kernel
theorem dX1_digest_78 : decode cX1_digest 78 = .ok (.getfield 13, 3) := by decide +kernel
theorem dX1_digest_81 : decode cX1_digest 81 = .ok (.astore_n 3, 1) := by decide +kernel
theorem dX1_digest_82 : decode cX1_digest 82 = .ok (.aload_n 3, 1) := by decide +kernel
theorem dX1_digest_83 : decode cX1_digest 83 = .ok (.arraylength, 1) := by decide +kernel
theorem dX1_digest_84 : decode cX1_digest 84 = .ok (.istore 4, 2) := by decide +kernel
theorem dX1_digest_86 : decode cX1_digest 86 = .ok (.iconst 0, 1) := by decide +kernel
theorem dX1_digest_87 : decode cX1_digest 87 = .ok (.istore 5, 2) := by decide +kernel
theorem dX1_digest_89 : decode cX1_digest 89 = .ok (.iload 5, 2) := by decide +kernel
theorem dX1_digest_91 : decode cX1_digest 91 = .ok (.iload 4, 2) := by decide +kernel
theorem dX1_digest_93 : decode cX1_digest 93 = .ok (.if_icmp .ge 25, 3) := by decide +kernel
theorem dX1_digest_96 : decode cX1_digest 96 = .ok (.aload_n 3, 1) := by decide +kernel
theorem dX1_digest_97 : decode cX1_digest 97 = .ok (.iload 5, 2) := by decide +kernel
theorem dX1_digest_99 : decode cX1_digest 99 = .ok (.iaload, 1) := by decide +kernel
theorem dX1_digest_100 : decode cX1_digest 100 = .ok (.istore 6, 2) := by decide +kernel
theorem dX1_digest_102 : decode cX1_digest 102 = .ok (.lload_n 1, 1) := by decide +kernel
theorem dX1_digest_103 : decode cX1_digest 103 = .ok (.ldc2_w 130, 3) := by decide +kernel
theorem dX1_digest_106 : decode cX1_digest 106 = .ok (.lmul, 1) := by decide +kernel
theorem dX1_digest_107 : decode cX1_digest 107 = .ok (.iload 6, 2) := by decide +kernel
theorem dX1_digest_109 : decode cX1_digest 109 = .ok (.i2l, 1) := by decide +kernel
theorem dX1_digest_110 : decode cX1_digest 110 = .ok (.ladd, 1) := by decide +kernel
theorem dX1_digest_111 : decode cX1_digest 111 = .ok (.lstore_n 1, 1) := by decide +kernel
theorem dX1_digest_112 : decode cX1_digest 112 = .ok (.iinc 5 1, 3) := by decide +kernel
theorem dX1_digest_115 : decode cX1_digest 115 = .ok (.goto (-26), 3) := by decide +kernel
theorem dX1_digest_118 : decode cX1_digest 118 = .ok (.aload_n 0, 1) := by decide +kernel
theorem dX1_digest_119 : decode cX1_digest 119 = .ok (.invokevirtual 113, 3) := by decide +kernel
theorem dX1_digest_122 : decode cX1_digest 122 = .ok (.iconst 0, 1) := by decide +kernel
theorem dX1_digest_123 : decode cX1_digest 123 = .ok (.istore_n 3, 1) := by decide +kernel
theorem dX1_digest_124 : decode cX1_digest 124 = .ok (.iload_n 3, 1) := by decide +kernel
theorem dX1_digest_125 : decode cX1_digest 125 = .ok (.aload_n 0, 1) := by decide +kernel
theorem dX1_digest_126 : decode cX1_digest 126 = .ok (.getfield 26, 3) := by decide +kernel
theorem dX1_digest_129 : decode cX1_digest 129 = .ok (.if_icmp .ge 105, 3) := by decide +kernel
theorem dX1_digest_132 : decode cX1_digest 132 = .ok (.iconst 0, 1) := by decide +kernel
theorem dX1_digest_133 : decode cX1_digest 133 = .ok (.istore 4, 2) := by decide +kernel
theorem dX1_digest_135 : decode cX1_digest 135 = .ok (.iload 4, 2) := by decide +kernel
theorem dX1_digest_137 : decode cX1_digest 137 = .ok (.bipush 8, 2) := by decide +kernel
theorem dX1_digest_139 : decode cX1_digest 139 = .ok (.if_icmp .ge 24, 3) := by decide +kernel
theorem dX1_digest_142 : decode cX1_digest 142 = .ok (.lload_n 1, 1) := by decide +kernel
theorem dX1_digest_143 : decode cX1_digest 143 = .ok (.ldc2_w 130, 3) := by decide +kernel
theorem dX1_digest_146 : decode cX1_digest 146 = .ok (.lmul, 1) := by decide +kernel
theorem dX1_digest_147 : decode cX1_digest 147 = .ok (.aload_n 0, 1) := by decide +kernel
theorem dX1_digest_148 : decode cX1_digest 148 = .ok (.iload_n 3, 1) := by decide +kernel
theorem dX1_digest_149 : decode cX1_digest 149 = .ok (.iload 4, 2) := by decide +kernel
theorem dX1_digest_151 : decode cX1_digest 151 = .ok (.invokevirtual 103, 3) := by decide +kernel
theorem dX1_digest_154 : decode cX1_digest 154 = .ok (.i2l, 1) := by decide +kernel
theorem dX1_digest_155 : decode cX1_digest 155 = .ok (.ladd, 1) := by decide +kernel
theorem dX1_digest_156 : decode cX1_digest 156 = .ok (.lstore_n 1, 1) := by decide +kernel
theorem dX1_digest_157 : decode cX1_digest 157 = .ok (.iinc 4 1, 3) := by decide +kernel
theorem dX1_digest_160 : decode cX1_digest 160 = .ok (.goto (-25), 3) := by decide +kernel
theorem dX1_digest_163 : decode cX1_digest 163 = .ok (.iconst 0, 1) := by decide +kernel
theorem dX1_digest_164 : decode cX1_digest 164 = .ok (.istore 4, 2) := by decide +kernel
theorem dX1_digest_166 : decode cX1_digest 166 = .ok (.iload 4, 2) := by decide +kernel
theorem dX1_digest_168 : decode cX1_digest 168 = .ok (.bipush 6, 2) := by decide +kernel
theorem dX1_digest_170 : decode cX1_digest 170 = .ok (.if_icmp .ge 24, 3) := by decide +kernel
theorem dX1_digest_173 : decode cX1_digest 173 = .ok (.lload_n 1, 1) := by decide +kernel
theorem dX1_digest_174 : decode cX1_digest 174 = .ok (.ldc2_w 130, 3) := by decide +kernel
theorem dX1_digest_177 : decode cX1_digest 177 = .ok (.lmul, 1) := by decide +kernel
theorem dX1_digest_178 : decode cX1_digest 178 = .ok (.aload_n 0, 1) := by decide +kernel
theorem dX1_digest_179 : decode cX1_digest 179 = .ok (.iload_n 3, 1) := by decide +kernel
theorem dX1_digest_180 : decode cX1_digest 180 = .ok (.iload 4, 2) := by decide +kernel
theorem dX1_digest_182 : decode cX1_digest 182 = .ok (.invokevirtual 106, 3) := by decide +kernel
theorem dX1_digest_185 : decode cX1_digest 185 = .ok (.i2l, 1) := by decide +kernel
theorem dX1_digest_186 : decode cX1_digest 186 = .ok (.ladd, 1) := by decide +kernel
theorem dX1_digest_187 : decode cX1_digest 187 = .ok (.lstore_n 1, 1) := by decide +kernel
theorem dX1_digest_188 : decode cX1_digest 188 = .ok (.iinc 4 1, 3) := by decide +kernel
theorem dX1_digest_191 : decode cX1_digest 191 = .ok (.goto (-25), 3) := by decide +kernel
theorem dX1_digest_194 : decode cX1_digest 194 = .ok (.iconst 0, 1) := by decide +kernel
theorem dX1_digest_195 : decode cX1_digest 195 = .ok (.istore 4, 2) := by decide +kernel
theorem dX1_digest_197 : decode cX1_digest 197 = .ok (.iload 4, 2) := by decide +kernel
theorem dX1_digest_199 : decode cX1_digest 199 = .ok (.iconst 3, 1) := by decide +kernel
theorem dX1_digest_200 : decode cX1_digest 200 = .ok (.if_icmp .ge 28, 3) := by decide +kernel
theorem dX1_digest_203 : decode cX1_digest 203 = .ok (.lload_n 1, 1) := by decide +kernel
theorem dX1_digest_204 : decode cX1_digest 204 = .ok (.ldc2_w 130, 3) := by decide +kernel
theorem dX1_digest_207 : decode cX1_digest 207 = .ok (.lmul, 1) := by decide +kernel
theorem dX1_digest_208 : decode cX1_digest 208 = .ok (.aload_n 0, 1) := by decide +kernel
theorem dX1_digest_209 : decode cX1_digest 209 = .ok (.getfield 19, 3) := by decide +kernel
theorem dX1_digest_212 : decode cX1_digest 212 = .ok (.iconst 3, 1) := by decide +kernel
theorem dX1_digest_213 : decode cX1_digest 213 = .ok (.iload_n 3, 1) := by decide +kernel
theorem dX1_digest_214 : decode cX1_digest 214 = .ok (.imul, 1) := by decide +kernel
theorem dX1_digest_215 : decode cX1_digest 215 = .ok (.iload 4, 2) := by decide +kernel
theorem dX1_digest_217 : decode cX1_digest 217 = .ok (.iadd, 1) := by decide +kernel
theorem dX1_digest_218 : decode cX1_digest 218 = .ok (.iaload, 1) := by decide +kernel
theorem dX1_digest_219 : decode cX1_digest 219 = .ok (.i2l, 1) := by decide +kernel
theorem dX1_digest_220 : decode cX1_digest 220 = .ok (.ladd, 1) := by decide +kernel
theorem dX1_digest_221 : decode cX1_digest 221 = .ok (.lstore_n 1, 1) := by decide +kernel
theorem dX1_digest_222 : decode cX1_digest 222 = .ok (.iinc 4 1, 3) := by decide +kernel
theorem dX1_digest_225 : decode cX1_digest 225 = .ok (.goto (-28), 3) := by decide +kernel
theorem dX1_digest_228 : decode cX1_digest 228 = .ok (.iinc 3 1, 3) := by decide +kernel
theorem dX1_digest_231 : decode cX1_digest 231 = .ok (.goto (-107), 3) := by decide +kernel
theorem dX1_digest_234 : decode cX1_digest 234 = .ok (.lload_n 1, 1) := by decide +kernel
theorem dX1_digest_235 : decode cX1_digest 235 = .ok (.lreturn, 1) := by decide +kernel

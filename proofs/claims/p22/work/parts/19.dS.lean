theorem dX1_init_0 : decode cX1_init 0 = .ok (.aload_n 0, 1) := by decide +kernel
theorem dX1_init_1 : decode cX1_init 1 = .ok (.invokespecial 1, 3) := by decide +kernel
theorem dX1_init_4 : decode cX1_init 4 = .ok (.return_, 1) := by decide +kernel
theorem dX1_copy_0 : decode cX1_copy 0 = .ok (.new 7, 3) := by decide +kernel
theorem dX1_copy_3 : decode cX1_copy 3 = .ok (.dup, 1) := by decide +kernel
theorem dX1_copy_4 : decode cX1_copy 4 = .ok (.invokespecial 9, 3) := by decide +kernel
theorem dX1_copy_7 : decode cX1_copy 7 = .ok (.astore_n 1, 1) := by decide +kernel
theorem dX1_copy_8 : decode cX1_copy 8 = .ok (.aload_n 1, 1) := by decide +kernel
theorem dX1_copy_9 : decode cX1_copy 9 = .ok (.aload_n 0, 1) := by decide +kernel
theorem dX1_copy_10 : decode cX1_copy 10 = .ok (.getfield 10, 3) := by decide +kernel
theorem dX1_copy_13 : decode cX1_copy 13 = .ok (.putfield 10, 3) := by decide +kernel
theorem dX1_copy_16 : decode cX1_copy 16 = .ok (.aload_n 1, 1) := by decide +kernel
theorem dX1_copy_17 : decode cX1_copy 17 = .ok (.aload_n 0, 1) := by decide +kernel
theorem dX1_copy_18 : decode cX1_copy 18 = .ok (.getfield 14, 3) := by decide +kernel
theorem dX1_copy_21 : decode cX1_copy 21 = .ok (.putfield 14, 3) := by decide +kernel
theorem dX1_copy_24 : decode cX1_copy 24 = .ok (.aload_n 1, 1) := by decide +kernel
theorem dX1_copy_25 : decode cX1_copy 25 = .ok (.aload_n 0, 1) := by decide +kernel
theorem dX1_copy_26 : decode cX1_copy 26 = .ok (.getfield 17, 3) := by decide +kernel
theorem dX1_copy_29 : decode cX1_copy 29 = .ok (.putfield 17, 3) := by decide +kernel
theorem dX1_copy_32 : decode cX1_copy 32 = .ok (.aload_n 1, 1) := by decide +kernel
theorem dX1_copy_33 : decode cX1_copy 33 = .ok (.aload_n 0, 1) := by decide +kernel
theorem dX1_copy_34 : decode cX1_copy 34 = .ok (.getfield 20, 3) := by decide +kernel
theorem dX1_copy_37 : decode cX1_copy 37 = .ok (.putfield 20, 3) := by decide +kernel
theorem dX1_copy_40 : decode cX1_copy 40 = .ok (.aload_n 1, 1) := by decide +kernel
theorem dX1_copy_41 : decode cX1_copy 41 = .ok (.aload_n 0, 1) := by decide +kernel
theorem dX1_copy_42 : decode cX1_copy 42 = .ok (.getfield 23, 3) := by decide +kernel
theorem dX1_copy_45 : decode cX1_copy 45 = .ok (.putfield 23, 3) := by decide +kernel
theorem dX1_copy_48 : decode cX1_copy 48 = .ok (.aload_n 1, 1) := by decide +kernel
theorem dX1_copy_49 : decode cX1_copy 49 = .ok (.aload_n 0, 1) := by decide +kernel
theorem dX1_copy_50 : decode cX1_copy 50 = .ok (.getfield 26, 3) := by decide +kernel
theorem dX1_copy_53 : decode cX1_copy 53 = .ok (.putfield 26, 3) := by decide +kernel
theorem dX1_copy_56 : decode cX1_copy 56 = .ok (.aload_n 1, 1) := by decide +kernel
theorem dX1_copy_57 : decode cX1_copy 57 = .ok (.aload_n 0, 1) := by decide +kernel
theorem dX1_copy_58 : decode cX1_copy 58 = .ok (.getfield 29, 3) := by decide +kernel
theorem dX1_copy_61 : decode cX1_copy 61 = .ok (.putfield 29, 3) := by decide +kernel
theorem dX1_copy_64 : decode cX1_copy 64 = .ok (.aload_n 1, 1) := by decide +kernel
theorem dX1_copy_65 : decode cX1_copy 65 = .ok (.areturn, 1) := by decide +kernel
theorem dX1_counting_0 : decode cX1_counting 0 = .ok (.aload_n 0, 1) := by decide +kernel
theorem dX1_counting_1 : decode cX1_counting 1 = .ok (.getfield 17, 3) := by decide +kernel
theorem dX1_counting_4 : decode cX1_counting 4 = .ok (.aload_n 0, 1) := by decide +kernel
theorem dX1_counting_5 : decode cX1_counting 5 = .ok (.getfield 20, 3) := by decide +kernel
theorem dX1_counting_8 : decode cX1_counting 8 = .ok (.iconst 2, 1) := by decide +kernel
theorem dX1_counting_9 : decode cX1_counting 9 = .ok (.idiv, 1) := by decide +kernel
theorem dX1_counting_10 : decode cX1_counting 10 = .ok (.isub, 1) := by decide +kernel
theorem dX1_counting_11 : decode cX1_counting 11 = .ok (.aload_n 0, 1) := by decide +kernel
theorem dX1_counting_12 : decode cX1_counting 12 = .ok (.getfield 20, 3) := by decide +kernel
theorem dX1_counting_15 : decode cX1_counting 15 = .ok (.iconst 2, 1) := by decide +kernel
theorem dX1_counting_16 : decode cX1_counting 16 = .ok (.irem, 1) := by decide +kernel
theorem dX1_counting_17 : decode cX1_counting 17 = .ok (.isub, 1) := by decide +kernel
theorem dX1_counting_18 : decode cX1_counting 18 = .ok (.istore_n 1, 1) := by decide +kernel
theorem dX1_counting_19 : decode cX1_counting 19 = .ok (.iload_n 1, 1) := by decide +kernel
theorem dX1_counting_20 : decode cX1_counting 20 = .ok (.ifCond .ge 5, 3) := by decide +kernel
theorem dX1_counting_23 : decode cX1_counting 23 = .ok (.iconst 0, 1) := by decide +kernel
theorem dX1_counting_24 : decode cX1_counting 24 = .ok (.istore_n 1, 1) := by decide +kernel
theorem dX1_counting_25 : decode cX1_counting 25 = .ok (.iload_n 1, 1) := by decide +kernel
theorem dX1_counting_26 : decode cX1_counting 26 = .ok (.bipush 60, 2) := by decide +kernel
theorem dX1_counting_28 : decode cX1_counting 28 = .ok (.if_icmp .gt 7, 3) := by decide +kernel
theorem dX1_counting_31 : decode cX1_counting 31 = .ok (.iload_n 1, 1) := by decide +kernel
theorem dX1_counting_32 : decode cX1_counting 32 = .ok (.goto 14, 3) := by decide +kernel
theorem dX1_counting_35 : decode cX1_counting 35 = .ok (.bipush 120, 2) := by decide +kernel
theorem dX1_counting_37 : decode cX1_counting 37 = .ok (.iconst 3, 1) := by decide +kernel
theorem dX1_counting_38 : decode cX1_counting 38 = .ok (.iload_n 1, 1) := by decide +kernel
theorem dX1_counting_39 : decode cX1_counting 39 = .ok (.bipush 60, 2) := by decide +kernel
theorem dX1_counting_41 : decode cX1_counting 41 = .ok (.isub, 1) := by decide +kernel
theorem dX1_counting_42 : decode cX1_counting 42 = .ok (.imul, 1) := by decide +kernel
theorem dX1_counting_43 : decode cX1_counting 43 = .ok (.iadd, 1) := by decide +kernel
theorem dX1_counting_44 : decode cX1_counting 44 = .ok (.iconst 2, 1) := by decide +kernel
theorem dX1_counting_45 : decode cX1_counting 45 = .ok (.idiv, 1) := by decide +kernel
theorem dX1_counting_46 : decode cX1_counting 46 = .ok (.ireturn, 1) := by decide +kernel
theorem dX1_pieces_0 : decode cX1_pieces 0 = .ok (.aload_n 0, 1) := by decide +kernel
theorem dX1_pieces_1 : decode cX1_pieces 1 = .ok (.getfield 14, 3) := by decide +kernel
theorem dX1_pieces_4 : decode cX1_pieces 4 = .ok (.aload_n 1, 1) := by decide +kernel
theorem dX1_pieces_5 : decode cX1_pieces 5 = .ok (.iconst 2, 1) := by decide +kernel
theorem dX1_pieces_6 : decode cX1_pieces 6 = .ok (.iaload, 1) := by decide +kernel
theorem dX1_pieces_7 : decode cX1_pieces 7 = .ok (.if_icmp .ge 10, 3) := by decide +kernel
theorem dX1_pieces_10 : decode cX1_pieces 10 = .ok (.aload_n 0, 1) := by decide +kernel
theorem dX1_pieces_11 : decode cX1_pieces 11 = .ok (.getfield 14, 3) := by decide +kernel
theorem dX1_pieces_14 : decode cX1_pieces 14 = .ok (.goto 6, 3) := by decide +kernel
theorem dX1_pieces_17 : decode cX1_pieces 17 = .ok (.aload_n 1, 1) := by decide +kernel
theorem dX1_pieces_18 : decode cX1_pieces 18 = .ok (.iconst 2, 1) := by decide +kernel
theorem dX1_pieces_19 : decode cX1_pieces 19 = .ok (.iaload, 1) := by decide +kernel
theorem dX1_pieces_20 : decode cX1_pieces 20 = .ok (.istore_n 2, 1) := by decide +kernel
theorem dX1_pieces_21 : decode cX1_pieces 21 = .ok (.aload_n 1, 1) := by decide +kernel
theorem dX1_pieces_22 : decode cX1_pieces 22 = .ok (.iconst 0, 1) := by decide +kernel
theorem dX1_pieces_23 : decode cX1_pieces 23 = .ok (.iaload, 1) := by decide +kernel
theorem dX1_pieces_24 : decode cX1_pieces 24 = .ok (.iload_n 2, 1) := by decide +kernel
theorem dX1_pieces_25 : decode cX1_pieces 25 = .ok (.imul, 1) := by decide +kernel
theorem dX1_pieces_26 : decode cX1_pieces 26 = .ok (.bipush 10, 2) := by decide +kernel
theorem dX1_pieces_28 : decode cX1_pieces 28 = .ok (.idiv, 1) := by decide +kernel
theorem dX1_pieces_29 : decode cX1_pieces 29 = .ok (.aload_n 1, 1) := by decide +kernel
theorem dX1_pieces_30 : decode cX1_pieces 30 = .ok (.iconst 0, 1) := by decide +kernel
theorem dX1_pieces_31 : decode cX1_pieces 31 = .ok (.iaload, 1) := by decide +kernel
theorem dX1_pieces_32 : decode cX1_pieces 32 = .ok (.aload_n 0, 1) := by decide +kernel
theorem dX1_pieces_33 : decode cX1_pieces 33 = .ok (.getfield 14, 3) := by decide +kernel
theorem dX1_pieces_36 : decode cX1_pieces 36 = .ok (.iload_n 2, 1) := by decide +kernel
theorem dX1_pieces_37 : decode cX1_pieces 37 = .ok (.isub, 1) := by decide +kernel
theorem dX1_pieces_38 : decode cX1_pieces 38 = .ok (.imul, 1) := by decide +kernel
theorem dX1_pieces_39 : decode cX1_pieces 39 = .ok (.bipush 100, 2) := by decide +kernel
theorem dX1_pieces_41 : decode cX1_pieces 41 = .ok (.aload_n 1, 1) := by decide +kernel
theorem dX1_pieces_42 : decode cX1_pieces 42 = .ok (.iconst 3, 1) := by decide +kernel
theorem dX1_pieces_43 : decode cX1_pieces 43 = .ok (.iaload, 1) := by decide +kernel
theorem dX1_pieces_44 : decode cX1_pieces 44 = .ok (.iadd, 1) := by decide +kernel
theorem dX1_pieces_45 : decode cX1_pieces 45 = .ok (.imul, 1) := by decide +kernel
theorem dX1_pieces_46 : decode cX1_pieces 46 = .ok (.sipush 1000, 3) := by decide +kernel
theorem dX1_pieces_49 : decode cX1_pieces 49 = .ok (.idiv, 1) := by decide +kernel
theorem dX1_pieces_50 : decode cX1_pieces 50 = .ok (.iadd, 1) := by decide +kernel
theorem dX1_pieces_51 : decode cX1_pieces 51 = .ok (.ireturn, 1) := by decide +kernel
theorem dX1_wage_0 : decode cX1_wage 0 = .ok (.aload_n 0, 1) := by decide +kernel
theorem dX1_wage_1 : decode cX1_wage 1 = .ok (.aload_n 1, 1) := by decide +kernel
theorem dX1_wage_2 : decode cX1_wage 2 = .ok (.invokevirtual 32, 3) := by decide +kernel
theorem dX1_wage_5 : decode cX1_wage 5 = .ok (.istore_n 2, 1) := by decide +kernel
theorem dX1_wage_6 : decode cX1_wage 6 = .ok (.aload_n 1, 1) := by decide +kernel
theorem dX1_wage_7 : decode cX1_wage 7 = .ok (.iconst 1, 1) := by decide +kernel
theorem dX1_wage_8 : decode cX1_wage 8 = .ok (.iaload, 1) := by decide +kernel
theorem dX1_wage_9 : decode cX1_wage 9 = .ok (.aload_n 0, 1) := by decide +kernel
theorem dX1_wage_10 : decode cX1_wage 10 = .ok (.invokevirtual 36, 3) := by decide +kernel
theorem dX1_wage_13 : decode cX1_wage 13 = .ok (.imul, 1) := by decide +kernel
theorem dX1_wage_14 : decode cX1_wage 14 = .ok (.istore_n 3, 1) := by decide +kernel
theorem dX1_wage_15 : decode cX1_wage 15 = .ok (.aload_n 0, 1) := by decide +kernel
theorem dX1_wage_16 : decode cX1_wage 16 = .ok (.getfield 10, 3) := by decide +kernel
theorem dX1_wage_19 : decode cX1_wage 19 = .ok (.ifCond .eq 16, 3) := by decide +kernel
theorem dX1_wage_22 : decode cX1_wage 22 = .ok (.aload_n 0, 1) := by decide +kernel
theorem dX1_wage_23 : decode cX1_wage 23 = .ok (.getfield 10, 3) := by decide +kernel
theorem dX1_wage_26 : decode cX1_wage 26 = .ok (.iconst 2, 1) := by decide +kernel
theorem dX1_wage_27 : decode cX1_wage 27 = .ok (.if_icmp .ne 12, 3) := by decide +kernel
theorem dX1_wage_30 : decode cX1_wage 30 = .ok (.iload_n 2, 1) := by decide +kernel
theorem dX1_wage_31 : decode cX1_wage 31 = .ok (.iload_n 3, 1) := by decide +kernel
theorem dX1_wage_32 : decode cX1_wage 32 = .ok (.if_icmp .le 7, 3) := by decide +kernel
theorem dX1_wage_35 : decode cX1_wage 35 = .ok (.iload_n 2, 1) := by decide +kernel
theorem dX1_wage_36 : decode cX1_wage 36 = .ok (.goto 4, 3) := by decide +kernel
theorem dX1_wage_39 : decode cX1_wage 39 = .ok (.iload_n 3, 1) := by decide +kernel
theorem dX1_wage_40 : decode cX1_wage 40 = .ok (.ireturn, 1) := by decide +kernel
theorem dX2_init_0 : decode cX2_init 0 = .ok (.aload_n 0, 1) := by decide +kernel
theorem dX2_init_1 : decode cX2_init 1 = .ok (.invokespecial 1, 3) := by decide +kernel
theorem dX2_init_4 : decode cX2_init 4 = .ok (.aload_n 0, 1) := by decide +kernel
theorem dX2_init_5 : decode cX2_init 5 = .ok (.iconst 5, 1) := by decide +kernel
theorem dX2_init_6 : decode cX2_init 6 = .ok (.newarray .int, 2) := by decide +kernel
theorem dX2_init_8 : decode cX2_init 8 = .ok (.dup, 1) := by decide +kernel
theorem dX2_init_9 : decode cX2_init 9 = .ok (.iconst 0, 1) := by decide +kernel
theorem dX2_init_10 : decode cX2_init 10 = .ok (.bipush 12, 2) := by decide +kernel
theorem dX2_init_12 : decode cX2_init 12 = .ok (.iastore, 1) := by decide +kernel
theorem dX2_init_13 : decode cX2_init 13 = .ok (.dup, 1) := by decide +kernel
theorem dX2_init_14 : decode cX2_init 14 = .ok (.iconst 1, 1) := by decide +kernel
theorem dX2_init_15 : decode cX2_init 15 = .ok (.bipush 20, 2) := by decide +kernel
theorem dX2_init_17 : decode cX2_init 17 = .ok (.iastore, 1) := by decide +kernel
theorem dX2_init_18 : decode cX2_init 18 = .ok (.dup, 1) := by decide +kernel
theorem dX2_init_19 : decode cX2_init 19 = .ok (.iconst 2, 1) := by decide +kernel
theorem dX2_init_20 : decode cX2_init 20 = .ok (.sipush 400, 3) := by decide +kernel
theorem dX2_init_23 : decode cX2_init 23 = .ok (.iastore, 1) := by decide +kernel
theorem dX2_init_24 : decode cX2_init 24 = .ok (.dup, 1) := by decide +kernel
theorem dX2_init_25 : decode cX2_init 25 = .ok (.iconst 3, 1) := by decide +kernel
theorem dX2_init_26 : decode cX2_init 26 = .ok (.bipush 25, 2) := by decide +kernel
theorem dX2_init_28 : decode cX2_init 28 = .ok (.iastore, 1) := by decide +kernel
theorem dX2_init_29 : decode cX2_init 29 = .ok (.dup, 1) := by decide +kernel
theorem dX2_init_30 : decode cX2_init 30 = .ok (.iconst 4, 1) := by decide +kernel
theorem dX2_init_31 : decode cX2_init 31 = .ok (.iconst 4, 1) := by decide +kernel
theorem dX2_init_32 : decode cX2_init 32 = .ok (.iastore, 1) := by decide +kernel
theorem dX2_init_33 : decode cX2_init 33 = .ok (.putfield 7, 3) := by decide +kernel
theorem dX2_init_36 : decode cX2_init 36 = .ok (.aload_n 0, 1) := by decide +kernel
theorem dX2_init_37 : decode cX2_init 37 = .ok (.iconst 3, 1) := by decide +kernel
theorem dX2_init_38 : decode cX2_init 38 = .ok (.newarray .int, 2) := by decide +kernel
theorem dX2_init_40 : decode cX2_init 40 = .ok (.putfield 13, 3) := by decide +kernel
theorem dX2_init_43 : decode cX2_init 43 = .ok (.aload_n 0, 1) := by decide +kernel
theorem dX2_init_44 : decode cX2_init 44 = .ok (.iconst 0, 1) := by decide +kernel
theorem dX2_init_45 : decode cX2_init 45 = .ok (.anewarray 16, 3) := by decide +kernel
theorem dX2_init_48 : decode cX2_init 48 = .ok (.putfield 18, 3) := by decide +kernel
theorem dX2_init_51 : decode cX2_init 51 = .ok (.return_, 1) := by decide +kernel
theorem dX2_copy_0 : decode cX2_copy 0 = .ok (.new 8, 3) := by decide +kernel
theorem dX2_copy_3 : decode cX2_copy 3 = .ok (.dup, 1) := by decide +kernel
theorem dX2_copy_4 : decode cX2_copy 4 = .ok (.invokespecial 22, 3) := by decide +kernel
theorem dX2_copy_7 : decode cX2_copy 7 = .ok (.astore_n 1, 1) := by decide +kernel
theorem dX2_copy_8 : decode cX2_copy 8 = .ok (.aload_n 1, 1) := by decide +kernel
theorem dX2_copy_9 : decode cX2_copy 9 = .ok (.aload_n 0, 1) := by decide +kernel
theorem dX2_copy_10 : decode cX2_copy 10 = .ok (.getfield 23, 3) := by decide +kernel
theorem dX2_copy_13 : decode cX2_copy 13 = .ok (.putfield 23, 3) := by decide +kernel
theorem dX2_copy_16 : decode cX2_copy 16 = .ok (.aload_n 1, 1) := by decide +kernel
theorem dX2_copy_17 : decode cX2_copy 17 = .ok (.aload_n 0, 1) := by decide +kernel
theorem dX2_copy_18 : decode cX2_copy 18 = .ok (.getfield 7, 3) := by decide +kernel
theorem dX2_copy_21 : decode cX2_copy 21 = .ok (.invokevirtual 27, 3) := by decide +kernel
theorem dX2_copy_24 : decode cX2_copy 24 = .ok (.checkcast 28, 3) := by decide +kernel
theorem dX2_copy_27 : decode cX2_copy 27 = .ok (.putfield 7, 3) := by decide +kernel
theorem dX2_copy_30 : decode cX2_copy 30 = .ok (.aload_n 1, 1) := by decide +kernel
theorem dX2_copy_31 : decode cX2_copy 31 = .ok (.aload_n 0, 1) := by decide +kernel
theorem dX2_copy_32 : decode cX2_copy 32 = .ok (.getfield 13, 3) := by decide +kernel
theorem dX2_copy_35 : decode cX2_copy 35 = .ok (.invokevirtual 27, 3) := by decide +kernel
theorem dX2_copy_38 : decode cX2_copy 38 = .ok (.checkcast 28, 3) := by decide +kernel
theorem dX2_copy_41 : decode cX2_copy 41 = .ok (.putfield 13, 3) := by decide +kernel
theorem dX2_copy_44 : decode cX2_copy 44 = .ok (.aload_n 1, 1) := by decide +kernel
theorem dX2_copy_45 : decode cX2_copy 45 = .ok (.aload_n 0, 1) := by decide +kernel
theorem dX2_copy_46 : decode cX2_copy 46 = .ok (.getfield 18, 3) := by decide +kernel
theorem dX2_copy_49 : decode cX2_copy 49 = .ok (.arraylength, 1) := by decide +kernel
theorem dX2_copy_50 : decode cX2_copy 50 = .ok (.anewarray 16, 3) := by decide +kernel
theorem dX2_copy_53 : decode cX2_copy 53 = .ok (.putfield 18, 3) := by decide +kernel
theorem dX2_copy_56 : decode cX2_copy 56 = .ok (.iconst 0, 1) := by decide +kernel
theorem dX2_copy_57 : decode cX2_copy 57 = .ok (.istore_n 2, 1) := by decide +kernel
theorem dX2_copy_58 : decode cX2_copy 58 = .ok (.iload_n 2, 1) := by decide +kernel
theorem dX2_copy_59 : decode cX2_copy 59 = .ok (.aload_n 0, 1) := by decide +kernel
theorem dX2_copy_60 : decode cX2_copy 60 = .ok (.getfield 18, 3) := by decide +kernel
theorem dX2_copy_63 : decode cX2_copy 63 = .ok (.arraylength, 1) := by decide +kernel
theorem dX2_copy_64 : decode cX2_copy 64 = .ok (.if_icmp .ge 24, 3) := by decide +kernel
theorem dX2_copy_67 : decode cX2_copy 67 = .ok (.aload_n 1, 1) := by decide +kernel
theorem dX2_copy_68 : decode cX2_copy 68 = .ok (.getfield 18, 3) := by decide +kernel
theorem dX2_copy_71 : decode cX2_copy 71 = .ok (.iload_n 2, 1) := by decide +kernel
theorem dX2_copy_72 : decode cX2_copy 72 = .ok (.aload_n 0, 1) := by decide +kernel
theorem dX2_copy_73 : decode cX2_copy 73 = .ok (.getfield 18, 3) := by decide +kernel
theorem dX2_copy_76 : decode cX2_copy 76 = .ok (.iload_n 2, 1) := by decide +kernel
theorem dX2_copy_77 : decode cX2_copy 77 = .ok (.aaload, 1) := by decide +kernel
theorem dX2_copy_78 : decode cX2_copy 78 = .ok (.invokevirtual 32, 3) := by decide +kernel
theorem dX2_copy_81 : decode cX2_copy 81 = .ok (.aastore, 1) := by decide +kernel
theorem dX2_copy_82 : decode cX2_copy 82 = .ok (.iinc 2 1, 3) := by decide +kernel
theorem dX2_copy_85 : decode cX2_copy 85 = .ok (.goto (-27), 3) := by decide +kernel
theorem dX2_copy_88 : decode cX2_copy 88 = .ok (.aload_n 1, 1) := by decide +kernel
theorem dX2_copy_89 : decode cX2_copy 89 = .ok (.areturn, 1) := by decide +kernel
theorem dX2_back_0 : decode cX2_back 0 = .ok (.aload_n 1, 1) := by decide +kernel
theorem dX2_back_1 : decode cX2_back 1 = .ok (.aload_n 0, 1) := by decide +kernel
theorem dX2_back_2 : decode cX2_back 2 = .ok (.getfield 7, 3) := by decide +kernel
theorem dX2_back_5 : decode cX2_back 5 = .ok (.invokevirtual 36, 3) := by decide +kernel
theorem dX2_back_8 : decode cX2_back 8 = .ok (.aload_n 1, 1) := by decide +kernel
theorem dX2_back_9 : decode cX2_back 9 = .ok (.getfield 40, 3) := by decide +kernel
theorem dX2_back_12 : decode cX2_back 12 = .ok (.iadd, 1) := by decide +kernel
theorem dX2_back_13 : decode cX2_back 13 = .ok (.aload_n 0, 1) := by decide +kernel
theorem dX2_back_14 : decode cX2_back 14 = .ok (.getfield 7, 3) := by decide +kernel
theorem dX2_back_17 : decode cX2_back 17 = .ok (.iconst 4, 1) := by decide +kernel
theorem dX2_back_18 : decode cX2_back 18 = .ok (.iaload, 1) := by decide +kernel
theorem dX2_back_19 : decode cX2_back 19 = .ok (.idiv, 1) := by decide +kernel
theorem dX2_back_20 : decode cX2_back 20 = .ok (.istore_n 2, 1) := by decide +kernel
theorem dX2_back_21 : decode cX2_back 21 = .ok (.aload_n 1, 1) := by decide +kernel
theorem dX2_back_22 : decode cX2_back 22 = .ok (.getfield 43, 3) := by decide +kernel
theorem dX2_back_25 : decode cX2_back 25 = .ok (.iload_n 2, 1) := by decide +kernel
theorem dX2_back_26 : decode cX2_back 26 = .ok (.if_icmp .ge 10, 3) := by decide +kernel
theorem dX2_back_29 : decode cX2_back 29 = .ok (.aload_n 1, 1) := by decide +kernel
theorem dX2_back_30 : decode cX2_back 30 = .ok (.getfield 43, 3) := by decide +kernel
theorem dX2_back_33 : decode cX2_back 33 = .ok (.goto 4, 3) := by decide +kernel
theorem dX2_back_36 : decode cX2_back 36 = .ok (.iload_n 2, 1) := by decide +kernel
theorem dX2_back_37 : decode cX2_back 37 = .ok (.ireturn, 1) := by decide +kernel
theorem dX2_pay_0 : decode cX2_pay 0 = .ok (.iconst 0, 1) := by decide +kernel
theorem dX2_pay_1 : decode cX2_pay 1 = .ok (.istore_n 1, 1) := by decide +kernel
theorem dX2_pay_2 : decode cX2_pay 2 = .ok (.aload_n 0, 1) := by decide +kernel
theorem dX2_pay_3 : decode cX2_pay 3 = .ok (.aload_n 0, 1) := by decide +kernel
theorem dX2_pay_4 : decode cX2_pay 4 = .ok (.getfield 18, 3) := by decide +kernel
theorem dX2_pay_7 : decode cX2_pay 7 = .ok (.arraylength, 1) := by decide +kernel
theorem dX2_pay_8 : decode cX2_pay 8 = .ok (.iconst 3, 1) := by decide +kernel
theorem dX2_pay_9 : decode cX2_pay 9 = .ok (.multianewarray 46 2, 4) := by decide +kernel
theorem dX2_pay_13 : decode cX2_pay 13 = .ok (.putfield 48, 3) := by decide +kernel
theorem dX2_pay_16 : decode cX2_pay 16 = .ok (.iconst 0, 1) := by decide +kernel
theorem dX2_pay_17 : decode cX2_pay 17 = .ok (.istore_n 2, 1) := by decide +kernel
theorem dX2_pay_18 : decode cX2_pay 18 = .ok (.iload_n 2, 1) := by decide +kernel
theorem dX2_pay_19 : decode cX2_pay 19 = .ok (.aload_n 0, 1) := by decide +kernel
theorem dX2_pay_20 : decode cX2_pay 20 = .ok (.getfield 18, 3) := by decide +kernel
theorem dX2_pay_23 : decode cX2_pay 23 = .ok (.arraylength, 1) := by decide +kernel
theorem dX2_pay_24 : decode cX2_pay 24 = .ok (.if_icmp .ge 186, 3) := by decide +kernel
theorem dX2_pay_27 : decode cX2_pay 27 = .ok (.aload_n 0, 1) := by decide +kernel
theorem dX2_pay_28 : decode cX2_pay 28 = .ok (.getfield 18, 3) := by decide +kernel
theorem dX2_pay_31 : decode cX2_pay 31 = .ok (.iload_n 2, 1) := by decide +kernel
theorem dX2_pay_32 : decode cX2_pay 32 = .ok (.aaload, 1) := by decide +kernel
theorem dX2_pay_33 : decode cX2_pay 33 = .ok (.astore_n 3, 1) := by decide +kernel
theorem dX2_pay_34 : decode cX2_pay 34 = .ok (.aload_n 0, 1) := by decide +kernel
theorem dX2_pay_35 : decode cX2_pay 35 = .ok (.aload_n 3, 1) := by decide +kernel
theorem dX2_pay_36 : decode cX2_pay 36 = .ok (.invokevirtual 51, 3) := by decide +kernel
theorem dX2_pay_39 : decode cX2_pay 39 = .ok (.istore 4, 2) := by decide +kernel
theorem dX2_pay_41 : decode cX2_pay 41 = .ok (.aload_n 3, 1) := by decide +kernel
theorem dX2_pay_42 : decode cX2_pay 42 = .ok (.aload_n 0, 1) := by decide +kernel
theorem dX2_pay_43 : decode cX2_pay 43 = .ok (.getfield 7, 3) := by decide +kernel
theorem dX2_pay_46 : decode cX2_pay 46 = .ok (.invokevirtual 36, 3) := by decide +kernel
theorem dX2_pay_49 : decode cX2_pay 49 = .ok (.aload_n 3, 1) := by decide +kernel
theorem dX2_pay_50 : decode cX2_pay 50 = .ok (.getfield 40, 3) := by decide +kernel
theorem dX2_pay_53 : decode cX2_pay 53 = .ok (.iadd, 1) := by decide +kernel
theorem dX2_pay_54 : decode cX2_pay 54 = .ok (.iload 4, 2) := by decide +kernel
theorem dX2_pay_56 : decode cX2_pay 56 = .ok (.isub, 1) := by decide +kernel
theorem dX2_pay_57 : decode cX2_pay 57 = .ok (.istore 5, 2) := by decide +kernel
theorem dX2_pay_59 : decode cX2_pay 59 = .ok (.aload_n 3, 1) := by decide +kernel
theorem dX2_pay_60 : decode cX2_pay 60 = .ok (.dup, 1) := by decide +kernel
theorem dX2_pay_61 : decode cX2_pay 61 = .ok (.getfield 43, 3) := by decide +kernel
theorem dX2_pay_64 : decode cX2_pay 64 = .ok (.iload 4, 2) := by decide +kernel
theorem dX2_pay_66 : decode cX2_pay 66 = .ok (.isub, 1) := by decide +kernel
theorem dX2_pay_67 : decode cX2_pay 67 = .ok (.putfield 43, 3) := by decide +kernel
theorem dX2_pay_70 : decode cX2_pay 70 = .ok (.iconst 3, 1) := by decide +kernel
theorem dX2_pay_71 : decode cX2_pay 71 = .ok (.newarray .int, 2) := by decide +kernel
theorem dX2_pay_73 : decode cX2_pay 73 = .ok (.dup, 1) := by decide +kernel
theorem dX2_pay_74 : decode cX2_pay 74 = .ok (.iconst 0, 1) := by decide +kernel
theorem dX2_pay_75 : decode cX2_pay 75 = .ok (.bipush 120, 2) := by decide +kernel
theorem dX2_pay_77 : decode cX2_pay 77 = .ok (.iastore, 1) := by decide +kernel
theorem dX2_pay_78 : decode cX2_pay 78 = .ok (.dup, 1) := by decide +kernel
theorem dX2_pay_79 : decode cX2_pay 79 = .ok (.iconst 1, 1) := by decide +kernel
theorem dX2_pay_80 : decode cX2_pay 80 = .ok (.bipush 48, 2) := by decide +kernel
theorem dX2_pay_82 : decode cX2_pay 82 = .ok (.iastore, 1) := by decide +kernel
theorem dX2_pay_83 : decode cX2_pay 83 = .ok (.dup, 1) := by decide +kernel
theorem dX2_pay_84 : decode cX2_pay 84 = .ok (.iconst 2, 1) := by decide +kernel
theorem dX2_pay_85 : decode cX2_pay 85 = .ok (.iconst 4, 1) := by decide +kernel
theorem dX2_pay_86 : decode cX2_pay 86 = .ok (.iastore, 1) := by decide +kernel
theorem dX2_pay_87 : decode cX2_pay 87 = .ok (.astore 6, 2) := by decide +kernel
theorem dX2_pay_89 : decode cX2_pay 89 = .ok (.iconst 0, 1) := by decide +kernel
theorem dX2_pay_90 : decode cX2_pay 90 = .ok (.istore 7, 2) := by decide +kernel
theorem dX2_pay_92 : decode cX2_pay 92 = .ok (.iload 7, 2) := by decide +kernel
theorem dX2_pay_94 : decode cX2_pay 94 = .ok (.iconst 3, 1) := by decide +kernel
theorem dX2_pay_95 : decode cX2_pay 95 = .ok (.if_icmp .ge 88, 3) := by decide +kernel
theorem dX2_pay_98 : decode cX2_pay 98 = .ok (.iload 5, 2) := by decide +kernel
theorem dX2_pay_100 : decode cX2_pay 100 = .ok (.aload 6, 2) := by decide +kernel
theorem dX2_pay_102 : decode cX2_pay 102 = .ok (.iload 7, 2) := by decide +kernel
theorem dX2_pay_104 : decode cX2_pay 104 = .ok (.iaload, 1) := by decide +kernel
theorem dX2_pay_105 : decode cX2_pay 105 = .ok (.if_icmp .lt 72, 3) := by decide +kernel
theorem dX2_pay_108 : decode cX2_pay 108 = .ok (.aload_n 0, 1) := by decide +kernel
theorem dX2_pay_109 : decode cX2_pay 109 = .ok (.getfield 13, 3) := by decide +kernel
theorem dX2_pay_112 : decode cX2_pay 112 = .ok (.iload 7, 2) := by decide +kernel
theorem dX2_pay_114 : decode cX2_pay 114 = .ok (.iaload, 1) := by decide +kernel
theorem dX2_pay_115 : decode cX2_pay 115 = .ok (.ifCond .le 62, 3) := by decide +kernel
theorem dX2_pay_118 : decode cX2_pay 118 = .ok (.iload 5, 2) := by decide +kernel
theorem dX2_pay_120 : decode cX2_pay 120 = .ok (.aload 6, 2) := by decide +kernel
theorem dX2_pay_122 : decode cX2_pay 122 = .ok (.iload 7, 2) := by decide +kernel
theorem dX2_pay_124 : decode cX2_pay 124 = .ok (.iaload, 1) := by decide +kernel
theorem dX2_pay_125 : decode cX2_pay 125 = .ok (.isub, 1) := by decide +kernel
theorem dX2_pay_126 : decode cX2_pay 126 = .ok (.istore 5, 2) := by decide +kernel
theorem dX2_pay_128 : decode cX2_pay 128 = .ok (.aload_n 0, 1) := by decide +kernel
theorem dX2_pay_129 : decode cX2_pay 129 = .ok (.getfield 13, 3) := by decide +kernel
theorem dX2_pay_132 : decode cX2_pay 132 = .ok (.iload 7, 2) := by decide +kernel
theorem dX2_pay_134 : decode cX2_pay 134 = .ok (.dup2, 1) := by decide +kernel
theorem dX2_pay_135 : decode cX2_pay 135 = .ok (.iaload, 1) := by decide +kernel
theorem dX2_pay_136 : decode cX2_pay 136 = .ok (.iconst 1, 1) := by decide +kernel
theorem dX2_pay_137 : decode cX2_pay 137 = .ok (.isub, 1) := by decide +kernel
theorem dX2_pay_138 : decode cX2_pay 138 = .ok (.iastore, 1) := by decide +kernel
theorem dX2_pay_139 : decode cX2_pay 139 = .ok (.aload_n 0, 1) := by decide +kernel
theorem dX2_pay_140 : decode cX2_pay 140 = .ok (.getfield 48, 3) := by decide +kernel
theorem dX2_pay_143 : decode cX2_pay 143 = .ok (.iload_n 2, 1) := by decide +kernel
theorem dX2_pay_144 : decode cX2_pay 144 = .ok (.aaload, 1) := by decide +kernel
theorem dX2_pay_145 : decode cX2_pay 145 = .ok (.iload 7, 2) := by decide +kernel
theorem dX2_pay_147 : decode cX2_pay 147 = .ok (.dup2, 1) := by decide +kernel
theorem dX2_pay_148 : decode cX2_pay 148 = .ok (.iaload, 1) := by decide +kernel
theorem dX2_pay_149 : decode cX2_pay 149 = .ok (.iconst 1, 1) := by decide +kernel
theorem dX2_pay_150 : decode cX2_pay 150 = .ok (.iadd, 1) := by decide +kernel
theorem dX2_pay_151 : decode cX2_pay 151 = .ok (.iastore, 1) := by decide +kernel
theorem dX2_pay_152 : decode cX2_pay 152 = .ok (.aload_n 3, 1) := by decide +kernel
theorem dX2_pay_153 : decode cX2_pay 153 = .ok (.dup, 1) := by decide +kernel
theorem dX2_pay_154 : decode cX2_pay 154 = .ok (.getfield 55, 3) := by decide +kernel
theorem dX2_pay_157 : decode cX2_pay 157 = .ok (.aload 6, 2) := by decide +kernel
theorem dX2_pay_159 : decode cX2_pay 159 = .ok (.iload 7, 2) := by decide +kernel
theorem dX2_pay_161 : decode cX2_pay 161 = .ok (.iaload, 1) := by decide +kernel
theorem dX2_pay_162 : decode cX2_pay 162 = .ok (.iadd, 1) := by decide +kernel
theorem dX2_pay_163 : decode cX2_pay 163 = .ok (.putfield 55, 3) := by decide +kernel
theorem dX2_pay_166 : decode cX2_pay 166 = .ok (.iload_n 1, 1) := by decide +kernel
theorem dX2_pay_167 : decode cX2_pay 167 = .ok (.aload 6, 2) := by decide +kernel
theorem dX2_pay_169 : decode cX2_pay 169 = .ok (.iload 7, 2) := by decide +kernel
theorem dX2_pay_171 : decode cX2_pay 171 = .ok (.iaload, 1) := by decide +kernel
theorem dX2_pay_172 : decode cX2_pay 172 = .ok (.iadd, 1) := by decide +kernel
theorem dX2_pay_173 : decode cX2_pay 173 = .ok (.istore_n 1, 1) := by decide +kernel
theorem dX2_pay_174 : decode cX2_pay 174 = .ok (.goto (-76), 3) := by decide +kernel
theorem dX2_pay_177 : decode cX2_pay 177 = .ok (.iinc 7 1, 3) := by decide +kernel
theorem dX2_pay_180 : decode cX2_pay 180 = .ok (.goto (-88), 3) := by decide +kernel
theorem dX2_pay_183 : decode cX2_pay 183 = .ok (.aload_n 3, 1) := by decide +kernel
theorem dX2_pay_184 : decode cX2_pay 184 = .ok (.iload 5, 2) := by decide +kernel
theorem dX2_pay_186 : decode cX2_pay 186 = .ok (.putfield 40, 3) := by decide +kernel
theorem dX2_pay_189 : decode cX2_pay 189 = .ok (.aload_n 3, 1) := by decide +kernel
theorem dX2_pay_190 : decode cX2_pay 190 = .ok (.iconst 0, 1) := by decide +kernel
theorem dX2_pay_191 : decode cX2_pay 191 = .ok (.putfield 58, 3) := by decide +kernel
theorem dX2_pay_194 : decode cX2_pay 194 = .ok (.aload_n 3, 1) := by decide +kernel
theorem dX2_pay_195 : decode cX2_pay 195 = .ok (.iconst 0, 1) := by decide +kernel
theorem dX2_pay_196 : decode cX2_pay 196 = .ok (.putfield 61, 3) := by decide +kernel
theorem dX2_pay_199 : decode cX2_pay 199 = .ok (.aload_n 3, 1) := by decide +kernel
theorem dX2_pay_200 : decode cX2_pay 200 = .ok (.iconst 0, 1) := by decide +kernel
theorem dX2_pay_201 : decode cX2_pay 201 = .ok (.putfield 64, 3) := by decide +kernel
theorem dX2_pay_204 : decode cX2_pay 204 = .ok (.iinc 2 1, 3) := by decide +kernel
theorem dX2_pay_207 : decode cX2_pay 207 = .ok (.goto (-189), 3) := by decide +kernel
theorem dX2_pay_210 : decode cX2_pay 210 = .ok (.aload_n 0, 1) := by decide +kernel
theorem dX2_pay_211 : decode cX2_pay 211 = .ok (.dup, 1) := by decide +kernel
theorem dX2_pay_212 : decode cX2_pay 212 = .ok (.getfield 23, 3) := by decide +kernel
theorem dX2_pay_215 : decode cX2_pay 215 = .ok (.iconst 1, 1) := by decide +kernel
theorem dX2_pay_216 : decode cX2_pay 216 = .ok (.iadd, 1) := by decide +kernel
theorem dX2_pay_217 : decode cX2_pay 217 = .ok (.putfield 23, 3) := by decide +kernel
theorem dX2_pay_220 : decode cX2_pay 220 = .ok (.iload_n 1, 1) := by decide +kernel
theorem dX2_pay_221 : decode cX2_pay 221 = .ok (.ireturn, 1) := by decide +kernel
theorem dX2_wages_0 : decode cX2_wages 0 = .ok (.iconst 0, 1) := by decide +kernel
theorem dX2_wages_1 : decode cX2_wages 1 = .ok (.istore_n 1, 1) := by decide +kernel
theorem dX2_wages_2 : decode cX2_wages 2 = .ok (.aload_n 0, 1) := by decide +kernel
theorem dX2_wages_3 : decode cX2_wages 3 = .ok (.getfield 18, 3) := by decide +kernel
theorem dX2_wages_6 : decode cX2_wages 6 = .ok (.astore_n 2, 1) := by decide +kernel
theorem dX2_wages_7 : decode cX2_wages 7 = .ok (.aload_n 2, 1) := by decide +kernel
theorem dX2_wages_8 : decode cX2_wages 8 = .ok (.arraylength, 1) := by decide +kernel
theorem dX2_wages_9 : decode cX2_wages 9 = .ok (.istore_n 3, 1) := by decide +kernel
theorem dX2_wages_10 : decode cX2_wages 10 = .ok (.iconst 0, 1) := by decide +kernel
theorem dX2_wages_11 : decode cX2_wages 11 = .ok (.istore 4, 2) := by decide +kernel
theorem dX2_wages_13 : decode cX2_wages 13 = .ok (.iload 4, 2) := by decide +kernel
theorem dX2_wages_15 : decode cX2_wages 15 = .ok (.iload_n 3, 1) := by decide +kernel
theorem dX2_wages_16 : decode cX2_wages 16 = .ok (.if_icmp .ge 27, 3) := by decide +kernel
theorem dX2_wages_19 : decode cX2_wages 19 = .ok (.aload_n 2, 1) := by decide +kernel
theorem dX2_wages_20 : decode cX2_wages 20 = .ok (.iload 4, 2) := by decide +kernel
theorem dX2_wages_22 : decode cX2_wages 22 = .ok (.aaload, 1) := by decide +kernel
theorem dX2_wages_23 : decode cX2_wages 23 = .ok (.astore 5, 2) := by decide +kernel
theorem dX2_wages_25 : decode cX2_wages 25 = .ok (.iload_n 1, 1) := by decide +kernel
theorem dX2_wages_26 : decode cX2_wages 26 = .ok (.aload 5, 2) := by decide +kernel
theorem dX2_wages_28 : decode cX2_wages 28 = .ok (.aload_n 0, 1) := by decide +kernel
theorem dX2_wages_29 : decode cX2_wages 29 = .ok (.getfield 7, 3) := by decide +kernel
theorem dX2_wages_32 : decode cX2_wages 32 = .ok (.invokevirtual 36, 3) := by decide +kernel
theorem dX2_wages_35 : decode cX2_wages 35 = .ok (.iadd, 1) := by decide +kernel
theorem dX2_wages_36 : decode cX2_wages 36 = .ok (.istore_n 1, 1) := by decide +kernel
theorem dX2_wages_37 : decode cX2_wages 37 = .ok (.iinc 4 1, 3) := by decide +kernel
theorem dX2_wages_40 : decode cX2_wages 40 = .ok (.goto (-27), 3) := by decide +kernel
theorem dX2_wages_43 : decode cX2_wages 43 = .ok (.iload_n 1, 1) := by decide +kernel
theorem dX2_wages_44 : decode cX2_wages 44 = .ok (.ireturn, 1) := by decide +kernel
theorem dX2_isSame_0 : decode cX2_isSame 0 = .ok (.iconst 0, 1) := by decide +kernel
theorem dX2_isSame_1 : decode cX2_isSame 1 = .ok (.istore_n 2, 1) := by decide +kernel
theorem dX2_isSame_2 : decode cX2_isSame 2 = .ok (.iconst 0, 1) := by decide +kernel
theorem dX2_isSame_3 : decode cX2_isSame 3 = .ok (.istore_n 3, 1) := by decide +kernel
theorem dX2_isSame_4 : decode cX2_isSame 4 = .ok (.iconst 0, 1) := by decide +kernel
theorem dX2_isSame_5 : decode cX2_isSame 5 = .ok (.istore 4, 2) := by decide +kernel
theorem dX2_isSame_7 : decode cX2_isSame 7 = .ok (.aload_n 0, 1) := by decide +kernel
theorem dX2_isSame_8 : decode cX2_isSame 8 = .ok (.invokevirtual 67, 3) := by decide +kernel
theorem dX2_isSame_11 : decode cX2_isSame 11 = .ok (.astore 5, 2) := by decide +kernel
theorem dX2_isSame_13 : decode cX2_isSame 13 = .ok (.aload 5, 2) := by decide +kernel
theorem dX2_isSame_15 : decode cX2_isSame 15 = .ok (.invokevirtual 70, 3) := by decide +kernel
theorem dX2_isSame_18 : decode cX2_isSame 18 = .ok (.pop, 1) := by decide +kernel
theorem dX2_isSame_19 : decode cX2_isSame 19 = .ok (.iconst 0, 1) := by decide +kernel
theorem dX2_isSame_20 : decode cX2_isSame 20 = .ok (.istore 6, 2) := by decide +kernel
theorem dX2_isSame_22 : decode cX2_isSame 22 = .ok (.iload 6, 2) := by decide +kernel
theorem dX2_isSame_24 : decode cX2_isSame 24 = .ok (.aload_n 0, 1) := by decide +kernel
theorem dX2_isSame_25 : decode cX2_isSame 25 = .ok (.getfield 18, 3) := by decide +kernel
theorem dX2_isSame_28 : decode cX2_isSame 28 = .ok (.arraylength, 1) := by decide +kernel
theorem dX2_isSame_29 : decode cX2_isSame 29 = .ok (.if_icmp .ge 311, 3) := by decide +kernel
theorem dX2_isSame_32 : decode cX2_isSame 32 = .ok (.aload_n 0, 1) := by decide +kernel
theorem dX2_isSame_33 : decode cX2_isSame 33 = .ok (.getfield 18, 3) := by decide +kernel
theorem dX2_isSame_36 : decode cX2_isSame 36 = .ok (.iload 6, 2) := by decide +kernel
theorem dX2_isSame_38 : decode cX2_isSame 38 = .ok (.aaload, 1) := by decide +kernel
theorem dX2_isSame_39 : decode cX2_isSame 39 = .ok (.astore 7, 2) := by decide +kernel
theorem dX2_isSame_41 : decode cX2_isSame 41 = .ok (.bipush 8, 2) := by decide +kernel
theorem dX2_isSame_43 : decode cX2_isSame 43 = .ok (.newarray .int, 2) := by decide +kernel
theorem dX2_isSame_45 : decode cX2_isSame 45 = .ok (.dup, 1) := by decide +kernel
theorem dX2_isSame_46 : decode cX2_isSame 46 = .ok (.iconst 0, 1) := by decide +kernel
theorem dX2_isSame_47 : decode cX2_isSame 47 = .ok (.aload 7, 2) := by decide +kernel
theorem dX2_isSame_49 : decode cX2_isSame 49 = .ok (.getfield 74, 3) := by decide +kernel
theorem dX2_isSame_52 : decode cX2_isSame 52 = .ok (.iastore, 1) := by decide +kernel
theorem dX2_isSame_53 : decode cX2_isSame 53 = .ok (.dup, 1) := by decide +kernel
theorem dX2_isSame_54 : decode cX2_isSame 54 = .ok (.iconst 1, 1) := by decide +kernel
theorem dX2_isSame_55 : decode cX2_isSame 55 = .ok (.aload 7, 2) := by decide +kernel
theorem dX2_isSame_57 : decode cX2_isSame 57 = .ok (.getfield 58, 3) := by decide +kernel
theorem dX2_isSame_60 : decode cX2_isSame 60 = .ok (.iastore, 1) := by decide +kernel
theorem dX2_isSame_61 : decode cX2_isSame 61 = .ok (.dup, 1) := by decide +kernel
theorem dX2_isSame_62 : decode cX2_isSame 62 = .ok (.iconst 2, 1) := by decide +kernel
theorem dX2_isSame_63 : decode cX2_isSame 63 = .ok (.aload 7, 2) := by decide +kernel
theorem dX2_isSame_65 : decode cX2_isSame 65 = .ok (.getfield 61, 3) := by decide +kernel
theorem dX2_isSame_68 : decode cX2_isSame 68 = .ok (.iastore, 1) := by decide +kernel
theorem dX2_isSame_69 : decode cX2_isSame 69 = .ok (.dup, 1) := by decide +kernel
theorem dX2_isSame_70 : decode cX2_isSame 70 = .ok (.iconst 3, 1) := by decide +kernel
theorem dX2_isSame_71 : decode cX2_isSame 71 = .ok (.aload 7, 2) := by decide +kernel
theorem dX2_isSame_73 : decode cX2_isSame 73 = .ok (.getfield 64, 3) := by decide +kernel
theorem dX2_isSame_76 : decode cX2_isSame 76 = .ok (.iastore, 1) := by decide +kernel
theorem dX2_isSame_77 : decode cX2_isSame 77 = .ok (.dup, 1) := by decide +kernel
theorem dX2_isSame_78 : decode cX2_isSame 78 = .ok (.iconst 4, 1) := by decide +kernel
theorem dX2_isSame_79 : decode cX2_isSame 79 = .ok (.aload 7, 2) := by decide +kernel
theorem dX2_isSame_81 : decode cX2_isSame 81 = .ok (.getfield 43, 3) := by decide +kernel
theorem dX2_isSame_84 : decode cX2_isSame 84 = .ok (.iastore, 1) := by decide +kernel
theorem dX2_isSame_85 : decode cX2_isSame 85 = .ok (.dup, 1) := by decide +kernel
theorem dX2_isSame_86 : decode cX2_isSame 86 = .ok (.iconst 5, 1) := by decide +kernel
theorem dX2_isSame_87 : decode cX2_isSame 87 = .ok (.aload 7, 2) := by decide +kernel
theorem dX2_isSame_89 : decode cX2_isSame 89 = .ok (.getfield 40, 3) := by decide +kernel
theorem dX2_isSame_92 : decode cX2_isSame 92 = .ok (.iastore, 1) := by decide +kernel
theorem dX2_isSame_93 : decode cX2_isSame 93 = .ok (.dup, 1) := by decide +kernel
theorem dX2_isSame_94 : decode cX2_isSame 94 = .ok (.bipush 6, 2) := by decide +kernel
theorem dX2_isSame_96 : decode cX2_isSame 96 = .ok (.aload 7, 2) := by decide +kernel
theorem dX2_isSame_98 : decode cX2_isSame 98 = .ok (.getfield 55, 3) := by decide +kernel
theorem dX2_isSame_101 : decode cX2_isSame 101 = .ok (.iastore, 1) := by decide +kernel
theorem dX2_isSame_102 : decode cX2_isSame 102 = .ok (.dup, 1) := by decide +kernel
theorem dX2_isSame_103 : decode cX2_isSame 103 = .ok (.bipush 7, 2) := by decide +kernel
theorem dX2_isSame_105 : decode cX2_isSame 105 = .ok (.aload 7, 2) := by decide +kernel
theorem dX2_isSame_107 : decode cX2_isSame 107 = .ok (.invokevirtual 77, 3) := by decide +kernel
theorem dX2_isSame_110 : decode cX2_isSame 110 = .ok (.iastore, 1) := by decide +kernel
theorem dX2_isSame_111 : decode cX2_isSame 111 = .ok (.astore 8, 2) := by decide +kernel
theorem dX2_isSame_113 : decode cX2_isSame 113 = .ok (.iconst 0, 1) := by decide +kernel
theorem dX2_isSame_114 : decode cX2_isSame 114 = .ok (.istore 9, 2) := by decide +kernel
theorem dX2_isSame_116 : decode cX2_isSame 116 = .ok (.iload 9, 2) := by decide +kernel
theorem dX2_isSame_118 : decode cX2_isSame 118 = .ok (.bipush 8, 2) := by decide +kernel
theorem dX2_isSame_120 : decode cX2_isSame 120 = .ok (.if_icmp .ge 27, 3) := by decide +kernel
theorem dX2_isSame_123 : decode cX2_isSame 123 = .ok (.aload_n 1, 1) := by decide +kernel
theorem dX2_isSame_124 : decode cX2_isSame 124 = .ok (.iload 6, 2) := by decide +kernel
theorem dX2_isSame_126 : decode cX2_isSame 126 = .ok (.iload 9, 2) := by decide +kernel
theorem dX2_isSame_128 : decode cX2_isSame 128 = .ok (.invokevirtual 80, 3) := by decide +kernel
theorem dX2_isSame_131 : decode cX2_isSame 131 = .ok (.aload 8, 2) := by decide +kernel
theorem dX2_isSame_133 : decode cX2_isSame 133 = .ok (.iload 9, 2) := by decide +kernel
theorem dX2_isSame_135 : decode cX2_isSame 135 = .ok (.iaload, 1) := by decide +kernel
theorem dX2_isSame_136 : decode cX2_isSame 136 = .ok (.if_icmp .eq 5, 3) := by decide +kernel
theorem dX2_isSame_139 : decode cX2_isSame 139 = .ok (.iconst 0, 1) := by decide +kernel
theorem dX2_isSame_140 : decode cX2_isSame 140 = .ok (.ireturn, 1) := by decide +kernel
theorem dX2_isSame_141 : decode cX2_isSame 141 = .ok (.iinc 9 1, 3) := by decide +kernel
theorem dX2_isSame_144 : decode cX2_isSame 144 = .ok (.goto (-28), 3) := by decide +kernel
theorem dX2_isSame_147 : decode cX2_isSame 147 = .ok (.aload 7, 2) := by decide +kernel
theorem dX2_isSame_149 : decode cX2_isSame 149 = .ok (.aload_n 0, 1) := by decide +kernel
theorem dX2_isSame_150 : decode cX2_isSame 150 = .ok (.getfield 7, 3) := by decide +kernel
theorem dX2_isSame_153 : decode cX2_isSame 153 = .ok (.invokevirtual 36, 3) := by decide +kernel
theorem dX2_isSame_156 : decode cX2_isSame 156 = .ok (.aload 7, 2) := by decide +kernel
theorem dX2_isSame_158 : decode cX2_isSame 158 = .ok (.getfield 40, 3) := by decide +kernel
theorem dX2_isSame_161 : decode cX2_isSame 161 = .ok (.iadd, 1) := by decide +kernel
theorem dX2_isSame_162 : decode cX2_isSame 162 = .ok (.istore 9, 2) := by decide +kernel
theorem dX2_isSame_164 : decode cX2_isSame 164 = .ok (.bipush 6, 2) := by decide +kernel
theorem dX2_isSame_166 : decode cX2_isSame 166 = .ok (.newarray .int, 2) := by decide +kernel
theorem dX2_isSame_168 : decode cX2_isSame 168 = .ok (.dup, 1) := by decide +kernel
theorem dX2_isSame_169 : decode cX2_isSame 169 = .ok (.iconst 0, 1) := by decide +kernel
theorem dX2_isSame_170 : decode cX2_isSame 170 = .ok (.aload 7, 2) := by decide +kernel
theorem dX2_isSame_172 : decode cX2_isSame 172 = .ok (.aload_n 0, 1) := by decide +kernel
theorem dX2_isSame_173 : decode cX2_isSame 173 = .ok (.getfield 7, 3) := by decide +kernel
theorem dX2_isSame_176 : decode cX2_isSame 176 = .ok (.invokevirtual 86, 3) := by decide +kernel
theorem dX2_isSame_179 : decode cX2_isSame 179 = .ok (.iastore, 1) := by decide +kernel
theorem dX2_isSame_180 : decode cX2_isSame 180 = .ok (.dup, 1) := by decide +kernel
theorem dX2_isSame_181 : decode cX2_isSame 181 = .ok (.iconst 1, 1) := by decide +kernel
theorem dX2_isSame_182 : decode cX2_isSame 182 = .ok (.aload_n 0, 1) := by decide +kernel
theorem dX2_isSame_183 : decode cX2_isSame 183 = .ok (.getfield 7, 3) := by decide +kernel
theorem dX2_isSame_186 : decode cX2_isSame 186 = .ok (.iconst 1, 1) := by decide +kernel
theorem dX2_isSame_187 : decode cX2_isSame 187 = .ok (.iaload, 1) := by decide +kernel
theorem dX2_isSame_188 : decode cX2_isSame 188 = .ok (.aload 7, 2) := by decide +kernel
theorem dX2_isSame_190 : decode cX2_isSame 190 = .ok (.invokevirtual 77, 3) := by decide +kernel
theorem dX2_isSame_193 : decode cX2_isSame 193 = .ok (.imul, 1) := by decide +kernel
theorem dX2_isSame_194 : decode cX2_isSame 194 = .ok (.iastore, 1) := by decide +kernel
theorem dX2_isSame_195 : decode cX2_isSame 195 = .ok (.dup, 1) := by decide +kernel
theorem dX2_isSame_196 : decode cX2_isSame 196 = .ok (.iconst 2, 1) := by decide +kernel
theorem dX2_isSame_197 : decode cX2_isSame 197 = .ok (.aload 7, 2) := by decide +kernel
theorem dX2_isSame_199 : decode cX2_isSame 199 = .ok (.aload_n 0, 1) := by decide +kernel
theorem dX2_isSame_200 : decode cX2_isSame 200 = .ok (.getfield 7, 3) := by decide +kernel
theorem dX2_isSame_203 : decode cX2_isSame 203 = .ok (.invokevirtual 36, 3) := by decide +kernel
theorem dX2_isSame_206 : decode cX2_isSame 206 = .ok (.iastore, 1) := by decide +kernel
theorem dX2_isSame_207 : decode cX2_isSame 207 = .ok (.dup, 1) := by decide +kernel
theorem dX2_isSame_208 : decode cX2_isSame 208 = .ok (.iconst 3, 1) := by decide +kernel
theorem dX2_isSame_209 : decode cX2_isSame 209 = .ok (.iload 9, 2) := by decide +kernel
theorem dX2_isSame_211 : decode cX2_isSame 211 = .ok (.iastore, 1) := by decide +kernel
theorem dX2_isSame_212 : decode cX2_isSame 212 = .ok (.dup, 1) := by decide +kernel
theorem dX2_isSame_213 : decode cX2_isSame 213 = .ok (.iconst 4, 1) := by decide +kernel
theorem dX2_isSame_214 : decode cX2_isSame 214 = .ok (.aload_n 0, 1) := by decide +kernel
theorem dX2_isSame_215 : decode cX2_isSame 215 = .ok (.aload 7, 2) := by decide +kernel
theorem dX2_isSame_217 : decode cX2_isSame 217 = .ok (.invokevirtual 51, 3) := by decide +kernel
theorem dX2_isSame_220 : decode cX2_isSame 220 = .ok (.iastore, 1) := by decide +kernel
theorem dX2_isSame_221 : decode cX2_isSame 221 = .ok (.dup, 1) := by decide +kernel
theorem dX2_isSame_222 : decode cX2_isSame 222 = .ok (.iconst 5, 1) := by decide +kernel
theorem dX2_isSame_223 : decode cX2_isSame 223 = .ok (.iload 9, 2) := by decide +kernel
theorem dX2_isSame_225 : decode cX2_isSame 225 = .ok (.aload_n 0, 1) := by decide +kernel
theorem dX2_isSame_226 : decode cX2_isSame 226 = .ok (.aload 7, 2) := by decide +kernel
theorem dX2_isSame_228 : decode cX2_isSame 228 = .ok (.invokevirtual 51, 3) := by decide +kernel
theorem dX2_isSame_231 : decode cX2_isSame 231 = .ok (.isub, 1) := by decide +kernel
theorem dX2_isSame_232 : decode cX2_isSame 232 = .ok (.iastore, 1) := by decide +kernel
theorem dX2_isSame_233 : decode cX2_isSame 233 = .ok (.astore 10, 2) := by decide +kernel
theorem dX2_isSame_235 : decode cX2_isSame 235 = .ok (.iconst 0, 1) := by decide +kernel
theorem dX2_isSame_236 : decode cX2_isSame 236 = .ok (.istore 11, 2) := by decide +kernel
theorem dX2_isSame_238 : decode cX2_isSame 238 = .ok (.iload 11, 2) := by decide +kernel
theorem dX2_isSame_240 : decode cX2_isSame 240 = .ok (.bipush 6, 2) := by decide +kernel
theorem dX2_isSame_242 : decode cX2_isSame 242 = .ok (.if_icmp .ge 27, 3) := by decide +kernel
theorem dX2_isSame_245 : decode cX2_isSame 245 = .ok (.aload_n 1, 1) := by decide +kernel
theorem dX2_isSame_246 : decode cX2_isSame 246 = .ok (.iload 6, 2) := by decide +kernel
theorem dX2_isSame_248 : decode cX2_isSame 248 = .ok (.iload 11, 2) := by decide +kernel
theorem dX2_isSame_250 : decode cX2_isSame 250 = .ok (.invokevirtual 89, 3) := by decide +kernel
theorem dX2_isSame_253 : decode cX2_isSame 253 = .ok (.aload 10, 2) := by decide +kernel
theorem dX2_isSame_255 : decode cX2_isSame 255 = .ok (.iload 11, 2) := by decide +kernel
theorem dX2_isSame_257 : decode cX2_isSame 257 = .ok (.iaload, 1) := by decide +kernel
theorem dX2_isSame_258 : decode cX2_isSame 258 = .ok (.if_icmp .eq 5, 3) := by decide +kernel
theorem dX2_isSame_261 : decode cX2_isSame 261 = .ok (.iconst 0, 1) := by decide +kernel
theorem dX2_isSame_262 : decode cX2_isSame 262 = .ok (.ireturn, 1) := by decide +kernel
theorem dX2_isSame_263 : decode cX2_isSame 263 = .ok (.iinc 11 1, 3) := by decide +kernel
theorem dX2_isSame_266 : decode cX2_isSame 266 = .ok (.goto (-28), 3) := by decide +kernel
theorem dX2_isSame_269 : decode cX2_isSame 269 = .ok (.iconst 0, 1) := by decide +kernel
theorem dX2_isSame_270 : decode cX2_isSame 270 = .ok (.istore 11, 2) := by decide +kernel
theorem dX2_isSame_272 : decode cX2_isSame 272 = .ok (.iload 11, 2) := by decide +kernel
theorem dX2_isSame_274 : decode cX2_isSame 274 = .ok (.iconst 3, 1) := by decide +kernel
theorem dX2_isSame_275 : decode cX2_isSame 275 = .ok (.if_icmp .ge 33, 3) := by decide +kernel
theorem dX2_isSame_278 : decode cX2_isSame 278 = .ok (.aload_n 1, 1) := by decide +kernel
theorem dX2_isSame_279 : decode cX2_isSame 279 = .ok (.iload 6, 2) := by decide +kernel
theorem dX2_isSame_281 : decode cX2_isSame 281 = .ok (.iload 11, 2) := by decide +kernel
theorem dX2_isSame_283 : decode cX2_isSame 283 = .ok (.invokevirtual 91, 3) := by decide +kernel
theorem dX2_isSame_286 : decode cX2_isSame 286 = .ok (.aload 5, 2) := by decide +kernel
theorem dX2_isSame_288 : decode cX2_isSame 288 = .ok (.getfield 48, 3) := by decide +kernel
theorem dX2_isSame_291 : decode cX2_isSame 291 = .ok (.iload 6, 2) := by decide +kernel
theorem dX2_isSame_293 : decode cX2_isSame 293 = .ok (.aaload, 1) := by decide +kernel
theorem dX2_isSame_294 : decode cX2_isSame 294 = .ok (.iload 11, 2) := by decide +kernel
theorem dX2_isSame_296 : decode cX2_isSame 296 = .ok (.iaload, 1) := by decide +kernel
theorem dX2_isSame_297 : decode cX2_isSame 297 = .ok (.if_icmp .eq 5, 3) := by decide +kernel
theorem dX2_isSame_300 : decode cX2_isSame 300 = .ok (.iconst 0, 1) := by decide +kernel
theorem dX2_isSame_301 : decode cX2_isSame 301 = .ok (.ireturn, 1) := by decide +kernel
theorem dX2_isSame_302 : decode cX2_isSame 302 = .ok (.iinc 11 1, 3) := by decide +kernel
theorem dX2_isSame_305 : decode cX2_isSame 305 = .ok (.goto (-33), 3) := by decide +kernel
theorem dX2_isSame_308 : decode cX2_isSame 308 = .ok (.iload_n 2, 1) := by decide +kernel
theorem dX2_isSame_309 : decode cX2_isSame 309 = .ok (.aload 7, 2) := by decide +kernel
theorem dX2_isSame_311 : decode cX2_isSame 311 = .ok (.getfield 43, 3) := by decide +kernel
theorem dX2_isSame_314 : decode cX2_isSame 314 = .ok (.iadd, 1) := by decide +kernel
theorem dX2_isSame_315 : decode cX2_isSame 315 = .ok (.istore_n 2, 1) := by decide +kernel
theorem dX2_isSame_316 : decode cX2_isSame 316 = .ok (.iload_n 3, 1) := by decide +kernel
theorem dX2_isSame_317 : decode cX2_isSame 317 = .ok (.aload 7, 2) := by decide +kernel
theorem dX2_isSame_319 : decode cX2_isSame 319 = .ok (.getfield 40, 3) := by decide +kernel
theorem dX2_isSame_322 : decode cX2_isSame 322 = .ok (.iadd, 1) := by decide +kernel
theorem dX2_isSame_323 : decode cX2_isSame 323 = .ok (.istore_n 3, 1) := by decide +kernel
theorem dX2_isSame_324 : decode cX2_isSame 324 = .ok (.iload 4, 2) := by decide +kernel
theorem dX2_isSame_326 : decode cX2_isSame 326 = .ok (.aload 7, 2) := by decide +kernel
theorem dX2_isSame_328 : decode cX2_isSame 328 = .ok (.getfield 55, 3) := by decide +kernel
theorem dX2_isSame_331 : decode cX2_isSame 331 = .ok (.iadd, 1) := by decide +kernel
theorem dX2_isSame_332 : decode cX2_isSame 332 = .ok (.istore 4, 2) := by decide +kernel
theorem dX2_isSame_334 : decode cX2_isSame 334 = .ok (.iinc 6 1, 3) := by decide +kernel
theorem dX2_isSame_337 : decode cX2_isSame 337 = .ok (.goto (-315), 3) := by decide +kernel
theorem dX2_isSame_340 : decode cX2_isSame 340 = .ok (.iconst 0, 1) := by decide +kernel
theorem dX2_isSame_341 : decode cX2_isSame 341 = .ok (.istore 6, 2) := by decide +kernel
theorem dX2_isSame_343 : decode cX2_isSame 343 = .ok (.iload 6, 2) := by decide +kernel
theorem dX2_isSame_345 : decode cX2_isSame 345 = .ok (.iconst 5, 1) := by decide +kernel
theorem dX2_isSame_346 : decode cX2_isSame 346 = .ok (.if_icmp .ge 27, 3) := by decide +kernel
theorem dX2_isSame_349 : decode cX2_isSame 349 = .ok (.aload_n 1, 1) := by decide +kernel
theorem dX2_isSame_350 : decode cX2_isSame 350 = .ok (.iload 6, 2) := by decide +kernel
theorem dX2_isSame_352 : decode cX2_isSame 352 = .ok (.invokevirtual 94, 3) := by decide +kernel
theorem dX2_isSame_355 : decode cX2_isSame 355 = .ok (.aload_n 0, 1) := by decide +kernel
theorem dX2_isSame_356 : decode cX2_isSame 356 = .ok (.getfield 7, 3) := by decide +kernel
theorem dX2_isSame_359 : decode cX2_isSame 359 = .ok (.iload 6, 2) := by decide +kernel
theorem dX2_isSame_361 : decode cX2_isSame 361 = .ok (.iaload, 1) := by decide +kernel
theorem dX2_isSame_362 : decode cX2_isSame 362 = .ok (.if_icmp .eq 5, 3) := by decide +kernel
theorem dX2_isSame_365 : decode cX2_isSame 365 = .ok (.iconst 0, 1) := by decide +kernel
theorem dX2_isSame_366 : decode cX2_isSame 366 = .ok (.ireturn, 1) := by decide +kernel
theorem dX2_isSame_367 : decode cX2_isSame 367 = .ok (.iinc 6 1, 3) := by decide +kernel
theorem dX2_isSame_370 : decode cX2_isSame 370 = .ok (.goto (-27), 3) := by decide +kernel
theorem dX2_isSame_373 : decode cX2_isSame 373 = .ok (.iconst 0, 1) := by decide +kernel
theorem dX2_isSame_374 : decode cX2_isSame 374 = .ok (.istore 6, 2) := by decide +kernel
theorem dX2_isSame_376 : decode cX2_isSame 376 = .ok (.iload 6, 2) := by decide +kernel
theorem dX2_isSame_378 : decode cX2_isSame 378 = .ok (.iconst 3, 1) := by decide +kernel
theorem dX2_isSame_379 : decode cX2_isSame 379 = .ok (.if_icmp .ge 27, 3) := by decide +kernel
theorem dX2_isSame_382 : decode cX2_isSame 382 = .ok (.aload_n 1, 1) := by decide +kernel
theorem dX2_isSame_383 : decode cX2_isSame 383 = .ok (.iload 6, 2) := by decide +kernel
theorem dX2_isSame_385 : decode cX2_isSame 385 = .ok (.invokevirtual 98, 3) := by decide +kernel
theorem dX2_isSame_388 : decode cX2_isSame 388 = .ok (.aload_n 0, 1) := by decide +kernel
theorem dX2_isSame_389 : decode cX2_isSame 389 = .ok (.getfield 13, 3) := by decide +kernel
theorem dX2_isSame_392 : decode cX2_isSame 392 = .ok (.iload 6, 2) := by decide +kernel
theorem dX2_isSame_394 : decode cX2_isSame 394 = .ok (.iaload, 1) := by decide +kernel
theorem dX2_isSame_395 : decode cX2_isSame 395 = .ok (.if_icmp .eq 5, 3) := by decide +kernel
theorem dX2_isSame_398 : decode cX2_isSame 398 = .ok (.iconst 0, 1) := by decide +kernel
theorem dX2_isSame_399 : decode cX2_isSame 399 = .ok (.ireturn, 1) := by decide +kernel
theorem dX2_isSame_400 : decode cX2_isSame 400 = .ok (.iinc 6 1, 3) := by decide +kernel
theorem dX2_isSame_403 : decode cX2_isSame 403 = .ok (.goto (-27), 3) := by decide +kernel
theorem dX2_isSame_406 : decode cX2_isSame 406 = .ok (.bipush 7, 2) := by decide +kernel
theorem dX2_isSame_408 : decode cX2_isSame 408 = .ok (.newarray .int, 2) := by decide +kernel
theorem dX2_isSame_410 : decode cX2_isSame 410 = .ok (.dup, 1) := by decide +kernel
theorem dX2_isSame_411 : decode cX2_isSame 411 = .ok (.iconst 0, 1) := by decide +kernel
theorem dX2_isSame_412 : decode cX2_isSame 412 = .ok (.aload_n 0, 1) := by decide +kernel
theorem dX2_isSame_413 : decode cX2_isSame 413 = .ok (.getfield 23, 3) := by decide +kernel
theorem dX2_isSame_416 : decode cX2_isSame 416 = .ok (.iastore, 1) := by decide +kernel
theorem dX2_isSame_417 : decode cX2_isSame 417 = .ok (.dup, 1) := by decide +kernel
theorem dX2_isSame_418 : decode cX2_isSame 418 = .ok (.iconst 1, 1) := by decide +kernel
theorem dX2_isSame_419 : decode cX2_isSame 419 = .ok (.aload_n 0, 1) := by decide +kernel
theorem dX2_isSame_420 : decode cX2_isSame 420 = .ok (.getfield 18, 3) := by decide +kernel
theorem dX2_isSame_423 : decode cX2_isSame 423 = .ok (.arraylength, 1) := by decide +kernel
theorem dX2_isSame_424 : decode cX2_isSame 424 = .ok (.iastore, 1) := by decide +kernel
theorem dX2_isSame_425 : decode cX2_isSame 425 = .ok (.dup, 1) := by decide +kernel
theorem dX2_isSame_426 : decode cX2_isSame 426 = .ok (.iconst 2, 1) := by decide +kernel
theorem dX2_isSame_427 : decode cX2_isSame 427 = .ok (.iload_n 2, 1) := by decide +kernel
theorem dX2_isSame_428 : decode cX2_isSame 428 = .ok (.iastore, 1) := by decide +kernel
theorem dX2_isSame_429 : decode cX2_isSame 429 = .ok (.dup, 1) := by decide +kernel
theorem dX2_isSame_430 : decode cX2_isSame 430 = .ok (.iconst 3, 1) := by decide +kernel
theorem dX2_isSame_431 : decode cX2_isSame 431 = .ok (.iload_n 3, 1) := by decide +kernel
theorem dX2_isSame_432 : decode cX2_isSame 432 = .ok (.iastore, 1) := by decide +kernel
theorem dX2_isSame_433 : decode cX2_isSame 433 = .ok (.dup, 1) := by decide +kernel
theorem dX2_isSame_434 : decode cX2_isSame 434 = .ok (.iconst 4, 1) := by decide +kernel
theorem dX2_isSame_435 : decode cX2_isSame 435 = .ok (.iconst 4, 1) := by decide +kernel
theorem dX2_isSame_436 : decode cX2_isSame 436 = .ok (.bipush 30, 2) := by decide +kernel
theorem dX2_isSame_438 : decode cX2_isSame 438 = .ok (.aload_n 0, 1) := by decide +kernel
theorem dX2_isSame_439 : decode cX2_isSame 439 = .ok (.getfield 13, 3) := by decide +kernel
theorem dX2_isSame_442 : decode cX2_isSame 442 = .ok (.iconst 0, 1) := by decide +kernel
theorem dX2_isSame_443 : decode cX2_isSame 443 = .ok (.iaload, 1) := by decide +kernel
theorem dX2_isSame_444 : decode cX2_isSame 444 = .ok (.imul, 1) := by decide +kernel
theorem dX2_isSame_445 : decode cX2_isSame 445 = .ok (.bipush 12, 2) := by decide +kernel
theorem dX2_isSame_447 : decode cX2_isSame 447 = .ok (.aload_n 0, 1) := by decide +kernel
theorem dX2_isSame_448 : decode cX2_isSame 448 = .ok (.getfield 13, 3) := by decide +kernel
theorem dX2_isSame_451 : decode cX2_isSame 451 = .ok (.iconst 1, 1) := by decide +kernel
theorem dX2_isSame_452 : decode cX2_isSame 452 = .ok (.iaload, 1) := by decide +kernel
theorem dX2_isSame_453 : decode cX2_isSame 453 = .ok (.imul, 1) := by decide +kernel
theorem dX2_isSame_454 : decode cX2_isSame 454 = .ok (.iadd, 1) := by decide +kernel
theorem dX2_isSame_455 : decode cX2_isSame 455 = .ok (.aload_n 0, 1) := by decide +kernel
theorem dX2_isSame_456 : decode cX2_isSame 456 = .ok (.getfield 13, 3) := by decide +kernel
theorem dX2_isSame_459 : decode cX2_isSame 459 = .ok (.iconst 2, 1) := by decide +kernel
theorem dX2_isSame_460 : decode cX2_isSame 460 = .ok (.iaload, 1) := by decide +kernel
theorem dX2_isSame_461 : decode cX2_isSame 461 = .ok (.iadd, 1) := by decide +kernel
theorem dX2_isSame_462 : decode cX2_isSame 462 = .ok (.imul, 1) := by decide +kernel
theorem dX2_isSame_463 : decode cX2_isSame 463 = .ok (.iastore, 1) := by decide +kernel
theorem dX2_isSame_464 : decode cX2_isSame 464 = .ok (.dup, 1) := by decide +kernel
theorem dX2_isSame_465 : decode cX2_isSame 465 = .ok (.iconst 5, 1) := by decide +kernel
theorem dX2_isSame_466 : decode cX2_isSame 466 = .ok (.aload_n 0, 1) := by decide +kernel
theorem dX2_isSame_467 : decode cX2_isSame 467 = .ok (.invokevirtual 100, 3) := by decide +kernel
theorem dX2_isSame_470 : decode cX2_isSame 470 = .ok (.iastore, 1) := by decide +kernel
theorem dX2_isSame_471 : decode cX2_isSame 471 = .ok (.dup, 1) := by decide +kernel
theorem dX2_isSame_472 : decode cX2_isSame 472 = .ok (.bipush 6, 2) := by decide +kernel
theorem dX2_isSame_474 : decode cX2_isSame 474 = .ok (.iload 4, 2) := by decide +kernel
theorem dX2_isSame_476 : decode cX2_isSame 476 = .ok (.iastore, 1) := by decide +kernel
theorem dX2_isSame_477 : decode cX2_isSame 477 = .ok (.astore 6, 2) := by decide +kernel
theorem dX2_isSame_479 : decode cX2_isSame 479 = .ok (.iconst 0, 1) := by decide +kernel
theorem dX2_isSame_480 : decode cX2_isSame 480 = .ok (.istore 7, 2) := by decide +kernel
theorem dX2_isSame_482 : decode cX2_isSame 482 = .ok (.iload 7, 2) := by decide +kernel
theorem dX2_isSame_484 : decode cX2_isSame 484 = .ok (.bipush 7, 2) := by decide +kernel
theorem dX2_isSame_486 : decode cX2_isSame 486 = .ok (.if_icmp .ge 25, 3) := by decide +kernel
theorem dX2_isSame_489 : decode cX2_isSame 489 = .ok (.aload_n 1, 1) := by decide +kernel
theorem dX2_isSame_490 : decode cX2_isSame 490 = .ok (.iload 7, 2) := by decide +kernel
theorem dX2_isSame_492 : decode cX2_isSame 492 = .ok (.invokevirtual 103, 3) := by decide +kernel
theorem dX2_isSame_495 : decode cX2_isSame 495 = .ok (.aload 6, 2) := by decide +kernel
theorem dX2_isSame_497 : decode cX2_isSame 497 = .ok (.iload 7, 2) := by decide +kernel
theorem dX2_isSame_499 : decode cX2_isSame 499 = .ok (.iaload, 1) := by decide +kernel
theorem dX2_isSame_500 : decode cX2_isSame 500 = .ok (.if_icmp .eq 5, 3) := by decide +kernel
theorem dX2_isSame_503 : decode cX2_isSame 503 = .ok (.iconst 0, 1) := by decide +kernel
theorem dX2_isSame_504 : decode cX2_isSame 504 = .ok (.ireturn, 1) := by decide +kernel
theorem dX2_isSame_505 : decode cX2_isSame 505 = .ok (.iinc 7 1, 3) := by decide +kernel
theorem dX2_isSame_508 : decode cX2_isSame 508 = .ok (.goto (-26), 3) := by decide +kernel
theorem dX2_isSame_511 : decode cX2_isSame 511 = .ok (.aload_n 1, 1) := by decide +kernel
theorem dX2_isSame_512 : decode cX2_isSame 512 = .ok (.invokevirtual 106, 3) := by decide +kernel
theorem dX2_isSame_515 : decode cX2_isSame 515 = .ok (.aload_n 0, 1) := by decide +kernel
theorem dX2_isSame_516 : decode cX2_isSame 516 = .ok (.getfield 18, 3) := by decide +kernel
theorem dX2_isSame_519 : decode cX2_isSame 519 = .ok (.arraylength, 1) := by decide +kernel
theorem dX2_isSame_520 : decode cX2_isSame 520 = .ok (.ifCond .ne 7, 3) := by decide +kernel
theorem dX2_isSame_523 : decode cX2_isSame 523 = .ok (.dconst 0, 1) := by decide +kernel
theorem dX2_isSame_524 : decode cX2_isSame 524 = .ok (.goto 15, 3) := by decide +kernel
theorem dX2_isSame_527 : decode cX2_isSame 527 = .ok (.aload_n 0, 1) := by decide +kernel
theorem dX2_isSame_528 : decode cX2_isSame 528 = .ok (.invokevirtual 100, 3) := by decide +kernel
theorem dX2_isSame_531 : decode cX2_isSame 531 = .ok (.i2d, 1) := by decide +kernel
theorem dX2_isSame_532 : decode cX2_isSame 532 = .ok (.aload_n 0, 1) := by decide +kernel
theorem dX2_isSame_533 : decode cX2_isSame 533 = .ok (.getfield 18, 3) := by decide +kernel
theorem dX2_isSame_536 : decode cX2_isSame 536 = .ok (.arraylength, 1) := by decide +kernel
theorem dX2_isSame_537 : decode cX2_isSame 537 = .ok (.i2d, 1) := by decide +kernel
theorem dX2_isSame_538 : decode cX2_isSame 538 = .ok (.ddiv, 1) := by decide +kernel
theorem dX2_isSame_539 : decode cX2_isSame 539 = .ok (.dcmp .l, 1) := by decide +kernel
theorem dX2_isSame_540 : decode cX2_isSame 540 = .ok (.ifCond .ne 7, 3) := by decide +kernel
theorem dX2_isSame_543 : decode cX2_isSame 543 = .ok (.iconst 1, 1) := by decide +kernel
theorem dX2_isSame_544 : decode cX2_isSame 544 = .ok (.goto 4, 3) := by decide +kernel
theorem dX2_isSame_547 : decode cX2_isSame 547 = .ok (.iconst 0, 1) := by decide +kernel
theorem dX2_isSame_548 : decode cX2_isSame 548 = .ok (.ireturn, 1) := by decide +kernel

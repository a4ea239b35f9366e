theorem dX0_init_0 : decode cX0_init 0 = .ok (.aload_n 0, 1) := by decide +kernel
theorem dX0_init_1 : decode cX0_init 1 = .ok (.invokespecial 1, 3) := by decide +kernel
theorem dX0_init_4 : decode cX0_init 4 = .ok (.aload_n 0, 1) := by decide +kernel
theorem dX0_init_5 : decode cX0_init 5 = .ok (.bipush 8, 2) := by decide +kernel
theorem dX0_init_7 : decode cX0_init 7 = .ok (.newarray .int, 2) := by decide +kernel
theorem dX0_init_9 : decode cX0_init 9 = .ok (.putfield 9, 3) := by decide +kernel
theorem dX0_init_12 : decode cX0_init 12 = .ok (.aload_n 0, 1) := by decide +kernel
theorem dX0_init_13 : decode cX0_init 13 = .ok (.bipush 8, 2) := by decide +kernel
theorem dX0_init_15 : decode cX0_init 15 = .ok (.newarray .int, 2) := by decide +kernel
theorem dX0_init_17 : decode cX0_init 17 = .ok (.putfield 13, 3) := by decide +kernel
theorem dX0_init_20 : decode cX0_init 20 = .ok (.aload_n 0, 1) := by decide +kernel
theorem dX0_init_21 : decode cX0_init 21 = .ok (.bipush 8, 2) := by decide +kernel
theorem dX0_init_23 : decode cX0_init 23 = .ok (.newarray .int, 2) := by decide +kernel
theorem dX0_init_25 : decode cX0_init 25 = .ok (.putfield 16, 3) := by decide +kernel
theorem dX0_init_28 : decode cX0_init 28 = .ok (.aload_n 0, 1) := by decide +kernel
theorem dX0_init_29 : decode cX0_init 29 = .ok (.bipush 8, 2) := by decide +kernel
theorem dX0_init_31 : decode cX0_init 31 = .ok (.newarray .int, 2) := by decide +kernel
theorem dX0_init_33 : decode cX0_init 33 = .ok (.putfield 19, 3) := by decide +kernel
theorem dX0_init_36 : decode cX0_init 36 = .ok (.aload_n 0, 1) := by decide +kernel
theorem dX0_init_37 : decode cX0_init 37 = .ok (.bipush 8, 2) := by decide +kernel
theorem dX0_init_39 : decode cX0_init 39 = .ok (.newarray .int, 2) := by decide +kernel
theorem dX0_init_41 : decode cX0_init 41 = .ok (.putfield 22, 3) := by decide +kernel
theorem dX0_init_44 : decode cX0_init 44 = .ok (.aload_n 0, 1) := by decide +kernel
theorem dX0_init_45 : decode cX0_init 45 = .ok (.bipush 8, 2) := by decide +kernel
theorem dX0_init_47 : decode cX0_init 47 = .ok (.newarray .int, 2) := by decide +kernel
theorem dX0_init_49 : decode cX0_init 49 = .ok (.putfield 25, 3) := by decide +kernel
theorem dX0_init_52 : decode cX0_init 52 = .ok (.aload_n 0, 1) := by decide +kernel
theorem dX0_init_53 : decode cX0_init 53 = .ok (.bipush 8, 2) := by decide +kernel
theorem dX0_init_55 : decode cX0_init 55 = .ok (.newarray .int, 2) := by decide +kernel
theorem dX0_init_57 : decode cX0_init 57 = .ok (.putfield 28, 3) := by decide +kernel
theorem dX0_init_60 : decode cX0_init 60 = .ok (.aload_n 0, 1) := by decide +kernel
theorem dX0_init_61 : decode cX0_init 61 = .ok (.iconst 5, 1) := by decide +kernel
theorem dX0_init_62 : decode cX0_init 62 = .ok (.newarray .int, 2) := by decide +kernel
theorem dX0_init_64 : decode cX0_init 64 = .ok (.dup, 1) := by decide +kernel
theorem dX0_init_65 : decode cX0_init 65 = .ok (.iconst 0, 1) := by decide +kernel
theorem dX0_init_66 : decode cX0_init 66 = .ok (.bipush 12, 2) := by decide +kernel
theorem dX0_init_68 : decode cX0_init 68 = .ok (.iastore, 1) := by decide +kernel
theorem dX0_init_69 : decode cX0_init 69 = .ok (.dup, 1) := by decide +kernel
theorem dX0_init_70 : decode cX0_init 70 = .ok (.iconst 1, 1) := by decide +kernel
theorem dX0_init_71 : decode cX0_init 71 = .ok (.bipush 20, 2) := by decide +kernel
theorem dX0_init_73 : decode cX0_init 73 = .ok (.iastore, 1) := by decide +kernel
theorem dX0_init_74 : decode cX0_init 74 = .ok (.dup, 1) := by decide +kernel
theorem dX0_init_75 : decode cX0_init 75 = .ok (.iconst 2, 1) := by decide +kernel
theorem dX0_init_76 : decode cX0_init 76 = .ok (.sipush 400, 3) := by decide +kernel
theorem dX0_init_79 : decode cX0_init 79 = .ok (.iastore, 1) := by decide +kernel
theorem dX0_init_80 : decode cX0_init 80 = .ok (.dup, 1) := by decide +kernel
theorem dX0_init_81 : decode cX0_init 81 = .ok (.iconst 3, 1) := by decide +kernel
theorem dX0_init_82 : decode cX0_init 82 = .ok (.bipush 25, 2) := by decide +kernel
theorem dX0_init_84 : decode cX0_init 84 = .ok (.iastore, 1) := by decide +kernel
theorem dX0_init_85 : decode cX0_init 85 = .ok (.dup, 1) := by decide +kernel
theorem dX0_init_86 : decode cX0_init 86 = .ok (.iconst 4, 1) := by decide +kernel
theorem dX0_init_87 : decode cX0_init 87 = .ok (.iconst 4, 1) := by decide +kernel
theorem dX0_init_88 : decode cX0_init 88 = .ok (.iastore, 1) := by decide +kernel
theorem dX0_init_89 : decode cX0_init 89 = .ok (.putfield 31, 3) := by decide +kernel
theorem dX0_init_92 : decode cX0_init 92 = .ok (.aload_n 0, 1) := by decide +kernel
theorem dX0_init_93 : decode cX0_init 93 = .ok (.iconst 3, 1) := by decide +kernel
theorem dX0_init_94 : decode cX0_init 94 = .ok (.newarray .int, 2) := by decide +kernel
theorem dX0_init_96 : decode cX0_init 96 = .ok (.putfield 34, 3) := by decide +kernel
theorem dX0_init_99 : decode cX0_init 99 = .ok (.aload_n 0, 1) := by decide +kernel
theorem dX0_init_100 : decode cX0_init 100 = .ok (.iconst 5, 1) := by decide +kernel
theorem dX0_init_101 : decode cX0_init 101 = .ok (.newarray .int, 2) := by decide +kernel
theorem dX0_init_103 : decode cX0_init 103 = .ok (.putfield 37, 3) := by decide +kernel
theorem dX0_init_106 : decode cX0_init 106 = .ok (.aload_n 0, 1) := by decide +kernel
theorem dX0_init_107 : decode cX0_init 107 = .ok (.iconst 3, 1) := by decide +kernel
theorem dX0_init_108 : decode cX0_init 108 = .ok (.newarray .int, 2) := by decide +kernel
theorem dX0_init_110 : decode cX0_init 110 = .ok (.putfield 40, 3) := by decide +kernel
theorem dX0_init_113 : decode cX0_init 113 = .ok (.aload_n 0, 1) := by decide +kernel
theorem dX0_init_114 : decode cX0_init 114 = .ok (.iconst 3, 1) := by decide +kernel
theorem dX0_init_115 : decode cX0_init 115 = .ok (.newarray .int, 2) := by decide +kernel
theorem dX0_init_117 : decode cX0_init 117 = .ok (.putfield 43, 3) := by decide +kernel
theorem dX0_init_120 : decode cX0_init 120 = .ok (.return_, 1) := by decide +kernel
theorem dX0_hire_0 : decode cX0_hire 0 = .ok (.iload_n 1, 1) := by decide +kernel
theorem dX0_hire_1 : decode cX0_hire 1 = .ok (.iconst 0, 1) := by decide +kernel
theorem dX0_hire_2 : decode cX0_hire 2 = .ok (.iconst 2, 1) := by decide +kernel
theorem dX0_hire_3 : decode cX0_hire 3 = .ok (.invokestatic 46, 3) := by decide +kernel
theorem dX0_hire_6 : decode cX0_hire 6 = .ok (.aload_n 0, 1) := by decide +kernel
theorem dX0_hire_7 : decode cX0_hire 7 = .ok (.getfield 50, 3) := by decide +kernel
theorem dX0_hire_10 : decode cX0_hire 10 = .ok (.bipush 8, 2) := by decide +kernel
theorem dX0_hire_12 : decode cX0_hire 12 = .ok (.if_icmp .ge 7, 3) := by decide +kernel
theorem dX0_hire_15 : decode cX0_hire 15 = .ok (.iconst 1, 1) := by decide +kernel
theorem dX0_hire_16 : decode cX0_hire 16 = .ok (.goto 4, 3) := by decide +kernel
theorem dX0_hire_19 : decode cX0_hire 19 = .ok (.iconst 0, 1) := by decide +kernel
theorem dX0_hire_20 : decode cX0_hire 20 = .ok (.invokestatic 54, 3) := by decide +kernel
theorem dX0_hire_23 : decode cX0_hire 23 = .ok (.aload_n 0, 1) := by decide +kernel
theorem dX0_hire_24 : decode cX0_hire 24 = .ok (.getfield 9, 3) := by decide +kernel
theorem dX0_hire_27 : decode cX0_hire 27 = .ok (.aload_n 0, 1) := by decide +kernel
theorem dX0_hire_28 : decode cX0_hire 28 = .ok (.getfield 50, 3) := by decide +kernel
theorem dX0_hire_31 : decode cX0_hire 31 = .ok (.iload_n 1, 1) := by decide +kernel
theorem dX0_hire_32 : decode cX0_hire 32 = .ok (.iastore, 1) := by decide +kernel
theorem dX0_hire_33 : decode cX0_hire 33 = .ok (.aload_n 0, 1) := by decide +kernel
theorem dX0_hire_34 : decode cX0_hire 34 = .ok (.dup, 1) := by decide +kernel
theorem dX0_hire_35 : decode cX0_hire 35 = .ok (.getfield 50, 3) := by decide +kernel
theorem dX0_hire_38 : decode cX0_hire 38 = .ok (.iconst 1, 1) := by decide +kernel
theorem dX0_hire_39 : decode cX0_hire 39 = .ok (.iadd, 1) := by decide +kernel
theorem dX0_hire_40 : decode cX0_hire 40 = .ok (.putfield 50, 3) := by decide +kernel
theorem dX0_hire_43 : decode cX0_hire 43 = .ok (.aload_n 0, 1) := by decide +kernel
theorem dX0_hire_44 : decode cX0_hire 44 = .ok (.getfield 50, 3) := by decide +kernel
theorem dX0_hire_47 : decode cX0_hire 47 = .ok (.iconst 1, 1) := by decide +kernel
theorem dX0_hire_48 : decode cX0_hire 48 = .ok (.isub, 1) := by decide +kernel
theorem dX0_hire_49 : decode cX0_hire 49 = .ok (.ireturn, 1) := by decide +kernel
theorem dX0_setRate_0 : decode cX0_setRate 0 = .ok (.iload_n 1, 1) := by decide +kernel
theorem dX0_setRate_1 : decode cX0_setRate 1 = .ok (.iload_n 2, 1) := by decide +kernel
theorem dX0_setRate_2 : decode cX0_setRate 2 = .ok (.invokestatic 58, 3) := by decide +kernel
theorem dX0_setRate_5 : decode cX0_setRate 5 = .ok (.aload_n 0, 1) := by decide +kernel
theorem dX0_setRate_6 : decode cX0_setRate 6 = .ok (.getfield 31, 3) := by decide +kernel
theorem dX0_setRate_9 : decode cX0_setRate 9 = .ok (.iload_n 1, 1) := by decide +kernel
theorem dX0_setRate_10 : decode cX0_setRate 10 = .ok (.iaload, 1) := by decide +kernel
theorem dX0_setRate_11 : decode cX0_setRate 11 = .ok (.istore_n 3, 1) := by decide +kernel
theorem dX0_setRate_12 : decode cX0_setRate 12 = .ok (.aload_n 0, 1) := by decide +kernel
theorem dX0_setRate_13 : decode cX0_setRate 13 = .ok (.getfield 31, 3) := by decide +kernel
theorem dX0_setRate_16 : decode cX0_setRate 16 = .ok (.iload_n 1, 1) := by decide +kernel
theorem dX0_setRate_17 : decode cX0_setRate 17 = .ok (.iload_n 2, 1) := by decide +kernel
theorem dX0_setRate_18 : decode cX0_setRate 18 = .ok (.iastore, 1) := by decide +kernel
theorem dX0_setRate_19 : decode cX0_setRate 19 = .ok (.iload_n 3, 1) := by decide +kernel
theorem dX0_setRate_20 : decode cX0_setRate 20 = .ok (.ireturn, 1) := by decide +kernel
theorem dX0_fill_0 : decode cX0_fill 0 = .ok (.iload_n 1, 1) := by decide +kernel
theorem dX0_fill_1 : decode cX0_fill 1 = .ok (.iconst 3, 1) := by decide +kernel
theorem dX0_fill_2 : decode cX0_fill 2 = .ok (.invokestatic 62, 3) := by decide +kernel
theorem dX0_fill_5 : decode cX0_fill 5 = .ok (.iload_n 2, 1) := by decide +kernel
theorem dX0_fill_6 : decode cX0_fill 6 = .ok (.iconst 1, 1) := by decide +kernel
theorem dX0_fill_7 : decode cX0_fill 7 = .ok (.sipush 500, 3) := by decide +kernel
theorem dX0_fill_10 : decode cX0_fill 10 = .ok (.invokestatic 46, 3) := by decide +kernel
theorem dX0_fill_13 : decode cX0_fill 13 = .ok (.aload_n 0, 1) := by decide +kernel
theorem dX0_fill_14 : decode cX0_fill 14 = .ok (.getfield 34, 3) := by decide +kernel
theorem dX0_fill_17 : decode cX0_fill 17 = .ok (.iload_n 1, 1) := by decide +kernel
theorem dX0_fill_18 : decode cX0_fill 18 = .ok (.dup2, 1) := by decide +kernel
theorem dX0_fill_19 : decode cX0_fill 19 = .ok (.iaload, 1) := by decide +kernel
theorem dX0_fill_20 : decode cX0_fill 20 = .ok (.iload_n 2, 1) := by decide +kernel
theorem dX0_fill_21 : decode cX0_fill 21 = .ok (.iadd, 1) := by decide +kernel
theorem dX0_fill_22 : decode cX0_fill 22 = .ok (.iastore, 1) := by decide +kernel
theorem dX0_fill_23 : decode cX0_fill 23 = .ok (.aload_n 0, 1) := by decide +kernel
theorem dX0_fill_24 : decode cX0_fill 24 = .ok (.getfield 34, 3) := by decide +kernel
theorem dX0_fill_27 : decode cX0_fill 27 = .ok (.iload_n 1, 1) := by decide +kernel
theorem dX0_fill_28 : decode cX0_fill 28 = .ok (.iaload, 1) := by decide +kernel
theorem dX0_fill_29 : decode cX0_fill 29 = .ok (.ireturn, 1) := by decide +kernel
theorem dX0_bind_0 : decode cX0_bind 0 = .ok (.iload_n 1, 1) := by decide +kernel
theorem dX0_bind_1 : decode cX0_bind 1 = .ok (.aload_n 0, 1) := by decide +kernel
theorem dX0_bind_2 : decode cX0_bind 2 = .ok (.getfield 50, 3) := by decide +kernel
theorem dX0_bind_5 : decode cX0_bind 5 = .ok (.invokestatic 62, 3) := by decide +kernel
theorem dX0_bind_8 : decode cX0_bind 8 = .ok (.iload_n 2, 1) := by decide +kernel
theorem dX0_bind_9 : decode cX0_bind 9 = .ok (.iconst 1, 1) := by decide +kernel
theorem dX0_bind_10 : decode cX0_bind 10 = .ok (.sipush 999, 3) := by decide +kernel
theorem dX0_bind_13 : decode cX0_bind 13 = .ok (.invokestatic 46, 3) := by decide +kernel
theorem dX0_bind_16 : decode cX0_bind 16 = .ok (.aload_n 0, 1) := by decide +kernel
theorem dX0_bind_17 : decode cX0_bind 17 = .ok (.getfield 13, 3) := by decide +kernel
theorem dX0_bind_20 : decode cX0_bind 20 = .ok (.iload_n 1, 1) := by decide +kernel
theorem dX0_bind_21 : decode cX0_bind 21 = .ok (.dup2, 1) := by decide +kernel
theorem dX0_bind_22 : decode cX0_bind 22 = .ok (.iaload, 1) := by decide +kernel
theorem dX0_bind_23 : decode cX0_bind 23 = .ok (.iload_n 2, 1) := by decide +kernel
theorem dX0_bind_24 : decode cX0_bind 24 = .ok (.iadd, 1) := by decide +kernel
theorem dX0_bind_25 : decode cX0_bind 25 = .ok (.iastore, 1) := by decide +kernel
theorem dX0_bind_26 : decode cX0_bind 26 = .ok (.aload_n 0, 1) := by decide +kernel
theorem dX0_bind_27 : decode cX0_bind 27 = .ok (.getfield 13, 3) := by decide +kernel
theorem dX0_bind_30 : decode cX0_bind 30 = .ok (.iload_n 1, 1) := by decide +kernel
theorem dX0_bind_31 : decode cX0_bind 31 = .ok (.iaload, 1) := by decide +kernel
theorem dX0_bind_32 : decode cX0_bind 32 = .ok (.ireturn, 1) := by decide +kernel
theorem dX0_work_0 : decode cX0_work 0 = .ok (.iload_n 1, 1) := by decide +kernel
theorem dX0_work_1 : decode cX0_work 1 = .ok (.aload_n 0, 1) := by decide +kernel
theorem dX0_work_2 : decode cX0_work 2 = .ok (.getfield 50, 3) := by decide +kernel
theorem dX0_work_5 : decode cX0_work 5 = .ok (.invokestatic 62, 3) := by decide +kernel
theorem dX0_work_8 : decode cX0_work 8 = .ok (.iload_n 2, 1) := by decide +kernel
theorem dX0_work_9 : decode cX0_work 9 = .ok (.iconst 0, 1) := by decide +kernel
theorem dX0_work_10 : decode cX0_work 10 = .ok (.bipush 16, 2) := by decide +kernel
theorem dX0_work_12 : decode cX0_work 12 = .ok (.invokestatic 46, 3) := by decide +kernel
theorem dX0_work_15 : decode cX0_work 15 = .ok (.aload_n 0, 1) := by decide +kernel
theorem dX0_work_16 : decode cX0_work 16 = .ok (.getfield 16, 3) := by decide +kernel
theorem dX0_work_19 : decode cX0_work 19 = .ok (.iload_n 1, 1) := by decide +kernel
theorem dX0_work_20 : decode cX0_work 20 = .ok (.iaload, 1) := by decide +kernel
theorem dX0_work_21 : decode cX0_work 21 = .ok (.iload_n 2, 1) := by decide +kernel
theorem dX0_work_22 : decode cX0_work 22 = .ok (.iadd, 1) := by decide +kernel
theorem dX0_work_23 : decode cX0_work 23 = .ok (.bipush 99, 2) := by decide +kernel
theorem dX0_work_25 : decode cX0_work 25 = .ok (.if_icmp .gt 7, 3) := by decide +kernel
theorem dX0_work_28 : decode cX0_work 28 = .ok (.iconst 1, 1) := by decide +kernel
theorem dX0_work_29 : decode cX0_work 29 = .ok (.goto 4, 3) := by decide +kernel
theorem dX0_work_32 : decode cX0_work 32 = .ok (.iconst 0, 1) := by decide +kernel
theorem dX0_work_33 : decode cX0_work 33 = .ok (.invokestatic 54, 3) := by decide +kernel
theorem dX0_work_36 : decode cX0_work 36 = .ok (.aload_n 0, 1) := by decide +kernel
theorem dX0_work_37 : decode cX0_work 37 = .ok (.getfield 16, 3) := by decide +kernel
theorem dX0_work_40 : decode cX0_work 40 = .ok (.iload_n 1, 1) := by decide +kernel
theorem dX0_work_41 : decode cX0_work 41 = .ok (.dup2, 1) := by decide +kernel
theorem dX0_work_42 : decode cX0_work 42 = .ok (.iaload, 1) := by decide +kernel
theorem dX0_work_43 : decode cX0_work 43 = .ok (.iload_n 2, 1) := by decide +kernel
theorem dX0_work_44 : decode cX0_work 44 = .ok (.iadd, 1) := by decide +kernel
theorem dX0_work_45 : decode cX0_work 45 = .ok (.iastore, 1) := by decide +kernel
theorem dX0_work_46 : decode cX0_work 46 = .ok (.iload_n 3, 1) := by decide +kernel
theorem dX0_work_47 : decode cX0_work 47 = .ok (.ifCond .eq 13, 3) := by decide +kernel
theorem dX0_work_50 : decode cX0_work 50 = .ok (.aload_n 0, 1) := by decide +kernel
theorem dX0_work_51 : decode cX0_work 51 = .ok (.getfield 19, 3) := by decide +kernel
theorem dX0_work_54 : decode cX0_work 54 = .ok (.iload_n 1, 1) := by decide +kernel
theorem dX0_work_55 : decode cX0_work 55 = .ok (.dup2, 1) := by decide +kernel
theorem dX0_work_56 : decode cX0_work 56 = .ok (.iaload, 1) := by decide +kernel
theorem dX0_work_57 : decode cX0_work 57 = .ok (.iconst 1, 1) := by decide +kernel
theorem dX0_work_58 : decode cX0_work 58 = .ok (.iadd, 1) := by decide +kernel
theorem dX0_work_59 : decode cX0_work 59 = .ok (.iastore, 1) := by decide +kernel
theorem dX0_work_60 : decode cX0_work 60 = .ok (.aload_n 0, 1) := by decide +kernel
theorem dX0_work_61 : decode cX0_work 61 = .ok (.getfield 16, 3) := by decide +kernel
theorem dX0_work_64 : decode cX0_work 64 = .ok (.iload_n 1, 1) := by decide +kernel
theorem dX0_work_65 : decode cX0_work 65 = .ok (.iaload, 1) := by decide +kernel
theorem dX0_work_66 : decode cX0_work 66 = .ok (.ireturn, 1) := by decide +kernel
theorem dX0_lend_0 : decode cX0_lend 0 = .ok (.iload_n 1, 1) := by decide +kernel
theorem dX0_lend_1 : decode cX0_lend 1 = .ok (.aload_n 0, 1) := by decide +kernel
theorem dX0_lend_2 : decode cX0_lend 2 = .ok (.getfield 50, 3) := by decide +kernel
theorem dX0_lend_5 : decode cX0_lend 5 = .ok (.invokestatic 62, 3) := by decide +kernel
theorem dX0_lend_8 : decode cX0_lend 8 = .ok (.iload_n 2, 1) := by decide +kernel
theorem dX0_lend_9 : decode cX0_lend 9 = .ok (.iconst 1, 1) := by decide +kernel
theorem dX0_lend_10 : decode cX0_lend 10 = .ok (.sipush 2000, 3) := by decide +kernel
theorem dX0_lend_13 : decode cX0_lend 13 = .ok (.invokestatic 46, 3) := by decide +kernel
theorem dX0_lend_16 : decode cX0_lend 16 = .ok (.aload_n 0, 1) := by decide +kernel
theorem dX0_lend_17 : decode cX0_lend 17 = .ok (.getfield 22, 3) := by decide +kernel
theorem dX0_lend_20 : decode cX0_lend 20 = .ok (.iload_n 1, 1) := by decide +kernel
theorem dX0_lend_21 : decode cX0_lend 21 = .ok (.iaload, 1) := by decide +kernel
theorem dX0_lend_22 : decode cX0_lend 22 = .ok (.iload_n 2, 1) := by decide +kernel
theorem dX0_lend_23 : decode cX0_lend 23 = .ok (.iadd, 1) := by decide +kernel
theorem dX0_lend_24 : decode cX0_lend 24 = .ok (.sipush 5000, 3) := by decide +kernel
theorem dX0_lend_27 : decode cX0_lend 27 = .ok (.if_icmp .gt 7, 3) := by decide +kernel
theorem dX0_lend_30 : decode cX0_lend 30 = .ok (.iconst 1, 1) := by decide +kernel
theorem dX0_lend_31 : decode cX0_lend 31 = .ok (.goto 4, 3) := by decide +kernel
theorem dX0_lend_34 : decode cX0_lend 34 = .ok (.iconst 0, 1) := by decide +kernel
theorem dX0_lend_35 : decode cX0_lend 35 = .ok (.invokestatic 54, 3) := by decide +kernel
theorem dX0_lend_38 : decode cX0_lend 38 = .ok (.aload_n 0, 1) := by decide +kernel
theorem dX0_lend_39 : decode cX0_lend 39 = .ok (.getfield 22, 3) := by decide +kernel
theorem dX0_lend_42 : decode cX0_lend 42 = .ok (.iload_n 1, 1) := by decide +kernel
theorem dX0_lend_43 : decode cX0_lend 43 = .ok (.dup2, 1) := by decide +kernel
theorem dX0_lend_44 : decode cX0_lend 44 = .ok (.iaload, 1) := by decide +kernel
theorem dX0_lend_45 : decode cX0_lend 45 = .ok (.iload_n 2, 1) := by decide +kernel
theorem dX0_lend_46 : decode cX0_lend 46 = .ok (.iadd, 1) := by decide +kernel
theorem dX0_lend_47 : decode cX0_lend 47 = .ok (.iastore, 1) := by decide +kernel
theorem dX0_lend_48 : decode cX0_lend 48 = .ok (.aload_n 0, 1) := by decide +kernel
theorem dX0_lend_49 : decode cX0_lend 49 = .ok (.getfield 22, 3) := by decide +kernel
theorem dX0_lend_52 : decode cX0_lend 52 = .ok (.iload_n 1, 1) := by decide +kernel
theorem dX0_lend_53 : decode cX0_lend 53 = .ok (.iaload, 1) := by decide +kernel
theorem dX0_lend_54 : decode cX0_lend 54 = .ok (.ireturn, 1) := by decide +kernel
theorem dX0_pay_0 : decode cX0_pay 0 = .ok (.iconst 0, 1) := by decide +kernel
theorem dX0_pay_1 : decode cX0_pay 1 = .ok (.istore_n 1, 1) := by decide +kernel
theorem dX0_pay_2 : decode cX0_pay 2 = .ok (.iconst 0, 1) := by decide +kernel
theorem dX0_pay_3 : decode cX0_pay 3 = .ok (.istore_n 2, 1) := by decide +kernel
theorem dX0_pay_4 : decode cX0_pay 4 = .ok (.iload_n 2, 1) := by decide +kernel
theorem dX0_pay_5 : decode cX0_pay 5 = .ok (.aload_n 0, 1) := by decide +kernel
theorem dX0_pay_6 : decode cX0_pay 6 = .ok (.getfield 50, 3) := by decide +kernel
theorem dX0_pay_9 : decode cX0_pay 9 = .ok (.if_icmp .ge 17, 3) := by decide +kernel
theorem dX0_pay_12 : decode cX0_pay 12 = .ok (.iload_n 1, 1) := by decide +kernel
theorem dX0_pay_13 : decode cX0_pay 13 = .ok (.aload_n 0, 1) := by decide +kernel
theorem dX0_pay_14 : decode cX0_pay 14 = .ok (.iload_n 2, 1) := by decide +kernel
theorem dX0_pay_15 : decode cX0_pay 15 = .ok (.invokevirtual 65, 3) := by decide +kernel
theorem dX0_pay_18 : decode cX0_pay 18 = .ok (.iadd, 1) := by decide +kernel
theorem dX0_pay_19 : decode cX0_pay 19 = .ok (.istore_n 1, 1) := by decide +kernel
theorem dX0_pay_20 : decode cX0_pay 20 = .ok (.iinc 2 1, 3) := by decide +kernel
theorem dX0_pay_23 : decode cX0_pay 23 = .ok (.goto (-19), 3) := by decide +kernel
theorem dX0_pay_26 : decode cX0_pay 26 = .ok (.aload_n 0, 1) := by decide +kernel
theorem dX0_pay_27 : decode cX0_pay 27 = .ok (.dup, 1) := by decide +kernel
theorem dX0_pay_28 : decode cX0_pay 28 = .ok (.getfield 69, 3) := by decide +kernel
theorem dX0_pay_31 : decode cX0_pay 31 = .ok (.iconst 1, 1) := by decide +kernel
theorem dX0_pay_32 : decode cX0_pay 32 = .ok (.iadd, 1) := by decide +kernel
theorem dX0_pay_33 : decode cX0_pay 33 = .ok (.putfield 69, 3) := by decide +kernel
theorem dX0_pay_36 : decode cX0_pay 36 = .ok (.iload_n 1, 1) := by decide +kernel
theorem dX0_pay_37 : decode cX0_pay 37 = .ok (.ireturn, 1) := by decide +kernel
theorem dX0_told_0 : decode cX0_told 0 = .ok (.iload_n 1, 1) := by decide +kernel
theorem dX0_told_1 : decode cX0_told 1 = .ok (.aload_n 0, 1) := by decide +kernel
theorem dX0_told_2 : decode cX0_told 2 = .ok (.getfield 50, 3) := by decide +kernel
theorem dX0_told_5 : decode cX0_told 5 = .ok (.invokestatic 62, 3) := by decide +kernel
theorem dX0_told_8 : decode cX0_told 8 = .ok (.iload_n 2, 1) := by decide +kernel
theorem dX0_told_9 : decode cX0_told 9 = .ok (.bipush 8, 2) := by decide +kernel
theorem dX0_told_11 : decode cX0_told 11 = .ok (.invokestatic 62, 3) := by decide +kernel
theorem dX0_told_14 : decode cX0_told 14 = .ok (.iload_n 2, 1) := by decide +kernel
theorem dX0_told_15 : decode cX0_told 15 = .ok (.tableswitch 90 0 6 #[41, 48, 55, 62, 69, 76, 83], 41) := by decide +kernel
theorem dX0_told_56 : decode cX0_told 56 = .ok (.aload_n 0, 1) := by decide +kernel
theorem dX0_told_57 : decode cX0_told 57 = .ok (.getfield 9, 3) := by decide +kernel
theorem dX0_told_60 : decode cX0_told 60 = .ok (.iload_n 1, 1) := by decide +kernel
theorem dX0_told_61 : decode cX0_told 61 = .ok (.iaload, 1) := by decide +kernel
theorem dX0_told_62 : decode cX0_told 62 = .ok (.ireturn, 1) := by decide +kernel
theorem dX0_told_63 : decode cX0_told 63 = .ok (.aload_n 0, 1) := by decide +kernel
theorem dX0_told_64 : decode cX0_told 64 = .ok (.getfield 13, 3) := by decide +kernel
theorem dX0_told_67 : decode cX0_told 67 = .ok (.iload_n 1, 1) := by decide +kernel
theorem dX0_told_68 : decode cX0_told 68 = .ok (.iaload, 1) := by decide +kernel
theorem dX0_told_69 : decode cX0_told 69 = .ok (.ireturn, 1) := by decide +kernel
theorem dX0_told_70 : decode cX0_told 70 = .ok (.aload_n 0, 1) := by decide +kernel
theorem dX0_told_71 : decode cX0_told 71 = .ok (.getfield 16, 3) := by decide +kernel
theorem dX0_told_74 : decode cX0_told 74 = .ok (.iload_n 1, 1) := by decide +kernel
theorem dX0_told_75 : decode cX0_told 75 = .ok (.iaload, 1) := by decide +kernel
theorem dX0_told_76 : decode cX0_told 76 = .ok (.ireturn, 1) := by decide +kernel
theorem dX0_told_77 : decode cX0_told 77 = .ok (.aload_n 0, 1) := by decide +kernel
theorem dX0_told_78 : decode cX0_told 78 = .ok (.getfield 19, 3) := by decide +kernel
theorem dX0_told_81 : decode cX0_told 81 = .ok (.iload_n 1, 1) := by decide +kernel
theorem dX0_told_82 : decode cX0_told 82 = .ok (.iaload, 1) := by decide +kernel
theorem dX0_told_83 : decode cX0_told 83 = .ok (.ireturn, 1) := by decide +kernel
theorem dX0_told_84 : decode cX0_told 84 = .ok (.aload_n 0, 1) := by decide +kernel
theorem dX0_told_85 : decode cX0_told 85 = .ok (.getfield 22, 3) := by decide +kernel
theorem dX0_told_88 : decode cX0_told 88 = .ok (.iload_n 1, 1) := by decide +kernel
theorem dX0_told_89 : decode cX0_told 89 = .ok (.iaload, 1) := by decide +kernel
theorem dX0_told_90 : decode cX0_told 90 = .ok (.ireturn, 1) := by decide +kernel
theorem dX0_told_91 : decode cX0_told 91 = .ok (.aload_n 0, 1) := by decide +kernel
theorem dX0_told_92 : decode cX0_told 92 = .ok (.getfield 25, 3) := by decide +kernel
theorem dX0_told_95 : decode cX0_told 95 = .ok (.iload_n 1, 1) := by decide +kernel
theorem dX0_told_96 : decode cX0_told 96 = .ok (.iaload, 1) := by decide +kernel
theorem dX0_told_97 : decode cX0_told 97 = .ok (.ireturn, 1) := by decide +kernel
theorem dX0_told_98 : decode cX0_told 98 = .ok (.aload_n 0, 1) := by decide +kernel
theorem dX0_told_99 : decode cX0_told 99 = .ok (.getfield 28, 3) := by decide +kernel
theorem dX0_told_102 : decode cX0_told 102 = .ok (.iload_n 1, 1) := by decide +kernel
theorem dX0_told_103 : decode cX0_told 103 = .ok (.iaload, 1) := by decide +kernel
theorem dX0_told_104 : decode cX0_told 104 = .ok (.ireturn, 1) := by decide +kernel
theorem dX0_told_105 : decode cX0_told 105 = .ok (.aload_n 0, 1) := by decide +kernel
theorem dX0_told_106 : decode cX0_told 106 = .ok (.iload_n 1, 1) := by decide +kernel
theorem dX0_told_107 : decode cX0_told 107 = .ok (.invokevirtual 72, 3) := by decide +kernel
theorem dX0_told_110 : decode cX0_told 110 = .ok (.ireturn, 1) := by decide +kernel
theorem dX0_wage_0 : decode cX0_wage 0 = .ok (.iload_n 1, 1) := by decide +kernel
theorem dX0_wage_1 : decode cX0_wage 1 = .ok (.aload_n 0, 1) := by decide +kernel
theorem dX0_wage_2 : decode cX0_wage 2 = .ok (.getfield 50, 3) := by decide +kernel
theorem dX0_wage_5 : decode cX0_wage 5 = .ok (.invokestatic 62, 3) := by decide +kernel
theorem dX0_wage_8 : decode cX0_wage 8 = .ok (.iload_n 2, 1) := by decide +kernel
theorem dX0_wage_9 : decode cX0_wage 9 = .ok (.bipush 6, 2) := by decide +kernel
theorem dX0_wage_11 : decode cX0_wage 11 = .ok (.invokestatic 62, 3) := by decide +kernel
theorem dX0_wage_14 : decode cX0_wage 14 = .ok (.iload_n 2, 1) := by decide +kernel
theorem dX0_wage_15 : decode cX0_wage 15 = .ok (.tableswitch 85 0 4 #[33, 43, 53, 63, 69], 33) := by decide +kernel
theorem dX0_wage_48 : decode cX0_wage 48 = .ok (.aload_n 0, 1) := by decide +kernel
theorem dX0_wage_49 : decode cX0_wage 49 = .ok (.iload_n 1, 1) := by decide +kernel
theorem dX0_wage_50 : decode cX0_wage 50 = .ok (.aload_n 0, 1) := by decide +kernel
theorem dX0_wage_51 : decode cX0_wage 51 = .ok (.getfield 31, 3) := by decide +kernel
theorem dX0_wage_54 : decode cX0_wage 54 = .ok (.invokevirtual 75, 3) := by decide +kernel
theorem dX0_wage_57 : decode cX0_wage 57 = .ok (.ireturn, 1) := by decide +kernel
theorem dX0_wage_58 : decode cX0_wage 58 = .ok (.aload_n 0, 1) := by decide +kernel
theorem dX0_wage_59 : decode cX0_wage 59 = .ok (.iload_n 1, 1) := by decide +kernel
theorem dX0_wage_60 : decode cX0_wage 60 = .ok (.aload_n 0, 1) := by decide +kernel
theorem dX0_wage_61 : decode cX0_wage 61 = .ok (.getfield 31, 3) := by decide +kernel
theorem dX0_wage_64 : decode cX0_wage 64 = .ok (.invokevirtual 79, 3) := by decide +kernel
theorem dX0_wage_67 : decode cX0_wage 67 = .ok (.ireturn, 1) := by decide +kernel
theorem dX0_wage_68 : decode cX0_wage 68 = .ok (.aload_n 0, 1) := by decide +kernel
theorem dX0_wage_69 : decode cX0_wage 69 = .ok (.iload_n 1, 1) := by decide +kernel
theorem dX0_wage_70 : decode cX0_wage 70 = .ok (.aload_n 0, 1) := by decide +kernel
theorem dX0_wage_71 : decode cX0_wage 71 = .ok (.getfield 31, 3) := by decide +kernel
theorem dX0_wage_74 : decode cX0_wage 74 = .ok (.invokevirtual 82, 3) := by decide +kernel
theorem dX0_wage_77 : decode cX0_wage 77 = .ok (.ireturn, 1) := by decide +kernel
theorem dX0_wage_78 : decode cX0_wage 78 = .ok (.aload_n 0, 1) := by decide +kernel
theorem dX0_wage_79 : decode cX0_wage 79 = .ok (.iload_n 1, 1) := by decide +kernel
theorem dX0_wage_80 : decode cX0_wage 80 = .ok (.invokevirtual 85, 3) := by decide +kernel
theorem dX0_wage_83 : decode cX0_wage 83 = .ok (.ireturn, 1) := by decide +kernel
theorem dX0_wage_84 : decode cX0_wage 84 = .ok (.aload_n 0, 1) := by decide +kernel
theorem dX0_wage_85 : decode cX0_wage 85 = .ok (.aload_n 0, 1) := by decide +kernel
theorem dX0_wage_86 : decode cX0_wage 86 = .ok (.getfield 22, 3) := by decide +kernel
theorem dX0_wage_89 : decode cX0_wage 89 = .ok (.iload_n 1, 1) := by decide +kernel
theorem dX0_wage_90 : decode cX0_wage 90 = .ok (.iaload, 1) := by decide +kernel
theorem dX0_wage_91 : decode cX0_wage 91 = .ok (.aload_n 0, 1) := by decide +kernel
theorem dX0_wage_92 : decode cX0_wage 92 = .ok (.iload_n 1, 1) := by decide +kernel
theorem dX0_wage_93 : decode cX0_wage 93 = .ok (.invokevirtual 85, 3) := by decide +kernel
theorem dX0_wage_96 : decode cX0_wage 96 = .ok (.invokevirtual 88, 3) := by decide +kernel
theorem dX0_wage_99 : decode cX0_wage 99 = .ok (.ireturn, 1) := by decide +kernel
theorem dX0_wage_100 : decode cX0_wage 100 = .ok (.aload_n 0, 1) := by decide +kernel
theorem dX0_wage_101 : decode cX0_wage 101 = .ok (.iload_n 1, 1) := by decide +kernel
theorem dX0_wage_102 : decode cX0_wage 102 = .ok (.invokevirtual 92, 3) := by decide +kernel
theorem dX0_wage_105 : decode cX0_wage 105 = .ok (.ireturn, 1) := by decide +kernel
theorem dX0_chest_0 : decode cX0_chest 0 = .ok (.iload_n 1, 1) := by decide +kernel
theorem dX0_chest_1 : decode cX0_chest 1 = .ok (.iconst 3, 1) := by decide +kernel
theorem dX0_chest_2 : decode cX0_chest 2 = .ok (.invokestatic 62, 3) := by decide +kernel
theorem dX0_chest_5 : decode cX0_chest 5 = .ok (.aload_n 0, 1) := by decide +kernel
theorem dX0_chest_6 : decode cX0_chest 6 = .ok (.getfield 34, 3) := by decide +kernel
theorem dX0_chest_9 : decode cX0_chest 9 = .ok (.iload_n 1, 1) := by decide +kernel
theorem dX0_chest_10 : decode cX0_chest 10 = .ok (.iaload, 1) := by decide +kernel
theorem dX0_chest_11 : decode cX0_chest 11 = .ok (.ireturn, 1) := by decide +kernel
theorem dX0_coins_0 : decode cX0_coins 0 = .ok (.iload_n 1, 1) := by decide +kernel
theorem dX0_coins_1 : decode cX0_coins 1 = .ok (.aload_n 0, 1) := by decide +kernel
theorem dX0_coins_2 : decode cX0_coins 2 = .ok (.getfield 50, 3) := by decide +kernel
theorem dX0_coins_5 : decode cX0_coins 5 = .ok (.invokestatic 62, 3) := by decide +kernel
theorem dX0_coins_8 : decode cX0_coins 8 = .ok (.iload_n 2, 1) := by decide +kernel
theorem dX0_coins_9 : decode cX0_coins 9 = .ok (.iconst 3, 1) := by decide +kernel
theorem dX0_coins_10 : decode cX0_coins 10 = .ok (.invokestatic 62, 3) := by decide +kernel
theorem dX0_coins_13 : decode cX0_coins 13 = .ok (.aload_n 0, 1) := by decide +kernel
theorem dX0_coins_14 : decode cX0_coins 14 = .ok (.getfield 34, 3) := by decide +kernel
theorem dX0_coins_17 : decode cX0_coins 17 = .ok (.aload_n 0, 1) := by decide +kernel
theorem dX0_coins_18 : decode cX0_coins 18 = .ok (.getfield 40, 3) := by decide +kernel
theorem dX0_coins_21 : decode cX0_coins 21 = .ok (.iconst 3, 1) := by decide +kernel
theorem dX0_coins_22 : decode cX0_coins 22 = .ok (.invokestatic 95, 3) := by decide +kernel
theorem dX0_coins_25 : decode cX0_coins 25 = .ok (.iconst 0, 1) := by decide +kernel
theorem dX0_coins_26 : decode cX0_coins 26 = .ok (.istore_n 3, 1) := by decide +kernel
theorem dX0_coins_27 : decode cX0_coins 27 = .ok (.iload_n 3, 1) := by decide +kernel
theorem dX0_coins_28 : decode cX0_coins 28 = .ok (.iload_n 1, 1) := by decide +kernel
theorem dX0_coins_29 : decode cX0_coins 29 = .ok (.if_icmp .gt 23, 3) := by decide +kernel
theorem dX0_coins_32 : decode cX0_coins 32 = .ok (.aload_n 0, 1) := by decide +kernel
theorem dX0_coins_33 : decode cX0_coins 33 = .ok (.aload_n 0, 1) := by decide +kernel
theorem dX0_coins_34 : decode cX0_coins 34 = .ok (.getfield 40, 3) := by decide +kernel
theorem dX0_coins_37 : decode cX0_coins 37 = .ok (.aload_n 0, 1) := by decide +kernel
theorem dX0_coins_38 : decode cX0_coins 38 = .ok (.iload_n 3, 1) := by decide +kernel
theorem dX0_coins_39 : decode cX0_coins 39 = .ok (.invokevirtual 92, 3) := by decide +kernel
theorem dX0_coins_42 : decode cX0_coins 42 = .ok (.invokevirtual 99, 3) := by decide +kernel
theorem dX0_coins_45 : decode cX0_coins 45 = .ok (.pop, 1) := by decide +kernel
theorem dX0_coins_46 : decode cX0_coins 46 = .ok (.iinc 3 1, 3) := by decide +kernel
theorem dX0_coins_49 : decode cX0_coins 49 = .ok (.goto (-22), 3) := by decide +kernel
theorem dX0_coins_52 : decode cX0_coins 52 = .ok (.aload_n 0, 1) := by decide +kernel
theorem dX0_coins_53 : decode cX0_coins 53 = .ok (.getfield 43, 3) := by decide +kernel
theorem dX0_coins_56 : decode cX0_coins 56 = .ok (.iload_n 2, 1) := by decide +kernel
theorem dX0_coins_57 : decode cX0_coins 57 = .ok (.iaload, 1) := by decide +kernel
theorem dX0_coins_58 : decode cX0_coins 58 = .ok (.ireturn, 1) := by decide +kernel
theorem dX0_count_0 : decode cX0_count 0 = .ok (.iload_n 1, 1) := by decide +kernel
theorem dX0_count_1 : decode cX0_count 1 = .ok (.bipush 7, 2) := by decide +kernel
theorem dX0_count_3 : decode cX0_count 3 = .ok (.invokestatic 62, 3) := by decide +kernel
theorem dX0_count_6 : decode cX0_count 6 = .ok (.iload_n 1, 1) := by decide +kernel
theorem dX0_count_7 : decode cX0_count 7 = .ok (.tableswitch 79 0 5 #[37, 42, 47, 56, 65, 70], 37) := by decide +kernel
theorem dX0_count_44 : decode cX0_count 44 = .ok (.aload_n 0, 1) := by decide +kernel
theorem dX0_count_45 : decode cX0_count 45 = .ok (.getfield 69, 3) := by decide +kernel
theorem dX0_count_48 : decode cX0_count 48 = .ok (.ireturn, 1) := by decide +kernel
theorem dX0_count_49 : decode cX0_count 49 = .ok (.aload_n 0, 1) := by decide +kernel
theorem dX0_count_50 : decode cX0_count 50 = .ok (.getfield 50, 3) := by decide +kernel
theorem dX0_count_53 : decode cX0_count 53 = .ok (.ireturn, 1) := by decide +kernel
theorem dX0_count_54 : decode cX0_count 54 = .ok (.aload_n 0, 1) := by decide +kernel
theorem dX0_count_55 : decode cX0_count 55 = .ok (.aload_n 0, 1) := by decide +kernel
theorem dX0_count_56 : decode cX0_count 56 = .ok (.getfield 22, 3) := by decide +kernel
theorem dX0_count_59 : decode cX0_count 59 = .ok (.invokevirtual 103, 3) := by decide +kernel
theorem dX0_count_62 : decode cX0_count 62 = .ok (.ireturn, 1) := by decide +kernel
theorem dX0_count_63 : decode cX0_count 63 = .ok (.aload_n 0, 1) := by decide +kernel
theorem dX0_count_64 : decode cX0_count 64 = .ok (.aload_n 0, 1) := by decide +kernel
theorem dX0_count_65 : decode cX0_count 65 = .ok (.getfield 25, 3) := by decide +kernel
theorem dX0_count_68 : decode cX0_count 68 = .ok (.invokevirtual 103, 3) := by decide +kernel
theorem dX0_count_71 : decode cX0_count 71 = .ok (.ireturn, 1) := by decide +kernel
theorem dX0_count_72 : decode cX0_count 72 = .ok (.aload_n 0, 1) := by decide +kernel
theorem dX0_count_73 : decode cX0_count 73 = .ok (.invokevirtual 107, 3) := by decide +kernel
theorem dX0_count_76 : decode cX0_count 76 = .ok (.ireturn, 1) := by decide +kernel
theorem dX0_count_77 : decode cX0_count 77 = .ok (.aload_n 0, 1) := by decide +kernel
theorem dX0_count_78 : decode cX0_count 78 = .ok (.aload_n 0, 1) := by decide +kernel
theorem dX0_count_79 : decode cX0_count 79 = .ok (.getfield 31, 3) := by decide +kernel
theorem dX0_count_82 : decode cX0_count 82 = .ok (.invokevirtual 111, 3) := by decide +kernel
theorem dX0_count_85 : decode cX0_count 85 = .ok (.ireturn, 1) := by decide +kernel
theorem dX0_count_86 : decode cX0_count 86 = .ok (.aload_n 0, 1) := by decide +kernel
theorem dX0_count_87 : decode cX0_count 87 = .ok (.aload_n 0, 1) := by decide +kernel
theorem dX0_count_88 : decode cX0_count 88 = .ok (.getfield 28, 3) := by decide +kernel
theorem dX0_count_91 : decode cX0_count 91 = .ok (.invokevirtual 103, 3) := by decide +kernel
theorem dX0_count_94 : decode cX0_count 94 = .ok (.ireturn, 1) := by decide +kernel
theorem dX0_rate_0 : decode cX0_rate 0 = .ok (.iload_n 1, 1) := by decide +kernel
theorem dX0_rate_1 : decode cX0_rate 1 = .ok (.iconst 5, 1) := by decide +kernel
theorem dX0_rate_2 : decode cX0_rate 2 = .ok (.invokestatic 62, 3) := by decide +kernel
theorem dX0_rate_5 : decode cX0_rate 5 = .ok (.aload_n 0, 1) := by decide +kernel
theorem dX0_rate_6 : decode cX0_rate 6 = .ok (.getfield 31, 3) := by decide +kernel
theorem dX0_rate_9 : decode cX0_rate 9 = .ok (.iload_n 1, 1) := by decide +kernel
theorem dX0_rate_10 : decode cX0_rate 10 = .ok (.iaload, 1) := by decide +kernel
theorem dX0_rate_11 : decode cX0_rate 11 = .ok (.ireturn, 1) := by decide +kernel
theorem dX0_lacks_0 : decode cX0_lacks 0 = .ok (.aload_n 0, 1) := by decide +kernel
theorem dX0_lacks_1 : decode cX0_lacks 1 = .ok (.getfield 34, 3) := by decide +kernel
theorem dX0_lacks_4 : decode cX0_lacks 4 = .ok (.aload_n 0, 1) := by decide +kernel
theorem dX0_lacks_5 : decode cX0_lacks 5 = .ok (.getfield 40, 3) := by decide +kernel
theorem dX0_lacks_8 : decode cX0_lacks 8 = .ok (.iconst 3, 1) := by decide +kernel
theorem dX0_lacks_9 : decode cX0_lacks 9 = .ok (.invokestatic 95, 3) := by decide +kernel
theorem dX0_lacks_12 : decode cX0_lacks 12 = .ok (.iconst 0, 1) := by decide +kernel
theorem dX0_lacks_13 : decode cX0_lacks 13 = .ok (.istore_n 1, 1) := by decide +kernel
theorem dX0_lacks_14 : decode cX0_lacks 14 = .ok (.iconst 0, 1) := by decide +kernel
theorem dX0_lacks_15 : decode cX0_lacks 15 = .ok (.istore_n 2, 1) := by decide +kernel
theorem dX0_lacks_16 : decode cX0_lacks 16 = .ok (.iload_n 2, 1) := by decide +kernel
theorem dX0_lacks_17 : decode cX0_lacks 17 = .ok (.aload_n 0, 1) := by decide +kernel
theorem dX0_lacks_18 : decode cX0_lacks 18 = .ok (.getfield 50, 3) := by decide +kernel
theorem dX0_lacks_21 : decode cX0_lacks 21 = .ok (.if_icmp .ge 31, 3) := by decide +kernel
theorem dX0_lacks_24 : decode cX0_lacks 24 = .ok (.aload_n 0, 1) := by decide +kernel
theorem dX0_lacks_25 : decode cX0_lacks 25 = .ok (.iload_n 2, 1) := by decide +kernel
theorem dX0_lacks_26 : decode cX0_lacks 26 = .ok (.invokevirtual 92, 3) := by decide +kernel
theorem dX0_lacks_29 : decode cX0_lacks 29 = .ok (.istore_n 3, 1) := by decide +kernel
theorem dX0_lacks_30 : decode cX0_lacks 30 = .ok (.iload_n 1, 1) := by decide +kernel
theorem dX0_lacks_31 : decode cX0_lacks 31 = .ok (.iload_n 3, 1) := by decide +kernel
theorem dX0_lacks_32 : decode cX0_lacks 32 = .ok (.aload_n 0, 1) := by decide +kernel
theorem dX0_lacks_33 : decode cX0_lacks 33 = .ok (.aload_n 0, 1) := by decide +kernel
theorem dX0_lacks_34 : decode cX0_lacks 34 = .ok (.getfield 40, 3) := by decide +kernel
theorem dX0_lacks_37 : decode cX0_lacks 37 = .ok (.iload_n 3, 1) := by decide +kernel
theorem dX0_lacks_38 : decode cX0_lacks 38 = .ok (.invokevirtual 99, 3) := by decide +kernel
theorem dX0_lacks_41 : decode cX0_lacks 41 = .ok (.isub, 1) := by decide +kernel
theorem dX0_lacks_42 : decode cX0_lacks 42 = .ok (.iconst 4, 1) := by decide +kernel
theorem dX0_lacks_43 : decode cX0_lacks 43 = .ok (.idiv, 1) := by decide +kernel
theorem dX0_lacks_44 : decode cX0_lacks 44 = .ok (.iadd, 1) := by decide +kernel
theorem dX0_lacks_45 : decode cX0_lacks 45 = .ok (.istore_n 1, 1) := by decide +kernel
theorem dX0_lacks_46 : decode cX0_lacks 46 = .ok (.iinc 2 1, 3) := by decide +kernel
theorem dX0_lacks_49 : decode cX0_lacks 49 = .ok (.goto (-33), 3) := by decide +kernel
theorem dX0_lacks_52 : decode cX0_lacks 52 = .ok (.iload_n 1, 1) := by decide +kernel
theorem dX0_lacks_53 : decode cX0_lacks 53 = .ok (.ireturn, 1) := by decide +kernel
theorem dX0_mean_0 : decode cX0_mean 0 = .ok (.aload_n 0, 1) := by decide +kernel
theorem dX0_mean_1 : decode cX0_mean 1 = .ok (.getfield 50, 3) := by decide +kernel
theorem dX0_mean_4 : decode cX0_mean 4 = .ok (.ifCond .ne 7, 3) := by decide +kernel
theorem dX0_mean_7 : decode cX0_mean 7 = .ok (.dconst 0, 1) := by decide +kernel
theorem dX0_mean_8 : decode cX0_mean 8 = .ok (.goto 18, 3) := by decide +kernel
theorem dX0_mean_11 : decode cX0_mean 11 = .ok (.aload_n 0, 1) := by decide +kernel
theorem dX0_mean_12 : decode cX0_mean 12 = .ok (.aload_n 0, 1) := by decide +kernel
theorem dX0_mean_13 : decode cX0_mean 13 = .ok (.getfield 31, 3) := by decide +kernel
theorem dX0_mean_16 : decode cX0_mean 16 = .ok (.invokevirtual 111, 3) := by decide +kernel
theorem dX0_mean_19 : decode cX0_mean 19 = .ok (.i2d, 1) := by decide +kernel
theorem dX0_mean_20 : decode cX0_mean 20 = .ok (.aload_n 0, 1) := by decide +kernel
theorem dX0_mean_21 : decode cX0_mean 21 = .ok (.getfield 50, 3) := by decide +kernel
theorem dX0_mean_24 : decode cX0_mean 24 = .ok (.i2d, 1) := by decide +kernel
theorem dX0_mean_25 : decode cX0_mean 25 = .ok (.ddiv, 1) := by decide +kernel
theorem dX0_mean_26 : decode cX0_mean 26 = .ok (.dreturn, 1) := by decide +kernel
theorem dX0_wageByPieces_0 : decode cX0_wageByPieces 0 = .ok (.aload_n 0, 1) := by decide +kernel
theorem dX0_wageByPieces_1 : decode cX0_wageByPieces 1 = .ok (.getfield 13, 3) := by decide +kernel
theorem dX0_wageByPieces_4 : decode cX0_wageByPieces 4 = .ok (.iload_n 1, 1) := by decide +kernel
theorem dX0_wageByPieces_5 : decode cX0_wageByPieces 5 = .ok (.iaload, 1) := by decide +kernel
theorem dX0_wageByPieces_6 : decode cX0_wageByPieces 6 = .ok (.aload_n 2, 1) := by decide +kernel
theorem dX0_wageByPieces_7 : decode cX0_wageByPieces 7 = .ok (.iconst 2, 1) := by decide +kernel
theorem dX0_wageByPieces_8 : decode cX0_wageByPieces 8 = .ok (.iaload, 1) := by decide +kernel
theorem dX0_wageByPieces_9 : decode cX0_wageByPieces 9 = .ok (.invokestatic 142, 3) := by decide +kernel
theorem dX0_wageByPieces_12 : decode cX0_wageByPieces 12 = .ok (.istore_n 3, 1) := by decide +kernel
theorem dX0_wageByPieces_13 : decode cX0_wageByPieces 13 = .ok (.aload_n 0, 1) := by decide +kernel
theorem dX0_wageByPieces_14 : decode cX0_wageByPieces 14 = .ok (.getfield 13, 3) := by decide +kernel
theorem dX0_wageByPieces_17 : decode cX0_wageByPieces 17 = .ok (.iload_n 1, 1) := by decide +kernel
theorem dX0_wageByPieces_18 : decode cX0_wageByPieces 18 = .ok (.iaload, 1) := by decide +kernel
theorem dX0_wageByPieces_19 : decode cX0_wageByPieces 19 = .ok (.iload_n 3, 1) := by decide +kernel
theorem dX0_wageByPieces_20 : decode cX0_wageByPieces 20 = .ok (.isub, 1) := by decide +kernel
theorem dX0_wageByPieces_21 : decode cX0_wageByPieces 21 = .ok (.i2l, 1) := by decide +kernel
theorem dX0_wageByPieces_22 : decode cX0_wageByPieces 22 = .ok (.lstore 4, 2) := by decide +kernel
theorem dX0_wageByPieces_24 : decode cX0_wageByPieces 24 = .ok (.aload_n 2, 1) := by decide +kernel
theorem dX0_wageByPieces_25 : decode cX0_wageByPieces 25 = .ok (.iconst 0, 1) := by decide +kernel
theorem dX0_wageByPieces_26 : decode cX0_wageByPieces 26 = .ok (.iaload, 1) := by decide +kernel
theorem dX0_wageByPieces_27 : decode cX0_wageByPieces 27 = .ok (.i2l, 1) := by decide +kernel
theorem dX0_wageByPieces_28 : decode cX0_wageByPieces 28 = .ok (.lload 4, 2) := by decide +kernel
theorem dX0_wageByPieces_30 : decode cX0_wageByPieces 30 = .ok (.lmul, 1) := by decide +kernel
theorem dX0_wageByPieces_31 : decode cX0_wageByPieces 31 = .ok (.bipush 100, 2) := by decide +kernel
theorem dX0_wageByPieces_33 : decode cX0_wageByPieces 33 = .ok (.aload_n 2, 1) := by decide +kernel
theorem dX0_wageByPieces_34 : decode cX0_wageByPieces 34 = .ok (.iconst 3, 1) := by decide +kernel
theorem dX0_wageByPieces_35 : decode cX0_wageByPieces 35 = .ok (.iaload, 1) := by decide +kernel
theorem dX0_wageByPieces_36 : decode cX0_wageByPieces 36 = .ok (.iadd, 1) := by decide +kernel
theorem dX0_wageByPieces_37 : decode cX0_wageByPieces 37 = .ok (.i2l, 1) := by decide +kernel
theorem dX0_wageByPieces_38 : decode cX0_wageByPieces 38 = .ok (.lmul, 1) := by decide +kernel
theorem dX0_wageByPieces_39 : decode cX0_wageByPieces 39 = .ok (.ldc2_w 145, 3) := by decide +kernel
theorem dX0_wageByPieces_42 : decode cX0_wageByPieces 42 = .ok (.ldiv, 1) := by decide +kernel
theorem dX0_wageByPieces_43 : decode cX0_wageByPieces 43 = .ok (.lstore 6, 2) := by decide +kernel
theorem dX0_wageByPieces_45 : decode cX0_wageByPieces 45 = .ok (.aload_n 2, 1) := by decide +kernel
theorem dX0_wageByPieces_46 : decode cX0_wageByPieces 46 = .ok (.iconst 0, 1) := by decide +kernel
theorem dX0_wageByPieces_47 : decode cX0_wageByPieces 47 = .ok (.iaload, 1) := by decide +kernel
theorem dX0_wageByPieces_48 : decode cX0_wageByPieces 48 = .ok (.iload_n 3, 1) := by decide +kernel
theorem dX0_wageByPieces_49 : decode cX0_wageByPieces 49 = .ok (.imul, 1) := by decide +kernel
theorem dX0_wageByPieces_50 : decode cX0_wageByPieces 50 = .ok (.bipush 10, 2) := by decide +kernel
theorem dX0_wageByPieces_52 : decode cX0_wageByPieces 52 = .ok (.idiv, 1) := by decide +kernel
theorem dX0_wageByPieces_53 : decode cX0_wageByPieces 53 = .ok (.lload 6, 2) := by decide +kernel
theorem dX0_wageByPieces_55 : decode cX0_wageByPieces 55 = .ok (.l2i, 1) := by decide +kernel
theorem dX0_wageByPieces_56 : decode cX0_wageByPieces 56 = .ok (.iadd, 1) := by decide +kernel
theorem dX0_wageByPieces_57 : decode cX0_wageByPieces 57 = .ok (.ireturn, 1) := by decide +kernel
theorem dX0_wageByHours_0 : decode cX0_wageByHours 0 = .ok (.aload_n 2, 1) := by decide +kernel
theorem dX0_wageByHours_1 : decode cX0_wageByHours 1 = .ok (.iconst 1, 1) := by decide +kernel
theorem dX0_wageByHours_2 : decode cX0_wageByHours 2 = .ok (.iaload, 1) := by decide +kernel
theorem dX0_wageByHours_3 : decode cX0_wageByHours 3 = .ok (.aload_n 0, 1) := by decide +kernel
theorem dX0_wageByHours_4 : decode cX0_wageByHours 4 = .ok (.iload_n 1, 1) := by decide +kernel
theorem dX0_wageByHours_5 : decode cX0_wageByHours 5 = .ok (.invokevirtual 72, 3) := by decide +kernel
theorem dX0_wageByHours_8 : decode cX0_wageByHours 8 = .ok (.imul, 1) := by decide +kernel
theorem dX0_wageByHours_9 : decode cX0_wageByHours 9 = .ok (.ireturn, 1) := by decide +kernel
theorem dX0_hoursThatCount_0 : decode cX0_hoursThatCount 0 = .ok (.aload_n 0, 1) := by decide +kernel
theorem dX0_hoursThatCount_1 : decode cX0_hoursThatCount 1 = .ok (.getfield 19, 3) := by decide +kernel
theorem dX0_hoursThatCount_4 : decode cX0_hoursThatCount 4 = .ok (.iload_n 1, 1) := by decide +kernel
theorem dX0_hoursThatCount_5 : decode cX0_hoursThatCount 5 = .ok (.iaload, 1) := by decide +kernel
theorem dX0_hoursThatCount_6 : decode cX0_hoursThatCount 6 = .ok (.iconst 1, 1) := by decide +kernel
theorem dX0_hoursThatCount_7 : decode cX0_hoursThatCount 7 = .ok (.iadd, 1) := by decide +kernel
theorem dX0_hoursThatCount_8 : decode cX0_hoursThatCount 8 = .ok (.iconst 2, 1) := by decide +kernel
theorem dX0_hoursThatCount_9 : decode cX0_hoursThatCount 9 = .ok (.idiv, 1) := by decide +kernel
theorem dX0_hoursThatCount_10 : decode cX0_hoursThatCount 10 = .ok (.istore_n 2, 1) := by decide +kernel
theorem dX0_hoursThatCount_11 : decode cX0_hoursThatCount 11 = .ok (.iconst 0, 1) := by decide +kernel
theorem dX0_hoursThatCount_12 : decode cX0_hoursThatCount 12 = .ok (.aload_n 0, 1) := by decide +kernel
theorem dX0_hoursThatCount_13 : decode cX0_hoursThatCount 13 = .ok (.getfield 16, 3) := by decide +kernel
theorem dX0_hoursThatCount_16 : decode cX0_hoursThatCount 16 = .ok (.iload_n 1, 1) := by decide +kernel
theorem dX0_hoursThatCount_17 : decode cX0_hoursThatCount 17 = .ok (.iaload, 1) := by decide +kernel
theorem dX0_hoursThatCount_18 : decode cX0_hoursThatCount 18 = .ok (.iload_n 2, 1) := by decide +kernel
theorem dX0_hoursThatCount_19 : decode cX0_hoursThatCount 19 = .ok (.isub, 1) := by decide +kernel
theorem dX0_hoursThatCount_20 : decode cX0_hoursThatCount 20 = .ok (.invokestatic 147, 3) := by decide +kernel
theorem dX0_hoursThatCount_23 : decode cX0_hoursThatCount 23 = .ok (.istore_n 3, 1) := by decide +kernel
theorem dX0_hoursThatCount_24 : decode cX0_hoursThatCount 24 = .ok (.iconst 0, 1) := by decide +kernel
theorem dX0_hoursThatCount_25 : decode cX0_hoursThatCount 25 = .ok (.iload_n 3, 1) := by decide +kernel
theorem dX0_hoursThatCount_26 : decode cX0_hoursThatCount 26 = .ok (.bipush 60, 2) := by decide +kernel
theorem dX0_hoursThatCount_28 : decode cX0_hoursThatCount 28 = .ok (.isub, 1) := by decide +kernel
theorem dX0_hoursThatCount_29 : decode cX0_hoursThatCount 29 = .ok (.invokestatic 147, 3) := by decide +kernel
theorem dX0_hoursThatCount_32 : decode cX0_hoursThatCount 32 = .ok (.istore 4, 2) := by decide +kernel
theorem dX0_hoursThatCount_34 : decode cX0_hoursThatCount 34 = .ok (.iload_n 3, 1) := by decide +kernel
theorem dX0_hoursThatCount_35 : decode cX0_hoursThatCount 35 = .ok (.iload 4, 2) := by decide +kernel
theorem dX0_hoursThatCount_37 : decode cX0_hoursThatCount 37 = .ok (.iconst 2, 1) := by decide +kernel
theorem dX0_hoursThatCount_38 : decode cX0_hoursThatCount 38 = .ok (.idiv, 1) := by decide +kernel
theorem dX0_hoursThatCount_39 : decode cX0_hoursThatCount 39 = .ok (.iadd, 1) := by decide +kernel
theorem dX0_hoursThatCount_40 : decode cX0_hoursThatCount 40 = .ok (.ireturn, 1) := by decide +kernel
theorem dX0_weekWage_0 : decode cX0_weekWage 0 = .ok (.aload_n 0, 1) := by decide +kernel
theorem dX0_weekWage_1 : decode cX0_weekWage 1 = .ok (.getfield 9, 3) := by decide +kernel
theorem dX0_weekWage_4 : decode cX0_weekWage 4 = .ok (.iload_n 1, 1) := by decide +kernel
theorem dX0_weekWage_5 : decode cX0_weekWage 5 = .ok (.iaload, 1) := by decide +kernel
theorem dX0_weekWage_6 : decode cX0_weekWage 6 = .ok (.lookupswitch 40 #[(0, 26), (1, 33)], 26) := by decide +kernel
theorem dX0_weekWage_32 : decode cX0_weekWage 32 = .ok (.aload_n 0, 1) := by decide +kernel
theorem dX0_weekWage_33 : decode cX0_weekWage 33 = .ok (.iload_n 1, 1) := by decide +kernel
theorem dX0_weekWage_34 : decode cX0_weekWage 34 = .ok (.aload_n 2, 1) := by decide +kernel
theorem dX0_weekWage_35 : decode cX0_weekWage 35 = .ok (.invokevirtual 75, 3) := by decide +kernel
theorem dX0_weekWage_38 : decode cX0_weekWage 38 = .ok (.ireturn, 1) := by decide +kernel
theorem dX0_weekWage_39 : decode cX0_weekWage 39 = .ok (.aload_n 0, 1) := by decide +kernel
theorem dX0_weekWage_40 : decode cX0_weekWage 40 = .ok (.iload_n 1, 1) := by decide +kernel
theorem dX0_weekWage_41 : decode cX0_weekWage 41 = .ok (.aload_n 2, 1) := by decide +kernel
theorem dX0_weekWage_42 : decode cX0_weekWage 42 = .ok (.invokevirtual 79, 3) := by decide +kernel
theorem dX0_weekWage_45 : decode cX0_weekWage 45 = .ok (.ireturn, 1) := by decide +kernel
theorem dX0_weekWage_46 : decode cX0_weekWage 46 = .ok (.aload_n 0, 1) := by decide +kernel
theorem dX0_weekWage_47 : decode cX0_weekWage 47 = .ok (.iload_n 1, 1) := by decide +kernel
theorem dX0_weekWage_48 : decode cX0_weekWage 48 = .ok (.aload_n 2, 1) := by decide +kernel
theorem dX0_weekWage_49 : decode cX0_weekWage 49 = .ok (.invokevirtual 75, 3) := by decide +kernel
theorem dX0_weekWage_52 : decode cX0_weekWage 52 = .ok (.aload_n 0, 1) := by decide +kernel
theorem dX0_weekWage_53 : decode cX0_weekWage 53 = .ok (.iload_n 1, 1) := by decide +kernel
theorem dX0_weekWage_54 : decode cX0_weekWage 54 = .ok (.aload_n 2, 1) := by decide +kernel
theorem dX0_weekWage_55 : decode cX0_weekWage 55 = .ok (.invokevirtual 79, 3) := by decide +kernel
theorem dX0_weekWage_58 : decode cX0_weekWage 58 = .ok (.invokestatic 147, 3) := by decide +kernel
theorem dX0_weekWage_61 : decode cX0_weekWage 61 = .ok (.ireturn, 1) := by decide +kernel
theorem dX0_coming_0 : decode cX0_coming 0 = .ok (.aload_n 0, 1) := by decide +kernel
theorem dX0_coming_1 : decode cX0_coming 1 = .ok (.iload_n 1, 1) := by decide +kernel
theorem dX0_coming_2 : decode cX0_coming 2 = .ok (.aload_n 0, 1) := by decide +kernel
theorem dX0_coming_3 : decode cX0_coming 3 = .ok (.getfield 31, 3) := by decide +kernel
theorem dX0_coming_6 : decode cX0_coming 6 = .ok (.invokevirtual 82, 3) := by decide +kernel
theorem dX0_coming_9 : decode cX0_coming 9 = .ok (.aload_n 0, 1) := by decide +kernel
theorem dX0_coming_10 : decode cX0_coming 10 = .ok (.getfield 25, 3) := by decide +kernel
theorem dX0_coming_13 : decode cX0_coming 13 = .ok (.iload_n 1, 1) := by decide +kernel
theorem dX0_coming_14 : decode cX0_coming 14 = .ok (.iaload, 1) := by decide +kernel
theorem dX0_coming_15 : decode cX0_coming 15 = .ok (.iadd, 1) := by decide +kernel
theorem dX0_coming_16 : decode cX0_coming 16 = .ok (.ireturn, 1) := by decide +kernel
theorem dX0_takenBack_0 : decode cX0_takenBack 0 = .ok (.iload_n 1, 1) := by decide +kernel
theorem dX0_takenBack_1 : decode cX0_takenBack 1 = .ok (.iload_n 2, 1) := by decide +kernel
theorem dX0_takenBack_2 : decode cX0_takenBack 2 = .ok (.aload_n 0, 1) := by decide +kernel
theorem dX0_takenBack_3 : decode cX0_takenBack 3 = .ok (.getfield 31, 3) := by decide +kernel
theorem dX0_takenBack_6 : decode cX0_takenBack 6 = .ok (.iconst 4, 1) := by decide +kernel
theorem dX0_takenBack_7 : decode cX0_takenBack 7 = .ok (.iaload, 1) := by decide +kernel
theorem dX0_takenBack_8 : decode cX0_takenBack 8 = .ok (.invokestatic 150, 3) := by decide +kernel
theorem dX0_takenBack_11 : decode cX0_takenBack 11 = .ok (.invokestatic 142, 3) := by decide +kernel
theorem dX0_takenBack_14 : decode cX0_takenBack 14 = .ok (.ireturn, 1) := by decide +kernel
theorem dX0_restToPay_0 : decode cX0_restToPay 0 = .ok (.aload_n 0, 1) := by decide +kernel
theorem dX0_restToPay_1 : decode cX0_restToPay 1 = .ok (.iload_n 1, 1) := by decide +kernel
theorem dX0_restToPay_2 : decode cX0_restToPay 2 = .ok (.invokevirtual 85, 3) := by decide +kernel
theorem dX0_restToPay_5 : decode cX0_restToPay 5 = .ok (.istore_n 2, 1) := by decide +kernel
theorem dX0_restToPay_6 : decode cX0_restToPay 6 = .ok (.iload_n 2, 1) := by decide +kernel
theorem dX0_restToPay_7 : decode cX0_restToPay 7 = .ok (.aload_n 0, 1) := by decide +kernel
theorem dX0_restToPay_8 : decode cX0_restToPay 8 = .ok (.aload_n 0, 1) := by decide +kernel
theorem dX0_restToPay_9 : decode cX0_restToPay 9 = .ok (.getfield 22, 3) := by decide +kernel
theorem dX0_restToPay_12 : decode cX0_restToPay 12 = .ok (.iload_n 1, 1) := by decide +kernel
theorem dX0_restToPay_13 : decode cX0_restToPay 13 = .ok (.iaload, 1) := by decide +kernel
theorem dX0_restToPay_14 : decode cX0_restToPay 14 = .ok (.iload_n 2, 1) := by decide +kernel
theorem dX0_restToPay_15 : decode cX0_restToPay 15 = .ok (.invokevirtual 88, 3) := by decide +kernel
theorem dX0_restToPay_18 : decode cX0_restToPay 18 = .ok (.isub, 1) := by decide +kernel
theorem dX0_restToPay_19 : decode cX0_restToPay 19 = .ok (.ireturn, 1) := by decide +kernel
theorem dX0_settle_0 : decode cX0_settle 0 = .ok (.aload_n 0, 1) := by decide +kernel
theorem dX0_settle_1 : decode cX0_settle 1 = .ok (.iload_n 1, 1) := by decide +kernel
theorem dX0_settle_2 : decode cX0_settle 2 = .ok (.invokevirtual 85, 3) := by decide +kernel
theorem dX0_settle_5 : decode cX0_settle 5 = .ok (.istore_n 2, 1) := by decide +kernel
theorem dX0_settle_6 : decode cX0_settle 6 = .ok (.aload_n 0, 1) := by decide +kernel
theorem dX0_settle_7 : decode cX0_settle 7 = .ok (.aload_n 0, 1) := by decide +kernel
theorem dX0_settle_8 : decode cX0_settle 8 = .ok (.getfield 22, 3) := by decide +kernel
theorem dX0_settle_11 : decode cX0_settle 11 = .ok (.iload_n 1, 1) := by decide +kernel
theorem dX0_settle_12 : decode cX0_settle 12 = .ok (.iaload, 1) := by decide +kernel
theorem dX0_settle_13 : decode cX0_settle 13 = .ok (.iload_n 2, 1) := by decide +kernel
theorem dX0_settle_14 : decode cX0_settle 14 = .ok (.invokevirtual 88, 3) := by decide +kernel
theorem dX0_settle_17 : decode cX0_settle 17 = .ok (.istore_n 3, 1) := by decide +kernel
theorem dX0_settle_18 : decode cX0_settle 18 = .ok (.aload_n 0, 1) := by decide +kernel
theorem dX0_settle_19 : decode cX0_settle 19 = .ok (.aload_n 0, 1) := by decide +kernel
theorem dX0_settle_20 : decode cX0_settle 20 = .ok (.getfield 34, 3) := by decide +kernel
theorem dX0_settle_23 : decode cX0_settle 23 = .ok (.iload_n 2, 1) := by decide +kernel
theorem dX0_settle_24 : decode cX0_settle 24 = .ok (.iload_n 3, 1) := by decide +kernel
theorem dX0_settle_25 : decode cX0_settle 25 = .ok (.isub, 1) := by decide +kernel
theorem dX0_settle_26 : decode cX0_settle 26 = .ok (.invokevirtual 99, 3) := by decide +kernel
theorem dX0_settle_29 : decode cX0_settle 29 = .ok (.istore 4, 2) := by decide +kernel
theorem dX0_settle_31 : decode cX0_settle 31 = .ok (.aload_n 0, 1) := by decide +kernel
theorem dX0_settle_32 : decode cX0_settle 32 = .ok (.getfield 22, 3) := by decide +kernel
theorem dX0_settle_35 : decode cX0_settle 35 = .ok (.iload_n 1, 1) := by decide +kernel
theorem dX0_settle_36 : decode cX0_settle 36 = .ok (.dup2, 1) := by decide +kernel
theorem dX0_settle_37 : decode cX0_settle 37 = .ok (.iaload, 1) := by decide +kernel
theorem dX0_settle_38 : decode cX0_settle 38 = .ok (.iload_n 3, 1) := by decide +kernel
theorem dX0_settle_39 : decode cX0_settle 39 = .ok (.isub, 1) := by decide +kernel
theorem dX0_settle_40 : decode cX0_settle 40 = .ok (.iastore, 1) := by decide +kernel
theorem dX0_settle_41 : decode cX0_settle 41 = .ok (.aload_n 0, 1) := by decide +kernel
theorem dX0_settle_42 : decode cX0_settle 42 = .ok (.getfield 25, 3) := by decide +kernel
theorem dX0_settle_45 : decode cX0_settle 45 = .ok (.iload_n 1, 1) := by decide +kernel
theorem dX0_settle_46 : decode cX0_settle 46 = .ok (.iload_n 2, 1) := by decide +kernel
theorem dX0_settle_47 : decode cX0_settle 47 = .ok (.iload_n 3, 1) := by decide +kernel
theorem dX0_settle_48 : decode cX0_settle 48 = .ok (.isub, 1) := by decide +kernel
theorem dX0_settle_49 : decode cX0_settle 49 = .ok (.iload 4, 2) := by decide +kernel
theorem dX0_settle_51 : decode cX0_settle 51 = .ok (.isub, 1) := by decide +kernel
theorem dX0_settle_52 : decode cX0_settle 52 = .ok (.iastore, 1) := by decide +kernel
theorem dX0_settle_53 : decode cX0_settle 53 = .ok (.aload_n 0, 1) := by decide +kernel
theorem dX0_settle_54 : decode cX0_settle 54 = .ok (.getfield 28, 3) := by decide +kernel
theorem dX0_settle_57 : decode cX0_settle 57 = .ok (.iload_n 1, 1) := by decide +kernel
theorem dX0_settle_58 : decode cX0_settle 58 = .ok (.dup2, 1) := by decide +kernel
theorem dX0_settle_59 : decode cX0_settle 59 = .ok (.iaload, 1) := by decide +kernel
theorem dX0_settle_60 : decode cX0_settle 60 = .ok (.iload 4, 2) := by decide +kernel
theorem dX0_settle_62 : decode cX0_settle 62 = .ok (.iadd, 1) := by decide +kernel
theorem dX0_settle_63 : decode cX0_settle 63 = .ok (.iastore, 1) := by decide +kernel
theorem dX0_settle_64 : decode cX0_settle 64 = .ok (.aload_n 0, 1) := by decide +kernel
theorem dX0_settle_65 : decode cX0_settle 65 = .ok (.getfield 13, 3) := by decide +kernel
theorem dX0_settle_68 : decode cX0_settle 68 = .ok (.iload_n 1, 1) := by decide +kernel
theorem dX0_settle_69 : decode cX0_settle 69 = .ok (.iconst 0, 1) := by decide +kernel
theorem dX0_settle_70 : decode cX0_settle 70 = .ok (.iastore, 1) := by decide +kernel
theorem dX0_settle_71 : decode cX0_settle 71 = .ok (.aload_n 0, 1) := by decide +kernel
theorem dX0_settle_72 : decode cX0_settle 72 = .ok (.getfield 16, 3) := by decide +kernel
theorem dX0_settle_75 : decode cX0_settle 75 = .ok (.iload_n 1, 1) := by decide +kernel
theorem dX0_settle_76 : decode cX0_settle 76 = .ok (.iconst 0, 1) := by decide +kernel
theorem dX0_settle_77 : decode cX0_settle 77 = .ok (.iastore, 1) := by decide +kernel
theorem dX0_settle_78 : decode cX0_settle 78 = .ok (.aload_n 0, 1) := by decide +kernel
theorem dX0_settle_79 : decode cX0_settle 79 = .ok (.getfield 19, 3) := by decide +kernel
theorem dX0_settle_82 : decode cX0_settle 82 = .ok (.iload_n 1, 1) := by decide +kernel
theorem dX0_settle_83 : decode cX0_settle 83 = .ok (.iconst 0, 1) := by decide +kernel
theorem dX0_settle_84 : decode cX0_settle 84 = .ok (.iastore, 1) := by decide +kernel
theorem dX0_settle_85 : decode cX0_settle 85 = .ok (.iload 4, 2) := by decide +kernel
theorem dX0_settle_87 : decode cX0_settle 87 = .ok (.ireturn, 1) := by decide +kernel
theorem dX0_handOut_0 : decode cX0_handOut 0 = .ok (.iload_n 2, 1) := by decide +kernel
theorem dX0_handOut_1 : decode cX0_handOut 1 = .ok (.istore_n 3, 1) := by decide +kernel
theorem dX0_handOut_2 : decode cX0_handOut 2 = .ok (.iconst 0, 1) := by decide +kernel
theorem dX0_handOut_3 : decode cX0_handOut 3 = .ok (.istore 4, 2) := by decide +kernel
theorem dX0_handOut_5 : decode cX0_handOut 5 = .ok (.iload 4, 2) := by decide +kernel
theorem dX0_handOut_7 : decode cX0_handOut 7 = .ok (.iconst 3, 1) := by decide +kernel
theorem dX0_handOut_8 : decode cX0_handOut 8 = .ok (.if_icmp .ge 58, 3) := by decide +kernel
theorem dX0_handOut_11 : decode cX0_handOut 11 = .ok (.iload_n 3, 1) := by decide +kernel
theorem dX0_handOut_12 : decode cX0_handOut 12 = .ok (.getstatic 153, 3) := by decide +kernel
theorem dX0_handOut_15 : decode cX0_handOut 15 = .ok (.iload 4, 2) := by decide +kernel
theorem dX0_handOut_17 : decode cX0_handOut 17 = .ok (.iaload, 1) := by decide +kernel
theorem dX0_handOut_18 : decode cX0_handOut 18 = .ok (.invokestatic 150, 3) := by decide +kernel
theorem dX0_handOut_21 : decode cX0_handOut 21 = .ok (.aload_n 1, 1) := by decide +kernel
theorem dX0_handOut_22 : decode cX0_handOut 22 = .ok (.iload 4, 2) := by decide +kernel
theorem dX0_handOut_24 : decode cX0_handOut 24 = .ok (.iaload, 1) := by decide +kernel
theorem dX0_handOut_25 : decode cX0_handOut 25 = .ok (.invokestatic 142, 3) := by decide +kernel
theorem dX0_handOut_28 : decode cX0_handOut 28 = .ok (.istore 5, 2) := by decide +kernel
theorem dX0_handOut_30 : decode cX0_handOut 30 = .ok (.aload_n 1, 1) := by decide +kernel
theorem dX0_handOut_31 : decode cX0_handOut 31 = .ok (.iload 4, 2) := by decide +kernel
theorem dX0_handOut_33 : decode cX0_handOut 33 = .ok (.dup2, 1) := by decide +kernel
theorem dX0_handOut_34 : decode cX0_handOut 34 = .ok (.iaload, 1) := by decide +kernel
theorem dX0_handOut_35 : decode cX0_handOut 35 = .ok (.iload 5, 2) := by decide +kernel
theorem dX0_handOut_37 : decode cX0_handOut 37 = .ok (.isub, 1) := by decide +kernel
theorem dX0_handOut_38 : decode cX0_handOut 38 = .ok (.iastore, 1) := by decide +kernel
theorem dX0_handOut_39 : decode cX0_handOut 39 = .ok (.aload_n 0, 1) := by decide +kernel
theorem dX0_handOut_40 : decode cX0_handOut 40 = .ok (.getfield 43, 3) := by decide +kernel
theorem dX0_handOut_43 : decode cX0_handOut 43 = .ok (.iload 4, 2) := by decide +kernel
theorem dX0_handOut_45 : decode cX0_handOut 45 = .ok (.iload 5, 2) := by decide +kernel
theorem dX0_handOut_47 : decode cX0_handOut 47 = .ok (.iastore, 1) := by decide +kernel
theorem dX0_handOut_48 : decode cX0_handOut 48 = .ok (.iload_n 3, 1) := by decide +kernel
theorem dX0_handOut_49 : decode cX0_handOut 49 = .ok (.iload 5, 2) := by decide +kernel
theorem dX0_handOut_51 : decode cX0_handOut 51 = .ok (.getstatic 153, 3) := by decide +kernel
theorem dX0_handOut_54 : decode cX0_handOut 54 = .ok (.iload 4, 2) := by decide +kernel
theorem dX0_handOut_56 : decode cX0_handOut 56 = .ok (.iaload, 1) := by decide +kernel
theorem dX0_handOut_57 : decode cX0_handOut 57 = .ok (.imul, 1) := by decide +kernel
theorem dX0_handOut_58 : decode cX0_handOut 58 = .ok (.isub, 1) := by decide +kernel
theorem dX0_handOut_59 : decode cX0_handOut 59 = .ok (.istore_n 3, 1) := by decide +kernel
theorem dX0_handOut_60 : decode cX0_handOut 60 = .ok (.iinc 4 1, 3) := by decide +kernel
theorem dX0_handOut_63 : decode cX0_handOut 63 = .ok (.goto (-58), 3) := by decide +kernel
theorem dX0_handOut_66 : decode cX0_handOut 66 = .ok (.iload_n 2, 1) := by decide +kernel
theorem dX0_handOut_67 : decode cX0_handOut 67 = .ok (.iload_n 3, 1) := by decide +kernel
theorem dX0_handOut_68 : decode cX0_handOut 68 = .ok (.isub, 1) := by decide +kernel
theorem dX0_handOut_69 : decode cX0_handOut 69 = .ok (.ireturn, 1) := by decide +kernel
theorem dX0_wholeParts_0 : decode cX0_wholeParts 0 = .ok (.iload_n 1, 1) := by decide +kernel
theorem dX0_wholeParts_1 : decode cX0_wholeParts 1 = .ok (.iconst 1, 1) := by decide +kernel
theorem dX0_wholeParts_2 : decode cX0_wholeParts 2 = .ok (.if_icmp .ge 7, 3) := by decide +kernel
theorem dX0_wholeParts_5 : decode cX0_wholeParts 5 = .ok (.iconst 0, 1) := by decide +kernel
theorem dX0_wholeParts_6 : decode cX0_wholeParts 6 = .ok (.goto 6, 3) := by decide +kernel
theorem dX0_wholeParts_9 : decode cX0_wholeParts 9 = .ok (.iload_n 0, 1) := by decide +kernel
theorem dX0_wholeParts_10 : decode cX0_wholeParts 10 = .ok (.iload_n 1, 1) := by decide +kernel
theorem dX0_wholeParts_11 : decode cX0_wholeParts 11 = .ok (.idiv, 1) := by decide +kernel
theorem dX0_wholeParts_12 : decode cX0_wholeParts 12 = .ok (.ireturn, 1) := by decide +kernel
theorem dX0_allWages_0 : decode cX0_allWages 0 = .ok (.iconst 0, 1) := by decide +kernel
theorem dX0_allWages_1 : decode cX0_allWages 1 = .ok (.istore_n 2, 1) := by decide +kernel
theorem dX0_allWages_2 : decode cX0_allWages 2 = .ok (.iconst 0, 1) := by decide +kernel
theorem dX0_allWages_3 : decode cX0_allWages 3 = .ok (.istore_n 3, 1) := by decide +kernel
theorem dX0_allWages_4 : decode cX0_allWages 4 = .ok (.iload_n 3, 1) := by decide +kernel
theorem dX0_allWages_5 : decode cX0_allWages 5 = .ok (.aload_n 0, 1) := by decide +kernel
theorem dX0_allWages_6 : decode cX0_allWages 6 = .ok (.getfield 50, 3) := by decide +kernel
theorem dX0_allWages_9 : decode cX0_allWages 9 = .ok (.if_icmp .ge 18, 3) := by decide +kernel
theorem dX0_allWages_12 : decode cX0_allWages 12 = .ok (.iload_n 2, 1) := by decide +kernel
theorem dX0_allWages_13 : decode cX0_allWages 13 = .ok (.aload_n 0, 1) := by decide +kernel
theorem dX0_allWages_14 : decode cX0_allWages 14 = .ok (.iload_n 3, 1) := by decide +kernel
theorem dX0_allWages_15 : decode cX0_allWages 15 = .ok (.aload_n 1, 1) := by decide +kernel
theorem dX0_allWages_16 : decode cX0_allWages 16 = .ok (.invokevirtual 82, 3) := by decide +kernel
theorem dX0_allWages_19 : decode cX0_allWages 19 = .ok (.iadd, 1) := by decide +kernel
theorem dX0_allWages_20 : decode cX0_allWages 20 = .ok (.istore_n 2, 1) := by decide +kernel
theorem dX0_allWages_21 : decode cX0_allWages 21 = .ok (.iinc 3 1, 3) := by decide +kernel
theorem dX0_allWages_24 : decode cX0_allWages 24 = .ok (.goto (-20), 3) := by decide +kernel
theorem dX0_allWages_27 : decode cX0_allWages 27 = .ok (.iload_n 2, 1) := by decide +kernel
theorem dX0_allWages_28 : decode cX0_allWages 28 = .ok (.ireturn, 1) := by decide +kernel
theorem dX0_sumOfHired_0 : decode cX0_sumOfHired 0 = .ok (.iconst 0, 1) := by decide +kernel
theorem dX0_sumOfHired_1 : decode cX0_sumOfHired 1 = .ok (.istore_n 2, 1) := by decide +kernel
theorem dX0_sumOfHired_2 : decode cX0_sumOfHired 2 = .ok (.iconst 0, 1) := by decide +kernel
theorem dX0_sumOfHired_3 : decode cX0_sumOfHired 3 = .ok (.istore_n 3, 1) := by decide +kernel
theorem dX0_sumOfHired_4 : decode cX0_sumOfHired 4 = .ok (.iload_n 3, 1) := by decide +kernel
theorem dX0_sumOfHired_5 : decode cX0_sumOfHired 5 = .ok (.aload_n 0, 1) := by decide +kernel
theorem dX0_sumOfHired_6 : decode cX0_sumOfHired 6 = .ok (.getfield 50, 3) := by decide +kernel
theorem dX0_sumOfHired_9 : decode cX0_sumOfHired 9 = .ok (.if_icmp .ge 15, 3) := by decide +kernel
theorem dX0_sumOfHired_12 : decode cX0_sumOfHired 12 = .ok (.iload_n 2, 1) := by decide +kernel
theorem dX0_sumOfHired_13 : decode cX0_sumOfHired 13 = .ok (.aload_n 1, 1) := by decide +kernel
theorem dX0_sumOfHired_14 : decode cX0_sumOfHired 14 = .ok (.iload_n 3, 1) := by decide +kernel
theorem dX0_sumOfHired_15 : decode cX0_sumOfHired 15 = .ok (.iaload, 1) := by decide +kernel
theorem dX0_sumOfHired_16 : decode cX0_sumOfHired 16 = .ok (.iadd, 1) := by decide +kernel
theorem dX0_sumOfHired_17 : decode cX0_sumOfHired 17 = .ok (.istore_n 2, 1) := by decide +kernel
theorem dX0_sumOfHired_18 : decode cX0_sumOfHired 18 = .ok (.iinc 3 1, 3) := by decide +kernel
theorem dX0_sumOfHired_21 : decode cX0_sumOfHired 21 = .ok (.goto (-17), 3) := by decide +kernel
theorem dX0_sumOfHired_24 : decode cX0_sumOfHired 24 = .ok (.iload_n 2, 1) := by decide +kernel
theorem dX0_sumOfHired_25 : decode cX0_sumOfHired 25 = .ok (.ireturn, 1) := by decide +kernel
theorem dX0_worthOfPurse_0 : decode cX0_worthOfPurse 0 = .ok (.iconst 0, 1) := by decide +kernel
theorem dX0_worthOfPurse_1 : decode cX0_worthOfPurse 1 = .ok (.istore_n 1, 1) := by decide +kernel
theorem dX0_worthOfPurse_2 : decode cX0_worthOfPurse 2 = .ok (.iconst 0, 1) := by decide +kernel
theorem dX0_worthOfPurse_3 : decode cX0_worthOfPurse 3 = .ok (.istore_n 2, 1) := by decide +kernel
theorem dX0_worthOfPurse_4 : decode cX0_worthOfPurse 4 = .ok (.iload_n 2, 1) := by decide +kernel
theorem dX0_worthOfPurse_5 : decode cX0_worthOfPurse 5 = .ok (.iconst 3, 1) := by decide +kernel
theorem dX0_worthOfPurse_6 : decode cX0_worthOfPurse 6 = .ok (.if_icmp .ge 24, 3) := by decide +kernel
theorem dX0_worthOfPurse_9 : decode cX0_worthOfPurse 9 = .ok (.iload_n 1, 1) := by decide +kernel
theorem dX0_worthOfPurse_10 : decode cX0_worthOfPurse 10 = .ok (.aload_n 0, 1) := by decide +kernel
theorem dX0_worthOfPurse_11 : decode cX0_worthOfPurse 11 = .ok (.getfield 34, 3) := by decide +kernel
theorem dX0_worthOfPurse_14 : decode cX0_worthOfPurse 14 = .ok (.iload_n 2, 1) := by decide +kernel
theorem dX0_worthOfPurse_15 : decode cX0_worthOfPurse 15 = .ok (.iaload, 1) := by decide +kernel
theorem dX0_worthOfPurse_16 : decode cX0_worthOfPurse 16 = .ok (.getstatic 153, 3) := by decide +kernel
theorem dX0_worthOfPurse_19 : decode cX0_worthOfPurse 19 = .ok (.iload_n 2, 1) := by decide +kernel
theorem dX0_worthOfPurse_20 : decode cX0_worthOfPurse 20 = .ok (.iaload, 1) := by decide +kernel
theorem dX0_worthOfPurse_21 : decode cX0_worthOfPurse 21 = .ok (.imul, 1) := by decide +kernel
theorem dX0_worthOfPurse_22 : decode cX0_worthOfPurse 22 = .ok (.iadd, 1) := by decide +kernel
theorem dX0_worthOfPurse_23 : decode cX0_worthOfPurse 23 = .ok (.istore_n 1, 1) := by decide +kernel
theorem dX0_worthOfPurse_24 : decode cX0_worthOfPurse 24 = .ok (.iinc 2 1, 3) := by decide +kernel
theorem dX0_worthOfPurse_27 : decode cX0_worthOfPurse 27 = .ok (.goto (-23), 3) := by decide +kernel
theorem dX0_worthOfPurse_30 : decode cX0_worthOfPurse 30 = .ok (.iload_n 1, 1) := by decide +kernel
theorem dX0_worthOfPurse_31 : decode cX0_worthOfPurse 31 = .ok (.ireturn, 1) := by decide +kernel
theorem dX0_copyRow_0 : decode cX0_copyRow 0 = .ok (.iconst 0, 1) := by decide +kernel
theorem dX0_copyRow_1 : decode cX0_copyRow 1 = .ok (.istore_n 3, 1) := by decide +kernel
theorem dX0_copyRow_2 : decode cX0_copyRow 2 = .ok (.iload_n 3, 1) := by decide +kernel
theorem dX0_copyRow_3 : decode cX0_copyRow 3 = .ok (.iload_n 2, 1) := by decide +kernel
theorem dX0_copyRow_4 : decode cX0_copyRow 4 = .ok (.if_icmp .ge 15, 3) := by decide +kernel
theorem dX0_copyRow_7 : decode cX0_copyRow 7 = .ok (.aload_n 1, 1) := by decide +kernel
theorem dX0_copyRow_8 : decode cX0_copyRow 8 = .ok (.iload_n 3, 1) := by decide +kernel
theorem dX0_copyRow_9 : decode cX0_copyRow 9 = .ok (.aload_n 0, 1) := by decide +kernel
theorem dX0_copyRow_10 : decode cX0_copyRow 10 = .ok (.iload_n 3, 1) := by decide +kernel
theorem dX0_copyRow_11 : decode cX0_copyRow 11 = .ok (.iaload, 1) := by decide +kernel
theorem dX0_copyRow_12 : decode cX0_copyRow 12 = .ok (.iastore, 1) := by decide +kernel
theorem dX0_copyRow_13 : decode cX0_copyRow 13 = .ok (.iinc 3 1, 3) := by decide +kernel
theorem dX0_copyRow_16 : decode cX0_copyRow 16 = .ok (.goto (-14), 3) := by decide +kernel
theorem dX0_copyRow_19 : decode cX0_copyRow 19 = .ok (.return_, 1) := by decide +kernel
theorem dX0_requireIndex_0 : decode cX0_requireIndex 0 = .ok (.iload_n 0, 1) := by decide +kernel
theorem dX0_requireIndex_1 : decode cX0_requireIndex 1 = .ok (.ifCond .lt 8, 3) := by decide +kernel
theorem dX0_requireIndex_4 : decode cX0_requireIndex 4 = .ok (.iload_n 0, 1) := by decide +kernel
theorem dX0_requireIndex_5 : decode cX0_requireIndex 5 = .ok (.iload_n 1, 1) := by decide +kernel
theorem dX0_requireIndex_6 : decode cX0_requireIndex 6 = .ok (.if_icmp .lt 13, 3) := by decide +kernel
theorem dX0_requireIndex_9 : decode cX0_requireIndex 9 = .ok (.new 156, 3) := by decide +kernel
theorem dX0_requireIndex_12 : decode cX0_requireIndex 12 = .ok (.dup, 1) := by decide +kernel
theorem dX0_requireIndex_13 : decode cX0_requireIndex 13 = .ok (.ldc 158, 2) := by decide +kernel
theorem dX0_requireIndex_15 : decode cX0_requireIndex 15 = .ok (.invokespecial 160, 3) := by decide +kernel
theorem dX0_requireIndex_18 : decode cX0_requireIndex 18 = .ok (.athrow, 1) := by decide +kernel
theorem dX0_requireIndex_19 : decode cX0_requireIndex 19 = .ok (.return_, 1) := by decide +kernel
theorem dX0_requireArgument_0 : decode cX0_requireArgument 0 = .ok (.iload_n 0, 1) := by decide +kernel
theorem dX0_requireArgument_1 : decode cX0_requireArgument 1 = .ok (.iload_n 1, 1) := by decide +kernel
theorem dX0_requireArgument_2 : decode cX0_requireArgument 2 = .ok (.if_icmp .lt 8, 3) := by decide +kernel
theorem dX0_requireArgument_5 : decode cX0_requireArgument 5 = .ok (.iload_n 0, 1) := by decide +kernel
theorem dX0_requireArgument_6 : decode cX0_requireArgument 6 = .ok (.iload_n 2, 1) := by decide +kernel
theorem dX0_requireArgument_7 : decode cX0_requireArgument 7 = .ok (.if_icmp .le 13, 3) := by decide +kernel
theorem dX0_requireArgument_10 : decode cX0_requireArgument 10 = .ok (.new 163, 3) := by decide +kernel
theorem dX0_requireArgument_13 : decode cX0_requireArgument 13 = .ok (.dup, 1) := by decide +kernel
theorem dX0_requireArgument_14 : decode cX0_requireArgument 14 = .ok (.ldc 165, 2) := by decide +kernel
theorem dX0_requireArgument_16 : decode cX0_requireArgument 16 = .ok (.invokespecial 167, 3) := by decide +kernel
theorem dX0_requireArgument_19 : decode cX0_requireArgument 19 = .ok (.athrow, 1) := by decide +kernel
theorem dX0_requireArgument_20 : decode cX0_requireArgument 20 = .ok (.return_, 1) := by decide +kernel
theorem dX0_requireState_0 : decode cX0_requireState 0 = .ok (.iload_n 0, 1) := by decide +kernel
theorem dX0_requireState_1 : decode cX0_requireState 1 = .ok (.ifCond .ne 13, 3) := by decide +kernel
theorem dX0_requireState_4 : decode cX0_requireState 4 = .ok (.new 168, 3) := by decide +kernel
theorem dX0_requireState_7 : decode cX0_requireState 7 = .ok (.dup, 1) := by decide +kernel
theorem dX0_requireState_8 : decode cX0_requireState 8 = .ok (.ldc 170, 2) := by decide +kernel
theorem dX0_requireState_10 : decode cX0_requireState 10 = .ok (.invokespecial 172, 3) := by decide +kernel
theorem dX0_requireState_13 : decode cX0_requireState 13 = .ok (.athrow, 1) := by decide +kernel
theorem dX0_requireState_14 : decode cX0_requireState 14 = .ok (.return_, 1) := by decide +kernel
theorem dX0_requireRate_0 : decode cX0_requireRate 0 = .ok (.iload_n 0, 1) := by decide +kernel
theorem dX0_requireRate_1 : decode cX0_requireRate 1 = .ok (.iconst 5, 1) := by decide +kernel
theorem dX0_requireRate_2 : decode cX0_requireRate 2 = .ok (.invokestatic 62, 3) := by decide +kernel
theorem dX0_requireRate_5 : decode cX0_requireRate 5 = .ok (.iload_n 1, 1) := by decide +kernel
theorem dX0_requireRate_6 : decode cX0_requireRate 6 = .ok (.getstatic 114, 3) := by decide +kernel
theorem dX0_requireRate_9 : decode cX0_requireRate 9 = .ok (.iload_n 0, 1) := by decide +kernel
theorem dX0_requireRate_10 : decode cX0_requireRate 10 = .ok (.iaload, 1) := by decide +kernel
theorem dX0_requireRate_11 : decode cX0_requireRate 11 = .ok (.getstatic 117, 3) := by decide +kernel
theorem dX0_requireRate_14 : decode cX0_requireRate 14 = .ok (.iload_n 0, 1) := by decide +kernel
theorem dX0_requireRate_15 : decode cX0_requireRate 15 = .ok (.iaload, 1) := by decide +kernel
theorem dX0_requireRate_16 : decode cX0_requireRate 16 = .ok (.invokestatic 46, 3) := by decide +kernel
theorem dX0_requireRate_19 : decode cX0_requireRate 19 = .ok (.return_, 1) := by decide +kernel

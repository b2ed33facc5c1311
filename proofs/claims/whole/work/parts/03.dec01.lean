theorem dX2_stepNumber_66 : decode cX2_stepNumber 66 = .ok (.putfield 19, 3) := by decide +kernel
theorem dX2_stepNumber_69 : decode cX2_stepNumber 69 = .ok (.goto (-64), 3) := by decide +kernel
theorem dX2_stepNumber_72 : decode cX2_stepNumber 72 = .ok (.aload_n 0, 1) := by decide +kernel
theorem dX2_stepNumber_73 : decode cX2_stepNumber 73 = .ok (.getfield 19, 3) := by decide +kernel
theorem dX2_stepNumber_76 : decode cX2_stepNumber 76 = .ok (.aload_n 0, 1) := by decide +kernel
theorem dX2_stepNumber_77 : decode cX2_stepNumber 77 = .ok (.getfield 59, 3) := by decide +kernel
theorem dX2_stepNumber_80 : decode cX2_stepNumber 80 = .ok (.isub, 1) := by decide +kernel
theorem dX2_stepNumber_81 : decode cX2_stepNumber 81 = .ok (.istore_n 1, 1) := by decide +kernel
theorem dX2_stepNumber_82 : decode cX2_stepNumber 82 = .ok (.iload_n 1, 1) := by decide +kernel
theorem dX2_stepNumber_83 : decode cX2_stepNumber 83 = .ok (.iconst 1, 1) := by decide +kernel
theorem dX2_stepNumber_84 : decode cX2_stepNumber 84 = .ok (.if_icmp .eq 24, 3) := by decide +kernel
theorem dX2_stepNumber_87 : decode cX2_stepNumber 87 = .ok (.iload_n 1, 1) := by decide +kernel
theorem dX2_stepNumber_88 : decode cX2_stepNumber 88 = .ok (.iconst 2, 1) := by decide +kernel
theorem dX2_stepNumber_89 : decode cX2_stepNumber 89 = .ok (.if_icmp .ne 23, 3) := by decide +kernel
theorem dX2_stepNumber_92 : decode cX2_stepNumber 92 = .ok (.aload_n 0, 1) := by decide +kernel
theorem dX2_stepNumber_93 : decode cX2_stepNumber 93 = .ok (.getfield 9, 3) := by decide +kernel
theorem dX2_stepNumber_96 : decode cX2_stepNumber 96 = .ok (.aload_n 0, 1) := by decide +kernel
theorem dX2_stepNumber_97 : decode cX2_stepNumber 97 = .ok (.getfield 59, 3) := by decide +kernel
theorem dX2_stepNumber_100 : decode cX2_stepNumber 100 = .ok (.invokevirtual 129, 3) := by decide +kernel
theorem dX2_stepNumber_103 : decode cX2_stepNumber 103 = .ok (.bipush 48, 2) := by decide +kernel
theorem dX2_stepNumber_105 : decode cX2_stepNumber 105 = .ok (.if_icmp .eq 7, 3) := by decide +kernel
theorem dX2_stepNumber_108 : decode cX2_stepNumber 108 = .ok (.iconst 1, 1) := by decide +kernel
theorem dX2_stepNumber_109 : decode cX2_stepNumber 109 = .ok (.goto 4, 3) := by decide +kernel
theorem dX2_stepNumber_112 : decode cX2_stepNumber 112 = .ok (.iconst 0, 1) := by decide +kernel
theorem dX2_stepNumber_113 : decode cX2_stepNumber 113 = .ok (.istore_n 2, 1) := by decide +kernel
theorem dX2_stepNumber_114 : decode cX2_stepNumber 114 = .ok (.aload_n 0, 1) := by decide +kernel
theorem dX2_stepNumber_115 : decode cX2_stepNumber 115 = .ok (.iload_n 2, 1) := by decide +kernel
theorem dX2_stepNumber_116 : decode cX2_stepNumber 116 = .ok (.ifCond .eq 7, 3) := by decide +kernel
theorem dX2_stepNumber_119 : decode cX2_stepNumber 119 = .ok (.iconst 1, 1) := by decide +kernel
theorem dX2_stepNumber_120 : decode cX2_stepNumber 120 = .ok (.goto 4, 3) := by decide +kernel
theorem dX2_stepNumber_123 : decode cX2_stepNumber 123 = .ok (.iconst 2, 1) := by decide +kernel
theorem dX2_stepNumber_124 : decode cX2_stepNumber 124 = .ok (.putfield 40, 3) := by decide +kernel
theorem dX2_stepNumber_127 : decode cX2_stepNumber 127 = .ok (.return_, 1) := by decide +kernel
theorem dX2_isDigit_0 : decode cX2_isDigit 0 = .ok (.iload_n 0, 1) := by decide +kernel
theorem dX2_isDigit_1 : decode cX2_isDigit 1 = .ok (.bipush 48, 2) := by decide +kernel
theorem dX2_isDigit_3 : decode cX2_isDigit 3 = .ok (.if_icmp .lt 13, 3) := by decide +kernel
theorem dX2_isDigit_6 : decode cX2_isDigit 6 = .ok (.iload_n 0, 1) := by decide +kernel
theorem dX2_isDigit_7 : decode cX2_isDigit 7 = .ok (.bipush 57, 2) := by decide +kernel
theorem dX2_isDigit_9 : decode cX2_isDigit 9 = .ok (.if_icmp .gt 7, 3) := by decide +kernel
theorem dX2_isDigit_12 : decode cX2_isDigit 12 = .ok (.iconst 1, 1) := by decide +kernel
theorem dX2_isDigit_13 : decode cX2_isDigit 13 = .ok (.goto 4, 3) := by decide +kernel
theorem dX2_isDigit_16 : decode cX2_isDigit 16 = .ok (.iconst 0, 1) := by decide +kernel
theorem dX2_isDigit_17 : decode cX2_isDigit 17 = .ok (.ireturn, 1) := by decide +kernel
theorem dX2_isSign_0 : decode cX2_isSign 0 = .ok (.iload_n 0, 1) := by decide +kernel
theorem dX2_isSign_1 : decode cX2_isSign 1 = .ok (.bipush 100, 2) := by decide +kernel
theorem dX2_isSign_3 : decode cX2_isSign 3 = .ok (.if_icmp .eq 33, 3) := by decide +kernel
theorem dX2_isSign_6 : decode cX2_isSign 6 = .ok (.iload_n 0, 1) := by decide +kernel
theorem dX2_isSign_7 : decode cX2_isSign 7 = .ok (.bipush 108, 2) := by decide +kernel
theorem dX2_isSign_9 : decode cX2_isSign 9 = .ok (.if_icmp .eq 27, 3) := by decide +kernel
theorem dX2_isSign_12 : decode cX2_isSign 12 = .ok (.iload_n 0, 1) := by decide +kernel
theorem dX2_isSign_13 : decode cX2_isSign 13 = .ok (.bipush 98, 2) := by decide +kernel
theorem dX2_isSign_15 : decode cX2_isSign 15 = .ok (.if_icmp .eq 21, 3) := by decide +kernel
theorem dX2_isSign_18 : decode cX2_isSign 18 = .ok (.iload_n 0, 1) := by decide +kernel
theorem dX2_isSign_19 : decode cX2_isSign 19 = .ok (.bipush 112, 2) := by decide +kernel
theorem dX2_isSign_21 : decode cX2_isSign 21 = .ok (.if_icmp .eq 15, 3) := by decide +kernel
theorem dX2_isSign_24 : decode cX2_isSign 24 = .ok (.iload_n 0, 1) := by decide +kernel
theorem dX2_isSign_25 : decode cX2_isSign 25 = .ok (.bipush 114, 2) := by decide +kernel
theorem dX2_isSign_27 : decode cX2_isSign 27 = .ok (.if_icmp .eq 9, 3) := by decide +kernel
theorem dX2_isSign_30 : decode cX2_isSign 30 = .ok (.iload_n 0, 1) := by decide +kernel
theorem dX2_isSign_31 : decode cX2_isSign 31 = .ok (.bipush 59, 2) := by decide +kernel
theorem dX2_isSign_33 : decode cX2_isSign 33 = .ok (.if_icmp .ne 7, 3) := by decide +kernel
theorem dX2_isSign_36 : decode cX2_isSign 36 = .ok (.iconst 1, 1) := by decide +kernel
theorem dX2_isSign_37 : decode cX2_isSign 37 = .ok (.goto 4, 3) := by decide +kernel
theorem dX2_isSign_40 : decode cX2_isSign 40 = .ok (.iconst 0, 1) := by decide +kernel
theorem dX2_isSign_41 : decode cX2_isSign 41 = .ok (.ireturn, 1) := by decide +kernel
theorem dX3_init_0 : decode cX3_init 0 = .ok (.aload_n 0, 1) := by decide +kernel
theorem dX3_init_1 : decode cX3_init 1 = .ok (.invokespecial 3, 3) := by decide +kernel
theorem dX3_init_4 : decode cX3_init 4 = .ok (.aload_n 0, 1) := by decide +kernel
theorem dX3_init_5 : decode cX3_init 5 = .ok (.iconst 0, 1) := by decide +kernel
theorem dX3_init_6 : decode cX3_init 6 = .ok (.iload_n 1, 1) := by decide +kernel
theorem dX3_init_7 : decode cX3_init 7 = .ok (.invokestatic 9, 3) := by decide +kernel
theorem dX3_init_10 : decode cX3_init 10 = .ok (.newarray .int, 2) := by decide +kernel
theorem dX3_init_12 : decode cX3_init 12 = .ok (.putfield 15, 3) := by decide +kernel
theorem dX3_init_15 : decode cX3_init 15 = .ok (.return_, 1) := by decide +kernel
theorem dX3_at_0 : decode cX3_at 0 = .ok (.iload_n 1, 1) := by decide +kernel
theorem dX3_at_1 : decode cX3_at 1 = .ok (.ifCond .lt 21, 3) := by decide +kernel
theorem dX3_at_4 : decode cX3_at 4 = .ok (.iload_n 1, 1) := by decide +kernel
theorem dX3_at_5 : decode cX3_at 5 = .ok (.aload_n 0, 1) := by decide +kernel
theorem dX3_at_6 : decode cX3_at 6 = .ok (.getfield 15, 3) := by decide +kernel
theorem dX3_at_9 : decode cX3_at 9 = .ok (.arraylength, 1) := by decide +kernel
theorem dX3_at_10 : decode cX3_at 10 = .ok (.if_icmp .ge 12, 3) := by decide +kernel
theorem dX3_at_13 : decode cX3_at 13 = .ok (.aload_n 0, 1) := by decide +kernel
theorem dX3_at_14 : decode cX3_at 14 = .ok (.getfield 15, 3) := by decide +kernel
theorem dX3_at_17 : decode cX3_at 17 = .ok (.iload_n 1, 1) := by decide +kernel
theorem dX3_at_18 : decode cX3_at 18 = .ok (.iaload, 1) := by decide +kernel
theorem dX3_at_19 : decode cX3_at 19 = .ok (.goto 4, 3) := by decide +kernel
theorem dX3_at_22 : decode cX3_at 22 = .ok (.iconst 0, 1) := by decide +kernel
theorem dX3_at_23 : decode cX3_at 23 = .ok (.ireturn, 1) := by decide +kernel
theorem dX3_put_0 : decode cX3_put 0 = .ok (.iload_n 1, 1) := by decide +kernel
theorem dX3_put_1 : decode cX3_put 1 = .ok (.ifCond .lt 19, 3) := by decide +kernel
theorem dX3_put_4 : decode cX3_put 4 = .ok (.iload_n 1, 1) := by decide +kernel
theorem dX3_put_5 : decode cX3_put 5 = .ok (.aload_n 0, 1) := by decide +kernel
theorem dX3_put_6 : decode cX3_put 6 = .ok (.getfield 15, 3) := by decide +kernel
theorem dX3_put_9 : decode cX3_put 9 = .ok (.arraylength, 1) := by decide +kernel
theorem dX3_put_10 : decode cX3_put 10 = .ok (.if_icmp .ge 10, 3) := by decide +kernel
theorem dX3_put_13 : decode cX3_put 13 = .ok (.aload_n 0, 1) := by decide +kernel
theorem dX3_put_14 : decode cX3_put 14 = .ok (.getfield 15, 3) := by decide +kernel
theorem dX3_put_17 : decode cX3_put 17 = .ok (.iload_n 1, 1) := by decide +kernel
theorem dX3_put_18 : decode cX3_put 18 = .ok (.iload_n 2, 1) := by decide +kernel
theorem dX3_put_19 : decode cX3_put 19 = .ok (.iastore, 1) := by decide +kernel
theorem dX3_put_20 : decode cX3_put 20 = .ok (.return_, 1) := by decide +kernel
theorem dX3_sumOf_0 : decode cX3_sumOf 0 = .ok (.iconst 0, 1) := by decide +kernel
theorem dX3_sumOf_1 : decode cX3_sumOf 1 = .ok (.istore_n 2, 1) := by decide +kernel
theorem dX3_sumOf_2 : decode cX3_sumOf 2 = .ok (.iconst 0, 1) := by decide +kernel
theorem dX3_sumOf_3 : decode cX3_sumOf 3 = .ok (.istore_n 3, 1) := by decide +kernel
theorem dX3_sumOf_4 : decode cX3_sumOf 4 = .ok (.iload_n 3, 1) := by decide +kernel
theorem dX3_sumOf_5 : decode cX3_sumOf 5 = .ok (.bipush 6, 2) := by decide +kernel
theorem dX3_sumOf_7 : decode cX3_sumOf 7 = .ok (.if_icmp .ge 35, 3) := by decide +kernel
theorem dX3_sumOf_10 : decode cX3_sumOf 10 = .ok (.iload_n 3, 1) := by decide +kernel
theorem dX3_sumOf_11 : decode cX3_sumOf 11 = .ok (.aload_n 0, 1) := by decide +kernel
theorem dX3_sumOf_12 : decode cX3_sumOf 12 = .ok (.getfield 15, 3) := by decide +kernel
theorem dX3_sumOf_15 : decode cX3_sumOf 15 = .ok (.arraylength, 1) := by decide +kernel
theorem dX3_sumOf_16 : decode cX3_sumOf 16 = .ok (.if_icmp .ge 26, 3) := by decide +kernel
theorem dX3_sumOf_19 : decode cX3_sumOf 19 = .ok (.iload_n 1, 1) := by decide +kernel
theorem dX3_sumOf_20 : decode cX3_sumOf 20 = .ok (.iload_n 3, 1) := by decide +kernel
theorem dX3_sumOf_21 : decode cX3_sumOf 21 = .ok (.invokestatic 21, 3) := by decide +kernel
theorem dX3_sumOf_24 : decode cX3_sumOf 24 = .ok (.ifCond .eq 12, 3) := by decide +kernel
theorem dX3_sumOf_27 : decode cX3_sumOf 27 = .ok (.iload_n 2, 1) := by decide +kernel
theorem dX3_sumOf_28 : decode cX3_sumOf 28 = .ok (.aload_n 0, 1) := by decide +kernel
theorem dX3_sumOf_29 : decode cX3_sumOf 29 = .ok (.getfield 15, 3) := by decide +kernel
theorem dX3_sumOf_32 : decode cX3_sumOf 32 = .ok (.iload_n 3, 1) := by decide +kernel
theorem dX3_sumOf_33 : decode cX3_sumOf 33 = .ok (.iaload, 1) := by decide +kernel
theorem dX3_sumOf_34 : decode cX3_sumOf 34 = .ok (.iadd, 1) := by decide +kernel
theorem dX3_sumOf_35 : decode cX3_sumOf 35 = .ok (.istore_n 2, 1) := by decide +kernel
theorem dX3_sumOf_36 : decode cX3_sumOf 36 = .ok (.iinc 3 1, 3) := by decide +kernel
theorem dX3_sumOf_39 : decode cX3_sumOf 39 = .ok (.goto (-35), 3) := by decide +kernel
theorem dX3_sumOf_42 : decode cX3_sumOf 42 = .ok (.iload_n 2, 1) := by decide +kernel
theorem dX3_sumOf_43 : decode cX3_sumOf 43 = .ok (.ireturn, 1) := by decide +kernel
theorem dX3_fill_0 : decode cX3_fill 0 = .ok (.iconst 0, 1) := by decide +kernel
theorem dX3_fill_1 : decode cX3_fill 1 = .ok (.istore_n 2, 1) := by decide +kernel
theorem dX3_fill_2 : decode cX3_fill 2 = .ok (.iload_n 2, 1) := by decide +kernel
theorem dX3_fill_3 : decode cX3_fill 3 = .ok (.aload_n 0, 1) := by decide +kernel
theorem dX3_fill_4 : decode cX3_fill 4 = .ok (.getfield 15, 3) := by decide +kernel
theorem dX3_fill_7 : decode cX3_fill 7 = .ok (.arraylength, 1) := by decide +kernel
theorem dX3_fill_8 : decode cX3_fill 8 = .ok (.if_icmp .ge 16, 3) := by decide +kernel
theorem dX3_fill_11 : decode cX3_fill 11 = .ok (.aload_n 0, 1) := by decide +kernel
theorem dX3_fill_12 : decode cX3_fill 12 = .ok (.getfield 15, 3) := by decide +kernel
theorem dX3_fill_15 : decode cX3_fill 15 = .ok (.iload_n 2, 1) := by decide +kernel
theorem dX3_fill_16 : decode cX3_fill 16 = .ok (.iload_n 1, 1) := by decide +kernel
theorem dX3_fill_17 : decode cX3_fill 17 = .ok (.iastore, 1) := by decide +kernel
theorem dX3_fill_18 : decode cX3_fill 18 = .ok (.iinc 2 1, 3) := by decide +kernel
theorem dX3_fill_21 : decode cX3_fill 21 = .ok (.goto (-19), 3) := by decide +kernel
theorem dX3_fill_24 : decode cX3_fill 24 = .ok (.return_, 1) := by decide +kernel
theorem dX3_copyFrom_0 : decode cX3_copyFrom 0 = .ok (.iconst 0, 1) := by decide +kernel
theorem dX3_copyFrom_1 : decode cX3_copyFrom 1 = .ok (.istore_n 2, 1) := by decide +kernel
theorem dX3_copyFrom_2 : decode cX3_copyFrom 2 = .ok (.iload_n 2, 1) := by decide +kernel
theorem dX3_copyFrom_3 : decode cX3_copyFrom 3 = .ok (.aload_n 0, 1) := by decide +kernel
theorem dX3_copyFrom_4 : decode cX3_copyFrom 4 = .ok (.getfield 15, 3) := by decide +kernel
theorem dX3_copyFrom_7 : decode cX3_copyFrom 7 = .ok (.arraylength, 1) := by decide +kernel
theorem dX3_copyFrom_8 : decode cX3_copyFrom 8 = .ok (.if_icmp .ge 20, 3) := by decide +kernel
theorem dX3_copyFrom_11 : decode cX3_copyFrom 11 = .ok (.aload_n 0, 1) := by decide +kernel
theorem dX3_copyFrom_12 : decode cX3_copyFrom 12 = .ok (.getfield 15, 3) := by decide +kernel
theorem dX3_copyFrom_15 : decode cX3_copyFrom 15 = .ok (.iload_n 2, 1) := by decide +kernel
theorem dX3_copyFrom_16 : decode cX3_copyFrom 16 = .ok (.aload_n 1, 1) := by decide +kernel
theorem dX3_copyFrom_17 : decode cX3_copyFrom 17 = .ok (.iload_n 2, 1) := by decide +kernel
theorem dX3_copyFrom_18 : decode cX3_copyFrom 18 = .ok (.invokevirtual 25, 3) := by decide +kernel
theorem dX3_copyFrom_21 : decode cX3_copyFrom 21 = .ok (.iastore, 1) := by decide +kernel
theorem dX3_copyFrom_22 : decode cX3_copyFrom 22 = .ok (.iinc 2 1, 3) := by decide +kernel
theorem dX3_copyFrom_25 : decode cX3_copyFrom 25 = .ok (.goto (-23), 3) := by decide +kernel
theorem dX3_copyFrom_28 : decode cX3_copyFrom 28 = .ok (.return_, 1) := by decide +kernel
theorem dX4_init_0 : decode cX4_init 0 = .ok (.aload_n 0, 1) := by decide +kernel
theorem dX4_init_1 : decode cX4_init 1 = .ok (.invokespecial 3, 3) := by decide +kernel
theorem dX4_init_4 : decode cX4_init 4 = .ok (.aload_n 0, 1) := by decide +kernel
theorem dX4_init_5 : decode cX4_init 5 = .ok (.new 9, 3) := by decide +kernel
theorem dX4_init_8 : decode cX4_init 8 = .ok (.dup, 1) := by decide +kernel
theorem dX4_init_9 : decode cX4_init 9 = .ok (.bipush 6, 2) := by decide +kernel
theorem dX4_init_11 : decode cX4_init 11 = .ok (.invokespecial 11, 3) := by decide +kernel
theorem dX4_init_14 : decode cX4_init 14 = .ok (.putfield 14, 3) := by decide +kernel
theorem dX4_init_17 : decode cX4_init 17 = .ok (.aload_n 0, 1) := by decide +kernel
theorem dX4_init_18 : decode cX4_init 18 = .ok (.new 9, 3) := by decide +kernel
theorem dX4_init_21 : decode cX4_init 21 = .ok (.dup, 1) := by decide +kernel
theorem dX4_init_22 : decode cX4_init 22 = .ok (.bipush 6, 2) := by decide +kernel
theorem dX4_init_24 : decode cX4_init 24 = .ok (.invokespecial 11, 3) := by decide +kernel
theorem dX4_init_27 : decode cX4_init 27 = .ok (.putfield 20, 3) := by decide +kernel
theorem dX4_init_30 : decode cX4_init 30 = .ok (.aload_n 0, 1) := by decide +kernel
theorem dX4_init_31 : decode cX4_init 31 = .ok (.new 9, 3) := by decide +kernel
theorem dX4_init_34 : decode cX4_init 34 = .ok (.dup, 1) := by decide +kernel
theorem dX4_init_35 : decode cX4_init 35 = .ok (.bipush 6, 2) := by decide +kernel
theorem dX4_init_37 : decode cX4_init 37 = .ok (.invokespecial 11, 3) := by decide +kernel
theorem dX4_init_40 : decode cX4_init 40 = .ok (.putfield 23, 3) := by decide +kernel
theorem dX4_init_43 : decode cX4_init 43 = .ok (.return_, 1) := by decide +kernel
theorem dX4_begin_0 : decode cX4_begin 0 = .ok (.aload_n 0, 1) := by decide +kernel
theorem dX4_begin_1 : decode cX4_begin 1 = .ok (.iconst 0, 1) := by decide +kernel
theorem dX4_begin_2 : decode cX4_begin 2 = .ok (.putfield 26, 3) := by decide +kernel
theorem dX4_begin_5 : decode cX4_begin 5 = .ok (.aload_n 0, 1) := by decide +kernel
theorem dX4_begin_6 : decode cX4_begin 6 = .ok (.iconst 0, 1) := by decide +kernel
theorem dX4_begin_7 : decode cX4_begin 7 = .ok (.putfield 30, 3) := by decide +kernel
theorem dX4_begin_10 : decode cX4_begin 10 = .ok (.aload_n 0, 1) := by decide +kernel
theorem dX4_begin_11 : decode cX4_begin 11 = .ok (.aload_n 1, 1) := by decide +kernel
theorem dX4_begin_12 : decode cX4_begin 12 = .ok (.getfield 33, 3) := by decide +kernel
theorem dX4_begin_15 : decode cX4_begin 15 = .ok (.putfield 38, 3) := by decide +kernel
theorem dX4_begin_18 : decode cX4_begin 18 = .ok (.aload_n 0, 1) := by decide +kernel
theorem dX4_begin_19 : decode cX4_begin 19 = .ok (.getfield 14, 3) := by decide +kernel
theorem dX4_begin_22 : decode cX4_begin 22 = .ok (.aload_n 1, 1) := by decide +kernel
theorem dX4_begin_23 : decode cX4_begin 23 = .ok (.getfield 39, 3) := by decide +kernel
theorem dX4_begin_26 : decode cX4_begin 26 = .ok (.invokevirtual 40, 3) := by decide +kernel
theorem dX4_begin_29 : decode cX4_begin 29 = .ok (.aload_n 0, 1) := by decide +kernel
theorem dX4_begin_30 : decode cX4_begin 30 = .ok (.getfield 20, 3) := by decide +kernel
theorem dX4_begin_33 : decode cX4_begin 33 = .ok (.aload_n 1, 1) := by decide +kernel
theorem dX4_begin_34 : decode cX4_begin 34 = .ok (.getfield 44, 3) := by decide +kernel
theorem dX4_begin_37 : decode cX4_begin 37 = .ok (.invokevirtual 40, 3) := by decide +kernel
theorem dX4_begin_40 : decode cX4_begin 40 = .ok (.aload_n 0, 1) := by decide +kernel
theorem dX4_begin_41 : decode cX4_begin 41 = .ok (.getfield 23, 3) := by decide +kernel
theorem dX4_begin_44 : decode cX4_begin 44 = .ok (.bipush (-9), 2) := by decide +kernel
theorem dX4_begin_46 : decode cX4_begin 46 = .ok (.invokevirtual 45, 3) := by decide +kernel
theorem dX4_begin_49 : decode cX4_begin 49 = .ok (.return_, 1) := by decide +kernel
theorem dX4_copyFrom_0 : decode cX4_copyFrom 0 = .ok (.aload_n 0, 1) := by decide +kernel
theorem dX4_copyFrom_1 : decode cX4_copyFrom 1 = .ok (.aload_n 1, 1) := by decide +kernel
theorem dX4_copyFrom_2 : decode cX4_copyFrom 2 = .ok (.getfield 26, 3) := by decide +kernel
theorem dX4_copyFrom_5 : decode cX4_copyFrom 5 = .ok (.putfield 26, 3) := by decide +kernel
theorem dX4_copyFrom_8 : decode cX4_copyFrom 8 = .ok (.aload_n 0, 1) := by decide +kernel
theorem dX4_copyFrom_9 : decode cX4_copyFrom 9 = .ok (.aload_n 1, 1) := by decide +kernel
theorem dX4_copyFrom_10 : decode cX4_copyFrom 10 = .ok (.getfield 30, 3) := by decide +kernel
theorem dX4_copyFrom_13 : decode cX4_copyFrom 13 = .ok (.putfield 30, 3) := by decide +kernel
theorem dX4_copyFrom_16 : decode cX4_copyFrom 16 = .ok (.aload_n 0, 1) := by decide +kernel
theorem dX4_copyFrom_17 : decode cX4_copyFrom 17 = .ok (.aload_n 1, 1) := by decide +kernel
theorem dX4_copyFrom_18 : decode cX4_copyFrom 18 = .ok (.getfield 38, 3) := by decide +kernel
theorem dX4_copyFrom_21 : decode cX4_copyFrom 21 = .ok (.putfield 38, 3) := by decide +kernel
theorem dX4_copyFrom_24 : decode cX4_copyFrom 24 = .ok (.aload_n 0, 1) := by decide +kernel
theorem dX4_copyFrom_25 : decode cX4_copyFrom 25 = .ok (.getfield 14, 3) := by decide +kernel
theorem dX4_copyFrom_28 : decode cX4_copyFrom 28 = .ok (.aload_n 1, 1) := by decide +kernel
theorem dX4_copyFrom_29 : decode cX4_copyFrom 29 = .ok (.getfield 14, 3) := by decide +kernel
theorem dX4_copyFrom_32 : decode cX4_copyFrom 32 = .ok (.invokevirtual 40, 3) := by decide +kernel
theorem dX4_copyFrom_35 : decode cX4_copyFrom 35 = .ok (.aload_n 0, 1) := by decide +kernel
theorem dX4_copyFrom_36 : decode cX4_copyFrom 36 = .ok (.getfield 20, 3) := by decide +kernel
theorem dX4_copyFrom_39 : decode cX4_copyFrom 39 = .ok (.aload_n 1, 1) := by decide +kernel
theorem dX4_copyFrom_40 : decode cX4_copyFrom 40 = .ok (.getfield 20, 3) := by decide +kernel
theorem dX4_copyFrom_43 : decode cX4_copyFrom 43 = .ok (.invokevirtual 40, 3) := by decide +kernel
theorem dX4_copyFrom_46 : decode cX4_copyFrom 46 = .ok (.aload_n 0, 1) := by decide +kernel
theorem dX4_copyFrom_47 : decode cX4_copyFrom 47 = .ok (.getfield 23, 3) := by decide +kernel
theorem dX4_copyFrom_50 : decode cX4_copyFrom 50 = .ok (.aload_n 1, 1) := by decide +kernel
theorem dX4_copyFrom_51 : decode cX4_copyFrom 51 = .ok (.getfield 23, 3) := by decide +kernel
theorem dX4_copyFrom_54 : decode cX4_copyFrom 54 = .ok (.invokevirtual 40, 3) := by decide +kernel
theorem dX4_copyFrom_57 : decode cX4_copyFrom 57 = .ok (.return_, 1) := by decide +kernel
theorem dX4_isChalked_0 : decode cX4_isChalked 0 = .ok (.aload_n 0, 1) := by decide +kernel
theorem dX4_isChalked_1 : decode cX4_isChalked 1 = .ok (.getfield 23, 3) := by decide +kernel
theorem dX4_isChalked_4 : decode cX4_isChalked 4 = .ok (.iload_n 1, 1) := by decide +kernel
theorem dX4_isChalked_5 : decode cX4_isChalked 5 = .ok (.invokevirtual 48, 3) := by decide +kernel
theorem dX4_isChalked_8 : decode cX4_isChalked 8 = .ok (.bipush (-9), 2) := by decide +kernel
theorem dX4_isChalked_10 : decode cX4_isChalked 10 = .ok (.if_icmp .eq 7, 3) := by decide +kernel
theorem dX4_isChalked_13 : decode cX4_isChalked 13 = .ok (.iconst 1, 1) := by decide +kernel
theorem dX4_isChalked_14 : decode cX4_isChalked 14 = .ok (.goto 4, 3) := by decide +kernel
theorem dX4_isChalked_17 : decode cX4_isChalked 17 = .ok (.iconst 0, 1) := by decide +kernel
theorem dX4_isChalked_18 : decode cX4_isChalked 18 = .ok (.ireturn, 1) := by decide +kernel
theorem dX5_init_0 : decode cX5_init 0 = .ok (.aload_n 0, 1) := by decide +kernel
theorem dX5_init_1 : decode cX5_init 1 = .ok (.invokespecial 1, 3) := by decide +kernel
theorem dX5_init_4 : decode cX5_init 4 = .ok (.aload_n 0, 1) := by decide +kernel
theorem dX5_init_5 : decode cX5_init 5 = .ok (.iconst 0, 1) := by decide +kernel
theorem dX5_init_6 : decode cX5_init 6 = .ok (.iload_n 1, 1) := by decide +kernel
theorem dX5_init_7 : decode cX5_init 7 = .ok (.invokestatic 7, 3) := by decide +kernel
theorem dX5_init_10 : decode cX5_init 10 = .ok (.anewarray 13, 3) := by decide +kernel
theorem dX5_init_13 : decode cX5_init 13 = .ok (.putfield 15, 3) := by decide +kernel
theorem dX5_init_16 : decode cX5_init 16 = .ok (.iconst 0, 1) := by decide +kernel
theorem dX5_init_17 : decode cX5_init 17 = .ok (.istore_n 2, 1) := by decide +kernel
theorem dX5_init_18 : decode cX5_init 18 = .ok (.iload_n 2, 1) := by decide +kernel
theorem dX5_init_19 : decode cX5_init 19 = .ok (.aload_n 0, 1) := by decide +kernel
theorem dX5_init_20 : decode cX5_init 20 = .ok (.getfield 15, 3) := by decide +kernel
theorem dX5_init_23 : decode cX5_init 23 = .ok (.arraylength, 1) := by decide +kernel
theorem dX5_init_24 : decode cX5_init 24 = .ok (.if_icmp .ge 22, 3) := by decide +kernel
theorem dX5_init_27 : decode cX5_init 27 = .ok (.aload_n 0, 1) := by decide +kernel
theorem dX5_init_28 : decode cX5_init 28 = .ok (.getfield 15, 3) := by decide +kernel
theorem dX5_init_31 : decode cX5_init 31 = .ok (.iload_n 2, 1) := by decide +kernel
theorem dX5_init_32 : decode cX5_init 32 = .ok (.new 13, 3) := by decide +kernel
theorem dX5_init_35 : decode cX5_init 35 = .ok (.dup, 1) := by decide +kernel
theorem dX5_init_36 : decode cX5_init 36 = .ok (.invokespecial 21, 3) := by decide +kernel
theorem dX5_init_39 : decode cX5_init 39 = .ok (.aastore, 1) := by decide +kernel
theorem dX5_init_40 : decode cX5_init 40 = .ok (.iinc 2 1, 3) := by decide +kernel
theorem dX5_init_43 : decode cX5_init 43 = .ok (.goto (-25), 3) := by decide +kernel
theorem dX5_init_46 : decode cX5_init 46 = .ok (.return_, 1) := by decide +kernel
theorem dX5_has_0 : decode cX5_has 0 = .ok (.iload_n 1, 1) := by decide +kernel
theorem dX5_has_1 : decode cX5_has 1 = .ok (.ifCond .lt 25, 3) := by decide +kernel
theorem dX5_has_4 : decode cX5_has 4 = .ok (.iload_n 1, 1) := by decide +kernel
theorem dX5_has_5 : decode cX5_has 5 = .ok (.aload_n 0, 1) := by decide +kernel
theorem dX5_has_6 : decode cX5_has 6 = .ok (.getfield 15, 3) := by decide +kernel
theorem dX5_has_9 : decode cX5_has 9 = .ok (.arraylength, 1) := by decide +kernel
theorem dX5_has_10 : decode cX5_has 10 = .ok (.if_icmp .ge 16, 3) := by decide +kernel
theorem dX5_has_13 : decode cX5_has 13 = .ok (.aload_n 0, 1) := by decide +kernel
theorem dX5_has_14 : decode cX5_has 14 = .ok (.getfield 15, 3) := by decide +kernel
theorem dX5_has_17 : decode cX5_has 17 = .ok (.iload_n 1, 1) := by decide +kernel
theorem dX5_has_18 : decode cX5_has 18 = .ok (.aaload, 1) := by decide +kernel
theorem dX5_has_19 : decode cX5_has 19 = .ok (.ifnull 7, 3) := by decide +kernel
theorem dX5_has_22 : decode cX5_has 22 = .ok (.iconst 1, 1) := by decide +kernel
theorem dX5_has_23 : decode cX5_has 23 = .ok (.goto 4, 3) := by decide +kernel
theorem dX5_has_26 : decode cX5_has 26 = .ok (.iconst 0, 1) := by decide +kernel
theorem dX5_has_27 : decode cX5_has 27 = .ok (.ireturn, 1) := by decide +kernel
theorem dX5_put_0 : decode cX5_put 0 = .ok (.aload_n 0, 1) := by decide +kernel
theorem dX5_put_1 : decode cX5_put 1 = .ok (.iload_n 1, 1) := by decide +kernel
theorem dX5_put_2 : decode cX5_put 2 = .ok (.invokevirtual 22, 3) := by decide +kernel
theorem dX5_put_5 : decode cX5_put 5 = .ok (.ifCond .eq 13, 3) := by decide +kernel
theorem dX5_put_8 : decode cX5_put 8 = .ok (.aload_n 0, 1) := by decide +kernel
theorem dX5_put_9 : decode cX5_put 9 = .ok (.getfield 15, 3) := by decide +kernel
theorem dX5_put_12 : decode cX5_put 12 = .ok (.iload_n 1, 1) := by decide +kernel
theorem dX5_put_13 : decode cX5_put 13 = .ok (.aaload, 1) := by decide +kernel
theorem dX5_put_14 : decode cX5_put 14 = .ok (.aload_n 2, 1) := by decide +kernel
theorem dX5_put_15 : decode cX5_put 15 = .ok (.invokevirtual 26, 3) := by decide +kernel
theorem dX5_put_18 : decode cX5_put 18 = .ok (.return_, 1) := by decide +kernel
theorem dX5_copyTo_0 : decode cX5_copyTo 0 = .ok (.aload_n 0, 1) := by decide +kernel
theorem dX5_copyTo_1 : decode cX5_copyTo 1 = .ok (.iload_n 1, 1) := by decide +kernel
theorem dX5_copyTo_2 : decode cX5_copyTo 2 = .ok (.invokevirtual 22, 3) := by decide +kernel
theorem dX5_copyTo_5 : decode cX5_copyTo 5 = .ok (.ifCond .eq 13, 3) := by decide +kernel
theorem dX5_copyTo_8 : decode cX5_copyTo 8 = .ok (.aload_n 2, 1) := by decide +kernel
theorem dX5_copyTo_9 : decode cX5_copyTo 9 = .ok (.aload_n 0, 1) := by decide +kernel
theorem dX5_copyTo_10 : decode cX5_copyTo 10 = .ok (.getfield 15, 3) := by decide +kernel
theorem dX5_copyTo_13 : decode cX5_copyTo 13 = .ok (.iload_n 1, 1) := by decide +kernel
theorem dX5_copyTo_14 : decode cX5_copyTo 14 = .ok (.aaload, 1) := by decide +kernel
theorem dX5_copyTo_15 : decode cX5_copyTo 15 = .ok (.invokevirtual 26, 3) := by decide +kernel
theorem dX5_copyTo_18 : decode cX5_copyTo 18 = .ok (.return_, 1) := by decide +kernel
theorem dX6_init_0 : decode cX6_init 0 = .ok (.aload_n 0, 1) := by decide +kernel
theorem dX6_init_1 : decode cX6_init 1 = .ok (.invokespecial 1, 3) := by decide +kernel
theorem dX6_init_4 : decode cX6_init 4 = .ok (.aload_n 0, 1) := by decide +kernel
theorem dX6_init_5 : decode cX6_init 5 = .ok (.new 7, 3) := by decide +kernel
theorem dX6_init_8 : decode cX6_init 8 = .ok (.dup, 1) := by decide +kernel
theorem dX6_init_9 : decode cX6_init 9 = .ok (.sipush 150, 3) := by decide +kernel
theorem dX6_init_12 : decode cX6_init 12 = .ok (.invokespecial 11, 3) := by decide +kernel
theorem dX6_init_15 : decode cX6_init 15 = .ok (.putfield 14, 3) := by decide +kernel
theorem dX6_init_18 : decode cX6_init 18 = .ok (.aload_n 0, 1) := by decide +kernel
theorem dX6_init_19 : decode cX6_init 19 = .ok (.new 18, 3) := by decide +kernel
theorem dX6_init_22 : decode cX6_init 22 = .ok (.dup, 1) := by decide +kernel
theorem dX6_init_23 : decode cX6_init 23 = .ok (.aload_n 0, 1) := by decide +kernel
theorem dX6_init_24 : decode cX6_init 24 = .ok (.getfield 14, 3) := by decide +kernel
theorem dX6_init_27 : decode cX6_init 27 = .ok (.invokespecial 20, 3) := by decide +kernel
theorem dX6_init_30 : decode cX6_init 30 = .ok (.putfield 23, 3) := by decide +kernel
theorem dX6_init_33 : decode cX6_init 33 = .ok (.aload_n 0, 1) := by decide +kernel
theorem dX6_init_34 : decode cX6_init 34 = .ok (.new 27, 3) := by decide +kernel
theorem dX6_init_37 : decode cX6_init 37 = .ok (.dup, 1) := by decide +kernel
theorem dX6_init_38 : decode cX6_init 38 = .ok (.invokespecial 29, 3) := by decide +kernel
theorem dX6_init_41 : decode cX6_init 41 = .ok (.putfield 30, 3) := by decide +kernel
theorem dX6_init_44 : decode cX6_init 44 = .ok (.aload_n 0, 1) := by decide +kernel
theorem dX6_init_45 : decode cX6_init 45 = .ok (.new 27, 3) := by decide +kernel
theorem dX6_init_48 : decode cX6_init 48 = .ok (.dup, 1) := by decide +kernel
theorem dX6_init_49 : decode cX6_init 49 = .ok (.invokespecial 29, 3) := by decide +kernel
theorem dX6_init_52 : decode cX6_init 52 = .ok (.putfield 34, 3) := by decide +kernel
theorem dX6_init_55 : decode cX6_init 55 = .ok (.aload_n 0, 1) := by decide +kernel
theorem dX6_init_56 : decode cX6_init 56 = .ok (.new 37, 3) := by decide +kernel
theorem dX6_init_59 : decode cX6_init 59 = .ok (.dup, 1) := by decide +kernel
theorem dX6_init_60 : decode cX6_init 60 = .ok (.invokespecial 39, 3) := by decide +kernel
theorem dX6_init_63 : decode cX6_init 63 = .ok (.putfield 40, 3) := by decide +kernel
theorem dX6_init_66 : decode cX6_init 66 = .ok (.aload_n 0, 1) := by decide +kernel
theorem dX6_init_67 : decode cX6_init 67 = .ok (.getfield 40, 3) := by decide +kernel
theorem dX6_init_70 : decode cX6_init 70 = .ok (.aload_n 0, 1) := by decide +kernel
theorem dX6_init_71 : decode cX6_init 71 = .ok (.getfield 30, 3) := by decide +kernel
theorem dX6_init_74 : decode cX6_init 74 = .ok (.invokevirtual 44, 3) := by decide +kernel
theorem dX6_init_77 : decode cX6_init 77 = .ok (.aload_n 0, 1) := by decide +kernel
theorem dX6_init_78 : decode cX6_init 78 = .ok (.new 48, 3) := by decide +kernel
theorem dX6_init_81 : decode cX6_init 81 = .ok (.dup, 1) := by decide +kernel
theorem dX6_init_82 : decode cX6_init 82 = .ok (.invokespecial 50, 3) := by decide +kernel
theorem dX6_init_85 : decode cX6_init 85 = .ok (.putfield 51, 3) := by decide +kernel
theorem dX6_init_88 : decode cX6_init 88 = .ok (.aload_n 0, 1) := by decide +kernel
theorem dX6_init_89 : decode cX6_init 89 = .ok (.new 7, 3) := by decide +kernel
theorem dX6_init_92 : decode cX6_init 92 = .ok (.dup, 1) := by decide +kernel
theorem dX6_init_93 : decode cX6_init 93 = .ok (.bipush 6, 2) := by decide +kernel
theorem dX6_init_95 : decode cX6_init 95 = .ok (.invokespecial 11, 3) := by decide +kernel
theorem dX6_init_98 : decode cX6_init 98 = .ok (.putfield 55, 3) := by decide +kernel
theorem dX6_init_101 : decode cX6_init 101 = .ok (.aload_n 0, 1) := by decide +kernel
theorem dX6_init_102 : decode cX6_init 102 = .ok (.new 58, 3) := by decide +kernel
theorem dX6_init_105 : decode cX6_init 105 = .ok (.dup, 1) := by decide +kernel
theorem dX6_init_106 : decode cX6_init 106 = .ok (.iconst 2, 1) := by decide +kernel
theorem dX6_init_107 : decode cX6_init 107 = .ok (.invokespecial 60, 3) := by decide +kernel
theorem dX6_init_110 : decode cX6_init 110 = .ok (.putfield 61, 3) := by decide +kernel
theorem dX6_init_113 : decode cX6_init 113 = .ok (.aload_n 0, 1) := by decide +kernel
theorem dX6_init_114 : decode cX6_init 114 = .ok (.new 7, 3) := by decide +kernel
theorem dX6_init_117 : decode cX6_init 117 = .ok (.dup, 1) := by decide +kernel
theorem dX6_init_118 : decode cX6_init 118 = .ok (.bipush 6, 2) := by decide +kernel
theorem dX6_init_120 : decode cX6_init 120 = .ok (.invokespecial 11, 3) := by decide +kernel
theorem dX6_init_123 : decode cX6_init 123 = .ok (.putfield 65, 3) := by decide +kernel
theorem dX6_init_126 : decode cX6_init 126 = .ok (.aload_n 0, 1) := by decide +kernel
theorem dX6_init_127 : decode cX6_init 127 = .ok (.new 7, 3) := by decide +kernel
theorem dX6_init_130 : decode cX6_init 130 = .ok (.dup, 1) := by decide +kernel
theorem dX6_init_131 : decode cX6_init 131 = .ok (.bipush 6, 2) := by decide +kernel
theorem dX6_init_133 : decode cX6_init 133 = .ok (.invokespecial 11, 3) := by decide +kernel
theorem dX6_init_136 : decode cX6_init 136 = .ok (.putfield 68, 3) := by decide +kernel
theorem dX6_init_139 : decode cX6_init 139 = .ok (.return_, 1) := by decide +kernel
theorem dX6_type_0 : decode cX6_type 0 = .ok (.iload_n 1, 1) := by decide +kernel
theorem dX6_type_1 : decode cX6_type 1 = .ok (.iconst 0, 1) := by decide +kernel
theorem dX6_type_2 : decode cX6_type 2 = .ok (.sipush 255, 3) := by decide +kernel
theorem dX6_type_5 : decode cX6_type 5 = .ok (.invokestatic 71, 3) := by decide +kernel
theorem dX6_type_8 : decode cX6_type 8 = .ok (.ifCond .ne 5, 3) := by decide +kernel
theorem dX6_type_11 : decode cX6_type 11 = .ok (.iconst (-1), 1) := by decide +kernel
theorem dX6_type_12 : decode cX6_type 12 = .ok (.ireturn, 1) := by decide +kernel
theorem dX6_type_13 : decode cX6_type 13 = .ok (.aload_n 0, 1) := by decide +kernel
theorem dX6_type_14 : decode cX6_type 14 = .ok (.getfield 75, 3) := by decide +kernel
theorem dX6_type_17 : decode cX6_type 17 = .ok (.sipush 150, 3) := by decide +kernel
theorem dX6_type_20 : decode cX6_type 20 = .ok (.if_icmp .lt 6, 3) := by decide +kernel
theorem dX6_type_23 : decode cX6_type 23 = .ok (.bipush (-3), 2) := by decide +kernel
theorem dX6_type_25 : decode cX6_type 25 = .ok (.ireturn, 1) := by decide +kernel
theorem dX6_type_26 : decode cX6_type 26 = .ok (.aload_n 0, 1) := by decide +kernel
theorem dX6_type_27 : decode cX6_type 27 = .ok (.getfield 14, 3) := by decide +kernel
theorem dX6_type_30 : decode cX6_type 30 = .ok (.aload_n 0, 1) := by decide +kernel
theorem dX6_type_31 : decode cX6_type 31 = .ok (.getfield 75, 3) := by decide +kernel
theorem dX6_type_34 : decode cX6_type 34 = .ok (.iload_n 1, 1) := by decide +kernel
theorem dX6_type_35 : decode cX6_type 35 = .ok (.invokevirtual 79, 3) := by decide +kernel
theorem dX6_type_38 : decode cX6_type 38 = .ok (.aload_n 0, 1) := by decide +kernel
theorem dX6_type_39 : decode cX6_type 39 = .ok (.dup, 1) := by decide +kernel
theorem dX6_type_40 : decode cX6_type 40 = .ok (.getfield 75, 3) := by decide +kernel
theorem dX6_type_43 : decode cX6_type 43 = .ok (.iconst 1, 1) := by decide +kernel
theorem dX6_type_44 : decode cX6_type 44 = .ok (.iadd, 1) := by decide +kernel
theorem dX6_type_45 : decode cX6_type 45 = .ok (.putfield 75, 3) := by decide +kernel
theorem dX6_type_48 : decode cX6_type 48 = .ok (.aload_n 0, 1) := by decide +kernel
theorem dX6_type_49 : decode cX6_type 49 = .ok (.getfield 75, 3) := by decide +kernel
theorem dX6_type_52 : decode cX6_type 52 = .ok (.ireturn, 1) := by decide +kernel
theorem dX6_clear_0 : decode cX6_clear 0 = .ok (.aload_n 0, 1) := by decide +kernel
theorem dX6_clear_1 : decode cX6_clear 1 = .ok (.getfield 75, 3) := by decide +kernel
theorem dX6_clear_4 : decode cX6_clear 4 = .ok (.istore_n 1, 1) := by decide +kernel
theorem dX6_clear_5 : decode cX6_clear 5 = .ok (.aload_n 0, 1) := by decide +kernel
theorem dX6_clear_6 : decode cX6_clear 6 = .ok (.iconst 0, 1) := by decide +kernel
theorem dX6_clear_7 : decode cX6_clear 7 = .ok (.putfield 75, 3) := by decide +kernel
theorem dX6_clear_10 : decode cX6_clear 10 = .ok (.iload_n 1, 1) := by decide +kernel
theorem dX6_clear_11 : decode cX6_clear 11 = .ok (.ireturn, 1) := by decide +kernel
theorem dX6_gate_0 : decode cX6_gate 0 = .ok (.aload_n 0, 1) := by decide +kernel
theorem dX6_gate_1 : decode cX6_gate 1 = .ok (.getfield 23, 3) := by decide +kernel
theorem dX6_gate_4 : decode cX6_gate 4 = .ok (.aload_n 0, 1) := by decide +kernel
theorem dX6_gate_5 : decode cX6_gate 5 = .ok (.getfield 75, 3) := by decide +kernel
theorem dX6_gate_8 : decode cX6_gate 8 = .ok (.aload_n 0, 1) := by decide +kernel
theorem dX6_gate_9 : decode cX6_gate 9 = .ok (.getfield 34, 3) := by decide +kernel
theorem dX6_gate_12 : decode cX6_gate 12 = .ok (.invokevirtual 83, 3) := by decide +kernel
theorem dX6_gate_15 : decode cX6_gate 15 = .ok (.istore_n 1, 1) := by decide +kernel
theorem dX6_gate_16 : decode cX6_gate 16 = .ok (.iload_n 1, 1) := by decide +kernel
theorem dX6_gate_17 : decode cX6_gate 17 = .ok (.iconst (-1), 1) := by decide +kernel
theorem dX6_gate_18 : decode cX6_gate 18 = .ok (.if_icmp .eq 8, 3) := by decide +kernel
theorem dX6_gate_21 : decode cX6_gate 21 = .ok (.bipush (-10), 2) := by decide +kernel
theorem dX6_gate_23 : decode cX6_gate 23 = .ok (.iload_n 1, 1) := by decide +kernel
theorem dX6_gate_24 : decode cX6_gate 24 = .ok (.isub, 1) := by decide +kernel
theorem dX6_gate_25 : decode cX6_gate 25 = .ok (.ireturn, 1) := by decide +kernel
theorem dX6_gate_26 : decode cX6_gate 26 = .ok (.aload_n 0, 1) := by decide +kernel
theorem dX6_gate_27 : decode cX6_gate 27 = .ok (.getfield 30, 3) := by decide +kernel
theorem dX6_gate_30 : decode cX6_gate 30 = .ok (.astore_n 2, 1) := by decide +kernel
theorem dX6_gate_31 : decode cX6_gate 31 = .ok (.aload_n 0, 1) := by decide +kernel
theorem dX6_gate_32 : decode cX6_gate 32 = .ok (.aload_n 0, 1) := by decide +kernel
theorem dX6_gate_33 : decode cX6_gate 33 = .ok (.getfield 34, 3) := by decide +kernel
theorem dX6_gate_36 : decode cX6_gate 36 = .ok (.putfield 30, 3) := by decide +kernel
theorem dX6_gate_39 : decode cX6_gate 39 = .ok (.aload_n 0, 1) := by decide +kernel
theorem dX6_gate_40 : decode cX6_gate 40 = .ok (.aload_n 2, 1) := by decide +kernel
theorem dX6_gate_41 : decode cX6_gate 41 = .ok (.putfield 34, 3) := by decide +kernel
theorem dX6_gate_44 : decode cX6_gate 44 = .ok (.aload_n 0, 1) := by decide +kernel
theorem dX6_gate_45 : decode cX6_gate 45 = .ok (.getfield 40, 3) := by decide +kernel
theorem dX6_gate_48 : decode cX6_gate 48 = .ok (.aload_n 0, 1) := by decide +kernel
theorem dX6_gate_49 : decode cX6_gate 49 = .ok (.getfield 30, 3) := by decide +kernel
theorem dX6_gate_52 : decode cX6_gate 52 = .ok (.invokevirtual 44, 3) := by decide +kernel
theorem dX6_gate_55 : decode cX6_gate 55 = .ok (.aload_n 0, 1) := by decide +kernel
theorem dX6_gate_56 : decode cX6_gate 56 = .ok (.getfield 51, 3) := by decide +kernel
theorem dX6_gate_59 : decode cX6_gate 59 = .ok (.invokevirtual 87, 3) := by decide +kernel
theorem dX6_gate_62 : decode cX6_gate 62 = .ok (.aload_n 0, 1) := by decide +kernel
theorem dX6_gate_63 : decode cX6_gate 63 = .ok (.iconst 0, 1) := by decide +kernel
theorem dX6_gate_64 : decode cX6_gate 64 = .ok (.putfield 90, 3) := by decide +kernel
theorem dX6_gate_67 : decode cX6_gate 67 = .ok (.aload_n 0, 1) := by decide +kernel
theorem dX6_gate_68 : decode cX6_gate 68 = .ok (.iconst 0, 1) := by decide +kernel
theorem dX6_gate_69 : decode cX6_gate 69 = .ok (.putfield 93, 3) := by decide +kernel
theorem dX6_gate_72 : decode cX6_gate 72 = .ok (.aload_n 0, 1) := by decide +kernel
theorem dX6_gate_73 : decode cX6_gate 73 = .ok (.iconst 0, 1) := by decide +kernel
theorem dX6_gate_74 : decode cX6_gate 74 = .ok (.putfield 75, 3) := by decide +kernel
theorem dX6_gate_77 : decode cX6_gate 77 = .ok (.aload_n 0, 1) := by decide +kernel
theorem dX6_gate_78 : decode cX6_gate 78 = .ok (.getfield 30, 3) := by decide +kernel
theorem dX6_gate_81 : decode cX6_gate 81 = .ok (.getfield 96, 3) := by decide +kernel
theorem dX6_gate_84 : decode cX6_gate 84 = .ok (.ireturn, 1) := by decide +kernel
theorem dX6_deed_0 : decode cX6_deed 0 = .ok (.aload_n 0, 1) := by decide +kernel
theorem dX6_deed_1 : decode cX6_deed 1 = .ok (.getfield 30, 3) := by decide +kernel
theorem dX6_deed_4 : decode cX6_deed 4 = .ok (.iload_n 1, 1) := by decide +kernel
theorem dX6_deed_5 : decode cX6_deed 5 = .ok (.invokevirtual 99, 3) := by decide +kernel
theorem dX6_deed_8 : decode cX6_deed 8 = .ok (.ifCond .ne 6, 3) := by decide +kernel
theorem dX6_deed_11 : decode cX6_deed 11 = .ok (.ldc 103, 2) := by decide +kernel
theorem dX6_deed_13 : decode cX6_deed 13 = .ok (.ireturn, 1) := by decide +kernel
theorem dX6_deed_14 : decode cX6_deed 14 = .ok (.iload_n 2, 1) := by decide +kernel
theorem dX6_deed_15 : decode cX6_deed 15 = .ok (.lookupswitch 43 #[(0, 25), (1, 37)], 25) := by decide +kernel
theorem dX6_deed_40 : decode cX6_deed 40 = .ok (.aload_n 0, 1) := by decide +kernel
theorem dX6_deed_41 : decode cX6_deed 41 = .ok (.getfield 30, 3) := by decide +kernel
theorem dX6_deed_44 : decode cX6_deed 44 = .ok (.getfield 104, 3) := by decide +kernel
theorem dX6_deed_47 : decode cX6_deed 47 = .ok (.iload_n 1, 1) := by decide +kernel
theorem dX6_deed_48 : decode cX6_deed 48 = .ok (.invokevirtual 107, 3) := by decide +kernel
theorem dX6_deed_51 : decode cX6_deed 51 = .ok (.ireturn, 1) := by decide +kernel
theorem dX6_deed_52 : decode cX6_deed 52 = .ok (.aload_n 0, 1) := by decide +kernel
theorem dX6_deed_53 : decode cX6_deed 53 = .ok (.iload_n 1, 1) := by decide +kernel
theorem dX6_deed_54 : decode cX6_deed 54 = .ok (.invokevirtual 111, 3) := by decide +kernel
theorem dX6_deed_57 : decode cX6_deed 57 = .ok (.ireturn, 1) := by decide +kernel
theorem dX6_deed_58 : decode cX6_deed 58 = .ok (.ldc 103, 2) := by decide +kernel
theorem dX6_deed_60 : decode cX6_deed 60 = .ok (.ireturn, 1) := by decide +kernel
theorem dX6_dead_0 : decode cX6_dead 0 = .ok (.aload_n 0, 1) := by decide +kernel
theorem dX6_dead_1 : decode cX6_dead 1 = .ok (.getfield 30, 3) := by decide +kernel
theorem dX6_dead_4 : decode cX6_dead 4 = .ok (.iload_n 1, 1) := by decide +kernel
theorem dX6_dead_5 : decode cX6_dead 5 = .ok (.invokevirtual 114, 3) := by decide +kernel
theorem dX6_dead_8 : decode cX6_dead 8 = .ok (.ifCond .ne 6, 3) := by decide +kernel
theorem dX6_dead_11 : decode cX6_dead 11 = .ok (.ldc 103, 2) := by decide +kernel
theorem dX6_dead_13 : decode cX6_dead 13 = .ok (.ireturn, 1) := by decide +kernel
theorem dX6_dead_14 : decode cX6_dead 14 = .ok (.iload_n 2, 1) := by decide +kernel
theorem dX6_dead_15 : decode cX6_dead 15 = .ok (.tableswitch 133 0 7 #[45, 57, 69, 81, 103, 109, 121, 127], 45) := by decide +kernel
theorem dX6_dead_60 : decode cX6_dead 60 = .ok (.aload_n 0, 1) := by decide +kernel
theorem dX6_dead_61 : decode cX6_dead 61 = .ok (.getfield 30, 3) := by decide +kernel
theorem dX6_dead_64 : decode cX6_dead 64 = .ok (.getfield 117, 3) := by decide +kernel
theorem dX6_dead_67 : decode cX6_dead 67 = .ok (.iload_n 1, 1) := by decide +kernel
theorem dX6_dead_68 : decode cX6_dead 68 = .ok (.invokevirtual 107, 3) := by decide +kernel
theorem dX6_dead_71 : decode cX6_dead 71 = .ok (.ireturn, 1) := by decide +kernel
theorem dX6_dead_72 : decode cX6_dead 72 = .ok (.aload_n 0, 1) := by decide +kernel
theorem dX6_dead_73 : decode cX6_dead 73 = .ok (.getfield 40, 3) := by decide +kernel
theorem dX6_dead_76 : decode cX6_dead 76 = .ok (.getfield 120, 3) := by decide +kernel
theorem dX6_dead_79 : decode cX6_dead 79 = .ok (.iload_n 1, 1) := by decide +kernel
theorem dX6_dead_80 : decode cX6_dead 80 = .ok (.invokevirtual 107, 3) := by decide +kernel
theorem dX6_dead_83 : decode cX6_dead 83 = .ok (.ireturn, 1) := by decide +kernel
theorem dX6_dead_84 : decode cX6_dead 84 = .ok (.aload_n 0, 1) := by decide +kernel
theorem dX6_dead_85 : decode cX6_dead 85 = .ok (.getfield 40, 3) := by decide +kernel
theorem dX6_dead_88 : decode cX6_dead 88 = .ok (.getfield 123, 3) := by decide +kernel
theorem dX6_dead_91 : decode cX6_dead 91 = .ok (.iload_n 1, 1) := by decide +kernel
theorem dX6_dead_92 : decode cX6_dead 92 = .ok (.invokevirtual 107, 3) := by decide +kernel
theorem dX6_dead_95 : decode cX6_dead 95 = .ok (.ireturn, 1) := by decide +kernel
theorem dX6_dead_96 : decode cX6_dead 96 = .ok (.aload_n 0, 1) := by decide +kernel
theorem dX6_dead_97 : decode cX6_dead 97 = .ok (.getfield 30, 3) := by decide +kernel
theorem dX6_dead_100 : decode cX6_dead 100 = .ok (.getfield 104, 3) := by decide +kernel
theorem dX6_dead_103 : decode cX6_dead 103 = .ok (.aload_n 0, 1) := by decide +kernel
theorem dX6_dead_104 : decode cX6_dead 104 = .ok (.getfield 40, 3) := by decide +kernel
theorem dX6_dead_107 : decode cX6_dead 107 = .ok (.getfield 123, 3) := by decide +kernel
theorem dX6_dead_110 : decode cX6_dead 110 = .ok (.iload_n 1, 1) := by decide +kernel
theorem dX6_dead_111 : decode cX6_dead 111 = .ok (.invokevirtual 107, 3) := by decide +kernel
theorem dX6_dead_114 : decode cX6_dead 114 = .ok (.invokevirtual 126, 3) := by decide +kernel
theorem dX6_dead_117 : decode cX6_dead 117 = .ok (.ireturn, 1) := by decide +kernel
theorem dX6_dead_118 : decode cX6_dead 118 = .ok (.aload_n 0, 1) := by decide +kernel
theorem dX6_dead_119 : decode cX6_dead 119 = .ok (.iload_n 1, 1) := by decide +kernel
theorem dX6_dead_120 : decode cX6_dead 120 = .ok (.invokevirtual 129, 3) := by decide +kernel
theorem dX6_dead_123 : decode cX6_dead 123 = .ok (.ireturn, 1) := by decide +kernel
theorem dX6_dead_124 : decode cX6_dead 124 = .ok (.aload_n 0, 1) := by decide +kernel
theorem dX6_dead_125 : decode cX6_dead 125 = .ok (.getfield 40, 3) := by decide +kernel
theorem dX6_dead_128 : decode cX6_dead 128 = .ok (.getfield 132, 3) := by decide +kernel
theorem dX6_dead_131 : decode cX6_dead 131 = .ok (.iload_n 1, 1) := by decide +kernel
theorem dX6_dead_132 : decode cX6_dead 132 = .ok (.invokevirtual 107, 3) := by decide +kernel
theorem dX6_dead_135 : decode cX6_dead 135 = .ok (.ireturn, 1) := by decide +kernel
theorem dX6_dead_136 : decode cX6_dead 136 = .ok (.aload_n 0, 1) := by decide +kernel
theorem dX6_dead_137 : decode cX6_dead 137 = .ok (.iload_n 1, 1) := by decide +kernel
theorem dX6_dead_138 : decode cX6_dead 138 = .ok (.invokevirtual 135, 3) := by decide +kernel
theorem dX6_dead_141 : decode cX6_dead 141 = .ok (.ireturn, 1) := by decide +kernel
theorem dX6_dead_142 : decode cX6_dead 142 = .ok (.aload_n 0, 1) := by decide +kernel
theorem dX6_dead_143 : decode cX6_dead 143 = .ok (.iload_n 1, 1) := by decide +kernel
theorem dX6_dead_144 : decode cX6_dead 144 = .ok (.invokevirtual 138, 3) := by decide +kernel
theorem dX6_dead_147 : decode cX6_dead 147 = .ok (.ireturn, 1) := by decide +kernel
theorem dX6_dead_148 : decode cX6_dead 148 = .ok (.ldc 103, 2) := by decide +kernel
theorem dX6_dead_150 : decode cX6_dead 150 = .ok (.ireturn, 1) := by decide +kernel
theorem dX6_bearer_0 : decode cX6_bearer 0 = .ok (.aload_n 0, 1) := by decide +kernel
theorem dX6_bearer_1 : decode cX6_bearer 1 = .ok (.getfield 30, 3) := by decide +kernel
theorem dX6_bearer_4 : decode cX6_bearer 4 = .ok (.iload_n 1, 1) := by decide +kernel
theorem dX6_bearer_5 : decode cX6_bearer 5 = .ok (.invokevirtual 141, 3) := by decide +kernel
theorem dX6_bearer_8 : decode cX6_bearer 8 = .ok (.ifCond .eq 17, 3) := by decide +kernel
theorem dX6_bearer_11 : decode cX6_bearer 11 = .ok (.aload_n 0, 1) := by decide +kernel
theorem dX6_bearer_12 : decode cX6_bearer 12 = .ok (.getfield 30, 3) := by decide +kernel
theorem dX6_bearer_15 : decode cX6_bearer 15 = .ok (.getfield 144, 3) := by decide +kernel
theorem dX6_bearer_18 : decode cX6_bearer 18 = .ok (.iload_n 1, 1) := by decide +kernel
theorem dX6_bearer_19 : decode cX6_bearer 19 = .ok (.invokevirtual 107, 3) := by decide +kernel
theorem dX6_bearer_22 : decode cX6_bearer 22 = .ok (.goto 4, 3) := by decide +kernel
theorem dX6_bearer_25 : decode cX6_bearer 25 = .ok (.iconst (-1), 1) := by decide +kernel
theorem dX6_bearer_26 : decode cX6_bearer 26 = .ok (.ireturn, 1) := by decide +kernel
theorem dX6_now_0 : decode cX6_now 0 = .ok (.iload_n 1, 1) := by decide +kernel
theorem dX6_now_1 : decode cX6_now 1 = .ok (.tableswitch 72 0 4 #[35, 43, 51, 59, 64], 35) := by decide +kernel
theorem dX6_now_36 : decode cX6_now 36 = .ok (.aload_n 0, 1) := by decide +kernel
theorem dX6_now_37 : decode cX6_now 37 = .ok (.getfield 40, 3) := by decide +kernel
theorem dX6_now_40 : decode cX6_now 40 = .ok (.getfield 147, 3) := by decide +kernel
theorem dX6_now_43 : decode cX6_now 43 = .ok (.ireturn, 1) := by decide +kernel
theorem dX6_now_44 : decode cX6_now 44 = .ok (.aload_n 0, 1) := by decide +kernel
theorem dX6_now_45 : decode cX6_now 45 = .ok (.getfield 40, 3) := by decide +kernel
theorem dX6_now_48 : decode cX6_now 48 = .ok (.getfield 150, 3) := by decide +kernel
theorem dX6_now_51 : decode cX6_now 51 = .ok (.ireturn, 1) := by decide +kernel
theorem dX6_now_52 : decode cX6_now 52 = .ok (.aload_n 0, 1) := by decide +kernel
theorem dX6_now_53 : decode cX6_now 53 = .ok (.getfield 40, 3) := by decide +kernel
theorem dX6_now_56 : decode cX6_now 56 = .ok (.getfield 153, 3) := by decide +kernel
theorem dX6_now_59 : decode cX6_now 59 = .ok (.ireturn, 1) := by decide +kernel
theorem dX6_now_60 : decode cX6_now 60 = .ok (.aload_n 0, 1) := by decide +kernel
theorem dX6_now_61 : decode cX6_now 61 = .ok (.invokevirtual 156, 3) := by decide +kernel
theorem dX6_now_64 : decode cX6_now 64 = .ok (.ireturn, 1) := by decide +kernel
theorem dX6_now_65 : decode cX6_now 65 = .ok (.aload_n 0, 1) := by decide +kernel
theorem dX6_now_66 : decode cX6_now 66 = .ok (.getfield 51, 3) := by decide +kernel
theorem dX6_now_69 : decode cX6_now 69 = .ok (.getfield 160, 3) := by decide +kernel
theorem dX6_now_72 : decode cX6_now 72 = .ok (.ireturn, 1) := by decide +kernel
theorem dX6_now_73 : decode cX6_now 73 = .ok (.ldc 103, 2) := by decide +kernel
theorem dX6_now_75 : decode cX6_now 75 = .ok (.ireturn, 1) := by decide +kernel
theorem dX6_lays_0 : decode cX6_lays 0 = .ok (.aload_n 0, 1) := by decide +kernel
theorem dX6_lays_1 : decode cX6_lays 1 = .ok (.getfield 30, 3) := by decide +kernel
theorem dX6_lays_4 : decode cX6_lays 4 = .ok (.iload_n 1, 1) := by decide +kernel
theorem dX6_lays_5 : decode cX6_lays 5 = .ok (.invokevirtual 114, 3) := by decide +kernel
theorem dX6_lays_8 : decode cX6_lays 8 = .ok (.ifCond .ne 5, 3) := by decide +kernel
theorem dX6_lays_11 : decode cX6_lays 11 = .ok (.iconst (-1), 1) := by decide +kernel
theorem dX6_lays_12 : decode cX6_lays 12 = .ok (.ireturn, 1) := by decide +kernel
theorem dX6_lays_13 : decode cX6_lays 13 = .ok (.aload_n 0, 1) := by decide +kernel
theorem dX6_lays_14 : decode cX6_lays 14 = .ok (.getfield 40, 3) := by decide +kernel
theorem dX6_lays_17 : decode cX6_lays 17 = .ok (.iload_n 1, 1) := by decide +kernel
theorem dX6_lays_18 : decode cX6_lays 18 = .ok (.invokevirtual 163, 3) := by decide +kernel
theorem dX6_lays_21 : decode cX6_lays 21 = .ok (.ifCond .eq 6, 3) := by decide +kernel
theorem dX6_lays_24 : decode cX6_lays 24 = .ok (.bipush (-2), 2) := by decide +kernel
theorem dX6_lays_26 : decode cX6_lays 26 = .ok (.ireturn, 1) := by decide +kernel
theorem dX6_lays_27 : decode cX6_lays 27 = .ok (.aload_n 0, 1) := by decide +kernel
theorem dX6_lays_28 : decode cX6_lays 28 = .ok (.getfield 51, 3) := by decide +kernel
theorem dX6_lays_31 : decode cX6_lays 31 = .ok (.aload_n 0, 1) := by decide +kernel
theorem dX6_lays_32 : decode cX6_lays 32 = .ok (.getfield 40, 3) := by decide +kernel
theorem dX6_lays_35 : decode cX6_lays 35 = .ok (.invokevirtual 166, 3) := by decide +kernel
theorem dX6_lays_38 : decode cX6_lays 38 = .ok (.aload_n 0, 1) := by decide +kernel
theorem dX6_lays_39 : decode cX6_lays 39 = .ok (.iload_n 1, 1) := by decide +kernel
theorem dX6_lays_40 : decode cX6_lays 40 = .ok (.invokevirtual 135, 3) := by decide +kernel
theorem dX6_lays_43 : decode cX6_lays 43 = .ok (.istore_n 2, 1) := by decide +kernel
theorem dX6_lays_44 : decode cX6_lays 44 = .ok (.aload_n 0, 1) := by decide +kernel
theorem dX6_lays_45 : decode cX6_lays 45 = .ok (.getfield 40, 3) := by decide +kernel
theorem dX6_lays_48 : decode cX6_lays 48 = .ok (.getfield 132, 3) := by decide +kernel
theorem dX6_lays_51 : decode cX6_lays 51 = .ok (.iload_n 1, 1) := by decide +kernel
theorem dX6_lays_52 : decode cX6_lays 52 = .ok (.iload_n 2, 1) := by decide +kernel
theorem dX6_lays_53 : decode cX6_lays 53 = .ok (.invokevirtual 79, 3) := by decide +kernel
theorem dX6_lays_56 : decode cX6_lays 56 = .ok (.aload_n 0, 1) := by decide +kernel
theorem dX6_lays_57 : decode cX6_lays 57 = .ok (.getfield 40, 3) := by decide +kernel
theorem dX6_lays_60 : decode cX6_lays 60 = .ok (.aload_n 0, 1) := by decide +kernel

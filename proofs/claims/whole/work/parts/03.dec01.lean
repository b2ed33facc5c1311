theorem dX2_stepNumber_66 : decode mX2_stepNumber.2.1 66 = .ok (.putfield 19, 3) := by decide +kernel
theorem dX2_stepNumber_69 : decode mX2_stepNumber.2.1 69 = .ok (.goto (-64), 3) := by decide +kernel
theorem dX2_stepNumber_72 : decode mX2_stepNumber.2.1 72 = .ok (.aload_n 0, 1) := by decide +kernel
theorem dX2_stepNumber_73 : decode mX2_stepNumber.2.1 73 = .ok (.getfield 19, 3) := by decide +kernel
theorem dX2_stepNumber_76 : decode mX2_stepNumber.2.1 76 = .ok (.aload_n 0, 1) := by decide +kernel
theorem dX2_stepNumber_77 : decode mX2_stepNumber.2.1 77 = .ok (.getfield 59, 3) := by decide +kernel
theorem dX2_stepNumber_80 : decode mX2_stepNumber.2.1 80 = .ok (.isub, 1) := by decide +kernel
theorem dX2_stepNumber_81 : decode mX2_stepNumber.2.1 81 = .ok (.istore_n 1, 1) := by decide +kernel
theorem dX2_stepNumber_82 : decode mX2_stepNumber.2.1 82 = .ok (.iload_n 1, 1) := by decide +kernel
theorem dX2_stepNumber_83 : decode mX2_stepNumber.2.1 83 = .ok (.iconst 1, 1) := by decide +kernel
theorem dX2_stepNumber_84 : decode mX2_stepNumber.2.1 84 = .ok (.if_icmp .eq 24, 3) := by decide +kernel
theorem dX2_stepNumber_87 : decode mX2_stepNumber.2.1 87 = .ok (.iload_n 1, 1) := by decide +kernel
theorem dX2_stepNumber_88 : decode mX2_stepNumber.2.1 88 = .ok (.iconst 2, 1) := by decide +kernel
theorem dX2_stepNumber_89 : decode mX2_stepNumber.2.1 89 = .ok (.if_icmp .ne 23, 3) := by decide +kernel
theorem dX2_stepNumber_92 : decode mX2_stepNumber.2.1 92 = .ok (.aload_n 0, 1) := by decide +kernel
theorem dX2_stepNumber_93 : decode mX2_stepNumber.2.1 93 = .ok (.getfield 9, 3) := by decide +kernel
theorem dX2_stepNumber_96 : decode mX2_stepNumber.2.1 96 = .ok (.aload_n 0, 1) := by decide +kernel
theorem dX2_stepNumber_97 : decode mX2_stepNumber.2.1 97 = .ok (.getfield 59, 3) := by decide +kernel
theorem dX2_stepNumber_100 : decode mX2_stepNumber.2.1 100 = .ok (.invokevirtual 129, 3) := by decide +kernel
theorem dX2_stepNumber_103 : decode mX2_stepNumber.2.1 103 = .ok (.bipush 48, 2) := by decide +kernel
theorem dX2_stepNumber_105 : decode mX2_stepNumber.2.1 105 = .ok (.if_icmp .eq 7, 3) := by decide +kernel
theorem dX2_stepNumber_108 : decode mX2_stepNumber.2.1 108 = .ok (.iconst 1, 1) := by decide +kernel
theorem dX2_stepNumber_109 : decode mX2_stepNumber.2.1 109 = .ok (.goto 4, 3) := by decide +kernel
theorem dX2_stepNumber_112 : decode mX2_stepNumber.2.1 112 = .ok (.iconst 0, 1) := by decide +kernel
theorem dX2_stepNumber_113 : decode mX2_stepNumber.2.1 113 = .ok (.istore_n 2, 1) := by decide +kernel
theorem dX2_stepNumber_114 : decode mX2_stepNumber.2.1 114 = .ok (.aload_n 0, 1) := by decide +kernel
theorem dX2_stepNumber_115 : decode mX2_stepNumber.2.1 115 = .ok (.iload_n 2, 1) := by decide +kernel
theorem dX2_stepNumber_116 : decode mX2_stepNumber.2.1 116 = .ok (.ifCond .eq 7, 3) := by decide +kernel
theorem dX2_stepNumber_119 : decode mX2_stepNumber.2.1 119 = .ok (.iconst 1, 1) := by decide +kernel
theorem dX2_stepNumber_120 : decode mX2_stepNumber.2.1 120 = .ok (.goto 4, 3) := by decide +kernel
theorem dX2_stepNumber_123 : decode mX2_stepNumber.2.1 123 = .ok (.iconst 2, 1) := by decide +kernel
theorem dX2_stepNumber_124 : decode mX2_stepNumber.2.1 124 = .ok (.putfield 40, 3) := by decide +kernel
theorem dX2_stepNumber_127 : decode mX2_stepNumber.2.1 127 = .ok (.return_, 1) := by decide +kernel
theorem dX2_isDigit_0 : decode mX2_isDigit.2.1 0 = .ok (.iload_n 0, 1) := by decide +kernel
theorem dX2_isDigit_1 : decode mX2_isDigit.2.1 1 = .ok (.bipush 48, 2) := by decide +kernel
theorem dX2_isDigit_3 : decode mX2_isDigit.2.1 3 = .ok (.if_icmp .lt 13, 3) := by decide +kernel
theorem dX2_isDigit_6 : decode mX2_isDigit.2.1 6 = .ok (.iload_n 0, 1) := by decide +kernel
theorem dX2_isDigit_7 : decode mX2_isDigit.2.1 7 = .ok (.bipush 57, 2) := by decide +kernel
theorem dX2_isDigit_9 : decode mX2_isDigit.2.1 9 = .ok (.if_icmp .gt 7, 3) := by decide +kernel
theorem dX2_isDigit_12 : decode mX2_isDigit.2.1 12 = .ok (.iconst 1, 1) := by decide +kernel
theorem dX2_isDigit_13 : decode mX2_isDigit.2.1 13 = .ok (.goto 4, 3) := by decide +kernel
theorem dX2_isDigit_16 : decode mX2_isDigit.2.1 16 = .ok (.iconst 0, 1) := by decide +kernel
theorem dX2_isDigit_17 : decode mX2_isDigit.2.1 17 = .ok (.ireturn, 1) := by decide +kernel
theorem dX2_isSign_0 : decode mX2_isSign.2.1 0 = .ok (.iload_n 0, 1) := by decide +kernel
theorem dX2_isSign_1 : decode mX2_isSign.2.1 1 = .ok (.bipush 100, 2) := by decide +kernel
theorem dX2_isSign_3 : decode mX2_isSign.2.1 3 = .ok (.if_icmp .eq 33, 3) := by decide +kernel
theorem dX2_isSign_6 : decode mX2_isSign.2.1 6 = .ok (.iload_n 0, 1) := by decide +kernel
theorem dX2_isSign_7 : decode mX2_isSign.2.1 7 = .ok (.bipush 108, 2) := by decide +kernel
theorem dX2_isSign_9 : decode mX2_isSign.2.1 9 = .ok (.if_icmp .eq 27, 3) := by decide +kernel
theorem dX2_isSign_12 : decode mX2_isSign.2.1 12 = .ok (.iload_n 0, 1) := by decide +kernel
theorem dX2_isSign_13 : decode mX2_isSign.2.1 13 = .ok (.bipush 98, 2) := by decide +kernel
theorem dX2_isSign_15 : decode mX2_isSign.2.1 15 = .ok (.if_icmp .eq 21, 3) := by decide +kernel
theorem dX2_isSign_18 : decode mX2_isSign.2.1 18 = .ok (.iload_n 0, 1) := by decide +kernel
theorem dX2_isSign_19 : decode mX2_isSign.2.1 19 = .ok (.bipush 112, 2) := by decide +kernel
theorem dX2_isSign_21 : decode mX2_isSign.2.1 21 = .ok (.if_icmp .eq 15, 3) := by decide +kernel
theorem dX2_isSign_24 : decode mX2_isSign.2.1 24 = .ok (.iload_n 0, 1) := by decide +kernel
theorem dX2_isSign_25 : decode mX2_isSign.2.1 25 = .ok (.bipush 114, 2) := by decide +kernel
theorem dX2_isSign_27 : decode mX2_isSign.2.1 27 = .ok (.if_icmp .eq 9, 3) := by decide +kernel
theorem dX2_isSign_30 : decode mX2_isSign.2.1 30 = .ok (.iload_n 0, 1) := by decide +kernel
theorem dX2_isSign_31 : decode mX2_isSign.2.1 31 = .ok (.bipush 59, 2) := by decide +kernel
theorem dX2_isSign_33 : decode mX2_isSign.2.1 33 = .ok (.if_icmp .ne 7, 3) := by decide +kernel
theorem dX2_isSign_36 : decode mX2_isSign.2.1 36 = .ok (.iconst 1, 1) := by decide +kernel
theorem dX2_isSign_37 : decode mX2_isSign.2.1 37 = .ok (.goto 4, 3) := by decide +kernel
theorem dX2_isSign_40 : decode mX2_isSign.2.1 40 = .ok (.iconst 0, 1) := by decide +kernel
theorem dX2_isSign_41 : decode mX2_isSign.2.1 41 = .ok (.ireturn, 1) := by decide +kernel
theorem dX3_init_0 : decode mX3_init.2.1 0 = .ok (.aload_n 0, 1) := by decide +kernel
theorem dX3_init_1 : decode mX3_init.2.1 1 = .ok (.invokespecial 3, 3) := by decide +kernel
theorem dX3_init_4 : decode mX3_init.2.1 4 = .ok (.aload_n 0, 1) := by decide +kernel
theorem dX3_init_5 : decode mX3_init.2.1 5 = .ok (.iconst 0, 1) := by decide +kernel
theorem dX3_init_6 : decode mX3_init.2.1 6 = .ok (.iload_n 1, 1) := by decide +kernel
theorem dX3_init_7 : decode mX3_init.2.1 7 = .ok (.invokestatic 9, 3) := by decide +kernel
theorem dX3_init_10 : decode mX3_init.2.1 10 = .ok (.newarray .int, 2) := by decide +kernel
theorem dX3_init_12 : decode mX3_init.2.1 12 = .ok (.putfield 15, 3) := by decide +kernel
theorem dX3_init_15 : decode mX3_init.2.1 15 = .ok (.return_, 1) := by decide +kernel
theorem dX3_at_0 : decode mX3_at.2.1 0 = .ok (.iload_n 1, 1) := by decide +kernel
theorem dX3_at_1 : decode mX3_at.2.1 1 = .ok (.ifCond .lt 21, 3) := by decide +kernel
theorem dX3_at_4 : decode mX3_at.2.1 4 = .ok (.iload_n 1, 1) := by decide +kernel
theorem dX3_at_5 : decode mX3_at.2.1 5 = .ok (.aload_n 0, 1) := by decide +kernel
theorem dX3_at_6 : decode mX3_at.2.1 6 = .ok (.getfield 15, 3) := by decide +kernel
theorem dX3_at_9 : decode mX3_at.2.1 9 = .ok (.arraylength, 1) := by decide +kernel
theorem dX3_at_10 : decode mX3_at.2.1 10 = .ok (.if_icmp .ge 12, 3) := by decide +kernel
theorem dX3_at_13 : decode mX3_at.2.1 13 = .ok (.aload_n 0, 1) := by decide +kernel
theorem dX3_at_14 : decode mX3_at.2.1 14 = .ok (.getfield 15, 3) := by decide +kernel
theorem dX3_at_17 : decode mX3_at.2.1 17 = .ok (.iload_n 1, 1) := by decide +kernel
theorem dX3_at_18 : decode mX3_at.2.1 18 = .ok (.iaload, 1) := by decide +kernel
theorem dX3_at_19 : decode mX3_at.2.1 19 = .ok (.goto 4, 3) := by decide +kernel
theorem dX3_at_22 : decode mX3_at.2.1 22 = .ok (.iconst 0, 1) := by decide +kernel
theorem dX3_at_23 : decode mX3_at.2.1 23 = .ok (.ireturn, 1) := by decide +kernel
theorem dX3_put_0 : decode mX3_put.2.1 0 = .ok (.iload_n 1, 1) := by decide +kernel
theorem dX3_put_1 : decode mX3_put.2.1 1 = .ok (.ifCond .lt 19, 3) := by decide +kernel
theorem dX3_put_4 : decode mX3_put.2.1 4 = .ok (.iload_n 1, 1) := by decide +kernel
theorem dX3_put_5 : decode mX3_put.2.1 5 = .ok (.aload_n 0, 1) := by decide +kernel
theorem dX3_put_6 : decode mX3_put.2.1 6 = .ok (.getfield 15, 3) := by decide +kernel
theorem dX3_put_9 : decode mX3_put.2.1 9 = .ok (.arraylength, 1) := by decide +kernel
theorem dX3_put_10 : decode mX3_put.2.1 10 = .ok (.if_icmp .ge 10, 3) := by decide +kernel
theorem dX3_put_13 : decode mX3_put.2.1 13 = .ok (.aload_n 0, 1) := by decide +kernel
theorem dX3_put_14 : decode mX3_put.2.1 14 = .ok (.getfield 15, 3) := by decide +kernel
theorem dX3_put_17 : decode mX3_put.2.1 17 = .ok (.iload_n 1, 1) := by decide +kernel
theorem dX3_put_18 : decode mX3_put.2.1 18 = .ok (.iload_n 2, 1) := by decide +kernel
theorem dX3_put_19 : decode mX3_put.2.1 19 = .ok (.iastore, 1) := by decide +kernel
theorem dX3_put_20 : decode mX3_put.2.1 20 = .ok (.return_, 1) := by decide +kernel
theorem dX3_sumOf_0 : decode mX3_sumOf.2.1 0 = .ok (.iconst 0, 1) := by decide +kernel
theorem dX3_sumOf_1 : decode mX3_sumOf.2.1 1 = .ok (.istore_n 2, 1) := by decide +kernel
theorem dX3_sumOf_2 : decode mX3_sumOf.2.1 2 = .ok (.iconst 0, 1) := by decide +kernel
theorem dX3_sumOf_3 : decode mX3_sumOf.2.1 3 = .ok (.istore_n 3, 1) := by decide +kernel
theorem dX3_sumOf_4 : decode mX3_sumOf.2.1 4 = .ok (.iload_n 3, 1) := by decide +kernel
theorem dX3_sumOf_5 : decode mX3_sumOf.2.1 5 = .ok (.bipush 6, 2) := by decide +kernel
theorem dX3_sumOf_7 : decode mX3_sumOf.2.1 7 = .ok (.if_icmp .ge 35, 3) := by decide +kernel
theorem dX3_sumOf_10 : decode mX3_sumOf.2.1 10 = .ok (.iload_n 3, 1) := by decide +kernel
theorem dX3_sumOf_11 : decode mX3_sumOf.2.1 11 = .ok (.aload_n 0, 1) := by decide +kernel
theorem dX3_sumOf_12 : decode mX3_sumOf.2.1 12 = .ok (.getfield 15, 3) := by decide +kernel
theorem dX3_sumOf_15 : decode mX3_sumOf.2.1 15 = .ok (.arraylength, 1) := by decide +kernel
theorem dX3_sumOf_16 : decode mX3_sumOf.2.1 16 = .ok (.if_icmp .ge 26, 3) := by decide +kernel
theorem dX3_sumOf_19 : decode mX3_sumOf.2.1 19 = .ok (.iload_n 1, 1) := by decide +kernel
theorem dX3_sumOf_20 : decode mX3_sumOf.2.1 20 = .ok (.iload_n 3, 1) := by decide +kernel
theorem dX3_sumOf_21 : decode mX3_sumOf.2.1 21 = .ok (.invokestatic 21, 3) := by decide +kernel
theorem dX3_sumOf_24 : decode mX3_sumOf.2.1 24 = .ok (.ifCond .eq 12, 3) := by decide +kernel
theorem dX3_sumOf_27 : decode mX3_sumOf.2.1 27 = .ok (.iload_n 2, 1) := by decide +kernel
theorem dX3_sumOf_28 : decode mX3_sumOf.2.1 28 = .ok (.aload_n 0, 1) := by decide +kernel
theorem dX3_sumOf_29 : decode mX3_sumOf.2.1 29 = .ok (.getfield 15, 3) := by decide +kernel
theorem dX3_sumOf_32 : decode mX3_sumOf.2.1 32 = .ok (.iload_n 3, 1) := by decide +kernel
theorem dX3_sumOf_33 : decode mX3_sumOf.2.1 33 = .ok (.iaload, 1) := by decide +kernel
theorem dX3_sumOf_34 : decode mX3_sumOf.2.1 34 = .ok (.iadd, 1) := by decide +kernel
theorem dX3_sumOf_35 : decode mX3_sumOf.2.1 35 = .ok (.istore_n 2, 1) := by decide +kernel
theorem dX3_sumOf_36 : decode mX3_sumOf.2.1 36 = .ok (.iinc 3 1, 3) := by decide +kernel
theorem dX3_sumOf_39 : decode mX3_sumOf.2.1 39 = .ok (.goto (-35), 3) := by decide +kernel
theorem dX3_sumOf_42 : decode mX3_sumOf.2.1 42 = .ok (.iload_n 2, 1) := by decide +kernel
theorem dX3_sumOf_43 : decode mX3_sumOf.2.1 43 = .ok (.ireturn, 1) := by decide +kernel
theorem dX3_fill_0 : decode mX3_fill.2.1 0 = .ok (.iconst 0, 1) := by decide +kernel
theorem dX3_fill_1 : decode mX3_fill.2.1 1 = .ok (.istore_n 2, 1) := by decide +kernel
theorem dX3_fill_2 : decode mX3_fill.2.1 2 = .ok (.iload_n 2, 1) := by decide +kernel
theorem dX3_fill_3 : decode mX3_fill.2.1 3 = .ok (.aload_n 0, 1) := by decide +kernel
theorem dX3_fill_4 : decode mX3_fill.2.1 4 = .ok (.getfield 15, 3) := by decide +kernel
theorem dX3_fill_7 : decode mX3_fill.2.1 7 = .ok (.arraylength, 1) := by decide +kernel
theorem dX3_fill_8 : decode mX3_fill.2.1 8 = .ok (.if_icmp .ge 16, 3) := by decide +kernel
theorem dX3_fill_11 : decode mX3_fill.2.1 11 = .ok (.aload_n 0, 1) := by decide +kernel
theorem dX3_fill_12 : decode mX3_fill.2.1 12 = .ok (.getfield 15, 3) := by decide +kernel
theorem dX3_fill_15 : decode mX3_fill.2.1 15 = .ok (.iload_n 2, 1) := by decide +kernel
theorem dX3_fill_16 : decode mX3_fill.2.1 16 = .ok (.iload_n 1, 1) := by decide +kernel
theorem dX3_fill_17 : decode mX3_fill.2.1 17 = .ok (.iastore, 1) := by decide +kernel
theorem dX3_fill_18 : decode mX3_fill.2.1 18 = .ok (.iinc 2 1, 3) := by decide +kernel
theorem dX3_fill_21 : decode mX3_fill.2.1 21 = .ok (.goto (-19), 3) := by decide +kernel
theorem dX3_fill_24 : decode mX3_fill.2.1 24 = .ok (.return_, 1) := by decide +kernel
theorem dX3_copyFrom_0 : decode mX3_copyFrom.2.1 0 = .ok (.iconst 0, 1) := by decide +kernel
theorem dX3_copyFrom_1 : decode mX3_copyFrom.2.1 1 = .ok (.istore_n 2, 1) := by decide +kernel
theorem dX3_copyFrom_2 : decode mX3_copyFrom.2.1 2 = .ok (.iload_n 2, 1) := by decide +kernel
theorem dX3_copyFrom_3 : decode mX3_copyFrom.2.1 3 = .ok (.aload_n 0, 1) := by decide +kernel
theorem dX3_copyFrom_4 : decode mX3_copyFrom.2.1 4 = .ok (.getfield 15, 3) := by decide +kernel
theorem dX3_copyFrom_7 : decode mX3_copyFrom.2.1 7 = .ok (.arraylength, 1) := by decide +kernel
theorem dX3_copyFrom_8 : decode mX3_copyFrom.2.1 8 = .ok (.if_icmp .ge 20, 3) := by decide +kernel
theorem dX3_copyFrom_11 : decode mX3_copyFrom.2.1 11 = .ok (.aload_n 0, 1) := by decide +kernel
theorem dX3_copyFrom_12 : decode mX3_copyFrom.2.1 12 = .ok (.getfield 15, 3) := by decide +kernel
theorem dX3_copyFrom_15 : decode mX3_copyFrom.2.1 15 = .ok (.iload_n 2, 1) := by decide +kernel
theorem dX3_copyFrom_16 : decode mX3_copyFrom.2.1 16 = .ok (.aload_n 1, 1) := by decide +kernel
theorem dX3_copyFrom_17 : decode mX3_copyFrom.2.1 17 = .ok (.iload_n 2, 1) := by decide +kernel
theorem dX3_copyFrom_18 : decode mX3_copyFrom.2.1 18 = .ok (.invokevirtual 25, 3) := by decide +kernel
theorem dX3_copyFrom_21 : decode mX3_copyFrom.2.1 21 = .ok (.iastore, 1) := by decide +kernel
theorem dX3_copyFrom_22 : decode mX3_copyFrom.2.1 22 = .ok (.iinc 2 1, 3) := by decide +kernel
theorem dX3_copyFrom_25 : decode mX3_copyFrom.2.1 25 = .ok (.goto (-23), 3) := by decide +kernel
theorem dX3_copyFrom_28 : decode mX3_copyFrom.2.1 28 = .ok (.return_, 1) := by decide +kernel
theorem dX4_init_0 : decode mX4_init.2.1 0 = .ok (.aload_n 0, 1) := by decide +kernel
theorem dX4_init_1 : decode mX4_init.2.1 1 = .ok (.invokespecial 3, 3) := by decide +kernel
theorem dX4_init_4 : decode mX4_init.2.1 4 = .ok (.aload_n 0, 1) := by decide +kernel
theorem dX4_init_5 : decode mX4_init.2.1 5 = .ok (.new 9, 3) := by decide +kernel
theorem dX4_init_8 : decode mX4_init.2.1 8 = .ok (.dup, 1) := by decide +kernel
theorem dX4_init_9 : decode mX4_init.2.1 9 = .ok (.bipush 6, 2) := by decide +kernel
theorem dX4_init_11 : decode mX4_init.2.1 11 = .ok (.invokespecial 11, 3) := by decide +kernel
theorem dX4_init_14 : decode mX4_init.2.1 14 = .ok (.putfield 14, 3) := by decide +kernel
theorem dX4_init_17 : decode mX4_init.2.1 17 = .ok (.aload_n 0, 1) := by decide +kernel
theorem dX4_init_18 : decode mX4_init.2.1 18 = .ok (.new 9, 3) := by decide +kernel
theorem dX4_init_21 : decode mX4_init.2.1 21 = .ok (.dup, 1) := by decide +kernel
theorem dX4_init_22 : decode mX4_init.2.1 22 = .ok (.bipush 6, 2) := by decide +kernel
theorem dX4_init_24 : decode mX4_init.2.1 24 = .ok (.invokespecial 11, 3) := by decide +kernel
theorem dX4_init_27 : decode mX4_init.2.1 27 = .ok (.putfield 20, 3) := by decide +kernel
theorem dX4_init_30 : decode mX4_init.2.1 30 = .ok (.aload_n 0, 1) := by decide +kernel
theorem dX4_init_31 : decode mX4_init.2.1 31 = .ok (.new 9, 3) := by decide +kernel
theorem dX4_init_34 : decode mX4_init.2.1 34 = .ok (.dup, 1) := by decide +kernel
theorem dX4_init_35 : decode mX4_init.2.1 35 = .ok (.bipush 6, 2) := by decide +kernel
theorem dX4_init_37 : decode mX4_init.2.1 37 = .ok (.invokespecial 11, 3) := by decide +kernel
theorem dX4_init_40 : decode mX4_init.2.1 40 = .ok (.putfield 23, 3) := by decide +kernel
theorem dX4_init_43 : decode mX4_init.2.1 43 = .ok (.return_, 1) := by decide +kernel
theorem dX4_begin_0 : decode mX4_begin.2.1 0 = .ok (.aload_n 0, 1) := by decide +kernel
theorem dX4_begin_1 : decode mX4_begin.2.1 1 = .ok (.iconst 0, 1) := by decide +kernel
theorem dX4_begin_2 : decode mX4_begin.2.1 2 = .ok (.putfield 26, 3) := by decide +kernel
theorem dX4_begin_5 : decode mX4_begin.2.1 5 = .ok (.aload_n 0, 1) := by decide +kernel
theorem dX4_begin_6 : decode mX4_begin.2.1 6 = .ok (.iconst 0, 1) := by decide +kernel
theorem dX4_begin_7 : decode mX4_begin.2.1 7 = .ok (.putfield 30, 3) := by decide +kernel
theorem dX4_begin_10 : decode mX4_begin.2.1 10 = .ok (.aload_n 0, 1) := by decide +kernel
theorem dX4_begin_11 : decode mX4_begin.2.1 11 = .ok (.aload_n 1, 1) := by decide +kernel
theorem dX4_begin_12 : decode mX4_begin.2.1 12 = .ok (.getfield 33, 3) := by decide +kernel
theorem dX4_begin_15 : decode mX4_begin.2.1 15 = .ok (.putfield 38, 3) := by decide +kernel
theorem dX4_begin_18 : decode mX4_begin.2.1 18 = .ok (.aload_n 0, 1) := by decide +kernel
theorem dX4_begin_19 : decode mX4_begin.2.1 19 = .ok (.getfield 14, 3) := by decide +kernel
theorem dX4_begin_22 : decode mX4_begin.2.1 22 = .ok (.aload_n 1, 1) := by decide +kernel
theorem dX4_begin_23 : decode mX4_begin.2.1 23 = .ok (.getfield 39, 3) := by decide +kernel
theorem dX4_begin_26 : decode mX4_begin.2.1 26 = .ok (.invokevirtual 40, 3) := by decide +kernel
theorem dX4_begin_29 : decode mX4_begin.2.1 29 = .ok (.aload_n 0, 1) := by decide +kernel
theorem dX4_begin_30 : decode mX4_begin.2.1 30 = .ok (.getfield 20, 3) := by decide +kernel
theorem dX4_begin_33 : decode mX4_begin.2.1 33 = .ok (.aload_n 1, 1) := by decide +kernel
theorem dX4_begin_34 : decode mX4_begin.2.1 34 = .ok (.getfield 44, 3) := by decide +kernel
theorem dX4_begin_37 : decode mX4_begin.2.1 37 = .ok (.invokevirtual 40, 3) := by decide +kernel
theorem dX4_begin_40 : decode mX4_begin.2.1 40 = .ok (.aload_n 0, 1) := by decide +kernel
theorem dX4_begin_41 : decode mX4_begin.2.1 41 = .ok (.getfield 23, 3) := by decide +kernel
theorem dX4_begin_44 : decode mX4_begin.2.1 44 = .ok (.bipush (-9), 2) := by decide +kernel
theorem dX4_begin_46 : decode mX4_begin.2.1 46 = .ok (.invokevirtual 45, 3) := by decide +kernel
theorem dX4_begin_49 : decode mX4_begin.2.1 49 = .ok (.return_, 1) := by decide +kernel
theorem dX4_copyFrom_0 : decode mX4_copyFrom.2.1 0 = .ok (.aload_n 0, 1) := by decide +kernel
theorem dX4_copyFrom_1 : decode mX4_copyFrom.2.1 1 = .ok (.aload_n 1, 1) := by decide +kernel
theorem dX4_copyFrom_2 : decode mX4_copyFrom.2.1 2 = .ok (.getfield 26, 3) := by decide +kernel
theorem dX4_copyFrom_5 : decode mX4_copyFrom.2.1 5 = .ok (.putfield 26, 3) := by decide +kernel
theorem dX4_copyFrom_8 : decode mX4_copyFrom.2.1 8 = .ok (.aload_n 0, 1) := by decide +kernel
theorem dX4_copyFrom_9 : decode mX4_copyFrom.2.1 9 = .ok (.aload_n 1, 1) := by decide +kernel
theorem dX4_copyFrom_10 : decode mX4_copyFrom.2.1 10 = .ok (.getfield 30, 3) := by decide +kernel
theorem dX4_copyFrom_13 : decode mX4_copyFrom.2.1 13 = .ok (.putfield 30, 3) := by decide +kernel
theorem dX4_copyFrom_16 : decode mX4_copyFrom.2.1 16 = .ok (.aload_n 0, 1) := by decide +kernel
theorem dX4_copyFrom_17 : decode mX4_copyFrom.2.1 17 = .ok (.aload_n 1, 1) := by decide +kernel
theorem dX4_copyFrom_18 : decode mX4_copyFrom.2.1 18 = .ok (.getfield 38, 3) := by decide +kernel
theorem dX4_copyFrom_21 : decode mX4_copyFrom.2.1 21 = .ok (.putfield 38, 3) := by decide +kernel
theorem dX4_copyFrom_24 : decode mX4_copyFrom.2.1 24 = .ok (.aload_n 0, 1) := by decide +kernel
theorem dX4_copyFrom_25 : decode mX4_copyFrom.2.1 25 = .ok (.getfield 14, 3) := by decide +kernel
theorem dX4_copyFrom_28 : decode mX4_copyFrom.2.1 28 = .ok (.aload_n 1, 1) := by decide +kernel
theorem dX4_copyFrom_29 : decode mX4_copyFrom.2.1 29 = .ok (.getfield 14, 3) := by decide +kernel
theorem dX4_copyFrom_32 : decode mX4_copyFrom.2.1 32 = .ok (.invokevirtual 40, 3) := by decide +kernel
theorem dX4_copyFrom_35 : decode mX4_copyFrom.2.1 35 = .ok (.aload_n 0, 1) := by decide +kernel
theorem dX4_copyFrom_36 : decode mX4_copyFrom.2.1 36 = .ok (.getfield 20, 3) := by decide +kernel
theorem dX4_copyFrom_39 : decode mX4_copyFrom.2.1 39 = .ok (.aload_n 1, 1) := by decide +kernel
theorem dX4_copyFrom_40 : decode mX4_copyFrom.2.1 40 = .ok (.getfield 20, 3) := by decide +kernel
theorem dX4_copyFrom_43 : decode mX4_copyFrom.2.1 43 = .ok (.invokevirtual 40, 3) := by decide +kernel
theorem dX4_copyFrom_46 : decode mX4_copyFrom.2.1 46 = .ok (.aload_n 0, 1) := by decide +kernel
theorem dX4_copyFrom_47 : decode mX4_copyFrom.2.1 47 = .ok (.getfield 23, 3) := by decide +kernel
theorem dX4_copyFrom_50 : decode mX4_copyFrom.2.1 50 = .ok (.aload_n 1, 1) := by decide +kernel
theorem dX4_copyFrom_51 : decode mX4_copyFrom.2.1 51 = .ok (.getfield 23, 3) := by decide +kernel
theorem dX4_copyFrom_54 : decode mX4_copyFrom.2.1 54 = .ok (.invokevirtual 40, 3) := by decide +kernel
theorem dX4_copyFrom_57 : decode mX4_copyFrom.2.1 57 = .ok (.return_, 1) := by decide +kernel
theorem dX4_isChalked_0 : decode mX4_isChalked.2.1 0 = .ok (.aload_n 0, 1) := by decide +kernel
theorem dX4_isChalked_1 : decode mX4_isChalked.2.1 1 = .ok (.getfield 23, 3) := by decide +kernel
theorem dX4_isChalked_4 : decode mX4_isChalked.2.1 4 = .ok (.iload_n 1, 1) := by decide +kernel
theorem dX4_isChalked_5 : decode mX4_isChalked.2.1 5 = .ok (.invokevirtual 48, 3) := by decide +kernel
theorem dX4_isChalked_8 : decode mX4_isChalked.2.1 8 = .ok (.bipush (-9), 2) := by decide +kernel
theorem dX4_isChalked_10 : decode mX4_isChalked.2.1 10 = .ok (.if_icmp .eq 7, 3) := by decide +kernel
theorem dX4_isChalked_13 : decode mX4_isChalked.2.1 13 = .ok (.iconst 1, 1) := by decide +kernel
theorem dX4_isChalked_14 : decode mX4_isChalked.2.1 14 = .ok (.goto 4, 3) := by decide +kernel
theorem dX4_isChalked_17 : decode mX4_isChalked.2.1 17 = .ok (.iconst 0, 1) := by decide +kernel
theorem dX4_isChalked_18 : decode mX4_isChalked.2.1 18 = .ok (.ireturn, 1) := by decide +kernel
theorem dX5_init_0 : decode mX5_init.2.1 0 = .ok (.aload_n 0, 1) := by decide +kernel
theorem dX5_init_1 : decode mX5_init.2.1 1 = .ok (.invokespecial 1, 3) := by decide +kernel
theorem dX5_init_4 : decode mX5_init.2.1 4 = .ok (.aload_n 0, 1) := by decide +kernel
theorem dX5_init_5 : decode mX5_init.2.1 5 = .ok (.iconst 0, 1) := by decide +kernel
theorem dX5_init_6 : decode mX5_init.2.1 6 = .ok (.iload_n 1, 1) := by decide +kernel
theorem dX5_init_7 : decode mX5_init.2.1 7 = .ok (.invokestatic 7, 3) := by decide +kernel
theorem dX5_init_10 : decode mX5_init.2.1 10 = .ok (.anewarray 13, 3) := by decide +kernel
theorem dX5_init_13 : decode mX5_init.2.1 13 = .ok (.putfield 15, 3) := by decide +kernel
theorem dX5_init_16 : decode mX5_init.2.1 16 = .ok (.iconst 0, 1) := by decide +kernel
theorem dX5_init_17 : decode mX5_init.2.1 17 = .ok (.istore_n 2, 1) := by decide +kernel
theorem dX5_init_18 : decode mX5_init.2.1 18 = .ok (.iload_n 2, 1) := by decide +kernel
theorem dX5_init_19 : decode mX5_init.2.1 19 = .ok (.aload_n 0, 1) := by decide +kernel
theorem dX5_init_20 : decode mX5_init.2.1 20 = .ok (.getfield 15, 3) := by decide +kernel
theorem dX5_init_23 : decode mX5_init.2.1 23 = .ok (.arraylength, 1) := by decide +kernel
theorem dX5_init_24 : decode mX5_init.2.1 24 = .ok (.if_icmp .ge 22, 3) := by decide +kernel
theorem dX5_init_27 : decode mX5_init.2.1 27 = .ok (.aload_n 0, 1) := by decide +kernel
theorem dX5_init_28 : decode mX5_init.2.1 28 = .ok (.getfield 15, 3) := by decide +kernel
theorem dX5_init_31 : decode mX5_init.2.1 31 = .ok (.iload_n 2, 1) := by decide +kernel
theorem dX5_init_32 : decode mX5_init.2.1 32 = .ok (.new 13, 3) := by decide +kernel
theorem dX5_init_35 : decode mX5_init.2.1 35 = .ok (.dup, 1) := by decide +kernel
theorem dX5_init_36 : decode mX5_init.2.1 36 = .ok (.invokespecial 21, 3) := by decide +kernel
theorem dX5_init_39 : decode mX5_init.2.1 39 = .ok (.aastore, 1) := by decide +kernel
theorem dX5_init_40 : decode mX5_init.2.1 40 = .ok (.iinc 2 1, 3) := by decide +kernel
theorem dX5_init_43 : decode mX5_init.2.1 43 = .ok (.goto (-25), 3) := by decide +kernel
theorem dX5_init_46 : decode mX5_init.2.1 46 = .ok (.return_, 1) := by decide +kernel
theorem dX5_has_0 : decode mX5_has.2.1 0 = .ok (.iload_n 1, 1) := by decide +kernel
theorem dX5_has_1 : decode mX5_has.2.1 1 = .ok (.ifCond .lt 25, 3) := by decide +kernel
theorem dX5_has_4 : decode mX5_has.2.1 4 = .ok (.iload_n 1, 1) := by decide +kernel
theorem dX5_has_5 : decode mX5_has.2.1 5 = .ok (.aload_n 0, 1) := by decide +kernel
theorem dX5_has_6 : decode mX5_has.2.1 6 = .ok (.getfield 15, 3) := by decide +kernel
theorem dX5_has_9 : decode mX5_has.2.1 9 = .ok (.arraylength, 1) := by decide +kernel
theorem dX5_has_10 : decode mX5_has.2.1 10 = .ok (.if_icmp .ge 16, 3) := by decide +kernel
theorem dX5_has_13 : decode mX5_has.2.1 13 = .ok (.aload_n 0, 1) := by decide +kernel
theorem dX5_has_14 : decode mX5_has.2.1 14 = .ok (.getfield 15, 3) := by decide +kernel
theorem dX5_has_17 : decode mX5_has.2.1 17 = .ok (.iload_n 1, 1) := by decide +kernel
theorem dX5_has_18 : decode mX5_has.2.1 18 = .ok (.aaload, 1) := by decide +kernel
theorem dX5_has_19 : decode mX5_has.2.1 19 = .ok (.ifnull 7, 3) := by decide +kernel
theorem dX5_has_22 : decode mX5_has.2.1 22 = .ok (.iconst 1, 1) := by decide +kernel
theorem dX5_has_23 : decode mX5_has.2.1 23 = .ok (.goto 4, 3) := by decide +kernel
theorem dX5_has_26 : decode mX5_has.2.1 26 = .ok (.iconst 0, 1) := by decide +kernel
theorem dX5_has_27 : decode mX5_has.2.1 27 = .ok (.ireturn, 1) := by decide +kernel
theorem dX5_put_0 : decode mX5_put.2.1 0 = .ok (.aload_n 0, 1) := by decide +kernel
theorem dX5_put_1 : decode mX5_put.2.1 1 = .ok (.iload_n 1, 1) := by decide +kernel
theorem dX5_put_2 : decode mX5_put.2.1 2 = .ok (.invokevirtual 22, 3) := by decide +kernel
theorem dX5_put_5 : decode mX5_put.2.1 5 = .ok (.ifCond .eq 13, 3) := by decide +kernel
theorem dX5_put_8 : decode mX5_put.2.1 8 = .ok (.aload_n 0, 1) := by decide +kernel
theorem dX5_put_9 : decode mX5_put.2.1 9 = .ok (.getfield 15, 3) := by decide +kernel
theorem dX5_put_12 : decode mX5_put.2.1 12 = .ok (.iload_n 1, 1) := by decide +kernel
theorem dX5_put_13 : decode mX5_put.2.1 13 = .ok (.aaload, 1) := by decide +kernel
theorem dX5_put_14 : decode mX5_put.2.1 14 = .ok (.aload_n 2, 1) := by decide +kernel
theorem dX5_put_15 : decode mX5_put.2.1 15 = .ok (.invokevirtual 26, 3) := by decide +kernel
theorem dX5_put_18 : decode mX5_put.2.1 18 = .ok (.return_, 1) := by decide +kernel
theorem dX5_copyTo_0 : decode mX5_copyTo.2.1 0 = .ok (.aload_n 0, 1) := by decide +kernel
theorem dX5_copyTo_1 : decode mX5_copyTo.2.1 1 = .ok (.iload_n 1, 1) := by decide +kernel
theorem dX5_copyTo_2 : decode mX5_copyTo.2.1 2 = .ok (.invokevirtual 22, 3) := by decide +kernel
theorem dX5_copyTo_5 : decode mX5_copyTo.2.1 5 = .ok (.ifCond .eq 13, 3) := by decide +kernel
theorem dX5_copyTo_8 : decode mX5_copyTo.2.1 8 = .ok (.aload_n 2, 1) := by decide +kernel
theorem dX5_copyTo_9 : decode mX5_copyTo.2.1 9 = .ok (.aload_n 0, 1) := by decide +kernel
theorem dX5_copyTo_10 : decode mX5_copyTo.2.1 10 = .ok (.getfield 15, 3) := by decide +kernel
theorem dX5_copyTo_13 : decode mX5_copyTo.2.1 13 = .ok (.iload_n 1, 1) := by decide +kernel
theorem dX5_copyTo_14 : decode mX5_copyTo.2.1 14 = .ok (.aaload, 1) := by decide +kernel
theorem dX5_copyTo_15 : decode mX5_copyTo.2.1 15 = .ok (.invokevirtual 26, 3) := by decide +kernel
theorem dX5_copyTo_18 : decode mX5_copyTo.2.1 18 = .ok (.return_, 1) := by decide +kernel
theorem dX6_init_0 : decode mX6_init.2.1 0 = .ok (.aload_n 0, 1) := by decide +kernel
theorem dX6_init_1 : decode mX6_init.2.1 1 = .ok (.invokespecial 1, 3) := by decide +kernel
theorem dX6_init_4 : decode mX6_init.2.1 4 = .ok (.aload_n 0, 1) := by decide +kernel
theorem dX6_init_5 : decode mX6_init.2.1 5 = .ok (.new 7, 3) := by decide +kernel
theorem dX6_init_8 : decode mX6_init.2.1 8 = .ok (.dup, 1) := by decide +kernel
theorem dX6_init_9 : decode mX6_init.2.1 9 = .ok (.sipush 150, 3) := by decide +kernel
theorem dX6_init_12 : decode mX6_init.2.1 12 = .ok (.invokespecial 11, 3) := by decide +kernel
theorem dX6_init_15 : decode mX6_init.2.1 15 = .ok (.putfield 14, 3) := by decide +kernel
theorem dX6_init_18 : decode mX6_init.2.1 18 = .ok (.aload_n 0, 1) := by decide +kernel
theorem dX6_init_19 : decode mX6_init.2.1 19 = .ok (.new 18, 3) := by decide +kernel
theorem dX6_init_22 : decode mX6_init.2.1 22 = .ok (.dup, 1) := by decide +kernel
theorem dX6_init_23 : decode mX6_init.2.1 23 = .ok (.aload_n 0, 1) := by decide +kernel
theorem dX6_init_24 : decode mX6_init.2.1 24 = .ok (.getfield 14, 3) := by decide +kernel
theorem dX6_init_27 : decode mX6_init.2.1 27 = .ok (.invokespecial 20, 3) := by decide +kernel
theorem dX6_init_30 : decode mX6_init.2.1 30 = .ok (.putfield 23, 3) := by decide +kernel
theorem dX6_init_33 : decode mX6_init.2.1 33 = .ok (.aload_n 0, 1) := by decide +kernel
theorem dX6_init_34 : decode mX6_init.2.1 34 = .ok (.new 27, 3) := by decide +kernel
theorem dX6_init_37 : decode mX6_init.2.1 37 = .ok (.dup, 1) := by decide +kernel
theorem dX6_init_38 : decode mX6_init.2.1 38 = .ok (.invokespecial 29, 3) := by decide +kernel
theorem dX6_init_41 : decode mX6_init.2.1 41 = .ok (.putfield 30, 3) := by decide +kernel
theorem dX6_init_44 : decode mX6_init.2.1 44 = .ok (.aload_n 0, 1) := by decide +kernel
theorem dX6_init_45 : decode mX6_init.2.1 45 = .ok (.new 27, 3) := by decide +kernel
theorem dX6_init_48 : decode mX6_init.2.1 48 = .ok (.dup, 1) := by decide +kernel
theorem dX6_init_49 : decode mX6_init.2.1 49 = .ok (.invokespecial 29, 3) := by decide +kernel
theorem dX6_init_52 : decode mX6_init.2.1 52 = .ok (.putfield 34, 3) := by decide +kernel
theorem dX6_init_55 : decode mX6_init.2.1 55 = .ok (.aload_n 0, 1) := by decide +kernel
theorem dX6_init_56 : decode mX6_init.2.1 56 = .ok (.new 37, 3) := by decide +kernel
theorem dX6_init_59 : decode mX6_init.2.1 59 = .ok (.dup, 1) := by decide +kernel
theorem dX6_init_60 : decode mX6_init.2.1 60 = .ok (.invokespecial 39, 3) := by decide +kernel
theorem dX6_init_63 : decode mX6_init.2.1 63 = .ok (.putfield 40, 3) := by decide +kernel
theorem dX6_init_66 : decode mX6_init.2.1 66 = .ok (.aload_n 0, 1) := by decide +kernel
theorem dX6_init_67 : decode mX6_init.2.1 67 = .ok (.getfield 40, 3) := by decide +kernel
theorem dX6_init_70 : decode mX6_init.2.1 70 = .ok (.aload_n 0, 1) := by decide +kernel
theorem dX6_init_71 : decode mX6_init.2.1 71 = .ok (.getfield 30, 3) := by decide +kernel
theorem dX6_init_74 : decode mX6_init.2.1 74 = .ok (.invokevirtual 44, 3) := by decide +kernel
theorem dX6_init_77 : decode mX6_init.2.1 77 = .ok (.aload_n 0, 1) := by decide +kernel
theorem dX6_init_78 : decode mX6_init.2.1 78 = .ok (.new 48, 3) := by decide +kernel
theorem dX6_init_81 : decode mX6_init.2.1 81 = .ok (.dup, 1) := by decide +kernel
theorem dX6_init_82 : decode mX6_init.2.1 82 = .ok (.invokespecial 50, 3) := by decide +kernel
theorem dX6_init_85 : decode mX6_init.2.1 85 = .ok (.putfield 51, 3) := by decide +kernel
theorem dX6_init_88 : decode mX6_init.2.1 88 = .ok (.aload_n 0, 1) := by decide +kernel
theorem dX6_init_89 : decode mX6_init.2.1 89 = .ok (.new 7, 3) := by decide +kernel
theorem dX6_init_92 : decode mX6_init.2.1 92 = .ok (.dup, 1) := by decide +kernel
theorem dX6_init_93 : decode mX6_init.2.1 93 = .ok (.bipush 6, 2) := by decide +kernel
theorem dX6_init_95 : decode mX6_init.2.1 95 = .ok (.invokespecial 11, 3) := by decide +kernel
theorem dX6_init_98 : decode mX6_init.2.1 98 = .ok (.putfield 55, 3) := by decide +kernel
theorem dX6_init_101 : decode mX6_init.2.1 101 = .ok (.aload_n 0, 1) := by decide +kernel
theorem dX6_init_102 : decode mX6_init.2.1 102 = .ok (.new 58, 3) := by decide +kernel
theorem dX6_init_105 : decode mX6_init.2.1 105 = .ok (.dup, 1) := by decide +kernel
theorem dX6_init_106 : decode mX6_init.2.1 106 = .ok (.iconst 2, 1) := by decide +kernel
theorem dX6_init_107 : decode mX6_init.2.1 107 = .ok (.invokespecial 60, 3) := by decide +kernel
theorem dX6_init_110 : decode mX6_init.2.1 110 = .ok (.putfield 61, 3) := by decide +kernel
theorem dX6_init_113 : decode mX6_init.2.1 113 = .ok (.aload_n 0, 1) := by decide +kernel
theorem dX6_init_114 : decode mX6_init.2.1 114 = .ok (.new 7, 3) := by decide +kernel
theorem dX6_init_117 : decode mX6_init.2.1 117 = .ok (.dup, 1) := by decide +kernel
theorem dX6_init_118 : decode mX6_init.2.1 118 = .ok (.bipush 6, 2) := by decide +kernel
theorem dX6_init_120 : decode mX6_init.2.1 120 = .ok (.invokespecial 11, 3) := by decide +kernel
theorem dX6_init_123 : decode mX6_init.2.1 123 = .ok (.putfield 65, 3) := by decide +kernel
theorem dX6_init_126 : decode mX6_init.2.1 126 = .ok (.aload_n 0, 1) := by decide +kernel
theorem dX6_init_127 : decode mX6_init.2.1 127 = .ok (.new 7, 3) := by decide +kernel
theorem dX6_init_130 : decode mX6_init.2.1 130 = .ok (.dup, 1) := by decide +kernel
theorem dX6_init_131 : decode mX6_init.2.1 131 = .ok (.bipush 6, 2) := by decide +kernel
theorem dX6_init_133 : decode mX6_init.2.1 133 = .ok (.invokespecial 11, 3) := by decide +kernel
theorem dX6_init_136 : decode mX6_init.2.1 136 = .ok (.putfield 68, 3) := by decide +kernel
theorem dX6_init_139 : decode mX6_init.2.1 139 = .ok (.return_, 1) := by decide +kernel
theorem dX6_type_0 : decode mX6_type.2.1 0 = .ok (.iload_n 1, 1) := by decide +kernel
theorem dX6_type_1 : decode mX6_type.2.1 1 = .ok (.iconst 0, 1) := by decide +kernel
theorem dX6_type_2 : decode mX6_type.2.1 2 = .ok (.sipush 255, 3) := by decide +kernel
theorem dX6_type_5 : decode mX6_type.2.1 5 = .ok (.invokestatic 71, 3) := by decide +kernel
theorem dX6_type_8 : decode mX6_type.2.1 8 = .ok (.ifCond .ne 5, 3) := by decide +kernel
theorem dX6_type_11 : decode mX6_type.2.1 11 = .ok (.iconst (-1), 1) := by decide +kernel
theorem dX6_type_12 : decode mX6_type.2.1 12 = .ok (.ireturn, 1) := by decide +kernel
theorem dX6_type_13 : decode mX6_type.2.1 13 = .ok (.aload_n 0, 1) := by decide +kernel
theorem dX6_type_14 : decode mX6_type.2.1 14 = .ok (.getfield 75, 3) := by decide +kernel
theorem dX6_type_17 : decode mX6_type.2.1 17 = .ok (.sipush 150, 3) := by decide +kernel
theorem dX6_type_20 : decode mX6_type.2.1 20 = .ok (.if_icmp .lt 6, 3) := by decide +kernel
theorem dX6_type_23 : decode mX6_type.2.1 23 = .ok (.bipush (-3), 2) := by decide +kernel
theorem dX6_type_25 : decode mX6_type.2.1 25 = .ok (.ireturn, 1) := by decide +kernel
theorem dX6_type_26 : decode mX6_type.2.1 26 = .ok (.aload_n 0, 1) := by decide +kernel
theorem dX6_type_27 : decode mX6_type.2.1 27 = .ok (.getfield 14, 3) := by decide +kernel
theorem dX6_type_30 : decode mX6_type.2.1 30 = .ok (.aload_n 0, 1) := by decide +kernel
theorem dX6_type_31 : decode mX6_type.2.1 31 = .ok (.getfield 75, 3) := by decide +kernel
theorem dX6_type_34 : decode mX6_type.2.1 34 = .ok (.iload_n 1, 1) := by decide +kernel
theorem dX6_type_35 : decode mX6_type.2.1 35 = .ok (.invokevirtual 79, 3) := by decide +kernel
theorem dX6_type_38 : decode mX6_type.2.1 38 = .ok (.aload_n 0, 1) := by decide +kernel
theorem dX6_type_39 : decode mX6_type.2.1 39 = .ok (.dup, 1) := by decide +kernel
theorem dX6_type_40 : decode mX6_type.2.1 40 = .ok (.getfield 75, 3) := by decide +kernel
theorem dX6_type_43 : decode mX6_type.2.1 43 = .ok (.iconst 1, 1) := by decide +kernel
theorem dX6_type_44 : decode mX6_type.2.1 44 = .ok (.iadd, 1) := by decide +kernel
theorem dX6_type_45 : decode mX6_type.2.1 45 = .ok (.putfield 75, 3) := by decide +kernel
theorem dX6_type_48 : decode mX6_type.2.1 48 = .ok (.aload_n 0, 1) := by decide +kernel
theorem dX6_type_49 : decode mX6_type.2.1 49 = .ok (.getfield 75, 3) := by decide +kernel
theorem dX6_type_52 : decode mX6_type.2.1 52 = .ok (.ireturn, 1) := by decide +kernel
theorem dX6_clear_0 : decode mX6_clear.2.1 0 = .ok (.aload_n 0, 1) := by decide +kernel
theorem dX6_clear_1 : decode mX6_clear.2.1 1 = .ok (.getfield 75, 3) := by decide +kernel
theorem dX6_clear_4 : decode mX6_clear.2.1 4 = .ok (.istore_n 1, 1) := by decide +kernel
theorem dX6_clear_5 : decode mX6_clear.2.1 5 = .ok (.aload_n 0, 1) := by decide +kernel
theorem dX6_clear_6 : decode mX6_clear.2.1 6 = .ok (.iconst 0, 1) := by decide +kernel
theorem dX6_clear_7 : decode mX6_clear.2.1 7 = .ok (.putfield 75, 3) := by decide +kernel
theorem dX6_clear_10 : decode mX6_clear.2.1 10 = .ok (.iload_n 1, 1) := by decide +kernel
theorem dX6_clear_11 : decode mX6_clear.2.1 11 = .ok (.ireturn, 1) := by decide +kernel
theorem dX6_gate_0 : decode mX6_gate.2.1 0 = .ok (.aload_n 0, 1) := by decide +kernel
theorem dX6_gate_1 : decode mX6_gate.2.1 1 = .ok (.getfield 23, 3) := by decide +kernel
theorem dX6_gate_4 : decode mX6_gate.2.1 4 = .ok (.aload_n 0, 1) := by decide +kernel
theorem dX6_gate_5 : decode mX6_gate.2.1 5 = .ok (.getfield 75, 3) := by decide +kernel
theorem dX6_gate_8 : decode mX6_gate.2.1 8 = .ok (.aload_n 0, 1) := by decide +kernel
theorem dX6_gate_9 : decode mX6_gate.2.1 9 = .ok (.getfield 34, 3) := by decide +kernel
theorem dX6_gate_12 : decode mX6_gate.2.1 12 = .ok (.invokevirtual 83, 3) := by decide +kernel
theorem dX6_gate_15 : decode mX6_gate.2.1 15 = .ok (.istore_n 1, 1) := by decide +kernel
theorem dX6_gate_16 : decode mX6_gate.2.1 16 = .ok (.iload_n 1, 1) := by decide +kernel
theorem dX6_gate_17 : decode mX6_gate.2.1 17 = .ok (.iconst (-1), 1) := by decide +kernel
theorem dX6_gate_18 : decode mX6_gate.2.1 18 = .ok (.if_icmp .eq 8, 3) := by decide +kernel
theorem dX6_gate_21 : decode mX6_gate.2.1 21 = .ok (.bipush (-10), 2) := by decide +kernel
theorem dX6_gate_23 : decode mX6_gate.2.1 23 = .ok (.iload_n 1, 1) := by decide +kernel
theorem dX6_gate_24 : decode mX6_gate.2.1 24 = .ok (.isub, 1) := by decide +kernel
theorem dX6_gate_25 : decode mX6_gate.2.1 25 = .ok (.ireturn, 1) := by decide +kernel
theorem dX6_gate_26 : decode mX6_gate.2.1 26 = .ok (.aload_n 0, 1) := by decide +kernel
theorem dX6_gate_27 : decode mX6_gate.2.1 27 = .ok (.getfield 30, 3) := by decide +kernel
theorem dX6_gate_30 : decode mX6_gate.2.1 30 = .ok (.astore_n 2, 1) := by decide +kernel
theorem dX6_gate_31 : decode mX6_gate.2.1 31 = .ok (.aload_n 0, 1) := by decide +kernel
theorem dX6_gate_32 : decode mX6_gate.2.1 32 = .ok (.aload_n 0, 1) := by decide +kernel
theorem dX6_gate_33 : decode mX6_gate.2.1 33 = .ok (.getfield 34, 3) := by decide +kernel
theorem dX6_gate_36 : decode mX6_gate.2.1 36 = .ok (.putfield 30, 3) := by decide +kernel
theorem dX6_gate_39 : decode mX6_gate.2.1 39 = .ok (.aload_n 0, 1) := by decide +kernel
theorem dX6_gate_40 : decode mX6_gate.2.1 40 = .ok (.aload_n 2, 1) := by decide +kernel
theorem dX6_gate_41 : decode mX6_gate.2.1 41 = .ok (.putfield 34, 3) := by decide +kernel
theorem dX6_gate_44 : decode mX6_gate.2.1 44 = .ok (.aload_n 0, 1) := by decide +kernel
theorem dX6_gate_45 : decode mX6_gate.2.1 45 = .ok (.getfield 40, 3) := by decide +kernel
theorem dX6_gate_48 : decode mX6_gate.2.1 48 = .ok (.aload_n 0, 1) := by decide +kernel
theorem dX6_gate_49 : decode mX6_gate.2.1 49 = .ok (.getfield 30, 3) := by decide +kernel
theorem dX6_gate_52 : decode mX6_gate.2.1 52 = .ok (.invokevirtual 44, 3) := by decide +kernel
theorem dX6_gate_55 : decode mX6_gate.2.1 55 = .ok (.aload_n 0, 1) := by decide +kernel
theorem dX6_gate_56 : decode mX6_gate.2.1 56 = .ok (.getfield 51, 3) := by decide +kernel
theorem dX6_gate_59 : decode mX6_gate.2.1 59 = .ok (.invokevirtual 87, 3) := by decide +kernel
theorem dX6_gate_62 : decode mX6_gate.2.1 62 = .ok (.aload_n 0, 1) := by decide +kernel
theorem dX6_gate_63 : decode mX6_gate.2.1 63 = .ok (.iconst 0, 1) := by decide +kernel
theorem dX6_gate_64 : decode mX6_gate.2.1 64 = .ok (.putfield 90, 3) := by decide +kernel
theorem dX6_gate_67 : decode mX6_gate.2.1 67 = .ok (.aload_n 0, 1) := by decide +kernel
theorem dX6_gate_68 : decode mX6_gate.2.1 68 = .ok (.iconst 0, 1) := by decide +kernel
theorem dX6_gate_69 : decode mX6_gate.2.1 69 = .ok (.putfield 93, 3) := by decide +kernel
theorem dX6_gate_72 : decode mX6_gate.2.1 72 = .ok (.aload_n 0, 1) := by decide +kernel
theorem dX6_gate_73 : decode mX6_gate.2.1 73 = .ok (.iconst 0, 1) := by decide +kernel
theorem dX6_gate_74 : decode mX6_gate.2.1 74 = .ok (.putfield 75, 3) := by decide +kernel
theorem dX6_gate_77 : decode mX6_gate.2.1 77 = .ok (.aload_n 0, 1) := by decide +kernel
theorem dX6_gate_78 : decode mX6_gate.2.1 78 = .ok (.getfield 30, 3) := by decide +kernel
theorem dX6_gate_81 : decode mX6_gate.2.1 81 = .ok (.getfield 96, 3) := by decide +kernel
theorem dX6_gate_84 : decode mX6_gate.2.1 84 = .ok (.ireturn, 1) := by decide +kernel
theorem dX6_deed_0 : decode mX6_deed.2.1 0 = .ok (.aload_n 0, 1) := by decide +kernel
theorem dX6_deed_1 : decode mX6_deed.2.1 1 = .ok (.getfield 30, 3) := by decide +kernel
theorem dX6_deed_4 : decode mX6_deed.2.1 4 = .ok (.iload_n 1, 1) := by decide +kernel
theorem dX6_deed_5 : decode mX6_deed.2.1 5 = .ok (.invokevirtual 99, 3) := by decide +kernel
theorem dX6_deed_8 : decode mX6_deed.2.1 8 = .ok (.ifCond .ne 6, 3) := by decide +kernel
theorem dX6_deed_11 : decode mX6_deed.2.1 11 = .ok (.ldc 103, 2) := by decide +kernel
theorem dX6_deed_13 : decode mX6_deed.2.1 13 = .ok (.ireturn, 1) := by decide +kernel
theorem dX6_deed_14 : decode mX6_deed.2.1 14 = .ok (.iload_n 2, 1) := by decide +kernel
theorem dX6_deed_15 : decode mX6_deed.2.1 15 = .ok (.lookupswitch 43 #[(0, 25), (1, 37)], 25) := by decide +kernel
theorem dX6_deed_40 : decode mX6_deed.2.1 40 = .ok (.aload_n 0, 1) := by decide +kernel
theorem dX6_deed_41 : decode mX6_deed.2.1 41 = .ok (.getfield 30, 3) := by decide +kernel
theorem dX6_deed_44 : decode mX6_deed.2.1 44 = .ok (.getfield 104, 3) := by decide +kernel
theorem dX6_deed_47 : decode mX6_deed.2.1 47 = .ok (.iload_n 1, 1) := by decide +kernel
theorem dX6_deed_48 : decode mX6_deed.2.1 48 = .ok (.invokevirtual 107, 3) := by decide +kernel
theorem dX6_deed_51 : decode mX6_deed.2.1 51 = .ok (.ireturn, 1) := by decide +kernel
theorem dX6_deed_52 : decode mX6_deed.2.1 52 = .ok (.aload_n 0, 1) := by decide +kernel
theorem dX6_deed_53 : decode mX6_deed.2.1 53 = .ok (.iload_n 1, 1) := by decide +kernel
theorem dX6_deed_54 : decode mX6_deed.2.1 54 = .ok (.invokevirtual 111, 3) := by decide +kernel
theorem dX6_deed_57 : decode mX6_deed.2.1 57 = .ok (.ireturn, 1) := by decide +kernel
theorem dX6_deed_58 : decode mX6_deed.2.1 58 = .ok (.ldc 103, 2) := by decide +kernel
theorem dX6_deed_60 : decode mX6_deed.2.1 60 = .ok (.ireturn, 1) := by decide +kernel
theorem dX6_dead_0 : decode mX6_dead.2.1 0 = .ok (.aload_n 0, 1) := by decide +kernel
theorem dX6_dead_1 : decode mX6_dead.2.1 1 = .ok (.getfield 30, 3) := by decide +kernel
theorem dX6_dead_4 : decode mX6_dead.2.1 4 = .ok (.iload_n 1, 1) := by decide +kernel
theorem dX6_dead_5 : decode mX6_dead.2.1 5 = .ok (.invokevirtual 114, 3) := by decide +kernel
theorem dX6_dead_8 : decode mX6_dead.2.1 8 = .ok (.ifCond .ne 6, 3) := by decide +kernel
theorem dX6_dead_11 : decode mX6_dead.2.1 11 = .ok (.ldc 103, 2) := by decide +kernel
theorem dX6_dead_13 : decode mX6_dead.2.1 13 = .ok (.ireturn, 1) := by decide +kernel
theorem dX6_dead_14 : decode mX6_dead.2.1 14 = .ok (.iload_n 2, 1) := by decide +kernel
theorem dX6_dead_15 : decode mX6_dead.2.1 15 = .ok (.tableswitch 133 0 7 #[45, 57, 69, 81, 103, 109, 121, 127], 45) := by decide +kernel
theorem dX6_dead_60 : decode mX6_dead.2.1 60 = .ok (.aload_n 0, 1) := by decide +kernel
theorem dX6_dead_61 : decode mX6_dead.2.1 61 = .ok (.getfield 30, 3) := by decide +kernel
theorem dX6_dead_64 : decode mX6_dead.2.1 64 = .ok (.getfield 117, 3) := by decide +kernel
theorem dX6_dead_67 : decode mX6_dead.2.1 67 = .ok (.iload_n 1, 1) := by decide +kernel
theorem dX6_dead_68 : decode mX6_dead.2.1 68 = .ok (.invokevirtual 107, 3) := by decide +kernel
theorem dX6_dead_71 : decode mX6_dead.2.1 71 = .ok (.ireturn, 1) := by decide +kernel
theorem dX6_dead_72 : decode mX6_dead.2.1 72 = .ok (.aload_n 0, 1) := by decide +kernel
theorem dX6_dead_73 : decode mX6_dead.2.1 73 = .ok (.getfield 40, 3) := by decide +kernel
theorem dX6_dead_76 : decode mX6_dead.2.1 76 = .ok (.getfield 120, 3) := by decide +kernel
theorem dX6_dead_79 : decode mX6_dead.2.1 79 = .ok (.iload_n 1, 1) := by decide +kernel
theorem dX6_dead_80 : decode mX6_dead.2.1 80 = .ok (.invokevirtual 107, 3) := by decide +kernel
theorem dX6_dead_83 : decode mX6_dead.2.1 83 = .ok (.ireturn, 1) := by decide +kernel
theorem dX6_dead_84 : decode mX6_dead.2.1 84 = .ok (.aload_n 0, 1) := by decide +kernel
theorem dX6_dead_85 : decode mX6_dead.2.1 85 = .ok (.getfield 40, 3) := by decide +kernel
theorem dX6_dead_88 : decode mX6_dead.2.1 88 = .ok (.getfield 123, 3) := by decide +kernel
theorem dX6_dead_91 : decode mX6_dead.2.1 91 = .ok (.iload_n 1, 1) := by decide +kernel
theorem dX6_dead_92 : decode mX6_dead.2.1 92 = .ok (.invokevirtual 107, 3) := by decide +kernel
theorem dX6_dead_95 : decode mX6_dead.2.1 95 = .ok (.ireturn, 1) := by decide +kernel
theorem dX6_dead_96 : decode mX6_dead.2.1 96 = .ok (.aload_n 0, 1) := by decide +kernel
theorem dX6_dead_97 : decode mX6_dead.2.1 97 = .ok (.getfield 30, 3) := by decide +kernel
theorem dX6_dead_100 : decode mX6_dead.2.1 100 = .ok (.getfield 104, 3) := by decide +kernel
theorem dX6_dead_103 : decode mX6_dead.2.1 103 = .ok (.aload_n 0, 1) := by decide +kernel
theorem dX6_dead_104 : decode mX6_dead.2.1 104 = .ok (.getfield 40, 3) := by decide +kernel
theorem dX6_dead_107 : decode mX6_dead.2.1 107 = .ok (.getfield 123, 3) := by decide +kernel
theorem dX6_dead_110 : decode mX6_dead.2.1 110 = .ok (.iload_n 1, 1) := by decide +kernel
theorem dX6_dead_111 : decode mX6_dead.2.1 111 = .ok (.invokevirtual 107, 3) := by decide +kernel
theorem dX6_dead_114 : decode mX6_dead.2.1 114 = .ok (.invokevirtual 126, 3) := by decide +kernel
theorem dX6_dead_117 : decode mX6_dead.2.1 117 = .ok (.ireturn, 1) := by decide +kernel
theorem dX6_dead_118 : decode mX6_dead.2.1 118 = .ok (.aload_n 0, 1) := by decide +kernel
theorem dX6_dead_119 : decode mX6_dead.2.1 119 = .ok (.iload_n 1, 1) := by decide +kernel
theorem dX6_dead_120 : decode mX6_dead.2.1 120 = .ok (.invokevirtual 129, 3) := by decide +kernel
theorem dX6_dead_123 : decode mX6_dead.2.1 123 = .ok (.ireturn, 1) := by decide +kernel
theorem dX6_dead_124 : decode mX6_dead.2.1 124 = .ok (.aload_n 0, 1) := by decide +kernel
theorem dX6_dead_125 : decode mX6_dead.2.1 125 = .ok (.getfield 40, 3) := by decide +kernel
theorem dX6_dead_128 : decode mX6_dead.2.1 128 = .ok (.getfield 132, 3) := by decide +kernel
theorem dX6_dead_131 : decode mX6_dead.2.1 131 = .ok (.iload_n 1, 1) := by decide +kernel
theorem dX6_dead_132 : decode mX6_dead.2.1 132 = .ok (.invokevirtual 107, 3) := by decide +kernel
theorem dX6_dead_135 : decode mX6_dead.2.1 135 = .ok (.ireturn, 1) := by decide +kernel
theorem dX6_dead_136 : decode mX6_dead.2.1 136 = .ok (.aload_n 0, 1) := by decide +kernel
theorem dX6_dead_137 : decode mX6_dead.2.1 137 = .ok (.iload_n 1, 1) := by decide +kernel
theorem dX6_dead_138 : decode mX6_dead.2.1 138 = .ok (.invokevirtual 135, 3) := by decide +kernel
theorem dX6_dead_141 : decode mX6_dead.2.1 141 = .ok (.ireturn, 1) := by decide +kernel
theorem dX6_dead_142 : decode mX6_dead.2.1 142 = .ok (.aload_n 0, 1) := by decide +kernel
theorem dX6_dead_143 : decode mX6_dead.2.1 143 = .ok (.iload_n 1, 1) := by decide +kernel
theorem dX6_dead_144 : decode mX6_dead.2.1 144 = .ok (.invokevirtual 138, 3) := by decide +kernel
theorem dX6_dead_147 : decode mX6_dead.2.1 147 = .ok (.ireturn, 1) := by decide +kernel
theorem dX6_dead_148 : decode mX6_dead.2.1 148 = .ok (.ldc 103, 2) := by decide +kernel
theorem dX6_dead_150 : decode mX6_dead.2.1 150 = .ok (.ireturn, 1) := by decide +kernel
theorem dX6_bearer_0 : decode mX6_bearer.2.1 0 = .ok (.aload_n 0, 1) := by decide +kernel
theorem dX6_bearer_1 : decode mX6_bearer.2.1 1 = .ok (.getfield 30, 3) := by decide +kernel
theorem dX6_bearer_4 : decode mX6_bearer.2.1 4 = .ok (.iload_n 1, 1) := by decide +kernel
theorem dX6_bearer_5 : decode mX6_bearer.2.1 5 = .ok (.invokevirtual 141, 3) := by decide +kernel
theorem dX6_bearer_8 : decode mX6_bearer.2.1 8 = .ok (.ifCond .eq 17, 3) := by decide +kernel
theorem dX6_bearer_11 : decode mX6_bearer.2.1 11 = .ok (.aload_n 0, 1) := by decide +kernel
theorem dX6_bearer_12 : decode mX6_bearer.2.1 12 = .ok (.getfield 30, 3) := by decide +kernel
theorem dX6_bearer_15 : decode mX6_bearer.2.1 15 = .ok (.getfield 144, 3) := by decide +kernel
theorem dX6_bearer_18 : decode mX6_bearer.2.1 18 = .ok (.iload_n 1, 1) := by decide +kernel
theorem dX6_bearer_19 : decode mX6_bearer.2.1 19 = .ok (.invokevirtual 107, 3) := by decide +kernel
theorem dX6_bearer_22 : decode mX6_bearer.2.1 22 = .ok (.goto 4, 3) := by decide +kernel
theorem dX6_bearer_25 : decode mX6_bearer.2.1 25 = .ok (.iconst (-1), 1) := by decide +kernel
theorem dX6_bearer_26 : decode mX6_bearer.2.1 26 = .ok (.ireturn, 1) := by decide +kernel
theorem dX6_now_0 : decode mX6_now.2.1 0 = .ok (.iload_n 1, 1) := by decide +kernel
theorem dX6_now_1 : decode mX6_now.2.1 1 = .ok (.tableswitch 72 0 4 #[35, 43, 51, 59, 64], 35) := by decide +kernel
theorem dX6_now_36 : decode mX6_now.2.1 36 = .ok (.aload_n 0, 1) := by decide +kernel
theorem dX6_now_37 : decode mX6_now.2.1 37 = .ok (.getfield 40, 3) := by decide +kernel
theorem dX6_now_40 : decode mX6_now.2.1 40 = .ok (.getfield 147, 3) := by decide +kernel
theorem dX6_now_43 : decode mX6_now.2.1 43 = .ok (.ireturn, 1) := by decide +kernel
theorem dX6_now_44 : decode mX6_now.2.1 44 = .ok (.aload_n 0, 1) := by decide +kernel
theorem dX6_now_45 : decode mX6_now.2.1 45 = .ok (.getfield 40, 3) := by decide +kernel
theorem dX6_now_48 : decode mX6_now.2.1 48 = .ok (.getfield 150, 3) := by decide +kernel
theorem dX6_now_51 : decode mX6_now.2.1 51 = .ok (.ireturn, 1) := by decide +kernel
theorem dX6_now_52 : decode mX6_now.2.1 52 = .ok (.aload_n 0, 1) := by decide +kernel
theorem dX6_now_53 : decode mX6_now.2.1 53 = .ok (.getfield 40, 3) := by decide +kernel
theorem dX6_now_56 : decode mX6_now.2.1 56 = .ok (.getfield 153, 3) := by decide +kernel
theorem dX6_now_59 : decode mX6_now.2.1 59 = .ok (.ireturn, 1) := by decide +kernel
theorem dX6_now_60 : decode mX6_now.2.1 60 = .ok (.aload_n 0, 1) := by decide +kernel
theorem dX6_now_61 : decode mX6_now.2.1 61 = .ok (.invokevirtual 156, 3) := by decide +kernel
theorem dX6_now_64 : decode mX6_now.2.1 64 = .ok (.ireturn, 1) := by decide +kernel
theorem dX6_now_65 : decode mX6_now.2.1 65 = .ok (.aload_n 0, 1) := by decide +kernel
theorem dX6_now_66 : decode mX6_now.2.1 66 = .ok (.getfield 51, 3) := by decide +kernel
theorem dX6_now_69 : decode mX6_now.2.1 69 = .ok (.getfield 160, 3) := by decide +kernel
theorem dX6_now_72 : decode mX6_now.2.1 72 = .ok (.ireturn, 1) := by decide +kernel
theorem dX6_now_73 : decode mX6_now.2.1 73 = .ok (.ldc 103, 2) := by decide +kernel
theorem dX6_now_75 : decode mX6_now.2.1 75 = .ok (.ireturn, 1) := by decide +kernel
theorem dX6_lays_0 : decode mX6_lays.2.1 0 = .ok (.aload_n 0, 1) := by decide +kernel
theorem dX6_lays_1 : decode mX6_lays.2.1 1 = .ok (.getfield 30, 3) := by decide +kernel
theorem dX6_lays_4 : decode mX6_lays.2.1 4 = .ok (.iload_n 1, 1) := by decide +kernel
theorem dX6_lays_5 : decode mX6_lays.2.1 5 = .ok (.invokevirtual 114, 3) := by decide +kernel
theorem dX6_lays_8 : decode mX6_lays.2.1 8 = .ok (.ifCond .ne 5, 3) := by decide +kernel
theorem dX6_lays_11 : decode mX6_lays.2.1 11 = .ok (.iconst (-1), 1) := by decide +kernel
theorem dX6_lays_12 : decode mX6_lays.2.1 12 = .ok (.ireturn, 1) := by decide +kernel
theorem dX6_lays_13 : decode mX6_lays.2.1 13 = .ok (.aload_n 0, 1) := by decide +kernel
theorem dX6_lays_14 : decode mX6_lays.2.1 14 = .ok (.getfield 40, 3) := by decide +kernel
theorem dX6_lays_17 : decode mX6_lays.2.1 17 = .ok (.iload_n 1, 1) := by decide +kernel
theorem dX6_lays_18 : decode mX6_lays.2.1 18 = .ok (.invokevirtual 163, 3) := by decide +kernel
theorem dX6_lays_21 : decode mX6_lays.2.1 21 = .ok (.ifCond .eq 6, 3) := by decide +kernel
theorem dX6_lays_24 : decode mX6_lays.2.1 24 = .ok (.bipush (-2), 2) := by decide +kernel
theorem dX6_lays_26 : decode mX6_lays.2.1 26 = .ok (.ireturn, 1) := by decide +kernel
theorem dX6_lays_27 : decode mX6_lays.2.1 27 = .ok (.aload_n 0, 1) := by decide +kernel
theorem dX6_lays_28 : decode mX6_lays.2.1 28 = .ok (.getfield 51, 3) := by decide +kernel
theorem dX6_lays_31 : decode mX6_lays.2.1 31 = .ok (.aload_n 0, 1) := by decide +kernel
theorem dX6_lays_32 : decode mX6_lays.2.1 32 = .ok (.getfield 40, 3) := by decide +kernel
theorem dX6_lays_35 : decode mX6_lays.2.1 35 = .ok (.invokevirtual 166, 3) := by decide +kernel
theorem dX6_lays_38 : decode mX6_lays.2.1 38 = .ok (.aload_n 0, 1) := by decide +kernel
theorem dX6_lays_39 : decode mX6_lays.2.1 39 = .ok (.iload_n 1, 1) := by decide +kernel
theorem dX6_lays_40 : decode mX6_lays.2.1 40 = .ok (.invokevirtual 135, 3) := by decide +kernel
theorem dX6_lays_43 : decode mX6_lays.2.1 43 = .ok (.istore_n 2, 1) := by decide +kernel
theorem dX6_lays_44 : decode mX6_lays.2.1 44 = .ok (.aload_n 0, 1) := by decide +kernel
theorem dX6_lays_45 : decode mX6_lays.2.1 45 = .ok (.getfield 40, 3) := by decide +kernel
theorem dX6_lays_48 : decode mX6_lays.2.1 48 = .ok (.getfield 132, 3) := by decide +kernel
theorem dX6_lays_51 : decode mX6_lays.2.1 51 = .ok (.iload_n 1, 1) := by decide +kernel
theorem dX6_lays_52 : decode mX6_lays.2.1 52 = .ok (.iload_n 2, 1) := by decide +kernel
theorem dX6_lays_53 : decode mX6_lays.2.1 53 = .ok (.invokevirtual 79, 3) := by decide +kernel
theorem dX6_lays_56 : decode mX6_lays.2.1 56 = .ok (.aload_n 0, 1) := by decide +kernel
theorem dX6_lays_57 : decode mX6_lays.2.1 57 = .ok (.getfield 40, 3) := by decide +kernel
theorem dX6_lays_60 : decode mX6_lays.2.1 60 = .ok (.aload_n 0, 1) := by decide +kernel

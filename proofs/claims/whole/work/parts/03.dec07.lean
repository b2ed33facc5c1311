theorem dX7_can_3 : decode cX7_can 3 = .ok (.invokestatic 72, 3) := by decide +kernel
theorem dX7_can_6 : decode cX7_can 6 = .ok (.ifCond .ne 5, 3) := by decide +kernel
theorem dX7_can_9 : decode cX7_can 9 = .ok (.iconst (-1), 1) := by decide +kernel
theorem dX7_can_10 : decode cX7_can 10 = .ok (.ireturn, 1) := by decide +kernel
theorem dX7_can_11 : decode cX7_can 11 = .ok (.aload_n 0, 1) := by decide +kernel
theorem dX7_can_12 : decode cX7_can 12 = .ok (.iconst 0, 1) := by decide +kernel
theorem dX7_can_13 : decode cX7_can 13 = .ok (.iconst 0, 1) := by decide +kernel
theorem dX7_can_14 : decode cX7_can 14 = .ok (.invokevirtual 220, 3) := by decide +kernel
theorem dX7_can_17 : decode cX7_can 17 = .ok (.istore_n 2, 1) := by decide +kernel
theorem dX7_can_18 : decode cX7_can 18 = .ok (.iload_n 1, 1) := by decide +kernel
theorem dX7_can_19 : decode cX7_can 19 = .ok (.ifCond .ne 5, 3) := by decide +kernel
theorem dX7_can_22 : decode cX7_can 22 = .ok (.iload_n 2, 1) := by decide +kernel
theorem dX7_can_23 : decode cX7_can 23 = .ok (.ireturn, 1) := by decide +kernel
theorem dX7_can_24 : decode cX7_can 24 = .ok (.iconst 0, 1) := by decide +kernel
theorem dX7_can_25 : decode cX7_can 25 = .ok (.istore_n 3, 1) := by decide +kernel
theorem dX7_can_26 : decode cX7_can 26 = .ok (.iconst 0, 1) := by decide +kernel
theorem dX7_can_27 : decode cX7_can 27 = .ok (.istore 4, 2) := by decide +kernel
theorem dX7_can_29 : decode cX7_can 29 = .ok (.iconst 0, 1) := by decide +kernel
theorem dX7_can_30 : decode cX7_can 30 = .ok (.istore 5, 2) := by decide +kernel
theorem dX7_can_32 : decode cX7_can 32 = .ok (.iload 5, 2) := by decide +kernel
theorem dX7_can_34 : decode cX7_can 34 = .ok (.aload_n 0, 1) := by decide +kernel
theorem dX7_can_35 : decode cX7_can 35 = .ok (.getfield 69, 3) := by decide +kernel
theorem dX7_can_38 : decode cX7_can 38 = .ok (.if_icmp .ge 55, 3) := by decide +kernel
theorem dX7_can_41 : decode cX7_can 41 = .ok (.aload_n 0, 1) := by decide +kernel
theorem dX7_can_42 : decode cX7_can 42 = .ok (.iconst 1, 1) := by decide +kernel
theorem dX7_can_43 : decode cX7_can 43 = .ok (.iload 5, 2) := by decide +kernel
theorem dX7_can_45 : decode cX7_can 45 = .ok (.ishl, 1) := by decide +kernel
theorem dX7_can_46 : decode cX7_can 46 = .ok (.iconst 0, 1) := by decide +kernel
theorem dX7_can_47 : decode cX7_can 47 = .ok (.invokevirtual 220, 3) := by decide +kernel
theorem dX7_can_50 : decode cX7_can 50 = .ok (.istore 6, 2) := by decide +kernel
theorem dX7_can_52 : decode cX7_can 52 = .ok (.iload_n 3, 1) := by decide +kernel
theorem dX7_can_53 : decode cX7_can 53 = .ok (.iload 6, 2) := by decide +kernel
theorem dX7_can_55 : decode cX7_can 55 = .ok (.iload_n 2, 1) := by decide +kernel
theorem dX7_can_56 : decode cX7_can 56 = .ok (.if_icmp .ne 10, 3) := by decide +kernel
theorem dX7_can_59 : decode cX7_can 59 = .ok (.iconst 1, 1) := by decide +kernel
theorem dX7_can_60 : decode cX7_can 60 = .ok (.iload 5, 2) := by decide +kernel
theorem dX7_can_62 : decode cX7_can 62 = .ok (.ishl, 1) := by decide +kernel
theorem dX7_can_63 : decode cX7_can 63 = .ok (.goto 4, 3) := by decide +kernel
theorem dX7_can_66 : decode cX7_can 66 = .ok (.iconst 0, 1) := by decide +kernel
theorem dX7_can_67 : decode cX7_can 67 = .ok (.ior, 1) := by decide +kernel
theorem dX7_can_68 : decode cX7_can 68 = .ok (.istore_n 3, 1) := by decide +kernel
theorem dX7_can_69 : decode cX7_can 69 = .ok (.iload 4, 2) := by decide +kernel
theorem dX7_can_71 : decode cX7_can 71 = .ok (.iload 6, 2) := by decide +kernel
theorem dX7_can_73 : decode cX7_can 73 = .ok (.ifCond .le 10, 3) := by decide +kernel
theorem dX7_can_76 : decode cX7_can 76 = .ok (.iconst 1, 1) := by decide +kernel
theorem dX7_can_77 : decode cX7_can 77 = .ok (.iload 5, 2) := by decide +kernel
theorem dX7_can_79 : decode cX7_can 79 = .ok (.ishl, 1) := by decide +kernel
theorem dX7_can_80 : decode cX7_can 80 = .ok (.goto 4, 3) := by decide +kernel
theorem dX7_can_83 : decode cX7_can 83 = .ok (.iconst 0, 1) := by decide +kernel
theorem dX7_can_84 : decode cX7_can 84 = .ok (.ior, 1) := by decide +kernel
theorem dX7_can_85 : decode cX7_can 85 = .ok (.istore 4, 2) := by decide +kernel
theorem dX7_can_87 : decode cX7_can 87 = .ok (.iinc 5 1, 3) := by decide +kernel
theorem dX7_can_90 : decode cX7_can 90 = .ok (.goto (-58), 3) := by decide +kernel
theorem dX7_can_93 : decode cX7_can 93 = .ok (.iload_n 1, 1) := by decide +kernel
theorem dX7_can_94 : decode cX7_can 94 = .ok (.iconst 2, 1) := by decide +kernel
theorem dX7_can_95 : decode cX7_can 95 = .ok (.if_icmp .ne 8, 3) := by decide +kernel
theorem dX7_can_98 : decode cX7_can 98 = .ok (.iload 4, 2) := by decide +kernel
theorem dX7_can_100 : decode cX7_can 100 = .ok (.goto 13, 3) := by decide +kernel
theorem dX7_can_103 : decode cX7_can 103 = .ok (.iload_n 2, 1) := by decide +kernel
theorem dX7_can_104 : decode cX7_can 104 = .ok (.ifCond .ne 8, 3) := by decide +kernel
theorem dX7_can_107 : decode cX7_can 107 = .ok (.bipush (-9), 2) := by decide +kernel
theorem dX7_can_109 : decode cX7_can 109 = .ok (.goto 4, 3) := by decide +kernel
theorem dX7_can_112 : decode cX7_can 112 = .ok (.iload_n 3, 1) := by decide +kernel
theorem dX7_can_113 : decode cX7_can 113 = .ok (.ireturn, 1) := by decide +kernel
theorem dX7_ask_0 : decode cX7_ask 0 = .ok (.aload_n 0, 1) := by decide +kernel
theorem dX7_ask_1 : decode cX7_ask 1 = .ok (.iconst 0, 1) := by decide +kernel
theorem dX7_ask_2 : decode cX7_ask 2 = .ok (.iconst 0, 1) := by decide +kernel
theorem dX7_ask_3 : decode cX7_ask 3 = .ok (.invokevirtual 220, 3) := by decide +kernel
theorem dX7_ask_6 : decode cX7_ask 6 = .ok (.istore_n 1, 1) := by decide +kernel
theorem dX7_ask_7 : decode cX7_ask 7 = .ok (.bipush (-9), 2) := by decide +kernel
theorem dX7_ask_9 : decode cX7_ask 9 = .ok (.istore_n 2, 1) := by decide +kernel
theorem dX7_ask_10 : decode cX7_ask 10 = .ok (.iconst 0, 1) := by decide +kernel
theorem dX7_ask_11 : decode cX7_ask 11 = .ok (.istore_n 3, 1) := by decide +kernel
theorem dX7_ask_12 : decode cX7_ask 12 = .ok (.iconst 0, 1) := by decide +kernel
theorem dX7_ask_13 : decode cX7_ask 13 = .ok (.istore 4, 2) := by decide +kernel
theorem dX7_ask_15 : decode cX7_ask 15 = .ok (.iload 4, 2) := by decide +kernel
theorem dX7_ask_17 : decode cX7_ask 17 = .ok (.aload_n 0, 1) := by decide +kernel
theorem dX7_ask_18 : decode cX7_ask 18 = .ok (.getfield 69, 3) := by decide +kernel
theorem dX7_ask_21 : decode cX7_ask 21 = .ok (.if_icmp .ge 86, 3) := by decide +kernel
theorem dX7_ask_24 : decode cX7_ask 24 = .ok (.iload_n 1, 1) := by decide +kernel
theorem dX7_ask_25 : decode cX7_ask 25 = .ok (.iconst 1, 1) := by decide +kernel
theorem dX7_ask_26 : decode cX7_ask 26 = .ok (.if_icmp .le 81, 3) := by decide +kernel
theorem dX7_ask_29 : decode cX7_ask 29 = .ok (.aload_n 0, 1) := by decide +kernel
theorem dX7_ask_30 : decode cX7_ask 30 = .ok (.iconst 1, 1) := by decide +kernel
theorem dX7_ask_31 : decode cX7_ask 31 = .ok (.iload 4, 2) := by decide +kernel
theorem dX7_ask_33 : decode cX7_ask 33 = .ok (.ishl, 1) := by decide +kernel
theorem dX7_ask_34 : decode cX7_ask 34 = .ok (.iconst 0, 1) := by decide +kernel
theorem dX7_ask_35 : decode cX7_ask 35 = .ok (.invokevirtual 220, 3) := by decide +kernel
theorem dX7_ask_38 : decode cX7_ask 38 = .ok (.istore 5, 2) := by decide +kernel
theorem dX7_ask_40 : decode cX7_ask 40 = .ok (.iload 5, 2) := by decide +kernel
theorem dX7_ask_42 : decode cX7_ask 42 = .ok (.iload_n 1, 1) := by decide +kernel
theorem dX7_ask_43 : decode cX7_ask 43 = .ok (.iload 5, 2) := by decide +kernel
theorem dX7_ask_45 : decode cX7_ask 45 = .ok (.isub, 1) := by decide +kernel
theorem dX7_ask_46 : decode cX7_ask 46 = .ok (.if_icmp .le 8, 3) := by decide +kernel
theorem dX7_ask_49 : decode cX7_ask 49 = .ok (.iload 5, 2) := by decide +kernel
theorem dX7_ask_51 : decode cX7_ask 51 = .ok (.goto 7, 3) := by decide +kernel
theorem dX7_ask_54 : decode cX7_ask 54 = .ok (.iload_n 1, 1) := by decide +kernel
theorem dX7_ask_55 : decode cX7_ask 55 = .ok (.iload 5, 2) := by decide +kernel
theorem dX7_ask_57 : decode cX7_ask 57 = .ok (.isub, 1) := by decide +kernel
theorem dX7_ask_58 : decode cX7_ask 58 = .ok (.istore 6, 2) := by decide +kernel
theorem dX7_ask_60 : decode cX7_ask 60 = .ok (.iload_n 2, 1) := by decide +kernel
theorem dX7_ask_61 : decode cX7_ask 61 = .ok (.ifCond .lt 9, 3) := by decide +kernel
theorem dX7_ask_64 : decode cX7_ask 64 = .ok (.iload 6, 2) := by decide +kernel
theorem dX7_ask_66 : decode cX7_ask 66 = .ok (.iload_n 3, 1) := by decide +kernel
theorem dX7_ask_67 : decode cX7_ask 67 = .ok (.if_icmp .ge 7, 3) := by decide +kernel
theorem dX7_ask_70 : decode cX7_ask 70 = .ok (.iconst 1, 1) := by decide +kernel
theorem dX7_ask_71 : decode cX7_ask 71 = .ok (.goto 4, 3) := by decide +kernel
theorem dX7_ask_74 : decode cX7_ask 74 = .ok (.iconst 0, 1) := by decide +kernel
theorem dX7_ask_75 : decode cX7_ask 75 = .ok (.istore 7, 2) := by decide +kernel
theorem dX7_ask_77 : decode cX7_ask 77 = .ok (.iload 7, 2) := by decide +kernel
theorem dX7_ask_79 : decode cX7_ask 79 = .ok (.ifCond .eq 8, 3) := by decide +kernel
theorem dX7_ask_82 : decode cX7_ask 82 = .ok (.iload 4, 2) := by decide +kernel
theorem dX7_ask_84 : decode cX7_ask 84 = .ok (.goto 4, 3) := by decide +kernel
theorem dX7_ask_87 : decode cX7_ask 87 = .ok (.iload_n 2, 1) := by decide +kernel
theorem dX7_ask_88 : decode cX7_ask 88 = .ok (.istore_n 2, 1) := by decide +kernel
theorem dX7_ask_89 : decode cX7_ask 89 = .ok (.iload 7, 2) := by decide +kernel
theorem dX7_ask_91 : decode cX7_ask 91 = .ok (.ifCond .eq 8, 3) := by decide +kernel
theorem dX7_ask_94 : decode cX7_ask 94 = .ok (.iload 6, 2) := by decide +kernel
theorem dX7_ask_96 : decode cX7_ask 96 = .ok (.goto 4, 3) := by decide +kernel
theorem dX7_ask_99 : decode cX7_ask 99 = .ok (.iload_n 3, 1) := by decide +kernel
theorem dX7_ask_100 : decode cX7_ask 100 = .ok (.istore_n 3, 1) := by decide +kernel
theorem dX7_ask_101 : decode cX7_ask 101 = .ok (.iinc 4 1, 3) := by decide +kernel
theorem dX7_ask_104 : decode cX7_ask 104 = .ok (.goto (-89), 3) := by decide +kernel
theorem dX7_ask_107 : decode cX7_ask 107 = .ok (.iload_n 2, 1) := by decide +kernel
theorem dX7_ask_108 : decode cX7_ask 108 = .ok (.ireturn, 1) := by decide +kernel
theorem dX7_life_0 : decode cX7_life 0 = .ok (.aload_n 0, 1) := by decide +kernel
theorem dX7_life_1 : decode cX7_life 1 = .ok (.iload_n 1, 1) := by decide +kernel
theorem dX7_life_2 : decode cX7_life 2 = .ok (.invokevirtual 189, 3) := by decide +kernel
theorem dX7_life_5 : decode cX7_life 5 = .ok (.ifCond .eq 14, 3) := by decide +kernel
theorem dX7_life_8 : decode cX7_life 8 = .ok (.iload_n 2, 1) := by decide +kernel
theorem dX7_life_9 : decode cX7_life 9 = .ok (.bipush (-99), 2) := by decide +kernel
theorem dX7_life_11 : decode cX7_life 11 = .ok (.bipush 99, 2) := by decide +kernel
theorem dX7_life_13 : decode cX7_life 13 = .ok (.invokestatic 72, 3) := by decide +kernel
theorem dX7_life_16 : decode cX7_life 16 = .ok (.ifCond .ne 5, 3) := by decide +kernel
theorem dX7_life_19 : decode cX7_life 19 = .ok (.iconst (-1), 1) := by decide +kernel
theorem dX7_life_20 : decode cX7_life 20 = .ok (.ireturn, 1) := by decide +kernel
theorem dX7_life_21 : decode cX7_life 21 = .ok (.bipush (-9), 2) := by decide +kernel
theorem dX7_life_23 : decode cX7_life 23 = .ok (.istore_n 3, 1) := by decide +kernel
theorem dX7_life_24 : decode cX7_life 24 = .ok (.iconst 0, 1) := by decide +kernel
theorem dX7_life_25 : decode cX7_life 25 = .ok (.istore 4, 2) := by decide +kernel
theorem dX7_life_27 : decode cX7_life 27 = .ok (.iload 4, 2) := by decide +kernel
theorem dX7_life_29 : decode cX7_life 29 = .ok (.iconst 1, 1) := by decide +kernel
theorem dX7_life_30 : decode cX7_life 30 = .ok (.aload_n 0, 1) := by decide +kernel
theorem dX7_life_31 : decode cX7_life 31 = .ok (.getfield 69, 3) := by decide +kernel
theorem dX7_life_34 : decode cX7_life 34 = .ok (.ishl, 1) := by decide +kernel
theorem dX7_life_35 : decode cX7_life 35 = .ok (.if_icmp .ge 79, 3) := by decide +kernel
theorem dX7_life_38 : decode cX7_life 38 = .ok (.iload 4, 2) := by decide +kernel
theorem dX7_life_40 : decode cX7_life 40 = .ok (.aload_n 0, 1) := by decide +kernel
theorem dX7_life_41 : decode cX7_life 41 = .ok (.getfield 26, 3) := by decide +kernel
theorem dX7_life_44 : decode cX7_life 44 = .ok (.bipush 9, 2) := by decide +kernel
theorem dX7_life_46 : decode cX7_life 46 = .ok (.iload_n 1, 1) := by decide +kernel
theorem dX7_life_47 : decode cX7_life 47 = .ok (.iadd, 1) := by decide +kernel
theorem dX7_life_48 : decode cX7_life 48 = .ok (.iaload, 1) := by decide +kernel
theorem dX7_life_49 : decode cX7_life 49 = .ok (.iand, 1) := by decide +kernel
theorem dX7_life_50 : decode cX7_life 50 = .ok (.ifCond .ne 27, 3) := by decide +kernel
theorem dX7_life_53 : decode cX7_life 53 = .ok (.aload_n 0, 1) := by decide +kernel
theorem dX7_life_54 : decode cX7_life 54 = .ok (.iload 4, 2) := by decide +kernel
theorem dX7_life_56 : decode cX7_life 56 = .ok (.aload_n 0, 1) := by decide +kernel
theorem dX7_life_57 : decode cX7_life 57 = .ok (.getfield 26, 3) := by decide +kernel
theorem dX7_life_60 : decode cX7_life 60 = .ok (.bipush 9, 2) := by decide +kernel
theorem dX7_life_62 : decode cX7_life 62 = .ok (.iload_n 1, 1) := by decide +kernel
theorem dX7_life_63 : decode cX7_life 63 = .ok (.iadd, 1) := by decide +kernel
theorem dX7_life_64 : decode cX7_life 64 = .ok (.iaload, 1) := by decide +kernel
theorem dX7_life_65 : decode cX7_life 65 = .ok (.ior, 1) := by decide +kernel
theorem dX7_life_66 : decode cX7_life 66 = .ok (.invokevirtual 164, 3) := by decide +kernel
theorem dX7_life_69 : decode cX7_life 69 = .ok (.iload_n 2, 1) := by decide +kernel
theorem dX7_life_70 : decode cX7_life 70 = .ok (.if_icmp .gt 7, 3) := by decide +kernel
theorem dX7_life_73 : decode cX7_life 73 = .ok (.iconst 1, 1) := by decide +kernel
theorem dX7_life_74 : decode cX7_life 74 = .ok (.goto 4, 3) := by decide +kernel
theorem dX7_life_77 : decode cX7_life 77 = .ok (.iconst 0, 1) := by decide +kernel
theorem dX7_life_78 : decode cX7_life 78 = .ok (.istore 5, 2) := by decide +kernel
theorem dX7_life_80 : decode cX7_life 80 = .ok (.iload 5, 2) := by decide +kernel
theorem dX7_life_82 : decode cX7_life 82 = .ok (.ifCond .eq 24, 3) := by decide +kernel
theorem dX7_life_85 : decode cX7_life 85 = .ok (.iload_n 3, 1) := by decide +kernel
theorem dX7_life_86 : decode cX7_life 86 = .ok (.ifCond .lt 15, 3) := by decide +kernel
theorem dX7_life_89 : decode cX7_life 89 = .ok (.iload 4, 2) := by decide +kernel
theorem dX7_life_91 : decode cX7_life 91 = .ok (.invokestatic 202, 3) := by decide +kernel
theorem dX7_life_94 : decode cX7_life 94 = .ok (.iload_n 3, 1) := by decide +kernel
theorem dX7_life_95 : decode cX7_life 95 = .ok (.invokestatic 202, 3) := by decide +kernel
theorem dX7_life_98 : decode cX7_life 98 = .ok (.if_icmp .ge 8, 3) := by decide +kernel
theorem dX7_life_101 : decode cX7_life 101 = .ok (.iload 4, 2) := by decide +kernel
theorem dX7_life_103 : decode cX7_life 103 = .ok (.goto 4, 3) := by decide +kernel
theorem dX7_life_106 : decode cX7_life 106 = .ok (.iload_n 3, 1) := by decide +kernel
theorem dX7_life_107 : decode cX7_life 107 = .ok (.istore_n 3, 1) := by decide +kernel
theorem dX7_life_108 : decode cX7_life 108 = .ok (.iinc 4 1, 3) := by decide +kernel
theorem dX7_life_111 : decode cX7_life 111 = .ok (.goto (-84), 3) := by decide +kernel
theorem dX7_life_114 : decode cX7_life 114 = .ok (.iload_n 3, 1) := by decide +kernel
theorem dX7_life_115 : decode cX7_life 115 = .ok (.ireturn, 1) := by decide +kernel
theorem dX7_strengthOf_0 : decode cX7_strengthOf 0 = .ok (.iconst 0, 1) := by decide +kernel
theorem dX7_strengthOf_1 : decode cX7_strengthOf 1 = .ok (.istore_n 2, 1) := by decide +kernel
theorem dX7_strengthOf_2 : decode cX7_strengthOf 2 = .ok (.iconst 0, 1) := by decide +kernel
theorem dX7_strengthOf_3 : decode cX7_strengthOf 3 = .ok (.istore_n 3, 1) := by decide +kernel
theorem dX7_strengthOf_4 : decode cX7_strengthOf 4 = .ok (.iload_n 3, 1) := by decide +kernel
theorem dX7_strengthOf_5 : decode cX7_strengthOf 5 = .ok (.aload_n 0, 1) := by decide +kernel
theorem dX7_strengthOf_6 : decode cX7_strengthOf 6 = .ok (.getfield 151, 3) := by decide +kernel
theorem dX7_strengthOf_9 : decode cX7_strengthOf 9 = .ok (.if_icmp .ge 30, 3) := by decide +kernel
theorem dX7_strengthOf_12 : decode cX7_strengthOf 12 = .ok (.iload_n 2, 1) := by decide +kernel
theorem dX7_strengthOf_13 : decode cX7_strengthOf 13 = .ok (.iload_n 1, 1) := by decide +kernel
theorem dX7_strengthOf_14 : decode cX7_strengthOf 14 = .ok (.iload_n 3, 1) := by decide +kernel
theorem dX7_strengthOf_15 : decode cX7_strengthOf 15 = .ok (.invokestatic 119, 3) := by decide +kernel
theorem dX7_strengthOf_18 : decode cX7_strengthOf 18 = .ok (.ifCond .eq 12, 3) := by decide +kernel
theorem dX7_strengthOf_21 : decode cX7_strengthOf 21 = .ok (.aload_n 0, 1) := by decide +kernel
theorem dX7_strengthOf_22 : decode cX7_strengthOf 22 = .ok (.getfield 16, 3) := by decide +kernel
theorem dX7_strengthOf_25 : decode cX7_strengthOf 25 = .ok (.iload_n 3, 1) := by decide +kernel
theorem dX7_strengthOf_26 : decode cX7_strengthOf 26 = .ok (.iaload, 1) := by decide +kernel
theorem dX7_strengthOf_27 : decode cX7_strengthOf 27 = .ok (.goto 4, 3) := by decide +kernel
theorem dX7_strengthOf_30 : decode cX7_strengthOf 30 = .ok (.iconst 0, 1) := by decide +kernel
theorem dX7_strengthOf_31 : decode cX7_strengthOf 31 = .ok (.iadd, 1) := by decide +kernel
theorem dX7_strengthOf_32 : decode cX7_strengthOf 32 = .ok (.istore_n 2, 1) := by decide +kernel
theorem dX7_strengthOf_33 : decode cX7_strengthOf 33 = .ok (.iinc 3 1, 3) := by decide +kernel
theorem dX7_strengthOf_36 : decode cX7_strengthOf 36 = .ok (.goto (-32), 3) := by decide +kernel
theorem dX7_strengthOf_39 : decode cX7_strengthOf 39 = .ok (.iload_n 2, 1) := by decide +kernel
theorem dX7_strengthOf_40 : decode cX7_strengthOf 40 = .ok (.ireturn, 1) := by decide +kernel
theorem dX7_carry_0 : decode cX7_carry 0 = .ok (.iload_n 1, 1) := by decide +kernel
theorem dX7_carry_1 : decode cX7_carry 1 = .ok (.iconst 1, 1) := by decide +kernel
theorem dX7_carry_2 : decode cX7_carry 2 = .ok (.sipush 240, 3) := by decide +kernel
theorem dX7_carry_5 : decode cX7_carry 5 = .ok (.invokestatic 72, 3) := by decide +kernel
theorem dX7_carry_8 : decode cX7_carry 8 = .ok (.ifCond .eq 12, 3) := by decide +kernel
theorem dX7_carry_11 : decode cX7_carry 11 = .ok (.iload_n 2, 1) := by decide +kernel
theorem dX7_carry_12 : decode cX7_carry 12 = .ok (.iconst 0, 1) := by decide +kernel
theorem dX7_carry_13 : decode cX7_carry 13 = .ok (.iconst 2, 1) := by decide +kernel
theorem dX7_carry_14 : decode cX7_carry 14 = .ok (.invokestatic 72, 3) := by decide +kernel
theorem dX7_carry_17 : decode cX7_carry 17 = .ok (.ifCond .ne 5, 3) := by decide +kernel
theorem dX7_carry_20 : decode cX7_carry 20 = .ok (.iconst (-1), 1) := by decide +kernel
theorem dX7_carry_21 : decode cX7_carry 21 = .ok (.ireturn, 1) := by decide +kernel
theorem dX7_carry_22 : decode cX7_carry 22 = .ok (.bipush (-9), 2) := by decide +kernel
theorem dX7_carry_24 : decode cX7_carry 24 = .ok (.istore_n 3, 1) := by decide +kernel
theorem dX7_carry_25 : decode cX7_carry 25 = .ok (.bipush (-9), 2) := by decide +kernel
theorem dX7_carry_27 : decode cX7_carry 27 = .ok (.istore 4, 2) := by decide +kernel
theorem dX7_carry_29 : decode cX7_carry 29 = .ok (.iconst 0, 1) := by decide +kernel
theorem dX7_carry_30 : decode cX7_carry 30 = .ok (.istore 5, 2) := by decide +kernel
theorem dX7_carry_32 : decode cX7_carry 32 = .ok (.iconst 0, 1) := by decide +kernel
theorem dX7_carry_33 : decode cX7_carry 33 = .ok (.istore 6, 2) := by decide +kernel
theorem dX7_carry_35 : decode cX7_carry 35 = .ok (.iload 6, 2) := by decide +kernel
theorem dX7_carry_37 : decode cX7_carry 37 = .ok (.iconst 1, 1) := by decide +kernel
theorem dX7_carry_38 : decode cX7_carry 38 = .ok (.aload_n 0, 1) := by decide +kernel
theorem dX7_carry_39 : decode cX7_carry 39 = .ok (.getfield 151, 3) := by decide +kernel
theorem dX7_carry_42 : decode cX7_carry 42 = .ok (.ishl, 1) := by decide +kernel
theorem dX7_carry_43 : decode cX7_carry 43 = .ok (.if_icmp .ge 134, 3) := by decide +kernel
theorem dX7_carry_46 : decode cX7_carry 46 = .ok (.iconst 0, 1) := by decide +kernel
theorem dX7_carry_47 : decode cX7_carry 47 = .ok (.istore 7, 2) := by decide +kernel
theorem dX7_carry_49 : decode cX7_carry 49 = .ok (.iload 7, 2) := by decide +kernel
theorem dX7_carry_51 : decode cX7_carry 51 = .ok (.iload 6, 2) := by decide +kernel
theorem dX7_carry_53 : decode cX7_carry 53 = .ok (.if_icmp .ge 118, 3) := by decide +kernel
theorem dX7_carry_56 : decode cX7_carry 56 = .ok (.iload 6, 2) := by decide +kernel
theorem dX7_carry_58 : decode cX7_carry 58 = .ok (.invokestatic 202, 3) := by decide +kernel
theorem dX7_carry_61 : decode cX7_carry 61 = .ok (.iconst 4, 1) := by decide +kernel
theorem dX7_carry_62 : decode cX7_carry 62 = .ok (.if_icmp .ne 109, 3) := by decide +kernel
theorem dX7_carry_65 : decode cX7_carry 65 = .ok (.aload_n 0, 1) := by decide +kernel
theorem dX7_carry_66 : decode cX7_carry 66 = .ok (.iload 6, 2) := by decide +kernel
theorem dX7_carry_68 : decode cX7_carry 68 = .ok (.invokevirtual 223, 3) := by decide +kernel
theorem dX7_carry_71 : decode cX7_carry 71 = .ok (.istore 8, 2) := by decide +kernel
theorem dX7_carry_73 : decode cX7_carry 73 = .ok (.iload 8, 2) := by decide +kernel
theorem dX7_carry_75 : decode cX7_carry 75 = .ok (.iconst 2, 1) := by decide +kernel
theorem dX7_carry_76 : decode cX7_carry 76 = .ok (.aload_n 0, 1) := by decide +kernel
theorem dX7_carry_77 : decode cX7_carry 77 = .ok (.iload 7, 2) := by decide +kernel
theorem dX7_carry_79 : decode cX7_carry 79 = .ok (.invokevirtual 223, 3) := by decide +kernel
theorem dX7_carry_82 : decode cX7_carry 82 = .ok (.imul, 1) := by decide +kernel
theorem dX7_carry_83 : decode cX7_carry 83 = .ok (.isub, 1) := by decide +kernel
theorem dX7_carry_84 : decode cX7_carry 84 = .ok (.invokestatic 205, 3) := by decide +kernel
theorem dX7_carry_87 : decode cX7_carry 87 = .ok (.istore 9, 2) := by decide +kernel
theorem dX7_carry_89 : decode cX7_carry 89 = .ok (.iload 7, 2) := by decide +kernel
theorem dX7_carry_91 : decode cX7_carry 91 = .ok (.iload 6, 2) := by decide +kernel
theorem dX7_carry_93 : decode cX7_carry 93 = .ok (.iconst (-1), 1) := by decide +kernel
theorem dX7_carry_94 : decode cX7_carry 94 = .ok (.ixor, 1) := by decide +kernel
theorem dX7_carry_95 : decode cX7_carry 95 = .ok (.iand, 1) := by decide +kernel
theorem dX7_carry_96 : decode cX7_carry 96 = .ok (.ifCond .ne 22, 3) := by decide +kernel
theorem dX7_carry_99 : decode cX7_carry 99 = .ok (.iload 7, 2) := by decide +kernel
theorem dX7_carry_101 : decode cX7_carry 101 = .ok (.invokestatic 202, 3) := by decide +kernel
theorem dX7_carry_104 : decode cX7_carry 104 = .ok (.iconst 2, 1) := by decide +kernel
theorem dX7_carry_105 : decode cX7_carry 105 = .ok (.if_icmp .ne 13, 3) := by decide +kernel
theorem dX7_carry_108 : decode cX7_carry 108 = .ok (.iload 8, 2) := by decide +kernel
theorem dX7_carry_110 : decode cX7_carry 110 = .ok (.iload_n 1, 1) := by decide +kernel
theorem dX7_carry_111 : decode cX7_carry 111 = .ok (.if_icmp .lt 7, 3) := by decide +kernel
theorem dX7_carry_114 : decode cX7_carry 114 = .ok (.iconst 1, 1) := by decide +kernel
theorem dX7_carry_115 : decode cX7_carry 115 = .ok (.goto 4, 3) := by decide +kernel
theorem dX7_carry_118 : decode cX7_carry 118 = .ok (.iconst 0, 1) := by decide +kernel
theorem dX7_carry_119 : decode cX7_carry 119 = .ok (.istore 10, 2) := by decide +kernel
theorem dX7_carry_121 : decode cX7_carry 121 = .ok (.iload 10, 2) := by decide +kernel
theorem dX7_carry_123 : decode cX7_carry 123 = .ok (.ifCond .eq 42, 3) := by decide +kernel
theorem dX7_carry_126 : decode cX7_carry 126 = .ok (.iload_n 3, 1) := by decide +kernel
theorem dX7_carry_127 : decode cX7_carry 127 = .ok (.ifCond .lt 27, 3) := by decide +kernel
theorem dX7_carry_130 : decode cX7_carry 130 = .ok (.iload 9, 2) := by decide +kernel
theorem dX7_carry_132 : decode cX7_carry 132 = .ok (.iload 5, 2) := by decide +kernel
theorem dX7_carry_134 : decode cX7_carry 134 = .ok (.if_icmp .lt 20, 3) := by decide +kernel
theorem dX7_carry_137 : decode cX7_carry 137 = .ok (.iload 9, 2) := by decide +kernel
theorem dX7_carry_139 : decode cX7_carry 139 = .ok (.iload 5, 2) := by decide +kernel
theorem dX7_carry_141 : decode cX7_carry 141 = .ok (.if_icmp .ne 24, 3) := by decide +kernel
theorem dX7_carry_144 : decode cX7_carry 144 = .ok (.iload 8, 2) := by decide +kernel
theorem dX7_carry_146 : decode cX7_carry 146 = .ok (.aload_n 0, 1) := by decide +kernel
theorem dX7_carry_147 : decode cX7_carry 147 = .ok (.iload_n 3, 1) := by decide +kernel
theorem dX7_carry_148 : decode cX7_carry 148 = .ok (.invokevirtual 223, 3) := by decide +kernel
theorem dX7_carry_151 : decode cX7_carry 151 = .ok (.if_icmp .ge 14, 3) := by decide +kernel
theorem dX7_carry_154 : decode cX7_carry 154 = .ok (.iload 6, 2) := by decide +kernel
theorem dX7_carry_156 : decode cX7_carry 156 = .ok (.istore_n 3, 1) := by decide +kernel
theorem dX7_carry_157 : decode cX7_carry 157 = .ok (.iload 7, 2) := by decide +kernel
theorem dX7_carry_159 : decode cX7_carry 159 = .ok (.istore 4, 2) := by decide +kernel
theorem dX7_carry_161 : decode cX7_carry 161 = .ok (.iload 9, 2) := by decide +kernel
theorem dX7_carry_163 : decode cX7_carry 163 = .ok (.istore 5, 2) := by decide +kernel
theorem dX7_carry_165 : decode cX7_carry 165 = .ok (.iinc 7 1, 3) := by decide +kernel
theorem dX7_carry_168 : decode cX7_carry 168 = .ok (.goto (-119), 3) := by decide +kernel
theorem dX7_carry_171 : decode cX7_carry 171 = .ok (.iinc 6 1, 3) := by decide +kernel
theorem dX7_carry_174 : decode cX7_carry 174 = .ok (.goto (-139), 3) := by decide +kernel
theorem dX7_carry_177 : decode cX7_carry 177 = .ok (.iload_n 3, 1) := by decide +kernel
theorem dX7_carry_178 : decode cX7_carry 178 = .ok (.ifCond .lt 7, 3) := by decide +kernel
theorem dX7_carry_181 : decode cX7_carry 181 = .ok (.iload_n 2, 1) := by decide +kernel
theorem dX7_carry_182 : decode cX7_carry 182 = .ok (.ifCond .ne 7, 3) := by decide +kernel
theorem dX7_carry_185 : decode cX7_carry 185 = .ok (.iload_n 3, 1) := by decide +kernel
theorem dX7_carry_186 : decode cX7_carry 186 = .ok (.goto 15, 3) := by decide +kernel
theorem dX7_carry_189 : decode cX7_carry 189 = .ok (.iload_n 2, 1) := by decide +kernel
theorem dX7_carry_190 : decode cX7_carry 190 = .ok (.iconst 1, 1) := by decide +kernel
theorem dX7_carry_191 : decode cX7_carry 191 = .ok (.if_icmp .ne 8, 3) := by decide +kernel
theorem dX7_carry_194 : decode cX7_carry 194 = .ok (.iload 4, 2) := by decide +kernel
theorem dX7_carry_196 : decode cX7_carry 196 = .ok (.goto 5, 3) := by decide +kernel
theorem dX7_carry_199 : decode cX7_carry 199 = .ok (.iload 5, 2) := by decide +kernel
theorem dX7_carry_201 : decode cX7_carry 201 = .ok (.ireturn, 1) := by decide +kernel
theorem dX7_lowest_0 : decode cX7_lowest 0 = .ok (.iload_n 0, 1) := by decide +kernel
theorem dX7_lowest_1 : decode cX7_lowest 1 = .ok (.istore_n 3, 1) := by decide +kernel
theorem dX7_lowest_2 : decode cX7_lowest 2 = .ok (.iload_n 1, 1) := by decide +kernel
theorem dX7_lowest_3 : decode cX7_lowest 3 = .ok (.istore 4, 2) := by decide +kernel
theorem dX7_lowest_5 : decode cX7_lowest 5 = .ok (.iload 4, 2) := by decide +kernel
theorem dX7_lowest_7 : decode cX7_lowest 7 = .ok (.ifCond .le 19, 3) := by decide +kernel
theorem dX7_lowest_10 : decode cX7_lowest 10 = .ok (.iload_n 3, 1) := by decide +kernel
theorem dX7_lowest_11 : decode cX7_lowest 11 = .ok (.iload 4, 2) := by decide +kernel
theorem dX7_lowest_13 : decode cX7_lowest 13 = .ok (.irem, 1) := by decide +kernel
theorem dX7_lowest_14 : decode cX7_lowest 14 = .ok (.istore 5, 2) := by decide +kernel
theorem dX7_lowest_16 : decode cX7_lowest 16 = .ok (.iload 4, 2) := by decide +kernel
theorem dX7_lowest_18 : decode cX7_lowest 18 = .ok (.istore_n 3, 1) := by decide +kernel
theorem dX7_lowest_19 : decode cX7_lowest 19 = .ok (.iload 5, 2) := by decide +kernel
theorem dX7_lowest_21 : decode cX7_lowest 21 = .ok (.istore 4, 2) := by decide +kernel
theorem dX7_lowest_23 : decode cX7_lowest 23 = .ok (.goto (-18), 3) := by decide +kernel
theorem dX7_lowest_26 : decode cX7_lowest 26 = .ok (.iload_n 2, 1) := by decide +kernel
theorem dX7_lowest_27 : decode cX7_lowest 27 = .ok (.ifCond .ne 7, 3) := by decide +kernel
theorem dX7_lowest_30 : decode cX7_lowest 30 = .ok (.iload_n 0, 1) := by decide +kernel
theorem dX7_lowest_31 : decode cX7_lowest 31 = .ok (.goto 4, 3) := by decide +kernel
theorem dX7_lowest_34 : decode cX7_lowest 34 = .ok (.iload_n 1, 1) := by decide +kernel
theorem dX7_lowest_35 : decode cX7_lowest 35 = .ok (.iload_n 3, 1) := by decide +kernel
theorem dX7_lowest_36 : decode cX7_lowest 36 = .ok (.idiv, 1) := by decide +kernel
theorem dX7_lowest_37 : decode cX7_lowest 37 = .ok (.ireturn, 1) := by decide +kernel
theorem dX7_odds_0 : decode cX7_odds 0 = .ok (.iload_n 1, 1) := by decide +kernel
theorem dX7_odds_1 : decode cX7_odds 1 = .ok (.iconst 0, 1) := by decide +kernel
theorem dX7_odds_2 : decode cX7_odds 2 = .ok (.bipush 10, 2) := by decide +kernel
theorem dX7_odds_4 : decode cX7_odds 4 = .ok (.invokestatic 72, 3) := by decide +kernel
theorem dX7_odds_7 : decode cX7_odds 7 = .ok (.ifCond .eq 22, 3) := by decide +kernel
theorem dX7_odds_10 : decode cX7_odds 10 = .ok (.iload_n 2, 1) := by decide +kernel
theorem dX7_odds_11 : decode cX7_odds 11 = .ok (.iconst 0, 1) := by decide +kernel
theorem dX7_odds_12 : decode cX7_odds 12 = .ok (.bipush 6, 2) := by decide +kernel
theorem dX7_odds_14 : decode cX7_odds 14 = .ok (.invokestatic 72, 3) := by decide +kernel
theorem dX7_odds_17 : decode cX7_odds 17 = .ok (.ifCond .eq 12, 3) := by decide +kernel
theorem dX7_odds_20 : decode cX7_odds 20 = .ok (.iload_n 3, 1) := by decide +kernel
theorem dX7_odds_21 : decode cX7_odds 21 = .ok (.iconst 0, 1) := by decide +kernel
theorem dX7_odds_22 : decode cX7_odds 22 = .ok (.iconst 1, 1) := by decide +kernel
theorem dX7_odds_23 : decode cX7_odds 23 = .ok (.invokestatic 72, 3) := by decide +kernel
theorem dX7_odds_26 : decode cX7_odds 26 = .ok (.ifCond .ne 5, 3) := by decide +kernel
theorem dX7_odds_29 : decode cX7_odds 29 = .ok (.iconst (-1), 1) := by decide +kernel
theorem dX7_odds_30 : decode cX7_odds 30 = .ok (.ireturn, 1) := by decide +kernel
theorem dX7_odds_31 : decode cX7_odds 31 = .ok (.iconst 0, 1) := by decide +kernel
theorem dX7_odds_32 : decode cX7_odds 32 = .ok (.istore 4, 2) := by decide +kernel
theorem dX7_odds_34 : decode cX7_odds 34 = .ok (.iconst 1, 1) := by decide +kernel
theorem dX7_odds_35 : decode cX7_odds 35 = .ok (.istore 5, 2) := by decide +kernel
theorem dX7_odds_37 : decode cX7_odds 37 = .ok (.iconst 0, 1) := by decide +kernel
theorem dX7_odds_38 : decode cX7_odds 38 = .ok (.istore 6, 2) := by decide +kernel
theorem dX7_odds_40 : decode cX7_odds 40 = .ok (.iload 6, 2) := by decide +kernel
theorem dX7_odds_42 : decode cX7_odds 42 = .ok (.aload_n 0, 1) := by decide +kernel
theorem dX7_odds_43 : decode cX7_odds 43 = .ok (.getfield 151, 3) := by decide +kernel
theorem dX7_odds_46 : decode cX7_odds 46 = .ok (.if_icmp .ge 16, 3) := by decide +kernel
theorem dX7_odds_49 : decode cX7_odds 49 = .ok (.iload 5, 2) := by decide +kernel
theorem dX7_odds_51 : decode cX7_odds 51 = .ok (.bipush 10, 2) := by decide +kernel
theorem dX7_odds_53 : decode cX7_odds 53 = .ok (.imul, 1) := by decide +kernel
theorem dX7_odds_54 : decode cX7_odds 54 = .ok (.istore 5, 2) := by decide +kernel
theorem dX7_odds_56 : decode cX7_odds 56 = .ok (.iinc 6 1, 3) := by decide +kernel
theorem dX7_odds_59 : decode cX7_odds 59 = .ok (.goto (-19), 3) := by decide +kernel
theorem dX7_odds_62 : decode cX7_odds 62 = .ok (.iconst 0, 1) := by decide +kernel
theorem dX7_odds_63 : decode cX7_odds 63 = .ok (.istore 6, 2) := by decide +kernel
theorem dX7_odds_65 : decode cX7_odds 65 = .ok (.iload 6, 2) := by decide +kernel
theorem dX7_odds_67 : decode cX7_odds 67 = .ok (.iconst 1, 1) := by decide +kernel
theorem dX7_odds_68 : decode cX7_odds 68 = .ok (.aload_n 0, 1) := by decide +kernel
theorem dX7_odds_69 : decode cX7_odds 69 = .ok (.getfield 151, 3) := by decide +kernel
theorem dX7_odds_72 : decode cX7_odds 72 = .ok (.ishl, 1) := by decide +kernel
theorem dX7_odds_73 : decode cX7_odds 73 = .ok (.if_icmp .ge 73, 3) := by decide +kernel
theorem dX7_odds_76 : decode cX7_odds 76 = .ok (.iconst 1, 1) := by decide +kernel
theorem dX7_odds_77 : decode cX7_odds 77 = .ok (.istore 7, 2) := by decide +kernel
theorem dX7_odds_79 : decode cX7_odds 79 = .ok (.iconst 0, 1) := by decide +kernel
theorem dX7_odds_80 : decode cX7_odds 80 = .ok (.istore 8, 2) := by decide +kernel
theorem dX7_odds_82 : decode cX7_odds 82 = .ok (.iload 8, 2) := by decide +kernel
theorem dX7_odds_84 : decode cX7_odds 84 = .ok (.aload_n 0, 1) := by decide +kernel
theorem dX7_odds_85 : decode cX7_odds 85 = .ok (.getfield 151, 3) := by decide +kernel
theorem dX7_odds_88 : decode cX7_odds 88 = .ok (.if_icmp .ge 32, 3) := by decide +kernel
theorem dX7_odds_91 : decode cX7_odds 91 = .ok (.iload 7, 2) := by decide +kernel
theorem dX7_odds_93 : decode cX7_odds 93 = .ok (.iload 6, 2) := by decide +kernel
theorem dX7_odds_95 : decode cX7_odds 95 = .ok (.iload 8, 2) := by decide +kernel
theorem dX7_odds_97 : decode cX7_odds 97 = .ok (.invokestatic 119, 3) := by decide +kernel
theorem dX7_odds_100 : decode cX7_odds 100 = .ok (.ifCond .eq 7, 3) := by decide +kernel
theorem dX7_odds_103 : decode cX7_odds 103 = .ok (.iload_n 1, 1) := by decide +kernel
theorem dX7_odds_104 : decode cX7_odds 104 = .ok (.goto 7, 3) := by decide +kernel
theorem dX7_odds_107 : decode cX7_odds 107 = .ok (.bipush 10, 2) := by decide +kernel
theorem dX7_odds_109 : decode cX7_odds 109 = .ok (.iload_n 1, 1) := by decide +kernel
theorem dX7_odds_110 : decode cX7_odds 110 = .ok (.isub, 1) := by decide +kernel
theorem dX7_odds_111 : decode cX7_odds 111 = .ok (.imul, 1) := by decide +kernel
theorem dX7_odds_112 : decode cX7_odds 112 = .ok (.istore 7, 2) := by decide +kernel
theorem dX7_odds_114 : decode cX7_odds 114 = .ok (.iinc 8 1, 3) := by decide +kernel
theorem dX7_odds_117 : decode cX7_odds 117 = .ok (.goto (-35), 3) := by decide +kernel
theorem dX7_odds_120 : decode cX7_odds 120 = .ok (.iload 4, 2) := by decide +kernel
theorem dX7_odds_122 : decode cX7_odds 122 = .ok (.iload 6, 2) := by decide +kernel
theorem dX7_odds_124 : decode cX7_odds 124 = .ok (.invokestatic 202, 3) := by decide +kernel
theorem dX7_odds_127 : decode cX7_odds 127 = .ok (.iload_n 2, 1) := by decide +kernel
theorem dX7_odds_128 : decode cX7_odds 128 = .ok (.if_icmp .gt 8, 3) := by decide +kernel
theorem dX7_odds_131 : decode cX7_odds 131 = .ok (.iload 7, 2) := by decide +kernel
theorem dX7_odds_133 : decode cX7_odds 133 = .ok (.goto 4, 3) := by decide +kernel
theorem dX7_odds_136 : decode cX7_odds 136 = .ok (.iconst 0, 1) := by decide +kernel
theorem dX7_odds_137 : decode cX7_odds 137 = .ok (.iadd, 1) := by decide +kernel
theorem dX7_odds_138 : decode cX7_odds 138 = .ok (.istore 4, 2) := by decide +kernel
theorem dX7_odds_140 : decode cX7_odds 140 = .ok (.iinc 6 1, 3) := by decide +kernel
theorem dX7_odds_143 : decode cX7_odds 143 = .ok (.goto (-78), 3) := by decide +kernel
theorem dX7_odds_146 : decode cX7_odds 146 = .ok (.iload 4, 2) := by decide +kernel
theorem dX7_odds_148 : decode cX7_odds 148 = .ok (.iload 5, 2) := by decide +kernel
theorem dX7_odds_150 : decode cX7_odds 150 = .ok (.iload_n 3, 1) := by decide +kernel
theorem dX7_odds_151 : decode cX7_odds 151 = .ok (.invokestatic 226, 3) := by decide +kernel
theorem dX7_odds_154 : decode cX7_odds 154 = .ok (.ireturn, 1) := by decide +kernel
theorem dX7_rate_0 : decode cX7_rate 0 = .ok (.iload_n 1, 1) := by decide +kernel
theorem dX7_rate_1 : decode cX7_rate 1 = .ok (.iconst 0, 1) := by decide +kernel
theorem dX7_rate_2 : decode cX7_rate 2 = .ok (.iconst 5, 1) := by decide +kernel
theorem dX7_rate_3 : decode cX7_rate 3 = .ok (.invokestatic 72, 3) := by decide +kernel
theorem dX7_rate_6 : decode cX7_rate 6 = .ok (.ifCond .eq 11, 3) := by decide +kernel
theorem dX7_rate_9 : decode cX7_rate 9 = .ok (.aload_n 0, 1) := by decide +kernel
theorem dX7_rate_10 : decode cX7_rate 10 = .ok (.iload_n 2, 1) := by decide +kernel
theorem dX7_rate_11 : decode cX7_rate 11 = .ok (.invokevirtual 182, 3) := by decide +kernel
theorem dX7_rate_14 : decode cX7_rate 14 = .ok (.ifCond .ne 6, 3) := by decide +kernel
theorem dX7_rate_17 : decode cX7_rate 17 = .ok (.ldc 185, 2) := by decide +kernel
theorem dX7_rate_19 : decode cX7_rate 19 = .ok (.ireturn, 1) := by decide +kernel
theorem dX7_rate_20 : decode cX7_rate 20 = .ok (.aload_n 0, 1) := by decide +kernel
theorem dX7_rate_21 : decode cX7_rate 21 = .ok (.getfield 7, 3) := by decide +kernel
theorem dX7_rate_24 : decode cX7_rate 24 = .ok (.iload_n 2, 1) := by decide +kernel
theorem dX7_rate_25 : decode cX7_rate 25 = .ok (.iaload, 1) := by decide +kernel
theorem dX7_rate_26 : decode cX7_rate 26 = .ok (.istore_n 3, 1) := by decide +kernel
theorem dX7_rate_27 : decode cX7_rate 27 = .ok (.iload_n 3, 1) := by decide +kernel
theorem dX7_rate_28 : decode cX7_rate 28 = .ok (.aload_n 0, 1) := by decide +kernel
theorem dX7_rate_29 : decode cX7_rate 29 = .ok (.iload_n 2, 1) := by decide +kernel
theorem dX7_rate_30 : decode cX7_rate 30 = .ok (.invokevirtual 186, 3) := by decide +kernel
theorem dX7_rate_33 : decode cX7_rate 33 = .ok (.invokestatic 202, 3) := by decide +kernel
theorem dX7_rate_36 : decode cX7_rate 36 = .ok (.iadd, 1) := by decide +kernel
theorem dX7_rate_37 : decode cX7_rate 37 = .ok (.istore 4, 2) := by decide +kernel
theorem dX7_rate_39 : decode cX7_rate 39 = .ok (.iload_n 3, 1) := by decide +kernel
theorem dX7_rate_40 : decode cX7_rate 40 = .ok (.aload_n 0, 1) := by decide +kernel
theorem dX7_rate_41 : decode cX7_rate 41 = .ok (.getfield 26, 3) := by decide +kernel
theorem dX7_rate_44 : decode cX7_rate 44 = .ok (.iconst 2, 1) := by decide +kernel
theorem dX7_rate_45 : decode cX7_rate 45 = .ok (.iaload, 1) := by decide +kernel
theorem dX7_rate_46 : decode cX7_rate 46 = .ok (.isub, 1) := by decide +kernel
theorem dX7_rate_47 : decode cX7_rate 47 = .ok (.istore 5, 2) := by decide +kernel
theorem dX7_rate_49 : decode cX7_rate 49 = .ok (.iload_n 1, 1) := by decide +kernel
theorem dX7_rate_50 : decode cX7_rate 50 = .ok (.tableswitch 119 1 5 #[34, 49, 64, 81, 98], 34) := by decide +kernel
theorem dX7_rate_84 : decode cX7_rate 84 = .ok (.aload_n 0, 1) := by decide +kernel
theorem dX7_rate_85 : decode cX7_rate 85 = .ok (.dup, 1) := by decide +kernel
theorem dX7_rate_86 : decode cX7_rate 86 = .ok (.getfield 230, 3) := by decide +kernel
theorem dX7_rate_89 : decode cX7_rate 89 = .ok (.ldc2_w 234, 3) := by decide +kernel
theorem dX7_rate_92 : decode cX7_rate 92 = .ok (.ladd, 1) := by decide +kernel
theorem dX7_rate_93 : decode cX7_rate 93 = .ok (.putfield 230, 3) := by decide +kernel
theorem dX7_rate_96 : decode cX7_rate 96 = .ok (.iload 4, 2) := by decide +kernel
theorem dX7_rate_98 : decode cX7_rate 98 = .ok (.ireturn, 1) := by decide +kernel
theorem dX7_rate_99 : decode cX7_rate 99 = .ok (.aload_n 0, 1) := by decide +kernel
theorem dX7_rate_100 : decode cX7_rate 100 = .ok (.dup, 1) := by decide +kernel
theorem dX7_rate_101 : decode cX7_rate 101 = .ok (.getfield 230, 3) := by decide +kernel
theorem dX7_rate_104 : decode cX7_rate 104 = .ok (.ldc2_w 236, 3) := by decide +kernel
theorem dX7_rate_107 : decode cX7_rate 107 = .ok (.ladd, 1) := by decide +kernel
theorem dX7_rate_108 : decode cX7_rate 108 = .ok (.putfield 230, 3) := by decide +kernel
theorem dX7_rate_111 : decode cX7_rate 111 = .ok (.iload 5, 2) := by decide +kernel
theorem dX7_rate_113 : decode cX7_rate 113 = .ok (.ireturn, 1) := by decide +kernel
theorem dX7_rate_114 : decode cX7_rate 114 = .ok (.aload_n 0, 1) := by decide +kernel
theorem dX7_rate_115 : decode cX7_rate 115 = .ok (.dup, 1) := by decide +kernel
theorem dX7_rate_116 : decode cX7_rate 116 = .ok (.getfield 230, 3) := by decide +kernel
theorem dX7_rate_119 : decode cX7_rate 119 = .ok (.ldc2_w 238, 3) := by decide +kernel
theorem dX7_rate_122 : decode cX7_rate 122 = .ok (.ladd, 1) := by decide +kernel
theorem dX7_rate_123 : decode cX7_rate 123 = .ok (.putfield 230, 3) := by decide +kernel
theorem dX7_rate_126 : decode cX7_rate 126 = .ok (.iconst 2, 1) := by decide +kernel
theorem dX7_rate_127 : decode cX7_rate 127 = .ok (.iload 4, 2) := by decide +kernel
theorem dX7_rate_129 : decode cX7_rate 129 = .ok (.imul, 1) := by decide +kernel
theorem dX7_rate_130 : decode cX7_rate 130 = .ok (.ireturn, 1) := by decide +kernel
theorem dX7_rate_131 : decode cX7_rate 131 = .ok (.aload_n 0, 1) := by decide +kernel
theorem dX7_rate_132 : decode cX7_rate 132 = .ok (.dup, 1) := by decide +kernel
theorem dX7_rate_133 : decode cX7_rate 133 = .ok (.getfield 230, 3) := by decide +kernel
theorem dX7_rate_136 : decode cX7_rate 136 = .ok (.ldc2_w 240, 3) := by decide +kernel
theorem dX7_rate_139 : decode cX7_rate 139 = .ok (.ladd, 1) := by decide +kernel
theorem dX7_rate_140 : decode cX7_rate 140 = .ok (.putfield 230, 3) := by decide +kernel
theorem dX7_rate_143 : decode cX7_rate 143 = .ok (.iload 5, 2) := by decide +kernel
theorem dX7_rate_145 : decode cX7_rate 145 = .ok (.iload_n 2, 1) := by decide +kernel
theorem dX7_rate_146 : decode cX7_rate 146 = .ok (.iadd, 1) := by decide +kernel
theorem dX7_rate_147 : decode cX7_rate 147 = .ok (.ireturn, 1) := by decide +kernel
theorem dX7_rate_148 : decode cX7_rate 148 = .ok (.aload_n 0, 1) := by decide +kernel
theorem dX7_rate_149 : decode cX7_rate 149 = .ok (.dup, 1) := by decide +kernel
theorem dX7_rate_150 : decode cX7_rate 150 = .ok (.getfield 230, 3) := by decide +kernel
theorem dX7_rate_153 : decode cX7_rate 153 = .ok (.ldc2_w 242, 3) := by decide +kernel
theorem dX7_rate_156 : decode cX7_rate 156 = .ok (.ladd, 1) := by decide +kernel
theorem dX7_rate_157 : decode cX7_rate 157 = .ok (.putfield 230, 3) := by decide +kernel
theorem dX7_rate_160 : decode cX7_rate 160 = .ok (.iload_n 3, 1) := by decide +kernel
theorem dX7_rate_161 : decode cX7_rate 161 = .ok (.aload_n 0, 1) := by decide +kernel
theorem dX7_rate_162 : decode cX7_rate 162 = .ok (.getfield 26, 3) := by decide +kernel
theorem dX7_rate_165 : decode cX7_rate 165 = .ok (.iconst 0, 1) := by decide +kernel
theorem dX7_rate_166 : decode cX7_rate 166 = .ok (.iaload, 1) := by decide +kernel
theorem dX7_rate_167 : decode cX7_rate 167 = .ok (.iadd, 1) := by decide +kernel
theorem dX7_rate_168 : decode cX7_rate 168 = .ok (.ireturn, 1) := by decide +kernel
theorem dX7_rate_169 : decode cX7_rate 169 = .ok (.aload_n 0, 1) := by decide +kernel
theorem dX7_rate_170 : decode cX7_rate 170 = .ok (.dup, 1) := by decide +kernel
theorem dX7_rate_171 : decode cX7_rate 171 = .ok (.getfield 230, 3) := by decide +kernel
theorem dX7_rate_174 : decode cX7_rate 174 = .ok (.lconst 1, 1) := by decide +kernel
theorem dX7_rate_175 : decode cX7_rate 175 = .ok (.ladd, 1) := by decide +kernel
theorem dX7_rate_176 : decode cX7_rate 176 = .ok (.putfield 230, 3) := by decide +kernel
theorem dX7_rate_179 : decode cX7_rate 179 = .ok (.iload_n 3, 1) := by decide +kernel
theorem dX7_rate_180 : decode cX7_rate 180 = .ok (.ireturn, 1) := by decide +kernel
theorem dX7_keep_0 : decode cX7_keep 0 = .ok (.iload_n 1, 1) := by decide +kernel
theorem dX7_keep_1 : decode cX7_keep 1 = .ok (.iconst 0, 1) := by decide +kernel
theorem dX7_keep_2 : decode cX7_keep 2 = .ok (.iconst 1, 1) := by decide +kernel
theorem dX7_keep_3 : decode cX7_keep 3 = .ok (.invokestatic 72, 3) := by decide +kernel
theorem dX7_keep_6 : decode cX7_keep 6 = .ok (.ifCond .ne 5, 3) := by decide +kernel
theorem dX7_keep_9 : decode cX7_keep 9 = .ok (.iconst (-1), 1) := by decide +kernel
theorem dX7_keep_10 : decode cX7_keep 10 = .ok (.ireturn, 1) := by decide +kernel
theorem dX7_keep_11 : decode cX7_keep 11 = .ok (.aload_n 0, 1) := by decide +kernel
theorem dX7_keep_12 : decode cX7_keep 12 = .ok (.getfield 32, 3) := by decide +kernel
theorem dX7_keep_15 : decode cX7_keep 15 = .ok (.bipush 21, 2) := by decide +kernel
theorem dX7_keep_17 : decode cX7_keep 17 = .ok (.iload_n 1, 1) := by decide +kernel
theorem dX7_keep_18 : decode cX7_keep 18 = .ok (.imul, 1) := by decide +kernel
theorem dX7_keep_19 : decode cX7_keep 19 = .ok (.aload_n 0, 1) := by decide +kernel
theorem dX7_keep_20 : decode cX7_keep 20 = .ok (.getfield 26, 3) := by decide +kernel
theorem dX7_keep_23 : decode cX7_keep 23 = .ok (.iconst 0, 1) := by decide +kernel
theorem dX7_keep_24 : decode cX7_keep 24 = .ok (.invokestatic 160, 3) := by decide +kernel
theorem dX7_keep_27 : decode cX7_keep 27 = .ok (.aload_n 0, 1) := by decide +kernel
theorem dX7_keep_28 : decode cX7_keep 28 = .ok (.getfield 35, 3) := by decide +kernel
theorem dX7_keep_31 : decode cX7_keep 31 = .ok (.iload_n 1, 1) := by decide +kernel
theorem dX7_keep_32 : decode cX7_keep 32 = .ok (.iconst 1, 1) := by decide +kernel
theorem dX7_keep_33 : decode cX7_keep 33 = .ok (.bastore, 1) := by decide +kernel
theorem dX7_keep_34 : decode cX7_keep 34 = .ok (.aload_n 0, 1) := by decide +kernel
theorem dX7_keep_35 : decode cX7_keep 35 = .ok (.getfield 26, 3) := by decide +kernel
theorem dX7_keep_38 : decode cX7_keep 38 = .ok (.iconst 0, 1) := by decide +kernel
theorem dX7_keep_39 : decode cX7_keep 39 = .ok (.iaload, 1) := by decide +kernel
theorem dX7_keep_40 : decode cX7_keep 40 = .ok (.ireturn, 1) := by decide +kernel
theorem dX7_back_0 : decode cX7_back 0 = .ok (.iload_n 1, 1) := by decide +kernel
theorem dX7_back_1 : decode cX7_back 1 = .ok (.iconst 0, 1) := by decide +kernel
theorem dX7_back_2 : decode cX7_back 2 = .ok (.iconst 1, 1) := by decide +kernel
theorem dX7_back_3 : decode cX7_back 3 = .ok (.invokestatic 72, 3) := by decide +kernel
theorem dX7_back_6 : decode cX7_back 6 = .ok (.ifCond .ne 5, 3) := by decide +kernel
theorem dX7_back_9 : decode cX7_back 9 = .ok (.iconst (-1), 1) := by decide +kernel
theorem dX7_back_10 : decode cX7_back 10 = .ok (.ireturn, 1) := by decide +kernel
theorem dX7_back_11 : decode cX7_back 11 = .ok (.aload_n 0, 1) := by decide +kernel
theorem dX7_back_12 : decode cX7_back 12 = .ok (.getfield 35, 3) := by decide +kernel
theorem dX7_back_15 : decode cX7_back 15 = .ok (.iload_n 1, 1) := by decide +kernel
theorem dX7_back_16 : decode cX7_back 16 = .ok (.baload, 1) := by decide +kernel
theorem dX7_back_17 : decode cX7_back 17 = .ok (.ifCond .ne 6, 3) := by decide +kernel
theorem dX7_back_20 : decode cX7_back 20 = .ok (.bipush (-2), 2) := by decide +kernel
theorem dX7_back_22 : decode cX7_back 22 = .ok (.ireturn, 1) := by decide +kernel
theorem dX7_back_23 : decode cX7_back 23 = .ok (.aload_n 0, 1) := by decide +kernel
theorem dX7_back_24 : decode cX7_back 24 = .ok (.getfield 26, 3) := by decide +kernel
theorem dX7_back_27 : decode cX7_back 27 = .ok (.iconst 0, 1) := by decide +kernel
theorem dX7_back_28 : decode cX7_back 28 = .ok (.aload_n 0, 1) := by decide +kernel
theorem dX7_back_29 : decode cX7_back 29 = .ok (.getfield 32, 3) := by decide +kernel
theorem dX7_back_32 : decode cX7_back 32 = .ok (.bipush 21, 2) := by decide +kernel
theorem dX7_back_34 : decode cX7_back 34 = .ok (.iload_n 1, 1) := by decide +kernel
theorem dX7_back_35 : decode cX7_back 35 = .ok (.imul, 1) := by decide +kernel
theorem dX7_back_36 : decode cX7_back 36 = .ok (.invokestatic 160, 3) := by decide +kernel
theorem dX7_back_39 : decode cX7_back 39 = .ok (.aload_n 0, 1) := by decide +kernel
theorem dX7_back_40 : decode cX7_back 40 = .ok (.iconst 0, 1) := by decide +kernel
theorem dX7_back_41 : decode cX7_back 41 = .ok (.putfield 154, 3) := by decide +kernel
theorem dX7_back_44 : decode cX7_back 44 = .ok (.aload_n 0, 1) := by decide +kernel
theorem dX7_back_45 : decode cX7_back 45 = .ok (.getfield 26, 3) := by decide +kernel
theorem dX7_back_48 : decode cX7_back 48 = .ok (.iconst 0, 1) := by decide +kernel
theorem dX7_back_49 : decode cX7_back 49 = .ok (.iaload, 1) := by decide +kernel
theorem dX7_back_50 : decode cX7_back 50 = .ok (.ireturn, 1) := by decide +kernel
theorem dX7_count_0 : decode cX7_count 0 = .ok (.iload_n 1, 1) := by decide +kernel
theorem dX7_count_1 : decode cX7_count 1 = .ok (.tableswitch 78 0 6 #[43, 48, 53, 58, 63, 68, 73], 43) := by decide +kernel
theorem dX7_count_44 : decode cX7_count 44 = .ok (.aload_n 0, 1) := by decide +kernel
theorem dX7_count_45 : decode cX7_count 45 = .ok (.getfield 69, 3) := by decide +kernel
theorem dX7_count_48 : decode cX7_count 48 = .ok (.ireturn, 1) := by decide +kernel
theorem dX7_count_49 : decode cX7_count 49 = .ok (.aload_n 0, 1) := by decide +kernel
theorem dX7_count_50 : decode cX7_count 50 = .ok (.getfield 76, 3) := by decide +kernel
theorem dX7_count_53 : decode cX7_count 53 = .ok (.ireturn, 1) := by decide +kernel
theorem dX7_count_54 : decode cX7_count 54 = .ok (.aload_n 0, 1) := by decide +kernel
theorem dX7_count_55 : decode cX7_count 55 = .ok (.getfield 151, 3) := by decide +kernel
theorem dX7_count_58 : decode cX7_count 58 = .ok (.ireturn, 1) := by decide +kernel
theorem dX7_count_59 : decode cX7_count 59 = .ok (.aload_n 0, 1) := by decide +kernel
theorem dX7_count_60 : decode cX7_count 60 = .ok (.getfield 19, 3) := by decide +kernel
theorem dX7_count_63 : decode cX7_count 63 = .ok (.ireturn, 1) := by decide +kernel
theorem dX7_count_64 : decode cX7_count 64 = .ok (.aload_n 0, 1) := by decide +kernel
theorem dX7_count_65 : decode cX7_count 65 = .ok (.getfield 23, 3) := by decide +kernel
theorem dX7_count_68 : decode cX7_count 68 = .ok (.ireturn, 1) := by decide +kernel
theorem dX7_count_69 : decode cX7_count 69 = .ok (.aload_n 0, 1) := by decide +kernel
theorem dX7_count_70 : decode cX7_count 70 = .ok (.getfield 157, 3) := by decide +kernel
theorem dX7_count_73 : decode cX7_count 73 = .ok (.ireturn, 1) := by decide +kernel
theorem dX7_count_74 : decode cX7_count 74 = .ok (.aload_n 0, 1) := by decide +kernel
theorem dX7_count_75 : decode cX7_count 75 = .ok (.getfield 79, 3) := by decide +kernel
theorem dX7_count_78 : decode cX7_count 78 = .ok (.ireturn, 1) := by decide +kernel
theorem dX7_count_79 : decode cX7_count 79 = .ok (.iconst (-1), 1) := by decide +kernel
theorem dX7_count_80 : decode cX7_count 80 = .ok (.ireturn, 1) := by decide +kernel
theorem dX7_trace_0 : decode cX7_trace 0 = .ok (.aload_n 0, 1) := by decide +kernel
theorem dX7_trace_1 : decode cX7_trace 1 = .ok (.getfield 230, 3) := by decide +kernel
theorem dX7_trace_4 : decode cX7_trace 4 = .ok (.lreturn, 1) := by decide +kernel
theorem dJ6_bitCount_0f7a4_0 : decode cJ6_bitCount_0f7a4 0 = .ok (.iload_n 0, 1) := by decide +kernel
theorem dJ6_bitCount_0f7a4_1 : decode cJ6_bitCount_0f7a4 1 = .ok (.iload_n 0, 1) := by decide +kernel
theorem dJ6_bitCount_0f7a4_2 : decode cJ6_bitCount_0f7a4 2 = .ok (.iconst 1, 1) := by decide +kernel
theorem dJ6_bitCount_0f7a4_3 : decode cJ6_bitCount_0f7a4 3 = .ok (.iushr, 1) := by decide +kernel
theorem dJ6_bitCount_0f7a4_4 : decode cJ6_bitCount_0f7a4 4 = .ok (.ldc_w 265, 3) := by decide +kernel
theorem dJ6_bitCount_0f7a4_7 : decode cJ6_bitCount_0f7a4 7 = .ok (.iand, 1) := by decide +kernel
theorem dJ6_bitCount_0f7a4_8 : decode cJ6_bitCount_0f7a4 8 = .ok (.isub, 1) := by decide +kernel

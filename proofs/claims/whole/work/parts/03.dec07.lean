theorem dX7_can_3 : decode mX7_can.2.1 3 = .ok (.invokestatic 72, 3) := by decide +kernel
theorem dX7_can_6 : decode mX7_can.2.1 6 = .ok (.ifCond .ne 5, 3) := by decide +kernel
theorem dX7_can_9 : decode mX7_can.2.1 9 = .ok (.iconst (-1), 1) := by decide +kernel
theorem dX7_can_10 : decode mX7_can.2.1 10 = .ok (.ireturn, 1) := by decide +kernel
theorem dX7_can_11 : decode mX7_can.2.1 11 = .ok (.aload_n 0, 1) := by decide +kernel
theorem dX7_can_12 : decode mX7_can.2.1 12 = .ok (.iconst 0, 1) := by decide +kernel
theorem dX7_can_13 : decode mX7_can.2.1 13 = .ok (.iconst 0, 1) := by decide +kernel
theorem dX7_can_14 : decode mX7_can.2.1 14 = .ok (.invokevirtual 220, 3) := by decide +kernel
theorem dX7_can_17 : decode mX7_can.2.1 17 = .ok (.istore_n 2, 1) := by decide +kernel
theorem dX7_can_18 : decode mX7_can.2.1 18 = .ok (.iload_n 1, 1) := by decide +kernel
theorem dX7_can_19 : decode mX7_can.2.1 19 = .ok (.ifCond .ne 5, 3) := by decide +kernel
theorem dX7_can_22 : decode mX7_can.2.1 22 = .ok (.iload_n 2, 1) := by decide +kernel
theorem dX7_can_23 : decode mX7_can.2.1 23 = .ok (.ireturn, 1) := by decide +kernel
theorem dX7_can_24 : decode mX7_can.2.1 24 = .ok (.iconst 0, 1) := by decide +kernel
theorem dX7_can_25 : decode mX7_can.2.1 25 = .ok (.istore_n 3, 1) := by decide +kernel
theorem dX7_can_26 : decode mX7_can.2.1 26 = .ok (.iconst 0, 1) := by decide +kernel
theorem dX7_can_27 : decode mX7_can.2.1 27 = .ok (.istore 4, 2) := by decide +kernel
theorem dX7_can_29 : decode mX7_can.2.1 29 = .ok (.iconst 0, 1) := by decide +kernel
theorem dX7_can_30 : decode mX7_can.2.1 30 = .ok (.istore 5, 2) := by decide +kernel
theorem dX7_can_32 : decode mX7_can.2.1 32 = .ok (.iload 5, 2) := by decide +kernel
theorem dX7_can_34 : decode mX7_can.2.1 34 = .ok (.aload_n 0, 1) := by decide +kernel
theorem dX7_can_35 : decode mX7_can.2.1 35 = .ok (.getfield 69, 3) := by decide +kernel
theorem dX7_can_38 : decode mX7_can.2.1 38 = .ok (.if_icmp .ge 55, 3) := by decide +kernel
theorem dX7_can_41 : decode mX7_can.2.1 41 = .ok (.aload_n 0, 1) := by decide +kernel
theorem dX7_can_42 : decode mX7_can.2.1 42 = .ok (.iconst 1, 1) := by decide +kernel
theorem dX7_can_43 : decode mX7_can.2.1 43 = .ok (.iload 5, 2) := by decide +kernel
theorem dX7_can_45 : decode mX7_can.2.1 45 = .ok (.ishl, 1) := by decide +kernel
theorem dX7_can_46 : decode mX7_can.2.1 46 = .ok (.iconst 0, 1) := by decide +kernel
theorem dX7_can_47 : decode mX7_can.2.1 47 = .ok (.invokevirtual 220, 3) := by decide +kernel
theorem dX7_can_50 : decode mX7_can.2.1 50 = .ok (.istore 6, 2) := by decide +kernel
theorem dX7_can_52 : decode mX7_can.2.1 52 = .ok (.iload_n 3, 1) := by decide +kernel
theorem dX7_can_53 : decode mX7_can.2.1 53 = .ok (.iload 6, 2) := by decide +kernel
theorem dX7_can_55 : decode mX7_can.2.1 55 = .ok (.iload_n 2, 1) := by decide +kernel
theorem dX7_can_56 : decode mX7_can.2.1 56 = .ok (.if_icmp .ne 10, 3) := by decide +kernel
theorem dX7_can_59 : decode mX7_can.2.1 59 = .ok (.iconst 1, 1) := by decide +kernel
theorem dX7_can_60 : decode mX7_can.2.1 60 = .ok (.iload 5, 2) := by decide +kernel
theorem dX7_can_62 : decode mX7_can.2.1 62 = .ok (.ishl, 1) := by decide +kernel
theorem dX7_can_63 : decode mX7_can.2.1 63 = .ok (.goto 4, 3) := by decide +kernel
theorem dX7_can_66 : decode mX7_can.2.1 66 = .ok (.iconst 0, 1) := by decide +kernel
theorem dX7_can_67 : decode mX7_can.2.1 67 = .ok (.ior, 1) := by decide +kernel
theorem dX7_can_68 : decode mX7_can.2.1 68 = .ok (.istore_n 3, 1) := by decide +kernel
theorem dX7_can_69 : decode mX7_can.2.1 69 = .ok (.iload 4, 2) := by decide +kernel
theorem dX7_can_71 : decode mX7_can.2.1 71 = .ok (.iload 6, 2) := by decide +kernel
theorem dX7_can_73 : decode mX7_can.2.1 73 = .ok (.ifCond .le 10, 3) := by decide +kernel
theorem dX7_can_76 : decode mX7_can.2.1 76 = .ok (.iconst 1, 1) := by decide +kernel
theorem dX7_can_77 : decode mX7_can.2.1 77 = .ok (.iload 5, 2) := by decide +kernel
theorem dX7_can_79 : decode mX7_can.2.1 79 = .ok (.ishl, 1) := by decide +kernel
theorem dX7_can_80 : decode mX7_can.2.1 80 = .ok (.goto 4, 3) := by decide +kernel
theorem dX7_can_83 : decode mX7_can.2.1 83 = .ok (.iconst 0, 1) := by decide +kernel
theorem dX7_can_84 : decode mX7_can.2.1 84 = .ok (.ior, 1) := by decide +kernel
theorem dX7_can_85 : decode mX7_can.2.1 85 = .ok (.istore 4, 2) := by decide +kernel
theorem dX7_can_87 : decode mX7_can.2.1 87 = .ok (.iinc 5 1, 3) := by decide +kernel
theorem dX7_can_90 : decode mX7_can.2.1 90 = .ok (.goto (-58), 3) := by decide +kernel
theorem dX7_can_93 : decode mX7_can.2.1 93 = .ok (.iload_n 1, 1) := by decide +kernel
theorem dX7_can_94 : decode mX7_can.2.1 94 = .ok (.iconst 2, 1) := by decide +kernel
theorem dX7_can_95 : decode mX7_can.2.1 95 = .ok (.if_icmp .ne 8, 3) := by decide +kernel
theorem dX7_can_98 : decode mX7_can.2.1 98 = .ok (.iload 4, 2) := by decide +kernel
theorem dX7_can_100 : decode mX7_can.2.1 100 = .ok (.goto 13, 3) := by decide +kernel
theorem dX7_can_103 : decode mX7_can.2.1 103 = .ok (.iload_n 2, 1) := by decide +kernel
theorem dX7_can_104 : decode mX7_can.2.1 104 = .ok (.ifCond .ne 8, 3) := by decide +kernel
theorem dX7_can_107 : decode mX7_can.2.1 107 = .ok (.bipush (-9), 2) := by decide +kernel
theorem dX7_can_109 : decode mX7_can.2.1 109 = .ok (.goto 4, 3) := by decide +kernel
theorem dX7_can_112 : decode mX7_can.2.1 112 = .ok (.iload_n 3, 1) := by decide +kernel
theorem dX7_can_113 : decode mX7_can.2.1 113 = .ok (.ireturn, 1) := by decide +kernel
theorem dX7_ask_0 : decode mX7_ask.2.1 0 = .ok (.aload_n 0, 1) := by decide +kernel
theorem dX7_ask_1 : decode mX7_ask.2.1 1 = .ok (.iconst 0, 1) := by decide +kernel
theorem dX7_ask_2 : decode mX7_ask.2.1 2 = .ok (.iconst 0, 1) := by decide +kernel
theorem dX7_ask_3 : decode mX7_ask.2.1 3 = .ok (.invokevirtual 220, 3) := by decide +kernel
theorem dX7_ask_6 : decode mX7_ask.2.1 6 = .ok (.istore_n 1, 1) := by decide +kernel
theorem dX7_ask_7 : decode mX7_ask.2.1 7 = .ok (.bipush (-9), 2) := by decide +kernel
theorem dX7_ask_9 : decode mX7_ask.2.1 9 = .ok (.istore_n 2, 1) := by decide +kernel
theorem dX7_ask_10 : decode mX7_ask.2.1 10 = .ok (.iconst 0, 1) := by decide +kernel
theorem dX7_ask_11 : decode mX7_ask.2.1 11 = .ok (.istore_n 3, 1) := by decide +kernel
theorem dX7_ask_12 : decode mX7_ask.2.1 12 = .ok (.iconst 0, 1) := by decide +kernel
theorem dX7_ask_13 : decode mX7_ask.2.1 13 = .ok (.istore 4, 2) := by decide +kernel
theorem dX7_ask_15 : decode mX7_ask.2.1 15 = .ok (.iload 4, 2) := by decide +kernel
theorem dX7_ask_17 : decode mX7_ask.2.1 17 = .ok (.aload_n 0, 1) := by decide +kernel
theorem dX7_ask_18 : decode mX7_ask.2.1 18 = .ok (.getfield 69, 3) := by decide +kernel
theorem dX7_ask_21 : decode mX7_ask.2.1 21 = .ok (.if_icmp .ge 86, 3) := by decide +kernel
theorem dX7_ask_24 : decode mX7_ask.2.1 24 = .ok (.iload_n 1, 1) := by decide +kernel
theorem dX7_ask_25 : decode mX7_ask.2.1 25 = .ok (.iconst 1, 1) := by decide +kernel
theorem dX7_ask_26 : decode mX7_ask.2.1 26 = .ok (.if_icmp .le 81, 3) := by decide +kernel
theorem dX7_ask_29 : decode mX7_ask.2.1 29 = .ok (.aload_n 0, 1) := by decide +kernel
theorem dX7_ask_30 : decode mX7_ask.2.1 30 = .ok (.iconst 1, 1) := by decide +kernel
theorem dX7_ask_31 : decode mX7_ask.2.1 31 = .ok (.iload 4, 2) := by decide +kernel
theorem dX7_ask_33 : decode mX7_ask.2.1 33 = .ok (.ishl, 1) := by decide +kernel
theorem dX7_ask_34 : decode mX7_ask.2.1 34 = .ok (.iconst 0, 1) := by decide +kernel
theorem dX7_ask_35 : decode mX7_ask.2.1 35 = .ok (.invokevirtual 220, 3) := by decide +kernel
theorem dX7_ask_38 : decode mX7_ask.2.1 38 = .ok (.istore 5, 2) := by decide +kernel
theorem dX7_ask_40 : decode mX7_ask.2.1 40 = .ok (.iload 5, 2) := by decide +kernel
theorem dX7_ask_42 : decode mX7_ask.2.1 42 = .ok (.iload_n 1, 1) := by decide +kernel
theorem dX7_ask_43 : decode mX7_ask.2.1 43 = .ok (.iload 5, 2) := by decide +kernel
theorem dX7_ask_45 : decode mX7_ask.2.1 45 = .ok (.isub, 1) := by decide +kernel
theorem dX7_ask_46 : decode mX7_ask.2.1 46 = .ok (.if_icmp .le 8, 3) := by decide +kernel
theorem dX7_ask_49 : decode mX7_ask.2.1 49 = .ok (.iload 5, 2) := by decide +kernel
theorem dX7_ask_51 : decode mX7_ask.2.1 51 = .ok (.goto 7, 3) := by decide +kernel
theorem dX7_ask_54 : decode mX7_ask.2.1 54 = .ok (.iload_n 1, 1) := by decide +kernel
theorem dX7_ask_55 : decode mX7_ask.2.1 55 = .ok (.iload 5, 2) := by decide +kernel
theorem dX7_ask_57 : decode mX7_ask.2.1 57 = .ok (.isub, 1) := by decide +kernel
theorem dX7_ask_58 : decode mX7_ask.2.1 58 = .ok (.istore 6, 2) := by decide +kernel
theorem dX7_ask_60 : decode mX7_ask.2.1 60 = .ok (.iload_n 2, 1) := by decide +kernel
theorem dX7_ask_61 : decode mX7_ask.2.1 61 = .ok (.ifCond .lt 9, 3) := by decide +kernel
theorem dX7_ask_64 : decode mX7_ask.2.1 64 = .ok (.iload 6, 2) := by decide +kernel
theorem dX7_ask_66 : decode mX7_ask.2.1 66 = .ok (.iload_n 3, 1) := by decide +kernel
theorem dX7_ask_67 : decode mX7_ask.2.1 67 = .ok (.if_icmp .ge 7, 3) := by decide +kernel
theorem dX7_ask_70 : decode mX7_ask.2.1 70 = .ok (.iconst 1, 1) := by decide +kernel
theorem dX7_ask_71 : decode mX7_ask.2.1 71 = .ok (.goto 4, 3) := by decide +kernel
theorem dX7_ask_74 : decode mX7_ask.2.1 74 = .ok (.iconst 0, 1) := by decide +kernel
theorem dX7_ask_75 : decode mX7_ask.2.1 75 = .ok (.istore 7, 2) := by decide +kernel
theorem dX7_ask_77 : decode mX7_ask.2.1 77 = .ok (.iload 7, 2) := by decide +kernel
theorem dX7_ask_79 : decode mX7_ask.2.1 79 = .ok (.ifCond .eq 8, 3) := by decide +kernel
theorem dX7_ask_82 : decode mX7_ask.2.1 82 = .ok (.iload 4, 2) := by decide +kernel
theorem dX7_ask_84 : decode mX7_ask.2.1 84 = .ok (.goto 4, 3) := by decide +kernel
theorem dX7_ask_87 : decode mX7_ask.2.1 87 = .ok (.iload_n 2, 1) := by decide +kernel
theorem dX7_ask_88 : decode mX7_ask.2.1 88 = .ok (.istore_n 2, 1) := by decide +kernel
theorem dX7_ask_89 : decode mX7_ask.2.1 89 = .ok (.iload 7, 2) := by decide +kernel
theorem dX7_ask_91 : decode mX7_ask.2.1 91 = .ok (.ifCond .eq 8, 3) := by decide +kernel
theorem dX7_ask_94 : decode mX7_ask.2.1 94 = .ok (.iload 6, 2) := by decide +kernel
theorem dX7_ask_96 : decode mX7_ask.2.1 96 = .ok (.goto 4, 3) := by decide +kernel
theorem dX7_ask_99 : decode mX7_ask.2.1 99 = .ok (.iload_n 3, 1) := by decide +kernel
theorem dX7_ask_100 : decode mX7_ask.2.1 100 = .ok (.istore_n 3, 1) := by decide +kernel
theorem dX7_ask_101 : decode mX7_ask.2.1 101 = .ok (.iinc 4 1, 3) := by decide +kernel
theorem dX7_ask_104 : decode mX7_ask.2.1 104 = .ok (.goto (-89), 3) := by decide +kernel
theorem dX7_ask_107 : decode mX7_ask.2.1 107 = .ok (.iload_n 2, 1) := by decide +kernel
theorem dX7_ask_108 : decode mX7_ask.2.1 108 = .ok (.ireturn, 1) := by decide +kernel
theorem dX7_life_0 : decode mX7_life.2.1 0 = .ok (.aload_n 0, 1) := by decide +kernel
theorem dX7_life_1 : decode mX7_life.2.1 1 = .ok (.iload_n 1, 1) := by decide +kernel
theorem dX7_life_2 : decode mX7_life.2.1 2 = .ok (.invokevirtual 189, 3) := by decide +kernel
theorem dX7_life_5 : decode mX7_life.2.1 5 = .ok (.ifCond .eq 14, 3) := by decide +kernel
theorem dX7_life_8 : decode mX7_life.2.1 8 = .ok (.iload_n 2, 1) := by decide +kernel
theorem dX7_life_9 : decode mX7_life.2.1 9 = .ok (.bipush (-99), 2) := by decide +kernel
theorem dX7_life_11 : decode mX7_life.2.1 11 = .ok (.bipush 99, 2) := by decide +kernel
theorem dX7_life_13 : decode mX7_life.2.1 13 = .ok (.invokestatic 72, 3) := by decide +kernel
theorem dX7_life_16 : decode mX7_life.2.1 16 = .ok (.ifCond .ne 5, 3) := by decide +kernel
theorem dX7_life_19 : decode mX7_life.2.1 19 = .ok (.iconst (-1), 1) := by decide +kernel
theorem dX7_life_20 : decode mX7_life.2.1 20 = .ok (.ireturn, 1) := by decide +kernel
theorem dX7_life_21 : decode mX7_life.2.1 21 = .ok (.bipush (-9), 2) := by decide +kernel
theorem dX7_life_23 : decode mX7_life.2.1 23 = .ok (.istore_n 3, 1) := by decide +kernel
theorem dX7_life_24 : decode mX7_life.2.1 24 = .ok (.iconst 0, 1) := by decide +kernel
theorem dX7_life_25 : decode mX7_life.2.1 25 = .ok (.istore 4, 2) := by decide +kernel
theorem dX7_life_27 : decode mX7_life.2.1 27 = .ok (.iload 4, 2) := by decide +kernel
theorem dX7_life_29 : decode mX7_life.2.1 29 = .ok (.iconst 1, 1) := by decide +kernel
theorem dX7_life_30 : decode mX7_life.2.1 30 = .ok (.aload_n 0, 1) := by decide +kernel
theorem dX7_life_31 : decode mX7_life.2.1 31 = .ok (.getfield 69, 3) := by decide +kernel
theorem dX7_life_34 : decode mX7_life.2.1 34 = .ok (.ishl, 1) := by decide +kernel
theorem dX7_life_35 : decode mX7_life.2.1 35 = .ok (.if_icmp .ge 79, 3) := by decide +kernel
theorem dX7_life_38 : decode mX7_life.2.1 38 = .ok (.iload 4, 2) := by decide +kernel
theorem dX7_life_40 : decode mX7_life.2.1 40 = .ok (.aload_n 0, 1) := by decide +kernel
theorem dX7_life_41 : decode mX7_life.2.1 41 = .ok (.getfield 26, 3) := by decide +kernel
theorem dX7_life_44 : decode mX7_life.2.1 44 = .ok (.bipush 9, 2) := by decide +kernel
theorem dX7_life_46 : decode mX7_life.2.1 46 = .ok (.iload_n 1, 1) := by decide +kernel
theorem dX7_life_47 : decode mX7_life.2.1 47 = .ok (.iadd, 1) := by decide +kernel
theorem dX7_life_48 : decode mX7_life.2.1 48 = .ok (.iaload, 1) := by decide +kernel
theorem dX7_life_49 : decode mX7_life.2.1 49 = .ok (.iand, 1) := by decide +kernel
theorem dX7_life_50 : decode mX7_life.2.1 50 = .ok (.ifCond .ne 27, 3) := by decide +kernel
theorem dX7_life_53 : decode mX7_life.2.1 53 = .ok (.aload_n 0, 1) := by decide +kernel
theorem dX7_life_54 : decode mX7_life.2.1 54 = .ok (.iload 4, 2) := by decide +kernel
theorem dX7_life_56 : decode mX7_life.2.1 56 = .ok (.aload_n 0, 1) := by decide +kernel
theorem dX7_life_57 : decode mX7_life.2.1 57 = .ok (.getfield 26, 3) := by decide +kernel
theorem dX7_life_60 : decode mX7_life.2.1 60 = .ok (.bipush 9, 2) := by decide +kernel
theorem dX7_life_62 : decode mX7_life.2.1 62 = .ok (.iload_n 1, 1) := by decide +kernel
theorem dX7_life_63 : decode mX7_life.2.1 63 = .ok (.iadd, 1) := by decide +kernel
theorem dX7_life_64 : decode mX7_life.2.1 64 = .ok (.iaload, 1) := by decide +kernel
theorem dX7_life_65 : decode mX7_life.2.1 65 = .ok (.ior, 1) := by decide +kernel
theorem dX7_life_66 : decode mX7_life.2.1 66 = .ok (.invokevirtual 164, 3) := by decide +kernel
theorem dX7_life_69 : decode mX7_life.2.1 69 = .ok (.iload_n 2, 1) := by decide +kernel
theorem dX7_life_70 : decode mX7_life.2.1 70 = .ok (.if_icmp .gt 7, 3) := by decide +kernel
theorem dX7_life_73 : decode mX7_life.2.1 73 = .ok (.iconst 1, 1) := by decide +kernel
theorem dX7_life_74 : decode mX7_life.2.1 74 = .ok (.goto 4, 3) := by decide +kernel
theorem dX7_life_77 : decode mX7_life.2.1 77 = .ok (.iconst 0, 1) := by decide +kernel
theorem dX7_life_78 : decode mX7_life.2.1 78 = .ok (.istore 5, 2) := by decide +kernel
theorem dX7_life_80 : decode mX7_life.2.1 80 = .ok (.iload 5, 2) := by decide +kernel
theorem dX7_life_82 : decode mX7_life.2.1 82 = .ok (.ifCond .eq 24, 3) := by decide +kernel
theorem dX7_life_85 : decode mX7_life.2.1 85 = .ok (.iload_n 3, 1) := by decide +kernel
theorem dX7_life_86 : decode mX7_life.2.1 86 = .ok (.ifCond .lt 15, 3) := by decide +kernel
theorem dX7_life_89 : decode mX7_life.2.1 89 = .ok (.iload 4, 2) := by decide +kernel
theorem dX7_life_91 : decode mX7_life.2.1 91 = .ok (.invokestatic 202, 3) := by decide +kernel
theorem dX7_life_94 : decode mX7_life.2.1 94 = .ok (.iload_n 3, 1) := by decide +kernel
theorem dX7_life_95 : decode mX7_life.2.1 95 = .ok (.invokestatic 202, 3) := by decide +kernel
theorem dX7_life_98 : decode mX7_life.2.1 98 = .ok (.if_icmp .ge 8, 3) := by decide +kernel
theorem dX7_life_101 : decode mX7_life.2.1 101 = .ok (.iload 4, 2) := by decide +kernel
theorem dX7_life_103 : decode mX7_life.2.1 103 = .ok (.goto 4, 3) := by decide +kernel
theorem dX7_life_106 : decode mX7_life.2.1 106 = .ok (.iload_n 3, 1) := by decide +kernel
theorem dX7_life_107 : decode mX7_life.2.1 107 = .ok (.istore_n 3, 1) := by decide +kernel
theorem dX7_life_108 : decode mX7_life.2.1 108 = .ok (.iinc 4 1, 3) := by decide +kernel
theorem dX7_life_111 : decode mX7_life.2.1 111 = .ok (.goto (-84), 3) := by decide +kernel
theorem dX7_life_114 : decode mX7_life.2.1 114 = .ok (.iload_n 3, 1) := by decide +kernel
theorem dX7_life_115 : decode mX7_life.2.1 115 = .ok (.ireturn, 1) := by decide +kernel
theorem dX7_strengthOf_0 : decode mX7_strengthOf.2.1 0 = .ok (.iconst 0, 1) := by decide +kernel
theorem dX7_strengthOf_1 : decode mX7_strengthOf.2.1 1 = .ok (.istore_n 2, 1) := by decide +kernel
theorem dX7_strengthOf_2 : decode mX7_strengthOf.2.1 2 = .ok (.iconst 0, 1) := by decide +kernel
theorem dX7_strengthOf_3 : decode mX7_strengthOf.2.1 3 = .ok (.istore_n 3, 1) := by decide +kernel
theorem dX7_strengthOf_4 : decode mX7_strengthOf.2.1 4 = .ok (.iload_n 3, 1) := by decide +kernel
theorem dX7_strengthOf_5 : decode mX7_strengthOf.2.1 5 = .ok (.aload_n 0, 1) := by decide +kernel
theorem dX7_strengthOf_6 : decode mX7_strengthOf.2.1 6 = .ok (.getfield 151, 3) := by decide +kernel
theorem dX7_strengthOf_9 : decode mX7_strengthOf.2.1 9 = .ok (.if_icmp .ge 30, 3) := by decide +kernel
theorem dX7_strengthOf_12 : decode mX7_strengthOf.2.1 12 = .ok (.iload_n 2, 1) := by decide +kernel
theorem dX7_strengthOf_13 : decode mX7_strengthOf.2.1 13 = .ok (.iload_n 1, 1) := by decide +kernel
theorem dX7_strengthOf_14 : decode mX7_strengthOf.2.1 14 = .ok (.iload_n 3, 1) := by decide +kernel
theorem dX7_strengthOf_15 : decode mX7_strengthOf.2.1 15 = .ok (.invokestatic 119, 3) := by decide +kernel
theorem dX7_strengthOf_18 : decode mX7_strengthOf.2.1 18 = .ok (.ifCond .eq 12, 3) := by decide +kernel
theorem dX7_strengthOf_21 : decode mX7_strengthOf.2.1 21 = .ok (.aload_n 0, 1) := by decide +kernel
theorem dX7_strengthOf_22 : decode mX7_strengthOf.2.1 22 = .ok (.getfield 16, 3) := by decide +kernel
theorem dX7_strengthOf_25 : decode mX7_strengthOf.2.1 25 = .ok (.iload_n 3, 1) := by decide +kernel
theorem dX7_strengthOf_26 : decode mX7_strengthOf.2.1 26 = .ok (.iaload, 1) := by decide +kernel
theorem dX7_strengthOf_27 : decode mX7_strengthOf.2.1 27 = .ok (.goto 4, 3) := by decide +kernel
theorem dX7_strengthOf_30 : decode mX7_strengthOf.2.1 30 = .ok (.iconst 0, 1) := by decide +kernel
theorem dX7_strengthOf_31 : decode mX7_strengthOf.2.1 31 = .ok (.iadd, 1) := by decide +kernel
theorem dX7_strengthOf_32 : decode mX7_strengthOf.2.1 32 = .ok (.istore_n 2, 1) := by decide +kernel
theorem dX7_strengthOf_33 : decode mX7_strengthOf.2.1 33 = .ok (.iinc 3 1, 3) := by decide +kernel
theorem dX7_strengthOf_36 : decode mX7_strengthOf.2.1 36 = .ok (.goto (-32), 3) := by decide +kernel
theorem dX7_strengthOf_39 : decode mX7_strengthOf.2.1 39 = .ok (.iload_n 2, 1) := by decide +kernel
theorem dX7_strengthOf_40 : decode mX7_strengthOf.2.1 40 = .ok (.ireturn, 1) := by decide +kernel
theorem dX7_carry_0 : decode mX7_carry.2.1 0 = .ok (.iload_n 1, 1) := by decide +kernel
theorem dX7_carry_1 : decode mX7_carry.2.1 1 = .ok (.iconst 1, 1) := by decide +kernel
theorem dX7_carry_2 : decode mX7_carry.2.1 2 = .ok (.sipush 240, 3) := by decide +kernel
theorem dX7_carry_5 : decode mX7_carry.2.1 5 = .ok (.invokestatic 72, 3) := by decide +kernel
theorem dX7_carry_8 : decode mX7_carry.2.1 8 = .ok (.ifCond .eq 12, 3) := by decide +kernel
theorem dX7_carry_11 : decode mX7_carry.2.1 11 = .ok (.iload_n 2, 1) := by decide +kernel
theorem dX7_carry_12 : decode mX7_carry.2.1 12 = .ok (.iconst 0, 1) := by decide +kernel
theorem dX7_carry_13 : decode mX7_carry.2.1 13 = .ok (.iconst 2, 1) := by decide +kernel
theorem dX7_carry_14 : decode mX7_carry.2.1 14 = .ok (.invokestatic 72, 3) := by decide +kernel
theorem dX7_carry_17 : decode mX7_carry.2.1 17 = .ok (.ifCond .ne 5, 3) := by decide +kernel
theorem dX7_carry_20 : decode mX7_carry.2.1 20 = .ok (.iconst (-1), 1) := by decide +kernel
theorem dX7_carry_21 : decode mX7_carry.2.1 21 = .ok (.ireturn, 1) := by decide +kernel
theorem dX7_carry_22 : decode mX7_carry.2.1 22 = .ok (.bipush (-9), 2) := by decide +kernel
theorem dX7_carry_24 : decode mX7_carry.2.1 24 = .ok (.istore_n 3, 1) := by decide +kernel
theorem dX7_carry_25 : decode mX7_carry.2.1 25 = .ok (.bipush (-9), 2) := by decide +kernel
theorem dX7_carry_27 : decode mX7_carry.2.1 27 = .ok (.istore 4, 2) := by decide +kernel
theorem dX7_carry_29 : decode mX7_carry.2.1 29 = .ok (.iconst 0, 1) := by decide +kernel
theorem dX7_carry_30 : decode mX7_carry.2.1 30 = .ok (.istore 5, 2) := by decide +kernel
theorem dX7_carry_32 : decode mX7_carry.2.1 32 = .ok (.iconst 0, 1) := by decide +kernel
theorem dX7_carry_33 : decode mX7_carry.2.1 33 = .ok (.istore 6, 2) := by decide +kernel
theorem dX7_carry_35 : decode mX7_carry.2.1 35 = .ok (.iload 6, 2) := by decide +kernel
theorem dX7_carry_37 : decode mX7_carry.2.1 37 = .ok (.iconst 1, 1) := by decide +kernel
theorem dX7_carry_38 : decode mX7_carry.2.1 38 = .ok (.aload_n 0, 1) := by decide +kernel
theorem dX7_carry_39 : decode mX7_carry.2.1 39 = .ok (.getfield 151, 3) := by decide +kernel
theorem dX7_carry_42 : decode mX7_carry.2.1 42 = .ok (.ishl, 1) := by decide +kernel
theorem dX7_carry_43 : decode mX7_carry.2.1 43 = .ok (.if_icmp .ge 134, 3) := by decide +kernel
theorem dX7_carry_46 : decode mX7_carry.2.1 46 = .ok (.iconst 0, 1) := by decide +kernel
theorem dX7_carry_47 : decode mX7_carry.2.1 47 = .ok (.istore 7, 2) := by decide +kernel
theorem dX7_carry_49 : decode mX7_carry.2.1 49 = .ok (.iload 7, 2) := by decide +kernel
theorem dX7_carry_51 : decode mX7_carry.2.1 51 = .ok (.iload 6, 2) := by decide +kernel
theorem dX7_carry_53 : decode mX7_carry.2.1 53 = .ok (.if_icmp .ge 118, 3) := by decide +kernel
theorem dX7_carry_56 : decode mX7_carry.2.1 56 = .ok (.iload 6, 2) := by decide +kernel
theorem dX7_carry_58 : decode mX7_carry.2.1 58 = .ok (.invokestatic 202, 3) := by decide +kernel
theorem dX7_carry_61 : decode mX7_carry.2.1 61 = .ok (.iconst 4, 1) := by decide +kernel
theorem dX7_carry_62 : decode mX7_carry.2.1 62 = .ok (.if_icmp .ne 109, 3) := by decide +kernel
theorem dX7_carry_65 : decode mX7_carry.2.1 65 = .ok (.aload_n 0, 1) := by decide +kernel
theorem dX7_carry_66 : decode mX7_carry.2.1 66 = .ok (.iload 6, 2) := by decide +kernel
theorem dX7_carry_68 : decode mX7_carry.2.1 68 = .ok (.invokevirtual 223, 3) := by decide +kernel
theorem dX7_carry_71 : decode mX7_carry.2.1 71 = .ok (.istore 8, 2) := by decide +kernel
theorem dX7_carry_73 : decode mX7_carry.2.1 73 = .ok (.iload 8, 2) := by decide +kernel
theorem dX7_carry_75 : decode mX7_carry.2.1 75 = .ok (.iconst 2, 1) := by decide +kernel
theorem dX7_carry_76 : decode mX7_carry.2.1 76 = .ok (.aload_n 0, 1) := by decide +kernel
theorem dX7_carry_77 : decode mX7_carry.2.1 77 = .ok (.iload 7, 2) := by decide +kernel
theorem dX7_carry_79 : decode mX7_carry.2.1 79 = .ok (.invokevirtual 223, 3) := by decide +kernel
theorem dX7_carry_82 : decode mX7_carry.2.1 82 = .ok (.imul, 1) := by decide +kernel
theorem dX7_carry_83 : decode mX7_carry.2.1 83 = .ok (.isub, 1) := by decide +kernel
theorem dX7_carry_84 : decode mX7_carry.2.1 84 = .ok (.invokestatic 205, 3) := by decide +kernel
theorem dX7_carry_87 : decode mX7_carry.2.1 87 = .ok (.istore 9, 2) := by decide +kernel
theorem dX7_carry_89 : decode mX7_carry.2.1 89 = .ok (.iload 7, 2) := by decide +kernel
theorem dX7_carry_91 : decode mX7_carry.2.1 91 = .ok (.iload 6, 2) := by decide +kernel
theorem dX7_carry_93 : decode mX7_carry.2.1 93 = .ok (.iconst (-1), 1) := by decide +kernel
theorem dX7_carry_94 : decode mX7_carry.2.1 94 = .ok (.ixor, 1) := by decide +kernel
theorem dX7_carry_95 : decode mX7_carry.2.1 95 = .ok (.iand, 1) := by decide +kernel
theorem dX7_carry_96 : decode mX7_carry.2.1 96 = .ok (.ifCond .ne 22, 3) := by decide +kernel
theorem dX7_carry_99 : decode mX7_carry.2.1 99 = .ok (.iload 7, 2) := by decide +kernel
theorem dX7_carry_101 : decode mX7_carry.2.1 101 = .ok (.invokestatic 202, 3) := by decide +kernel
theorem dX7_carry_104 : decode mX7_carry.2.1 104 = .ok (.iconst 2, 1) := by decide +kernel
theorem dX7_carry_105 : decode mX7_carry.2.1 105 = .ok (.if_icmp .ne 13, 3) := by decide +kernel
theorem dX7_carry_108 : decode mX7_carry.2.1 108 = .ok (.iload 8, 2) := by decide +kernel
theorem dX7_carry_110 : decode mX7_carry.2.1 110 = .ok (.iload_n 1, 1) := by decide +kernel
theorem dX7_carry_111 : decode mX7_carry.2.1 111 = .ok (.if_icmp .lt 7, 3) := by decide +kernel
theorem dX7_carry_114 : decode mX7_carry.2.1 114 = .ok (.iconst 1, 1) := by decide +kernel
theorem dX7_carry_115 : decode mX7_carry.2.1 115 = .ok (.goto 4, 3) := by decide +kernel
theorem dX7_carry_118 : decode mX7_carry.2.1 118 = .ok (.iconst 0, 1) := by decide +kernel
theorem dX7_carry_119 : decode mX7_carry.2.1 119 = .ok (.istore 10, 2) := by decide +kernel
theorem dX7_carry_121 : decode mX7_carry.2.1 121 = .ok (.iload 10, 2) := by decide +kernel
theorem dX7_carry_123 : decode mX7_carry.2.1 123 = .ok (.ifCond .eq 42, 3) := by decide +kernel
theorem dX7_carry_126 : decode mX7_carry.2.1 126 = .ok (.iload_n 3, 1) := by decide +kernel
theorem dX7_carry_127 : decode mX7_carry.2.1 127 = .ok (.ifCond .lt 27, 3) := by decide +kernel
theorem dX7_carry_130 : decode mX7_carry.2.1 130 = .ok (.iload 9, 2) := by decide +kernel
theorem dX7_carry_132 : decode mX7_carry.2.1 132 = .ok (.iload 5, 2) := by decide +kernel
theorem dX7_carry_134 : decode mX7_carry.2.1 134 = .ok (.if_icmp .lt 20, 3) := by decide +kernel
theorem dX7_carry_137 : decode mX7_carry.2.1 137 = .ok (.iload 9, 2) := by decide +kernel
theorem dX7_carry_139 : decode mX7_carry.2.1 139 = .ok (.iload 5, 2) := by decide +kernel
theorem dX7_carry_141 : decode mX7_carry.2.1 141 = .ok (.if_icmp .ne 24, 3) := by decide +kernel
theorem dX7_carry_144 : decode mX7_carry.2.1 144 = .ok (.iload 8, 2) := by decide +kernel
theorem dX7_carry_146 : decode mX7_carry.2.1 146 = .ok (.aload_n 0, 1) := by decide +kernel
theorem dX7_carry_147 : decode mX7_carry.2.1 147 = .ok (.iload_n 3, 1) := by decide +kernel
theorem dX7_carry_148 : decode mX7_carry.2.1 148 = .ok (.invokevirtual 223, 3) := by decide +kernel
theorem dX7_carry_151 : decode mX7_carry.2.1 151 = .ok (.if_icmp .ge 14, 3) := by decide +kernel
theorem dX7_carry_154 : decode mX7_carry.2.1 154 = .ok (.iload 6, 2) := by decide +kernel
theorem dX7_carry_156 : decode mX7_carry.2.1 156 = .ok (.istore_n 3, 1) := by decide +kernel
theorem dX7_carry_157 : decode mX7_carry.2.1 157 = .ok (.iload 7, 2) := by decide +kernel
theorem dX7_carry_159 : decode mX7_carry.2.1 159 = .ok (.istore 4, 2) := by decide +kernel
theorem dX7_carry_161 : decode mX7_carry.2.1 161 = .ok (.iload 9, 2) := by decide +kernel
theorem dX7_carry_163 : decode mX7_carry.2.1 163 = .ok (.istore 5, 2) := by decide +kernel
theorem dX7_carry_165 : decode mX7_carry.2.1 165 = .ok (.iinc 7 1, 3) := by decide +kernel
theorem dX7_carry_168 : decode mX7_carry.2.1 168 = .ok (.goto (-119), 3) := by decide +kernel
theorem dX7_carry_171 : decode mX7_carry.2.1 171 = .ok (.iinc 6 1, 3) := by decide +kernel
theorem dX7_carry_174 : decode mX7_carry.2.1 174 = .ok (.goto (-139), 3) := by decide +kernel
theorem dX7_carry_177 : decode mX7_carry.2.1 177 = .ok (.iload_n 3, 1) := by decide +kernel
theorem dX7_carry_178 : decode mX7_carry.2.1 178 = .ok (.ifCond .lt 7, 3) := by decide +kernel
theorem dX7_carry_181 : decode mX7_carry.2.1 181 = .ok (.iload_n 2, 1) := by decide +kernel
theorem dX7_carry_182 : decode mX7_carry.2.1 182 = .ok (.ifCond .ne 7, 3) := by decide +kernel
theorem dX7_carry_185 : decode mX7_carry.2.1 185 = .ok (.iload_n 3, 1) := by decide +kernel
theorem dX7_carry_186 : decode mX7_carry.2.1 186 = .ok (.goto 15, 3) := by decide +kernel
theorem dX7_carry_189 : decode mX7_carry.2.1 189 = .ok (.iload_n 2, 1) := by decide +kernel
theorem dX7_carry_190 : decode mX7_carry.2.1 190 = .ok (.iconst 1, 1) := by decide +kernel
theorem dX7_carry_191 : decode mX7_carry.2.1 191 = .ok (.if_icmp .ne 8, 3) := by decide +kernel
theorem dX7_carry_194 : decode mX7_carry.2.1 194 = .ok (.iload 4, 2) := by decide +kernel
theorem dX7_carry_196 : decode mX7_carry.2.1 196 = .ok (.goto 5, 3) := by decide +kernel
theorem dX7_carry_199 : decode mX7_carry.2.1 199 = .ok (.iload 5, 2) := by decide +kernel
theorem dX7_carry_201 : decode mX7_carry.2.1 201 = .ok (.ireturn, 1) := by decide +kernel
theorem dX7_lowest_0 : decode mX7_lowest.2.1 0 = .ok (.iload_n 0, 1) := by decide +kernel
theorem dX7_lowest_1 : decode mX7_lowest.2.1 1 = .ok (.istore_n 3, 1) := by decide +kernel
theorem dX7_lowest_2 : decode mX7_lowest.2.1 2 = .ok (.iload_n 1, 1) := by decide +kernel
theorem dX7_lowest_3 : decode mX7_lowest.2.1 3 = .ok (.istore 4, 2) := by decide +kernel
theorem dX7_lowest_5 : decode mX7_lowest.2.1 5 = .ok (.iload 4, 2) := by decide +kernel
theorem dX7_lowest_7 : decode mX7_lowest.2.1 7 = .ok (.ifCond .le 19, 3) := by decide +kernel
theorem dX7_lowest_10 : decode mX7_lowest.2.1 10 = .ok (.iload_n 3, 1) := by decide +kernel
theorem dX7_lowest_11 : decode mX7_lowest.2.1 11 = .ok (.iload 4, 2) := by decide +kernel
theorem dX7_lowest_13 : decode mX7_lowest.2.1 13 = .ok (.irem, 1) := by decide +kernel
theorem dX7_lowest_14 : decode mX7_lowest.2.1 14 = .ok (.istore 5, 2) := by decide +kernel
theorem dX7_lowest_16 : decode mX7_lowest.2.1 16 = .ok (.iload 4, 2) := by decide +kernel
theorem dX7_lowest_18 : decode mX7_lowest.2.1 18 = .ok (.istore_n 3, 1) := by decide +kernel
theorem dX7_lowest_19 : decode mX7_lowest.2.1 19 = .ok (.iload 5, 2) := by decide +kernel
theorem dX7_lowest_21 : decode mX7_lowest.2.1 21 = .ok (.istore 4, 2) := by decide +kernel
theorem dX7_lowest_23 : decode mX7_lowest.2.1 23 = .ok (.goto (-18), 3) := by decide +kernel
theorem dX7_lowest_26 : decode mX7_lowest.2.1 26 = .ok (.iload_n 2, 1) := by decide +kernel
theorem dX7_lowest_27 : decode mX7_lowest.2.1 27 = .ok (.ifCond .ne 7, 3) := by decide +kernel
theorem dX7_lowest_30 : decode mX7_lowest.2.1 30 = .ok (.iload_n 0, 1) := by decide +kernel
theorem dX7_lowest_31 : decode mX7_lowest.2.1 31 = .ok (.goto 4, 3) := by decide +kernel
theorem dX7_lowest_34 : decode mX7_lowest.2.1 34 = .ok (.iload_n 1, 1) := by decide +kernel
theorem dX7_lowest_35 : decode mX7_lowest.2.1 35 = .ok (.iload_n 3, 1) := by decide +kernel
theorem dX7_lowest_36 : decode mX7_lowest.2.1 36 = .ok (.idiv, 1) := by decide +kernel
theorem dX7_lowest_37 : decode mX7_lowest.2.1 37 = .ok (.ireturn, 1) := by decide +kernel
theorem dX7_odds_0 : decode mX7_odds.2.1 0 = .ok (.iload_n 1, 1) := by decide +kernel
theorem dX7_odds_1 : decode mX7_odds.2.1 1 = .ok (.iconst 0, 1) := by decide +kernel
theorem dX7_odds_2 : decode mX7_odds.2.1 2 = .ok (.bipush 10, 2) := by decide +kernel
theorem dX7_odds_4 : decode mX7_odds.2.1 4 = .ok (.invokestatic 72, 3) := by decide +kernel
theorem dX7_odds_7 : decode mX7_odds.2.1 7 = .ok (.ifCond .eq 22, 3) := by decide +kernel
theorem dX7_odds_10 : decode mX7_odds.2.1 10 = .ok (.iload_n 2, 1) := by decide +kernel
theorem dX7_odds_11 : decode mX7_odds.2.1 11 = .ok (.iconst 0, 1) := by decide +kernel
theorem dX7_odds_12 : decode mX7_odds.2.1 12 = .ok (.bipush 6, 2) := by decide +kernel
theorem dX7_odds_14 : decode mX7_odds.2.1 14 = .ok (.invokestatic 72, 3) := by decide +kernel
theorem dX7_odds_17 : decode mX7_odds.2.1 17 = .ok (.ifCond .eq 12, 3) := by decide +kernel
theorem dX7_odds_20 : decode mX7_odds.2.1 20 = .ok (.iload_n 3, 1) := by decide +kernel
theorem dX7_odds_21 : decode mX7_odds.2.1 21 = .ok (.iconst 0, 1) := by decide +kernel
theorem dX7_odds_22 : decode mX7_odds.2.1 22 = .ok (.iconst 1, 1) := by decide +kernel
theorem dX7_odds_23 : decode mX7_odds.2.1 23 = .ok (.invokestatic 72, 3) := by decide +kernel
theorem dX7_odds_26 : decode mX7_odds.2.1 26 = .ok (.ifCond .ne 5, 3) := by decide +kernel
theorem dX7_odds_29 : decode mX7_odds.2.1 29 = .ok (.iconst (-1), 1) := by decide +kernel
theorem dX7_odds_30 : decode mX7_odds.2.1 30 = .ok (.ireturn, 1) := by decide +kernel
theorem dX7_odds_31 : decode mX7_odds.2.1 31 = .ok (.iconst 0, 1) := by decide +kernel
theorem dX7_odds_32 : decode mX7_odds.2.1 32 = .ok (.istore 4, 2) := by decide +kernel
theorem dX7_odds_34 : decode mX7_odds.2.1 34 = .ok (.iconst 1, 1) := by decide +kernel
theorem dX7_odds_35 : decode mX7_odds.2.1 35 = .ok (.istore 5, 2) := by decide +kernel
theorem dX7_odds_37 : decode mX7_odds.2.1 37 = .ok (.iconst 0, 1) := by decide +kernel
theorem dX7_odds_38 : decode mX7_odds.2.1 38 = .ok (.istore 6, 2) := by decide +kernel
theorem dX7_odds_40 : decode mX7_odds.2.1 40 = .ok (.iload 6, 2) := by decide +kernel
theorem dX7_odds_42 : decode mX7_odds.2.1 42 = .ok (.aload_n 0, 1) := by decide +kernel
theorem dX7_odds_43 : decode mX7_odds.2.1 43 = .ok (.getfield 151, 3) := by decide +kernel
theorem dX7_odds_46 : decode mX7_odds.2.1 46 = .ok (.if_icmp .ge 16, 3) := by decide +kernel
theorem dX7_odds_49 : decode mX7_odds.2.1 49 = .ok (.iload 5, 2) := by decide +kernel
theorem dX7_odds_51 : decode mX7_odds.2.1 51 = .ok (.bipush 10, 2) := by decide +kernel
theorem dX7_odds_53 : decode mX7_odds.2.1 53 = .ok (.imul, 1) := by decide +kernel
theorem dX7_odds_54 : decode mX7_odds.2.1 54 = .ok (.istore 5, 2) := by decide +kernel
theorem dX7_odds_56 : decode mX7_odds.2.1 56 = .ok (.iinc 6 1, 3) := by decide +kernel
theorem dX7_odds_59 : decode mX7_odds.2.1 59 = .ok (.goto (-19), 3) := by decide +kernel
theorem dX7_odds_62 : decode mX7_odds.2.1 62 = .ok (.iconst 0, 1) := by decide +kernel
theorem dX7_odds_63 : decode mX7_odds.2.1 63 = .ok (.istore 6, 2) := by decide +kernel
theorem dX7_odds_65 : decode mX7_odds.2.1 65 = .ok (.iload 6, 2) := by decide +kernel
theorem dX7_odds_67 : decode mX7_odds.2.1 67 = .ok (.iconst 1, 1) := by decide +kernel
theorem dX7_odds_68 : decode mX7_odds.2.1 68 = .ok (.aload_n 0, 1) := by decide +kernel
theorem dX7_odds_69 : decode mX7_odds.2.1 69 = .ok (.getfield 151, 3) := by decide +kernel
theorem dX7_odds_72 : decode mX7_odds.2.1 72 = .ok (.ishl, 1) := by decide +kernel
theorem dX7_odds_73 : decode mX7_odds.2.1 73 = .ok (.if_icmp .ge 73, 3) := by decide +kernel
theorem dX7_odds_76 : decode mX7_odds.2.1 76 = .ok (.iconst 1, 1) := by decide +kernel
theorem dX7_odds_77 : decode mX7_odds.2.1 77 = .ok (.istore 7, 2) := by decide +kernel
theorem dX7_odds_79 : decode mX7_odds.2.1 79 = .ok (.iconst 0, 1) := by decide +kernel
theorem dX7_odds_80 : decode mX7_odds.2.1 80 = .ok (.istore 8, 2) := by decide +kernel
theorem dX7_odds_82 : decode mX7_odds.2.1 82 = .ok (.iload 8, 2) := by decide +kernel
theorem dX7_odds_84 : decode mX7_odds.2.1 84 = .ok (.aload_n 0, 1) := by decide +kernel
theorem dX7_odds_85 : decode mX7_odds.2.1 85 = .ok (.getfield 151, 3) := by decide +kernel
theorem dX7_odds_88 : decode mX7_odds.2.1 88 = .ok (.if_icmp .ge 32, 3) := by decide +kernel
theorem dX7_odds_91 : decode mX7_odds.2.1 91 = .ok (.iload 7, 2) := by decide +kernel
theorem dX7_odds_93 : decode mX7_odds.2.1 93 = .ok (.iload 6, 2) := by decide +kernel
theorem dX7_odds_95 : decode mX7_odds.2.1 95 = .ok (.iload 8, 2) := by decide +kernel
theorem dX7_odds_97 : decode mX7_odds.2.1 97 = .ok (.invokestatic 119, 3) := by decide +kernel
theorem dX7_odds_100 : decode mX7_odds.2.1 100 = .ok (.ifCond .eq 7, 3) := by decide +kernel
theorem dX7_odds_103 : decode mX7_odds.2.1 103 = .ok (.iload_n 1, 1) := by decide +kernel
theorem dX7_odds_104 : decode mX7_odds.2.1 104 = .ok (.goto 7, 3) := by decide +kernel
theorem dX7_odds_107 : decode mX7_odds.2.1 107 = .ok (.bipush 10, 2) := by decide +kernel
theorem dX7_odds_109 : decode mX7_odds.2.1 109 = .ok (.iload_n 1, 1) := by decide +kernel
theorem dX7_odds_110 : decode mX7_odds.2.1 110 = .ok (.isub, 1) := by decide +kernel
theorem dX7_odds_111 : decode mX7_odds.2.1 111 = .ok (.imul, 1) := by decide +kernel
theorem dX7_odds_112 : decode mX7_odds.2.1 112 = .ok (.istore 7, 2) := by decide +kernel
theorem dX7_odds_114 : decode mX7_odds.2.1 114 = .ok (.iinc 8 1, 3) := by decide +kernel
theorem dX7_odds_117 : decode mX7_odds.2.1 117 = .ok (.goto (-35), 3) := by decide +kernel
theorem dX7_odds_120 : decode mX7_odds.2.1 120 = .ok (.iload 4, 2) := by decide +kernel
theorem dX7_odds_122 : decode mX7_odds.2.1 122 = .ok (.iload 6, 2) := by decide +kernel
theorem dX7_odds_124 : decode mX7_odds.2.1 124 = .ok (.invokestatic 202, 3) := by decide +kernel
theorem dX7_odds_127 : decode mX7_odds.2.1 127 = .ok (.iload_n 2, 1) := by decide +kernel
theorem dX7_odds_128 : decode mX7_odds.2.1 128 = .ok (.if_icmp .gt 8, 3) := by decide +kernel
theorem dX7_odds_131 : decode mX7_odds.2.1 131 = .ok (.iload 7, 2) := by decide +kernel
theorem dX7_odds_133 : decode mX7_odds.2.1 133 = .ok (.goto 4, 3) := by decide +kernel
theorem dX7_odds_136 : decode mX7_odds.2.1 136 = .ok (.iconst 0, 1) := by decide +kernel
theorem dX7_odds_137 : decode mX7_odds.2.1 137 = .ok (.iadd, 1) := by decide +kernel
theorem dX7_odds_138 : decode mX7_odds.2.1 138 = .ok (.istore 4, 2) := by decide +kernel
theorem dX7_odds_140 : decode mX7_odds.2.1 140 = .ok (.iinc 6 1, 3) := by decide +kernel
theorem dX7_odds_143 : decode mX7_odds.2.1 143 = .ok (.goto (-78), 3) := by decide +kernel
theorem dX7_odds_146 : decode mX7_odds.2.1 146 = .ok (.iload 4, 2) := by decide +kernel
theorem dX7_odds_148 : decode mX7_odds.2.1 148 = .ok (.iload 5, 2) := by decide +kernel
theorem dX7_odds_150 : decode mX7_odds.2.1 150 = .ok (.iload_n 3, 1) := by decide +kernel
theorem dX7_odds_151 : decode mX7_odds.2.1 151 = .ok (.invokestatic 226, 3) := by decide +kernel
theorem dX7_odds_154 : decode mX7_odds.2.1 154 = .ok (.ireturn, 1) := by decide +kernel
theorem dX7_rate_0 : decode mX7_rate.2.1 0 = .ok (.iload_n 1, 1) := by decide +kernel
theorem dX7_rate_1 : decode mX7_rate.2.1 1 = .ok (.iconst 0, 1) := by decide +kernel
theorem dX7_rate_2 : decode mX7_rate.2.1 2 = .ok (.iconst 5, 1) := by decide +kernel
theorem dX7_rate_3 : decode mX7_rate.2.1 3 = .ok (.invokestatic 72, 3) := by decide +kernel
theorem dX7_rate_6 : decode mX7_rate.2.1 6 = .ok (.ifCond .eq 11, 3) := by decide +kernel
theorem dX7_rate_9 : decode mX7_rate.2.1 9 = .ok (.aload_n 0, 1) := by decide +kernel
theorem dX7_rate_10 : decode mX7_rate.2.1 10 = .ok (.iload_n 2, 1) := by decide +kernel
theorem dX7_rate_11 : decode mX7_rate.2.1 11 = .ok (.invokevirtual 182, 3) := by decide +kernel
theorem dX7_rate_14 : decode mX7_rate.2.1 14 = .ok (.ifCond .ne 6, 3) := by decide +kernel
theorem dX7_rate_17 : decode mX7_rate.2.1 17 = .ok (.ldc 185, 2) := by decide +kernel
theorem dX7_rate_19 : decode mX7_rate.2.1 19 = .ok (.ireturn, 1) := by decide +kernel
theorem dX7_rate_20 : decode mX7_rate.2.1 20 = .ok (.aload_n 0, 1) := by decide +kernel
theorem dX7_rate_21 : decode mX7_rate.2.1 21 = .ok (.getfield 7, 3) := by decide +kernel
theorem dX7_rate_24 : decode mX7_rate.2.1 24 = .ok (.iload_n 2, 1) := by decide +kernel
theorem dX7_rate_25 : decode mX7_rate.2.1 25 = .ok (.iaload, 1) := by decide +kernel
theorem dX7_rate_26 : decode mX7_rate.2.1 26 = .ok (.istore_n 3, 1) := by decide +kernel
theorem dX7_rate_27 : decode mX7_rate.2.1 27 = .ok (.iload_n 3, 1) := by decide +kernel
theorem dX7_rate_28 : decode mX7_rate.2.1 28 = .ok (.aload_n 0, 1) := by decide +kernel
theorem dX7_rate_29 : decode mX7_rate.2.1 29 = .ok (.iload_n 2, 1) := by decide +kernel
theorem dX7_rate_30 : decode mX7_rate.2.1 30 = .ok (.invokevirtual 186, 3) := by decide +kernel
theorem dX7_rate_33 : decode mX7_rate.2.1 33 = .ok (.invokestatic 202, 3) := by decide +kernel
theorem dX7_rate_36 : decode mX7_rate.2.1 36 = .ok (.iadd, 1) := by decide +kernel
theorem dX7_rate_37 : decode mX7_rate.2.1 37 = .ok (.istore 4, 2) := by decide +kernel
theorem dX7_rate_39 : decode mX7_rate.2.1 39 = .ok (.iload_n 3, 1) := by decide +kernel
theorem dX7_rate_40 : decode mX7_rate.2.1 40 = .ok (.aload_n 0, 1) := by decide +kernel
theorem dX7_rate_41 : decode mX7_rate.2.1 41 = .ok (.getfield 26, 3) := by decide +kernel
theorem dX7_rate_44 : decode mX7_rate.2.1 44 = .ok (.iconst 2, 1) := by decide +kernel
theorem dX7_rate_45 : decode mX7_rate.2.1 45 = .ok (.iaload, 1) := by decide +kernel
theorem dX7_rate_46 : decode mX7_rate.2.1 46 = .ok (.isub, 1) := by decide +kernel
theorem dX7_rate_47 : decode mX7_rate.2.1 47 = .ok (.istore 5, 2) := by decide +kernel
theorem dX7_rate_49 : decode mX7_rate.2.1 49 = .ok (.iload_n 1, 1) := by decide +kernel
theorem dX7_rate_50 : decode mX7_rate.2.1 50 = .ok (.tableswitch 119 1 5 #[34, 49, 64, 81, 98], 34) := by decide +kernel
theorem dX7_rate_84 : decode mX7_rate.2.1 84 = .ok (.aload_n 0, 1) := by decide +kernel
theorem dX7_rate_85 : decode mX7_rate.2.1 85 = .ok (.dup, 1) := by decide +kernel
theorem dX7_rate_86 : decode mX7_rate.2.1 86 = .ok (.getfield 230, 3) := by decide +kernel
theorem dX7_rate_89 : decode mX7_rate.2.1 89 = .ok (.ldc2_w 234, 3) := by decide +kernel
theorem dX7_rate_92 : decode mX7_rate.2.1 92 = .ok (.ladd, 1) := by decide +kernel
theorem dX7_rate_93 : decode mX7_rate.2.1 93 = .ok (.putfield 230, 3) := by decide +kernel
theorem dX7_rate_96 : decode mX7_rate.2.1 96 = .ok (.iload 4, 2) := by decide +kernel
theorem dX7_rate_98 : decode mX7_rate.2.1 98 = .ok (.ireturn, 1) := by decide +kernel
theorem dX7_rate_99 : decode mX7_rate.2.1 99 = .ok (.aload_n 0, 1) := by decide +kernel
theorem dX7_rate_100 : decode mX7_rate.2.1 100 = .ok (.dup, 1) := by decide +kernel
theorem dX7_rate_101 : decode mX7_rate.2.1 101 = .ok (.getfield 230, 3) := by decide +kernel
theorem dX7_rate_104 : decode mX7_rate.2.1 104 = .ok (.ldc2_w 236, 3) := by decide +kernel
theorem dX7_rate_107 : decode mX7_rate.2.1 107 = .ok (.ladd, 1) := by decide +kernel
theorem dX7_rate_108 : decode mX7_rate.2.1 108 = .ok (.putfield 230, 3) := by decide +kernel
theorem dX7_rate_111 : decode mX7_rate.2.1 111 = .ok (.iload 5, 2) := by decide +kernel
theorem dX7_rate_113 : decode mX7_rate.2.1 113 = .ok (.ireturn, 1) := by decide +kernel
theorem dX7_rate_114 : decode mX7_rate.2.1 114 = .ok (.aload_n 0, 1) := by decide +kernel
theorem dX7_rate_115 : decode mX7_rate.2.1 115 = .ok (.dup, 1) := by decide +kernel
theorem dX7_rate_116 : decode mX7_rate.2.1 116 = .ok (.getfield 230, 3) := by decide +kernel
theorem dX7_rate_119 : decode mX7_rate.2.1 119 = .ok (.ldc2_w 238, 3) := by decide +kernel
theorem dX7_rate_122 : decode mX7_rate.2.1 122 = .ok (.ladd, 1) := by decide +kernel
theorem dX7_rate_123 : decode mX7_rate.2.1 123 = .ok (.putfield 230, 3) := by decide +kernel
theorem dX7_rate_126 : decode mX7_rate.2.1 126 = .ok (.iconst 2, 1) := by decide +kernel
theorem dX7_rate_127 : decode mX7_rate.2.1 127 = .ok (.iload 4, 2) := by decide +kernel
theorem dX7_rate_129 : decode mX7_rate.2.1 129 = .ok (.imul, 1) := by decide +kernel
theorem dX7_rate_130 : decode mX7_rate.2.1 130 = .ok (.ireturn, 1) := by decide +kernel
theorem dX7_rate_131 : decode mX7_rate.2.1 131 = .ok (.aload_n 0, 1) := by decide +kernel
theorem dX7_rate_132 : decode mX7_rate.2.1 132 = .ok (.dup, 1) := by decide +kernel
theorem dX7_rate_133 : decode mX7_rate.2.1 133 = .ok (.getfield 230, 3) := by decide +kernel
theorem dX7_rate_136 : decode mX7_rate.2.1 136 = .ok (.ldc2_w 240, 3) := by decide +kernel
theorem dX7_rate_139 : decode mX7_rate.2.1 139 = .ok (.ladd, 1) := by decide +kernel
theorem dX7_rate_140 : decode mX7_rate.2.1 140 = .ok (.putfield 230, 3) := by decide +kernel
theorem dX7_rate_143 : decode mX7_rate.2.1 143 = .ok (.iload 5, 2) := by decide +kernel
theorem dX7_rate_145 : decode mX7_rate.2.1 145 = .ok (.iload_n 2, 1) := by decide +kernel
theorem dX7_rate_146 : decode mX7_rate.2.1 146 = .ok (.iadd, 1) := by decide +kernel
theorem dX7_rate_147 : decode mX7_rate.2.1 147 = .ok (.ireturn, 1) := by decide +kernel
theorem dX7_rate_148 : decode mX7_rate.2.1 148 = .ok (.aload_n 0, 1) := by decide +kernel
theorem dX7_rate_149 : decode mX7_rate.2.1 149 = .ok (.dup, 1) := by decide +kernel
theorem dX7_rate_150 : decode mX7_rate.2.1 150 = .ok (.getfield 230, 3) := by decide +kernel
theorem dX7_rate_153 : decode mX7_rate.2.1 153 = .ok (.ldc2_w 242, 3) := by decide +kernel
theorem dX7_rate_156 : decode mX7_rate.2.1 156 = .ok (.ladd, 1) := by decide +kernel
theorem dX7_rate_157 : decode mX7_rate.2.1 157 = .ok (.putfield 230, 3) := by decide +kernel
theorem dX7_rate_160 : decode mX7_rate.2.1 160 = .ok (.iload_n 3, 1) := by decide +kernel
theorem dX7_rate_161 : decode mX7_rate.2.1 161 = .ok (.aload_n 0, 1) := by decide +kernel
theorem dX7_rate_162 : decode mX7_rate.2.1 162 = .ok (.getfield 26, 3) := by decide +kernel
theorem dX7_rate_165 : decode mX7_rate.2.1 165 = .ok (.iconst 0, 1) := by decide +kernel
theorem dX7_rate_166 : decode mX7_rate.2.1 166 = .ok (.iaload, 1) := by decide +kernel
theorem dX7_rate_167 : decode mX7_rate.2.1 167 = .ok (.iadd, 1) := by decide +kernel
theorem dX7_rate_168 : decode mX7_rate.2.1 168 = .ok (.ireturn, 1) := by decide +kernel
theorem dX7_rate_169 : decode mX7_rate.2.1 169 = .ok (.aload_n 0, 1) := by decide +kernel
theorem dX7_rate_170 : decode mX7_rate.2.1 170 = .ok (.dup, 1) := by decide +kernel
theorem dX7_rate_171 : decode mX7_rate.2.1 171 = .ok (.getfield 230, 3) := by decide +kernel
theorem dX7_rate_174 : decode mX7_rate.2.1 174 = .ok (.lconst 1, 1) := by decide +kernel
theorem dX7_rate_175 : decode mX7_rate.2.1 175 = .ok (.ladd, 1) := by decide +kernel
theorem dX7_rate_176 : decode mX7_rate.2.1 176 = .ok (.putfield 230, 3) := by decide +kernel
theorem dX7_rate_179 : decode mX7_rate.2.1 179 = .ok (.iload_n 3, 1) := by decide +kernel
theorem dX7_rate_180 : decode mX7_rate.2.1 180 = .ok (.ireturn, 1) := by decide +kernel
theorem dX7_keep_0 : decode mX7_keep.2.1 0 = .ok (.iload_n 1, 1) := by decide +kernel
theorem dX7_keep_1 : decode mX7_keep.2.1 1 = .ok (.iconst 0, 1) := by decide +kernel
theorem dX7_keep_2 : decode mX7_keep.2.1 2 = .ok (.iconst 1, 1) := by decide +kernel
theorem dX7_keep_3 : decode mX7_keep.2.1 3 = .ok (.invokestatic 72, 3) := by decide +kernel
theorem dX7_keep_6 : decode mX7_keep.2.1 6 = .ok (.ifCond .ne 5, 3) := by decide +kernel
theorem dX7_keep_9 : decode mX7_keep.2.1 9 = .ok (.iconst (-1), 1) := by decide +kernel
theorem dX7_keep_10 : decode mX7_keep.2.1 10 = .ok (.ireturn, 1) := by decide +kernel
theorem dX7_keep_11 : decode mX7_keep.2.1 11 = .ok (.aload_n 0, 1) := by decide +kernel
theorem dX7_keep_12 : decode mX7_keep.2.1 12 = .ok (.getfield 32, 3) := by decide +kernel
theorem dX7_keep_15 : decode mX7_keep.2.1 15 = .ok (.bipush 21, 2) := by decide +kernel
theorem dX7_keep_17 : decode mX7_keep.2.1 17 = .ok (.iload_n 1, 1) := by decide +kernel
theorem dX7_keep_18 : decode mX7_keep.2.1 18 = .ok (.imul, 1) := by decide +kernel
theorem dX7_keep_19 : decode mX7_keep.2.1 19 = .ok (.aload_n 0, 1) := by decide +kernel
theorem dX7_keep_20 : decode mX7_keep.2.1 20 = .ok (.getfield 26, 3) := by decide +kernel
theorem dX7_keep_23 : decode mX7_keep.2.1 23 = .ok (.iconst 0, 1) := by decide +kernel
theorem dX7_keep_24 : decode mX7_keep.2.1 24 = .ok (.invokestatic 160, 3) := by decide +kernel
theorem dX7_keep_27 : decode mX7_keep.2.1 27 = .ok (.aload_n 0, 1) := by decide +kernel
theorem dX7_keep_28 : decode mX7_keep.2.1 28 = .ok (.getfield 35, 3) := by decide +kernel
theorem dX7_keep_31 : decode mX7_keep.2.1 31 = .ok (.iload_n 1, 1) := by decide +kernel
theorem dX7_keep_32 : decode mX7_keep.2.1 32 = .ok (.iconst 1, 1) := by decide +kernel
theorem dX7_keep_33 : decode mX7_keep.2.1 33 = .ok (.bastore, 1) := by decide +kernel
theorem dX7_keep_34 : decode mX7_keep.2.1 34 = .ok (.aload_n 0, 1) := by decide +kernel
theorem dX7_keep_35 : decode mX7_keep.2.1 35 = .ok (.getfield 26, 3) := by decide +kernel
theorem dX7_keep_38 : decode mX7_keep.2.1 38 = .ok (.iconst 0, 1) := by decide +kernel
theorem dX7_keep_39 : decode mX7_keep.2.1 39 = .ok (.iaload, 1) := by decide +kernel
theorem dX7_keep_40 : decode mX7_keep.2.1 40 = .ok (.ireturn, 1) := by decide +kernel
theorem dX7_back_0 : decode mX7_back.2.1 0 = .ok (.iload_n 1, 1) := by decide +kernel
theorem dX7_back_1 : decode mX7_back.2.1 1 = .ok (.iconst 0, 1) := by decide +kernel
theorem dX7_back_2 : decode mX7_back.2.1 2 = .ok (.iconst 1, 1) := by decide +kernel
theorem dX7_back_3 : decode mX7_back.2.1 3 = .ok (.invokestatic 72, 3) := by decide +kernel
theorem dX7_back_6 : decode mX7_back.2.1 6 = .ok (.ifCond .ne 5, 3) := by decide +kernel
theorem dX7_back_9 : decode mX7_back.2.1 9 = .ok (.iconst (-1), 1) := by decide +kernel
theorem dX7_back_10 : decode mX7_back.2.1 10 = .ok (.ireturn, 1) := by decide +kernel
theorem dX7_back_11 : decode mX7_back.2.1 11 = .ok (.aload_n 0, 1) := by decide +kernel
theorem dX7_back_12 : decode mX7_back.2.1 12 = .ok (.getfield 35, 3) := by decide +kernel
theorem dX7_back_15 : decode mX7_back.2.1 15 = .ok (.iload_n 1, 1) := by decide +kernel
theorem dX7_back_16 : decode mX7_back.2.1 16 = .ok (.baload, 1) := by decide +kernel
theorem dX7_back_17 : decode mX7_back.2.1 17 = .ok (.ifCond .ne 6, 3) := by decide +kernel
theorem dX7_back_20 : decode mX7_back.2.1 20 = .ok (.bipush (-2), 2) := by decide +kernel
theorem dX7_back_22 : decode mX7_back.2.1 22 = .ok (.ireturn, 1) := by decide +kernel
theorem dX7_back_23 : decode mX7_back.2.1 23 = .ok (.aload_n 0, 1) := by decide +kernel
theorem dX7_back_24 : decode mX7_back.2.1 24 = .ok (.getfield 26, 3) := by decide +kernel
theorem dX7_back_27 : decode mX7_back.2.1 27 = .ok (.iconst 0, 1) := by decide +kernel
theorem dX7_back_28 : decode mX7_back.2.1 28 = .ok (.aload_n 0, 1) := by decide +kernel
theorem dX7_back_29 : decode mX7_back.2.1 29 = .ok (.getfield 32, 3) := by decide +kernel
theorem dX7_back_32 : decode mX7_back.2.1 32 = .ok (.bipush 21, 2) := by decide +kernel
theorem dX7_back_34 : decode mX7_back.2.1 34 = .ok (.iload_n 1, 1) := by decide +kernel
theorem dX7_back_35 : decode mX7_back.2.1 35 = .ok (.imul, 1) := by decide +kernel
theorem dX7_back_36 : decode mX7_back.2.1 36 = .ok (.invokestatic 160, 3) := by decide +kernel
theorem dX7_back_39 : decode mX7_back.2.1 39 = .ok (.aload_n 0, 1) := by decide +kernel
theorem dX7_back_40 : decode mX7_back.2.1 40 = .ok (.iconst 0, 1) := by decide +kernel
theorem dX7_back_41 : decode mX7_back.2.1 41 = .ok (.putfield 154, 3) := by decide +kernel
theorem dX7_back_44 : decode mX7_back.2.1 44 = .ok (.aload_n 0, 1) := by decide +kernel
theorem dX7_back_45 : decode mX7_back.2.1 45 = .ok (.getfield 26, 3) := by decide +kernel
theorem dX7_back_48 : decode mX7_back.2.1 48 = .ok (.iconst 0, 1) := by decide +kernel
theorem dX7_back_49 : decode mX7_back.2.1 49 = .ok (.iaload, 1) := by decide +kernel
theorem dX7_back_50 : decode mX7_back.2.1 50 = .ok (.ireturn, 1) := by decide +kernel
theorem dX7_count_0 : decode mX7_count.2.1 0 = .ok (.iload_n 1, 1) := by decide +kernel
theorem dX7_count_1 : decode mX7_count.2.1 1 = .ok (.tableswitch 78 0 6 #[43, 48, 53, 58, 63, 68, 73], 43) := by decide +kernel
theorem dX7_count_44 : decode mX7_count.2.1 44 = .ok (.aload_n 0, 1) := by decide +kernel
theorem dX7_count_45 : decode mX7_count.2.1 45 = .ok (.getfield 69, 3) := by decide +kernel
theorem dX7_count_48 : decode mX7_count.2.1 48 = .ok (.ireturn, 1) := by decide +kernel
theorem dX7_count_49 : decode mX7_count.2.1 49 = .ok (.aload_n 0, 1) := by decide +kernel
theorem dX7_count_50 : decode mX7_count.2.1 50 = .ok (.getfield 76, 3) := by decide +kernel
theorem dX7_count_53 : decode mX7_count.2.1 53 = .ok (.ireturn, 1) := by decide +kernel
theorem dX7_count_54 : decode mX7_count.2.1 54 = .ok (.aload_n 0, 1) := by decide +kernel
theorem dX7_count_55 : decode mX7_count.2.1 55 = .ok (.getfield 151, 3) := by decide +kernel
theorem dX7_count_58 : decode mX7_count.2.1 58 = .ok (.ireturn, 1) := by decide +kernel
theorem dX7_count_59 : decode mX7_count.2.1 59 = .ok (.aload_n 0, 1) := by decide +kernel
theorem dX7_count_60 : decode mX7_count.2.1 60 = .ok (.getfield 19, 3) := by decide +kernel
theorem dX7_count_63 : decode mX7_count.2.1 63 = .ok (.ireturn, 1) := by decide +kernel
theorem dX7_count_64 : decode mX7_count.2.1 64 = .ok (.aload_n 0, 1) := by decide +kernel
theorem dX7_count_65 : decode mX7_count.2.1 65 = .ok (.getfield 23, 3) := by decide +kernel
theorem dX7_count_68 : decode mX7_count.2.1 68 = .ok (.ireturn, 1) := by decide +kernel
theorem dX7_count_69 : decode mX7_count.2.1 69 = .ok (.aload_n 0, 1) := by decide +kernel
theorem dX7_count_70 : decode mX7_count.2.1 70 = .ok (.getfield 157, 3) := by decide +kernel
theorem dX7_count_73 : decode mX7_count.2.1 73 = .ok (.ireturn, 1) := by decide +kernel
theorem dX7_count_74 : decode mX7_count.2.1 74 = .ok (.aload_n 0, 1) := by decide +kernel
theorem dX7_count_75 : decode mX7_count.2.1 75 = .ok (.getfield 79, 3) := by decide +kernel
theorem dX7_count_78 : decode mX7_count.2.1 78 = .ok (.ireturn, 1) := by decide +kernel
theorem dX7_count_79 : decode mX7_count.2.1 79 = .ok (.iconst (-1), 1) := by decide +kernel
theorem dX7_count_80 : decode mX7_count.2.1 80 = .ok (.ireturn, 1) := by decide +kernel
theorem dX7_trace_0 : decode mX7_trace.2.1 0 = .ok (.aload_n 0, 1) := by decide +kernel
theorem dX7_trace_1 : decode mX7_trace.2.1 1 = .ok (.getfield 230, 3) := by decide +kernel
theorem dX7_trace_4 : decode mX7_trace.2.1 4 = .ok (.lreturn, 1) := by decide +kernel
theorem dJ6_bitCount_0f7a4_0 : decode mJ6_bitCount_0f7a4.2.1 0 = .ok (.iload_n 0, 1) := by decide +kernel
theorem dJ6_bitCount_0f7a4_1 : decode mJ6_bitCount_0f7a4.2.1 1 = .ok (.iload_n 0, 1) := by decide +kernel
theorem dJ6_bitCount_0f7a4_2 : decode mJ6_bitCount_0f7a4.2.1 2 = .ok (.iconst 1, 1) := by decide +kernel
theorem dJ6_bitCount_0f7a4_3 : decode mJ6_bitCount_0f7a4.2.1 3 = .ok (.iushr, 1) := by decide +kernel
theorem dJ6_bitCount_0f7a4_4 : decode mJ6_bitCount_0f7a4.2.1 4 = .ok (.ldc_w 265, 3) := by decide +kernel
theorem dJ6_bitCount_0f7a4_7 : decode mJ6_bitCount_0f7a4.2.1 7 = .ok (.iand, 1) := by decide +kernel
theorem dJ6_bitCount_0f7a4_8 : decode mJ6_bitCount_0f7a4.2.1 8 = .ok (.isub, 1) := by decide +kernel

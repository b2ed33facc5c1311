theorem dX7_mayBegin_75 : decode mX7_mayBegin.2.1 75 = .ok (.getfield 123, 3) := by decide +kernel
theorem dX7_mayBegin_78 : decode mX7_mayBegin.2.1 78 = .ok (.bipush 6, 2) := by decide +kernel
theorem dX7_mayBegin_80 : decode mX7_mayBegin.2.1 80 = .ok (.if_icmp .ge 7, 3) := by decide +kernel
theorem dX7_mayBegin_83 : decode mX7_mayBegin.2.1 83 = .ok (.iconst 1, 1) := by decide +kernel
theorem dX7_mayBegin_84 : decode mX7_mayBegin.2.1 84 = .ok (.goto 4, 3) := by decide +kernel
theorem dX7_mayBegin_87 : decode mX7_mayBegin.2.1 87 = .ok (.iconst 0, 1) := by decide +kernel
theorem dX7_mayBegin_88 : decode mX7_mayBegin.2.1 88 = .ok (.ireturn, 1) := by decide +kernel
theorem dX7_mayBegin_89 : decode mX7_mayBegin.2.1 89 = .ok (.aload_n 0, 1) := by decide +kernel
theorem dX7_mayBegin_90 : decode mX7_mayBegin.2.1 90 = .ok (.getfield 126, 3) := by decide +kernel
theorem dX7_mayBegin_93 : decode mX7_mayBegin.2.1 93 = .ok (.ifCond .ge 7, 3) := by decide +kernel
theorem dX7_mayBegin_96 : decode mX7_mayBegin.2.1 96 = .ok (.iconst 1, 1) := by decide +kernel
theorem dX7_mayBegin_97 : decode mX7_mayBegin.2.1 97 = .ok (.goto 4, 3) := by decide +kernel
theorem dX7_mayBegin_100 : decode mX7_mayBegin.2.1 100 = .ok (.iconst 0, 1) := by decide +kernel
theorem dX7_mayBegin_101 : decode mX7_mayBegin.2.1 101 = .ok (.ireturn, 1) := by decide +kernel
theorem dX7_mayBegin_102 : decode mX7_mayBegin.2.1 102 = .ok (.aload_n 0, 1) := by decide +kernel
theorem dX7_mayBegin_103 : decode mX7_mayBegin.2.1 103 = .ok (.getfield 129, 3) := by decide +kernel
theorem dX7_mayBegin_106 : decode mX7_mayBegin.2.1 106 = .ok (.ifCond .ge 7, 3) := by decide +kernel
theorem dX7_mayBegin_109 : decode mX7_mayBegin.2.1 109 = .ok (.iconst 1, 1) := by decide +kernel
theorem dX7_mayBegin_110 : decode mX7_mayBegin.2.1 110 = .ok (.goto 4, 3) := by decide +kernel
theorem dX7_mayBegin_113 : decode mX7_mayBegin.2.1 113 = .ok (.iconst 0, 1) := by decide +kernel
theorem dX7_mayBegin_114 : decode mX7_mayBegin.2.1 114 = .ok (.ireturn, 1) := by decide +kernel
theorem dX7_readBody_0 : decode mX7_readBody.2.1 0 = .ok (.iload_n 1, 1) := by decide +kernel
theorem dX7_readBody_1 : decode mX7_readBody.2.1 1 = .ok (.lookupswitch 126 #[(98, 82), (100, 43), (108, 75), (112, 111)], 43) := by decide +kernel
theorem dX7_readBody_44 : decode mX7_readBody.2.1 44 = .ok (.aload_n 0, 1) := by decide +kernel
theorem dX7_readBody_45 : decode mX7_readBody.2.1 45 = .ok (.getfield 45, 3) := by decide +kernel
theorem dX7_readBody_48 : decode mX7_readBody.2.1 48 = .ok (.aload_n 0, 1) := by decide +kernel
theorem dX7_readBody_49 : decode mX7_readBody.2.1 49 = .ok (.getfield 116, 3) := by decide +kernel
theorem dX7_readBody_52 : decode mX7_readBody.2.1 52 = .ok (.aload_n 0, 1) := by decide +kernel
theorem dX7_readBody_53 : decode mX7_readBody.2.1 53 = .ok (.iconst 0, 1) := by decide +kernel
theorem dX7_readBody_54 : decode mX7_readBody.2.1 54 = .ok (.bipush 40, 2) := by decide +kernel
theorem dX7_readBody_56 : decode mX7_readBody.2.1 56 = .ok (.invokevirtual 112, 3) := by decide +kernel
theorem dX7_readBody_59 : decode mX7_readBody.2.1 59 = .ok (.bipush 20, 2) := by decide +kernel
theorem dX7_readBody_61 : decode mX7_readBody.2.1 61 = .ok (.isub, 1) := by decide +kernel
theorem dX7_readBody_62 : decode mX7_readBody.2.1 62 = .ok (.iastore, 1) := by decide +kernel
theorem dX7_readBody_63 : decode mX7_readBody.2.1 63 = .ok (.aload_n 0, 1) := by decide +kernel
theorem dX7_readBody_64 : decode mX7_readBody.2.1 64 = .ok (.dup, 1) := by decide +kernel
theorem dX7_readBody_65 : decode mX7_readBody.2.1 65 = .ok (.getfield 116, 3) := by decide +kernel
theorem dX7_readBody_68 : decode mX7_readBody.2.1 68 = .ok (.iconst 1, 1) := by decide +kernel
theorem dX7_readBody_69 : decode mX7_readBody.2.1 69 = .ok (.iadd, 1) := by decide +kernel
theorem dX7_readBody_70 : decode mX7_readBody.2.1 70 = .ok (.putfield 116, 3) := by decide +kernel
theorem dX7_readBody_73 : decode mX7_readBody.2.1 73 = .ok (.goto 65, 3) := by decide +kernel
theorem dX7_readBody_76 : decode mX7_readBody.2.1 76 = .ok (.aload_n 0, 1) := by decide +kernel
theorem dX7_readBody_77 : decode mX7_readBody.2.1 77 = .ok (.invokevirtual 132, 3) := by decide +kernel
theorem dX7_readBody_80 : decode mX7_readBody.2.1 80 = .ok (.goto 58, 3) := by decide +kernel
theorem dX7_readBody_83 : decode mX7_readBody.2.1 83 = .ok (.aload_n 0, 1) := by decide +kernel
theorem dX7_readBody_84 : decode mX7_readBody.2.1 84 = .ok (.getfield 57, 3) := by decide +kernel
theorem dX7_readBody_87 : decode mX7_readBody.2.1 87 = .ok (.aload_n 0, 1) := by decide +kernel
theorem dX7_readBody_88 : decode mX7_readBody.2.1 88 = .ok (.getfield 123, 3) := by decide +kernel
theorem dX7_readBody_91 : decode mX7_readBody.2.1 91 = .ok (.aload_n 0, 1) := by decide +kernel
theorem dX7_readBody_92 : decode mX7_readBody.2.1 92 = .ok (.iconst 1, 1) := by decide +kernel
theorem dX7_readBody_93 : decode mX7_readBody.2.1 93 = .ok (.bipush 60, 2) := by decide +kernel
theorem dX7_readBody_95 : decode mX7_readBody.2.1 95 = .ok (.invokevirtual 112, 3) := by decide +kernel
theorem dX7_readBody_98 : decode mX7_readBody.2.1 98 = .ok (.iastore, 1) := by decide +kernel
theorem dX7_readBody_99 : decode mX7_readBody.2.1 99 = .ok (.aload_n 0, 1) := by decide +kernel
theorem dX7_readBody_100 : decode mX7_readBody.2.1 100 = .ok (.dup, 1) := by decide +kernel
theorem dX7_readBody_101 : decode mX7_readBody.2.1 101 = .ok (.getfield 123, 3) := by decide +kernel
theorem dX7_readBody_104 : decode mX7_readBody.2.1 104 = .ok (.iconst 1, 1) := by decide +kernel
theorem dX7_readBody_105 : decode mX7_readBody.2.1 105 = .ok (.iadd, 1) := by decide +kernel
theorem dX7_readBody_106 : decode mX7_readBody.2.1 106 = .ok (.putfield 123, 3) := by decide +kernel
theorem dX7_readBody_109 : decode mX7_readBody.2.1 109 = .ok (.goto 29, 3) := by decide +kernel
theorem dX7_readBody_112 : decode mX7_readBody.2.1 112 = .ok (.aload_n 0, 1) := by decide +kernel
theorem dX7_readBody_113 : decode mX7_readBody.2.1 113 = .ok (.aload_n 0, 1) := by decide +kernel
theorem dX7_readBody_114 : decode mX7_readBody.2.1 114 = .ok (.bipush 10, 2) := by decide +kernel
theorem dX7_readBody_116 : decode mX7_readBody.2.1 116 = .ok (.bipush 99, 2) := by decide +kernel
theorem dX7_readBody_118 : decode mX7_readBody.2.1 118 = .ok (.invokevirtual 112, 3) := by decide +kernel
theorem dX7_readBody_121 : decode mX7_readBody.2.1 121 = .ok (.putfield 126, 3) := by decide +kernel
theorem dX7_readBody_124 : decode mX7_readBody.2.1 124 = .ok (.goto 14, 3) := by decide +kernel
theorem dX7_readBody_127 : decode mX7_readBody.2.1 127 = .ok (.aload_n 0, 1) := by decide +kernel
theorem dX7_readBody_128 : decode mX7_readBody.2.1 128 = .ok (.aload_n 0, 1) := by decide +kernel
theorem dX7_readBody_129 : decode mX7_readBody.2.1 129 = .ok (.iconst 0, 1) := by decide +kernel
theorem dX7_readBody_130 : decode mX7_readBody.2.1 130 = .ok (.bipush 9, 2) := by decide +kernel
theorem dX7_readBody_132 : decode mX7_readBody.2.1 132 = .ok (.invokevirtual 112, 3) := by decide +kernel
theorem dX7_readBody_135 : decode mX7_readBody.2.1 135 = .ok (.putfield 129, 3) := by decide +kernel
theorem dX7_readBody_138 : decode mX7_readBody.2.1 138 = .ok (.return_, 1) := by decide +kernel
theorem dX7_readItem_0 : decode mX7_readItem.2.1 0 = .ok (.aload_n 0, 1) := by decide +kernel
theorem dX7_readItem_1 : decode mX7_readItem.2.1 1 = .ok (.getfield 92, 3) := by decide +kernel
theorem dX7_readItem_4 : decode mX7_readItem.2.1 4 = .ok (.istore_n 1, 1) := by decide +kernel
theorem dX7_readItem_5 : decode mX7_readItem.2.1 5 = .ok (.aload_n 0, 1) := by decide +kernel
theorem dX7_readItem_6 : decode mX7_readItem.2.1 6 = .ok (.getfield 95, 3) := by decide +kernel
theorem dX7_readItem_9 : decode mX7_readItem.2.1 9 = .ok (.iconst 1, 1) := by decide +kernel
theorem dX7_readItem_10 : decode mX7_readItem.2.1 10 = .ok (.if_icmp .ne 11, 3) := by decide +kernel
theorem dX7_readItem_13 : decode mX7_readItem.2.1 13 = .ok (.aload_n 0, 1) := by decide +kernel
theorem dX7_readItem_14 : decode mX7_readItem.2.1 14 = .ok (.iload_n 1, 1) := by decide +kernel
theorem dX7_readItem_15 : decode mX7_readItem.2.1 15 = .ok (.invokevirtual 135, 3) := by decide +kernel
theorem dX7_readItem_18 : decode mX7_readItem.2.1 18 = .ok (.ifCond .ne 9, 3) := by decide +kernel
theorem dX7_readItem_21 : decode mX7_readItem.2.1 21 = .ok (.aload_n 0, 1) := by decide +kernel
theorem dX7_readItem_22 : decode mX7_readItem.2.1 22 = .ok (.iconst 1, 1) := by decide +kernel
theorem dX7_readItem_23 : decode mX7_readItem.2.1 23 = .ok (.putfield 102, 3) := by decide +kernel
theorem dX7_readItem_26 : decode mX7_readItem.2.1 26 = .ok (.return_, 1) := by decide +kernel
theorem dX7_readItem_27 : decode mX7_readItem.2.1 27 = .ok (.aload_n 0, 1) := by decide +kernel
theorem dX7_readItem_28 : decode mX7_readItem.2.1 28 = .ok (.invokevirtual 106, 3) := by decide +kernel
theorem dX7_readItem_31 : decode mX7_readItem.2.1 31 = .ok (.aload_n 0, 1) := by decide +kernel
theorem dX7_readItem_32 : decode mX7_readItem.2.1 32 = .ok (.iload_n 1, 1) := by decide +kernel
theorem dX7_readItem_33 : decode mX7_readItem.2.1 33 = .ok (.invokevirtual 138, 3) := by decide +kernel
theorem dX7_readItem_36 : decode mX7_readItem.2.1 36 = .ok (.aload_n 0, 1) := by decide +kernel
theorem dX7_readItem_37 : decode mX7_readItem.2.1 37 = .ok (.aload_n 0, 1) := by decide +kernel
theorem dX7_readItem_38 : decode mX7_readItem.2.1 38 = .ok (.getfield 102, 3) := by decide +kernel
theorem dX7_readItem_41 : decode mX7_readItem.2.1 41 = .ok (.ifCond .ne 11, 3) := by decide +kernel
theorem dX7_readItem_44 : decode mX7_readItem.2.1 44 = .ok (.aload_n 0, 1) := by decide +kernel
theorem dX7_readItem_45 : decode mX7_readItem.2.1 45 = .ok (.getfield 95, 3) := by decide +kernel
theorem dX7_readItem_48 : decode mX7_readItem.2.1 48 = .ok (.iconst 3, 1) := by decide +kernel
theorem dX7_readItem_49 : decode mX7_readItem.2.1 49 = .ok (.if_icmp .eq 7, 3) := by decide +kernel
theorem dX7_readItem_52 : decode mX7_readItem.2.1 52 = .ok (.iconst 1, 1) := by decide +kernel
theorem dX7_readItem_53 : decode mX7_readItem.2.1 53 = .ok (.goto 4, 3) := by decide +kernel
theorem dX7_readItem_56 : decode mX7_readItem.2.1 56 = .ok (.iconst 0, 1) := by decide +kernel
theorem dX7_readItem_57 : decode mX7_readItem.2.1 57 = .ok (.putfield 102, 3) := by decide +kernel
theorem dX7_readItem_60 : decode mX7_readItem.2.1 60 = .ok (.aload_n 0, 1) := by decide +kernel
theorem dX7_readItem_61 : decode mX7_readItem.2.1 61 = .ok (.getfield 102, 3) := by decide +kernel
theorem dX7_readItem_64 : decode mX7_readItem.2.1 64 = .ok (.ifCond .ne 7, 3) := by decide +kernel
theorem dX7_readItem_67 : decode mX7_readItem.2.1 67 = .ok (.aload_n 0, 1) := by decide +kernel
theorem dX7_readItem_68 : decode mX7_readItem.2.1 68 = .ok (.invokevirtual 106, 3) := by decide +kernel
theorem dX7_readItem_71 : decode mX7_readItem.2.1 71 = .ok (.return_, 1) := by decide +kernel
theorem dX7_gate_0 : decode mX7_gate.2.1 0 = .ok (.aload_n 0, 1) := by decide +kernel
theorem dX7_gate_1 : decode mX7_gate.2.1 1 = .ok (.iconst 0, 1) := by decide +kernel
theorem dX7_gate_2 : decode mX7_gate.2.1 2 = .ok (.putfield 82, 3) := by decide +kernel
theorem dX7_gate_5 : decode mX7_gate.2.1 5 = .ok (.aload_n 0, 1) := by decide +kernel
theorem dX7_gate_6 : decode mX7_gate.2.1 6 = .ok (.iconst 0, 1) := by decide +kernel
theorem dX7_gate_7 : decode mX7_gate.2.1 7 = .ok (.putfield 102, 3) := by decide +kernel
theorem dX7_gate_10 : decode mX7_gate.2.1 10 = .ok (.aload_n 0, 1) := by decide +kernel
theorem dX7_gate_11 : decode mX7_gate.2.1 11 = .ok (.iconst 0, 1) := by decide +kernel
theorem dX7_gate_12 : decode mX7_gate.2.1 12 = .ok (.putfield 142, 3) := by decide +kernel
theorem dX7_gate_15 : decode mX7_gate.2.1 15 = .ok (.aload_n 0, 1) := by decide +kernel
theorem dX7_gate_16 : decode mX7_gate.2.1 16 = .ok (.iconst 0, 1) := by decide +kernel
theorem dX7_gate_17 : decode mX7_gate.2.1 17 = .ok (.putfield 116, 3) := by decide +kernel
theorem dX7_gate_20 : decode mX7_gate.2.1 20 = .ok (.aload_n 0, 1) := by decide +kernel
theorem dX7_gate_21 : decode mX7_gate.2.1 21 = .ok (.iconst 0, 1) := by decide +kernel
theorem dX7_gate_22 : decode mX7_gate.2.1 22 = .ok (.putfield 109, 3) := by decide +kernel
theorem dX7_gate_25 : decode mX7_gate.2.1 25 = .ok (.aload_n 0, 1) := by decide +kernel
theorem dX7_gate_26 : decode mX7_gate.2.1 26 = .ok (.iconst 0, 1) := by decide +kernel
theorem dX7_gate_27 : decode mX7_gate.2.1 27 = .ok (.putfield 123, 3) := by decide +kernel
theorem dX7_gate_30 : decode mX7_gate.2.1 30 = .ok (.aload_n 0, 1) := by decide +kernel
theorem dX7_gate_31 : decode mX7_gate.2.1 31 = .ok (.iconst (-1), 1) := by decide +kernel
theorem dX7_gate_32 : decode mX7_gate.2.1 32 = .ok (.putfield 126, 3) := by decide +kernel
theorem dX7_gate_35 : decode mX7_gate.2.1 35 = .ok (.aload_n 0, 1) := by decide +kernel
theorem dX7_gate_36 : decode mX7_gate.2.1 36 = .ok (.iconst (-1), 1) := by decide +kernel
theorem dX7_gate_37 : decode mX7_gate.2.1 37 = .ok (.putfield 129, 3) := by decide +kernel
theorem dX7_gate_40 : decode mX7_gate.2.1 40 = .ok (.aload_n 0, 1) := by decide +kernel
theorem dX7_gate_41 : decode mX7_gate.2.1 41 = .ok (.invokevirtual 106, 3) := by decide +kernel
theorem dX7_gate_44 : decode mX7_gate.2.1 44 = .ok (.aload_n 0, 1) := by decide +kernel
theorem dX7_gate_45 : decode mX7_gate.2.1 45 = .ok (.getfield 95, 3) := by decide +kernel
theorem dX7_gate_48 : decode mX7_gate.2.1 48 = .ok (.ifCond .eq 27, 3) := by decide +kernel
theorem dX7_gate_51 : decode mX7_gate.2.1 51 = .ok (.aload_n 0, 1) := by decide +kernel
theorem dX7_gate_52 : decode mX7_gate.2.1 52 = .ok (.getfield 102, 3) := by decide +kernel
theorem dX7_gate_55 : decode mX7_gate.2.1 55 = .ok (.ifCond .ne 20, 3) := by decide +kernel
theorem dX7_gate_58 : decode mX7_gate.2.1 58 = .ok (.aload_n 0, 1) := by decide +kernel
theorem dX7_gate_59 : decode mX7_gate.2.1 59 = .ok (.invokevirtual 145, 3) := by decide +kernel
theorem dX7_gate_62 : decode mX7_gate.2.1 62 = .ok (.aload_n 0, 1) := by decide +kernel
theorem dX7_gate_63 : decode mX7_gate.2.1 63 = .ok (.dup, 1) := by decide +kernel
theorem dX7_gate_64 : decode mX7_gate.2.1 64 = .ok (.getfield 142, 3) := by decide +kernel
theorem dX7_gate_67 : decode mX7_gate.2.1 67 = .ok (.iconst 1, 1) := by decide +kernel
theorem dX7_gate_68 : decode mX7_gate.2.1 68 = .ok (.iadd, 1) := by decide +kernel
theorem dX7_gate_69 : decode mX7_gate.2.1 69 = .ok (.putfield 142, 3) := by decide +kernel
theorem dX7_gate_72 : decode mX7_gate.2.1 72 = .ok (.goto (-28), 3) := by decide +kernel
theorem dX7_gate_75 : decode mX7_gate.2.1 75 = .ok (.aload_n 0, 1) := by decide +kernel
theorem dX7_gate_76 : decode mX7_gate.2.1 76 = .ok (.getfield 102, 3) := by decide +kernel
theorem dX7_gate_79 : decode mX7_gate.2.1 79 = .ok (.ifCond .eq 11, 3) := by decide +kernel
theorem dX7_gate_82 : decode mX7_gate.2.1 82 = .ok (.bipush (-10), 2) := by decide +kernel
theorem dX7_gate_84 : decode mX7_gate.2.1 84 = .ok (.aload_n 0, 1) := by decide +kernel
theorem dX7_gate_85 : decode mX7_gate.2.1 85 = .ok (.getfield 89, 3) := by decide +kernel
theorem dX7_gate_88 : decode mX7_gate.2.1 88 = .ok (.isub, 1) := by decide +kernel
theorem dX7_gate_89 : decode mX7_gate.2.1 89 = .ok (.ireturn, 1) := by decide +kernel
theorem dX7_gate_90 : decode mX7_gate.2.1 90 = .ok (.aload_n 0, 1) := by decide +kernel
theorem dX7_gate_91 : decode mX7_gate.2.1 91 = .ok (.invokevirtual 148, 3) := by decide +kernel
theorem dX7_gate_94 : decode mX7_gate.2.1 94 = .ok (.aload_n 0, 1) := by decide +kernel
theorem dX7_gate_95 : decode mX7_gate.2.1 95 = .ok (.getfield 142, 3) := by decide +kernel
theorem dX7_gate_98 : decode mX7_gate.2.1 98 = .ok (.ireturn, 1) := by decide +kernel
theorem dX7_settles_0 : decode mX7_settles.2.1 0 = .ok (.aload_n 0, 1) := by decide +kernel
theorem dX7_settles_1 : decode mX7_settles.2.1 1 = .ok (.aload_n 0, 1) := by decide +kernel
theorem dX7_settles_2 : decode mX7_settles.2.1 2 = .ok (.getfield 116, 3) := by decide +kernel
theorem dX7_settles_5 : decode mX7_settles.2.1 5 = .ok (.putfield 69, 3) := by decide +kernel
theorem dX7_settles_8 : decode mX7_settles.2.1 8 = .ok (.aload_n 0, 1) := by decide +kernel
theorem dX7_settles_9 : decode mX7_settles.2.1 9 = .ok (.aload_n 0, 1) := by decide +kernel
theorem dX7_settles_10 : decode mX7_settles.2.1 10 = .ok (.getfield 109, 3) := by decide +kernel
theorem dX7_settles_13 : decode mX7_settles.2.1 13 = .ok (.putfield 76, 3) := by decide +kernel
theorem dX7_settles_16 : decode mX7_settles.2.1 16 = .ok (.aload_n 0, 1) := by decide +kernel
theorem dX7_settles_17 : decode mX7_settles.2.1 17 = .ok (.aload_n 0, 1) := by decide +kernel
theorem dX7_settles_18 : decode mX7_settles.2.1 18 = .ok (.getfield 123, 3) := by decide +kernel
theorem dX7_settles_21 : decode mX7_settles.2.1 21 = .ok (.putfield 151, 3) := by decide +kernel
theorem dX7_settles_24 : decode mX7_settles.2.1 24 = .ok (.aload_n 0, 1) := by decide +kernel
theorem dX7_settles_25 : decode mX7_settles.2.1 25 = .ok (.aload_n 0, 1) := by decide +kernel
theorem dX7_settles_26 : decode mX7_settles.2.1 26 = .ok (.getfield 126, 3) := by decide +kernel
theorem dX7_settles_29 : decode mX7_settles.2.1 29 = .ok (.ifCond .ge 8, 3) := by decide +kernel
theorem dX7_settles_32 : decode mX7_settles.2.1 32 = .ok (.bipush 80, 2) := by decide +kernel
theorem dX7_settles_34 : decode mX7_settles.2.1 34 = .ok (.goto 7, 3) := by decide +kernel
theorem dX7_settles_37 : decode mX7_settles.2.1 37 = .ok (.aload_n 0, 1) := by decide +kernel
theorem dX7_settles_38 : decode mX7_settles.2.1 38 = .ok (.getfield 126, 3) := by decide +kernel
theorem dX7_settles_41 : decode mX7_settles.2.1 41 = .ok (.putfield 19, 3) := by decide +kernel
theorem dX7_settles_44 : decode mX7_settles.2.1 44 = .ok (.aload_n 0, 1) := by decide +kernel
theorem dX7_settles_45 : decode mX7_settles.2.1 45 = .ok (.aload_n 0, 1) := by decide +kernel
theorem dX7_settles_46 : decode mX7_settles.2.1 46 = .ok (.getfield 129, 3) := by decide +kernel
theorem dX7_settles_49 : decode mX7_settles.2.1 49 = .ok (.ifCond .ge 7, 3) := by decide +kernel
theorem dX7_settles_52 : decode mX7_settles.2.1 52 = .ok (.iconst 2, 1) := by decide +kernel
theorem dX7_settles_53 : decode mX7_settles.2.1 53 = .ok (.goto 7, 3) := by decide +kernel
theorem dX7_settles_56 : decode mX7_settles.2.1 56 = .ok (.aload_n 0, 1) := by decide +kernel
theorem dX7_settles_57 : decode mX7_settles.2.1 57 = .ok (.getfield 129, 3) := by decide +kernel
theorem dX7_settles_60 : decode mX7_settles.2.1 60 = .ok (.putfield 23, 3) := by decide +kernel
theorem dX7_settles_63 : decode mX7_settles.2.1 63 = .ok (.aload_n 0, 1) := by decide +kernel
theorem dX7_settles_64 : decode mX7_settles.2.1 64 = .ok (.getfield 26, 3) := by decide +kernel
theorem dX7_settles_67 : decode mX7_settles.2.1 67 = .ok (.iconst 0, 1) := by decide +kernel
theorem dX7_settles_68 : decode mX7_settles.2.1 68 = .ok (.iconst 0, 1) := by decide +kernel
theorem dX7_settles_69 : decode mX7_settles.2.1 69 = .ok (.iastore, 1) := by decide +kernel
theorem dX7_settles_70 : decode mX7_settles.2.1 70 = .ok (.aload_n 0, 1) := by decide +kernel
theorem dX7_settles_71 : decode mX7_settles.2.1 71 = .ok (.getfield 26, 3) := by decide +kernel
theorem dX7_settles_74 : decode mX7_settles.2.1 74 = .ok (.iconst 1, 1) := by decide +kernel
theorem dX7_settles_75 : decode mX7_settles.2.1 75 = .ok (.iconst 0, 1) := by decide +kernel
theorem dX7_settles_76 : decode mX7_settles.2.1 76 = .ok (.iastore, 1) := by decide +kernel
theorem dX7_settles_77 : decode mX7_settles.2.1 77 = .ok (.aload_n 0, 1) := by decide +kernel
theorem dX7_settles_78 : decode mX7_settles.2.1 78 = .ok (.getfield 26, 3) := by decide +kernel
theorem dX7_settles_81 : decode mX7_settles.2.1 81 = .ok (.iconst 2, 1) := by decide +kernel
theorem dX7_settles_82 : decode mX7_settles.2.1 82 = .ok (.aload_n 0, 1) := by decide +kernel
theorem dX7_settles_83 : decode mX7_settles.2.1 83 = .ok (.getfield 23, 3) := by decide +kernel
theorem dX7_settles_86 : decode mX7_settles.2.1 86 = .ok (.iastore, 1) := by decide +kernel
theorem dX7_settles_87 : decode mX7_settles.2.1 87 = .ok (.iconst 0, 1) := by decide +kernel
theorem dX7_settles_88 : decode mX7_settles.2.1 88 = .ok (.istore_n 1, 1) := by decide +kernel
theorem dX7_settles_89 : decode mX7_settles.2.1 89 = .ok (.iload_n 1, 1) := by decide +kernel
theorem dX7_settles_90 : decode mX7_settles.2.1 90 = .ok (.bipush 6, 2) := by decide +kernel
theorem dX7_settles_92 : decode mX7_settles.2.1 92 = .ok (.if_icmp .ge 97, 3) := by decide +kernel
theorem dX7_settles_95 : decode mX7_settles.2.1 95 = .ok (.aload_n 0, 1) := by decide +kernel
theorem dX7_settles_96 : decode mX7_settles.2.1 96 = .ok (.getfield 7, 3) := by decide +kernel
theorem dX7_settles_99 : decode mX7_settles.2.1 99 = .ok (.iload_n 1, 1) := by decide +kernel
theorem dX7_settles_100 : decode mX7_settles.2.1 100 = .ok (.aload_n 0, 1) := by decide +kernel
theorem dX7_settles_101 : decode mX7_settles.2.1 101 = .ok (.getfield 45, 3) := by decide +kernel
theorem dX7_settles_104 : decode mX7_settles.2.1 104 = .ok (.iload_n 1, 1) := by decide +kernel
theorem dX7_settles_105 : decode mX7_settles.2.1 105 = .ok (.iaload, 1) := by decide +kernel
theorem dX7_settles_106 : decode mX7_settles.2.1 106 = .ok (.iastore, 1) := by decide +kernel
theorem dX7_settles_107 : decode mX7_settles.2.1 107 = .ok (.aload_n 0, 1) := by decide +kernel
theorem dX7_settles_108 : decode mX7_settles.2.1 108 = .ok (.getfield 13, 3) := by decide +kernel
theorem dX7_settles_111 : decode mX7_settles.2.1 111 = .ok (.iload_n 1, 1) := by decide +kernel
theorem dX7_settles_112 : decode mX7_settles.2.1 112 = .ok (.aload_n 0, 1) := by decide +kernel
theorem dX7_settles_113 : decode mX7_settles.2.1 113 = .ok (.getfield 48, 3) := by decide +kernel
theorem dX7_settles_116 : decode mX7_settles.2.1 116 = .ok (.iload_n 1, 1) := by decide +kernel
theorem dX7_settles_117 : decode mX7_settles.2.1 117 = .ok (.iaload, 1) := by decide +kernel
theorem dX7_settles_118 : decode mX7_settles.2.1 118 = .ok (.iastore, 1) := by decide +kernel
theorem dX7_settles_119 : decode mX7_settles.2.1 119 = .ok (.aload_n 0, 1) := by decide +kernel
theorem dX7_settles_120 : decode mX7_settles.2.1 120 = .ok (.getfield 16, 3) := by decide +kernel
theorem dX7_settles_123 : decode mX7_settles.2.1 123 = .ok (.iload_n 1, 1) := by decide +kernel
theorem dX7_settles_124 : decode mX7_settles.2.1 124 = .ok (.aload_n 0, 1) := by decide +kernel
theorem dX7_settles_125 : decode mX7_settles.2.1 125 = .ok (.getfield 57, 3) := by decide +kernel
theorem dX7_settles_128 : decode mX7_settles.2.1 128 = .ok (.iload_n 1, 1) := by decide +kernel
theorem dX7_settles_129 : decode mX7_settles.2.1 129 = .ok (.iaload, 1) := by decide +kernel
theorem dX7_settles_130 : decode mX7_settles.2.1 130 = .ok (.iastore, 1) := by decide +kernel
theorem dX7_settles_131 : decode mX7_settles.2.1 131 = .ok (.aload_n 0, 1) := by decide +kernel
theorem dX7_settles_132 : decode mX7_settles.2.1 132 = .ok (.getfield 26, 3) := by decide +kernel
theorem dX7_settles_135 : decode mX7_settles.2.1 135 = .ok (.iconst 3, 1) := by decide +kernel
theorem dX7_settles_136 : decode mX7_settles.2.1 136 = .ok (.iload_n 1, 1) := by decide +kernel
theorem dX7_settles_137 : decode mX7_settles.2.1 137 = .ok (.iadd, 1) := by decide +kernel
theorem dX7_settles_138 : decode mX7_settles.2.1 138 = .ok (.aload_n 0, 1) := by decide +kernel
theorem dX7_settles_139 : decode mX7_settles.2.1 139 = .ok (.getfield 51, 3) := by decide +kernel
theorem dX7_settles_142 : decode mX7_settles.2.1 142 = .ok (.iload_n 1, 1) := by decide +kernel
theorem dX7_settles_143 : decode mX7_settles.2.1 143 = .ok (.iaload, 1) := by decide +kernel
theorem dX7_settles_144 : decode mX7_settles.2.1 144 = .ok (.iastore, 1) := by decide +kernel
theorem dX7_settles_145 : decode mX7_settles.2.1 145 = .ok (.aload_n 0, 1) := by decide +kernel
theorem dX7_settles_146 : decode mX7_settles.2.1 146 = .ok (.getfield 26, 3) := by decide +kernel
theorem dX7_settles_149 : decode mX7_settles.2.1 149 = .ok (.bipush 9, 2) := by decide +kernel
theorem dX7_settles_151 : decode mX7_settles.2.1 151 = .ok (.iload_n 1, 1) := by decide +kernel
theorem dX7_settles_152 : decode mX7_settles.2.1 152 = .ok (.iadd, 1) := by decide +kernel
theorem dX7_settles_153 : decode mX7_settles.2.1 153 = .ok (.iload_n 1, 1) := by decide +kernel
theorem dX7_settles_154 : decode mX7_settles.2.1 154 = .ok (.aload_n 0, 1) := by decide +kernel
theorem dX7_settles_155 : decode mX7_settles.2.1 155 = .ok (.getfield 76, 3) := by decide +kernel
theorem dX7_settles_158 : decode mX7_settles.2.1 158 = .ok (.if_icmp .ge 12, 3) := by decide +kernel
theorem dX7_settles_161 : decode mX7_settles.2.1 161 = .ok (.aload_n 0, 1) := by decide +kernel
theorem dX7_settles_162 : decode mX7_settles.2.1 162 = .ok (.getfield 54, 3) := by decide +kernel
theorem dX7_settles_165 : decode mX7_settles.2.1 165 = .ok (.iload_n 1, 1) := by decide +kernel
theorem dX7_settles_166 : decode mX7_settles.2.1 166 = .ok (.iaload, 1) := by decide +kernel
theorem dX7_settles_167 : decode mX7_settles.2.1 167 = .ok (.goto 4, 3) := by decide +kernel
theorem dX7_settles_170 : decode mX7_settles.2.1 170 = .ok (.iconst 0, 1) := by decide +kernel
theorem dX7_settles_171 : decode mX7_settles.2.1 171 = .ok (.iastore, 1) := by decide +kernel
theorem dX7_settles_172 : decode mX7_settles.2.1 172 = .ok (.aload_n 0, 1) := by decide +kernel
theorem dX7_settles_173 : decode mX7_settles.2.1 173 = .ok (.getfield 26, 3) := by decide +kernel
theorem dX7_settles_176 : decode mX7_settles.2.1 176 = .ok (.bipush 15, 2) := by decide +kernel
theorem dX7_settles_178 : decode mX7_settles.2.1 178 = .ok (.iload_n 1, 1) := by decide +kernel
theorem dX7_settles_179 : decode mX7_settles.2.1 179 = .ok (.iadd, 1) := by decide +kernel
theorem dX7_settles_180 : decode mX7_settles.2.1 180 = .ok (.bipush (-9), 2) := by decide +kernel
theorem dX7_settles_182 : decode mX7_settles.2.1 182 = .ok (.iastore, 1) := by decide +kernel
theorem dX7_settles_183 : decode mX7_settles.2.1 183 = .ok (.iinc 1 1, 3) := by decide +kernel
theorem dX7_settles_186 : decode mX7_settles.2.1 186 = .ok (.goto (-97), 3) := by decide +kernel
theorem dX7_settles_189 : decode mX7_settles.2.1 189 = .ok (.aload_n 0, 1) := by decide +kernel
theorem dX7_settles_190 : decode mX7_settles.2.1 190 = .ok (.iconst 0, 1) := by decide +kernel
theorem dX7_settles_191 : decode mX7_settles.2.1 191 = .ok (.putfield 154, 3) := by decide +kernel
theorem dX7_settles_194 : decode mX7_settles.2.1 194 = .ok (.aload_n 0, 1) := by decide +kernel
theorem dX7_settles_195 : decode mX7_settles.2.1 195 = .ok (.iconst 0, 1) := by decide +kernel
theorem dX7_settles_196 : decode mX7_settles.2.1 196 = .ok (.putfield 157, 3) := by decide +kernel
theorem dX7_settles_199 : decode mX7_settles.2.1 199 = .ok (.aload_n 0, 1) := by decide +kernel
theorem dX7_settles_200 : decode mX7_settles.2.1 200 = .ok (.getfield 35, 3) := by decide +kernel
theorem dX7_settles_203 : decode mX7_settles.2.1 203 = .ok (.iconst 0, 1) := by decide +kernel
theorem dX7_settles_204 : decode mX7_settles.2.1 204 = .ok (.iconst 0, 1) := by decide +kernel
theorem dX7_settles_205 : decode mX7_settles.2.1 205 = .ok (.bastore, 1) := by decide +kernel
theorem dX7_settles_206 : decode mX7_settles.2.1 206 = .ok (.aload_n 0, 1) := by decide +kernel
theorem dX7_settles_207 : decode mX7_settles.2.1 207 = .ok (.getfield 35, 3) := by decide +kernel
theorem dX7_settles_210 : decode mX7_settles.2.1 210 = .ok (.iconst 1, 1) := by decide +kernel
theorem dX7_settles_211 : decode mX7_settles.2.1 211 = .ok (.iconst 0, 1) := by decide +kernel
theorem dX7_settles_212 : decode mX7_settles.2.1 212 = .ok (.bastore, 1) := by decide +kernel
theorem dX7_settles_213 : decode mX7_settles.2.1 213 = .ok (.aload_n 0, 1) := by decide +kernel
theorem dX7_settles_214 : decode mX7_settles.2.1 214 = .ok (.iconst 0, 1) := by decide +kernel
theorem dX7_settles_215 : decode mX7_settles.2.1 215 = .ok (.putfield 79, 3) := by decide +kernel
theorem dX7_settles_218 : decode mX7_settles.2.1 218 = .ok (.return_, 1) := by decide +kernel
theorem dX7_asItIs_0 : decode mX7_asItIs.2.1 0 = .ok (.aload_n 0, 1) := by decide +kernel
theorem dX7_asItIs_1 : decode mX7_asItIs.2.1 1 = .ok (.getfield 60, 3) := by decide +kernel
theorem dX7_asItIs_4 : decode mX7_asItIs.2.1 4 = .ok (.iconst 0, 1) := by decide +kernel
theorem dX7_asItIs_5 : decode mX7_asItIs.2.1 5 = .ok (.aload_n 0, 1) := by decide +kernel
theorem dX7_asItIs_6 : decode mX7_asItIs.2.1 6 = .ok (.getfield 26, 3) := by decide +kernel
theorem dX7_asItIs_9 : decode mX7_asItIs.2.1 9 = .ok (.iconst 0, 1) := by decide +kernel
theorem dX7_asItIs_10 : decode mX7_asItIs.2.1 10 = .ok (.invokestatic 160, 3) := by decide +kernel
theorem dX7_asItIs_13 : decode mX7_asItIs.2.1 13 = .ok (.return_, 1) := by decide +kernel
theorem dX7_weightOf_0 : decode mX7_weightOf.2.1 0 = .ok (.iconst 0, 1) := by decide +kernel
theorem dX7_weightOf_1 : decode mX7_weightOf.2.1 1 = .ok (.istore_n 2, 1) := by decide +kernel
theorem dX7_weightOf_2 : decode mX7_weightOf.2.1 2 = .ok (.iconst 0, 1) := by decide +kernel
theorem dX7_weightOf_3 : decode mX7_weightOf.2.1 3 = .ok (.istore_n 3, 1) := by decide +kernel
theorem dX7_weightOf_4 : decode mX7_weightOf.2.1 4 = .ok (.iload_n 3, 1) := by decide +kernel
theorem dX7_weightOf_5 : decode mX7_weightOf.2.1 5 = .ok (.aload_n 0, 1) := by decide +kernel
theorem dX7_weightOf_6 : decode mX7_weightOf.2.1 6 = .ok (.getfield 69, 3) := by decide +kernel
theorem dX7_weightOf_9 : decode mX7_weightOf.2.1 9 = .ok (.if_icmp .ge 30, 3) := by decide +kernel
theorem dX7_weightOf_12 : decode mX7_weightOf.2.1 12 = .ok (.iload_n 2, 1) := by decide +kernel
theorem dX7_weightOf_13 : decode mX7_weightOf.2.1 13 = .ok (.iload_n 1, 1) := by decide +kernel
theorem dX7_weightOf_14 : decode mX7_weightOf.2.1 14 = .ok (.iload_n 3, 1) := by decide +kernel
theorem dX7_weightOf_15 : decode mX7_weightOf.2.1 15 = .ok (.invokestatic 119, 3) := by decide +kernel
theorem dX7_weightOf_18 : decode mX7_weightOf.2.1 18 = .ok (.ifCond .eq 12, 3) := by decide +kernel
theorem dX7_weightOf_21 : decode mX7_weightOf.2.1 21 = .ok (.aload_n 0, 1) := by decide +kernel
theorem dX7_weightOf_22 : decode mX7_weightOf.2.1 22 = .ok (.getfield 7, 3) := by decide +kernel
theorem dX7_weightOf_25 : decode mX7_weightOf.2.1 25 = .ok (.iload_n 3, 1) := by decide +kernel
theorem dX7_weightOf_26 : decode mX7_weightOf.2.1 26 = .ok (.iaload, 1) := by decide +kernel
theorem dX7_weightOf_27 : decode mX7_weightOf.2.1 27 = .ok (.goto 4, 3) := by decide +kernel
theorem dX7_weightOf_30 : decode mX7_weightOf.2.1 30 = .ok (.iconst 0, 1) := by decide +kernel
theorem dX7_weightOf_31 : decode mX7_weightOf.2.1 31 = .ok (.iadd, 1) := by decide +kernel
theorem dX7_weightOf_32 : decode mX7_weightOf.2.1 32 = .ok (.istore_n 2, 1) := by decide +kernel
theorem dX7_weightOf_33 : decode mX7_weightOf.2.1 33 = .ok (.iinc 3 1, 3) := by decide +kernel
theorem dX7_weightOf_36 : decode mX7_weightOf.2.1 36 = .ok (.goto (-32), 3) := by decide +kernel
theorem dX7_weightOf_39 : decode mX7_weightOf.2.1 39 = .ok (.iload_n 2, 1) := by decide +kernel
theorem dX7_weightOf_40 : decode mX7_weightOf.2.1 40 = .ok (.ireturn, 1) := by decide +kernel
theorem dX7_truly_0 : decode mX7_truly.2.1 0 = .ok (.aload_n 0, 1) := by decide +kernel
theorem dX7_truly_1 : decode mX7_truly.2.1 1 = .ok (.getfield 13, 3) := by decide +kernel
theorem dX7_truly_4 : decode mX7_truly.2.1 4 = .ok (.iload_n 1, 1) := by decide +kernel
theorem dX7_truly_5 : decode mX7_truly.2.1 5 = .ok (.iaload, 1) := by decide +kernel
theorem dX7_truly_6 : decode mX7_truly.2.1 6 = .ok (.aload_n 0, 1) := by decide +kernel
theorem dX7_truly_7 : decode mX7_truly.2.1 7 = .ok (.getfield 60, 3) := by decide +kernel
theorem dX7_truly_10 : decode mX7_truly.2.1 10 = .ok (.iconst 3, 1) := by decide +kernel
theorem dX7_truly_11 : decode mX7_truly.2.1 11 = .ok (.iload_n 1, 1) := by decide +kernel
theorem dX7_truly_12 : decode mX7_truly.2.1 12 = .ok (.iadd, 1) := by decide +kernel
theorem dX7_truly_13 : decode mX7_truly.2.1 13 = .ok (.iaload, 1) := by decide +kernel
theorem dX7_truly_14 : decode mX7_truly.2.1 14 = .ok (.iadd, 1) := by decide +kernel
theorem dX7_truly_15 : decode mX7_truly.2.1 15 = .ok (.aload_n 0, 1) := by decide +kernel
theorem dX7_truly_16 : decode mX7_truly.2.1 16 = .ok (.aload_n 0, 1) := by decide +kernel
theorem dX7_truly_17 : decode mX7_truly.2.1 17 = .ok (.getfield 60, 3) := by decide +kernel
theorem dX7_truly_20 : decode mX7_truly.2.1 20 = .ok (.bipush 9, 2) := by decide +kernel
theorem dX7_truly_22 : decode mX7_truly.2.1 22 = .ok (.iload_n 1, 1) := by decide +kernel
theorem dX7_truly_23 : decode mX7_truly.2.1 23 = .ok (.iadd, 1) := by decide +kernel
theorem dX7_truly_24 : decode mX7_truly.2.1 24 = .ok (.iaload, 1) := by decide +kernel
theorem dX7_truly_25 : decode mX7_truly.2.1 25 = .ok (.invokevirtual 164, 3) := by decide +kernel
theorem dX7_truly_28 : decode mX7_truly.2.1 28 = .ok (.iadd, 1) := by decide +kernel
theorem dX7_truly_29 : decode mX7_truly.2.1 29 = .ok (.ireturn, 1) := by decide +kernel
theorem dX7_loadOf_0 : decode mX7_loadOf.2.1 0 = .ok (.aload_n 0, 1) := by decide +kernel
theorem dX7_loadOf_1 : decode mX7_loadOf.2.1 1 = .ok (.iload_n 1, 1) := by decide +kernel
theorem dX7_loadOf_2 : decode mX7_loadOf.2.1 2 = .ok (.invokevirtual 167, 3) := by decide +kernel
theorem dX7_loadOf_5 : decode mX7_loadOf.2.1 5 = .ok (.aload_n 0, 1) := by decide +kernel
theorem dX7_loadOf_6 : decode mX7_loadOf.2.1 6 = .ok (.getfield 60, 3) := by decide +kernel
theorem dX7_loadOf_9 : decode mX7_loadOf.2.1 9 = .ok (.iconst 1, 1) := by decide +kernel
theorem dX7_loadOf_10 : decode mX7_loadOf.2.1 10 = .ok (.iaload, 1) := by decide +kernel
theorem dX7_loadOf_11 : decode mX7_loadOf.2.1 11 = .ok (.iadd, 1) := by decide +kernel
theorem dX7_loadOf_12 : decode mX7_loadOf.2.1 12 = .ok (.istore_n 2, 1) := by decide +kernel
theorem dX7_loadOf_13 : decode mX7_loadOf.2.1 13 = .ok (.iload_n 2, 1) := by decide +kernel
theorem dX7_loadOf_14 : decode mX7_loadOf.2.1 14 = .ok (.ifCond .ge 7, 3) := by decide +kernel
theorem dX7_loadOf_17 : decode mX7_loadOf.2.1 17 = .ok (.iconst 0, 1) := by decide +kernel
theorem dX7_loadOf_18 : decode mX7_loadOf.2.1 18 = .ok (.goto 4, 3) := by decide +kernel
theorem dX7_loadOf_21 : decode mX7_loadOf.2.1 21 = .ok (.iload_n 2, 1) := by decide +kernel
theorem dX7_loadOf_22 : decode mX7_loadOf.2.1 22 = .ok (.ireturn, 1) := by decide +kernel
theorem dX7_moves_0 : decode mX7_moves.2.1 0 = .ok (.iload_n 1, 1) := by decide +kernel
theorem dX7_moves_1 : decode mX7_moves.2.1 1 = .ok (.aload_n 0, 1) := by decide +kernel
theorem dX7_moves_2 : decode mX7_moves.2.1 2 = .ok (.getfield 60, 3) := by decide +kernel
theorem dX7_moves_5 : decode mX7_moves.2.1 5 = .ok (.iconst 2, 1) := by decide +kernel
theorem dX7_moves_6 : decode mX7_moves.2.1 6 = .ok (.iaload, 1) := by decide +kernel
theorem dX7_moves_7 : decode mX7_moves.2.1 7 = .ok (.isub, 1) := by decide +kernel
theorem dX7_moves_8 : decode mX7_moves.2.1 8 = .ok (.istore_n 2, 1) := by decide +kernel
theorem dX7_moves_9 : decode mX7_moves.2.1 9 = .ok (.iload_n 1, 1) := by decide +kernel
theorem dX7_moves_10 : decode mX7_moves.2.1 10 = .ok (.aload_n 0, 1) := by decide +kernel
theorem dX7_moves_11 : decode mX7_moves.2.1 11 = .ok (.getfield 60, 3) := by decide +kernel
theorem dX7_moves_14 : decode mX7_moves.2.1 14 = .ok (.iconst 2, 1) := by decide +kernel
theorem dX7_moves_15 : decode mX7_moves.2.1 15 = .ok (.iaload, 1) := by decide +kernel
theorem dX7_moves_16 : decode mX7_moves.2.1 16 = .ok (.iadd, 1) := by decide +kernel
theorem dX7_moves_17 : decode mX7_moves.2.1 17 = .ok (.istore_n 3, 1) := by decide +kernel
theorem dX7_moves_18 : decode mX7_moves.2.1 18 = .ok (.aload_n 0, 1) := by decide +kernel
theorem dX7_moves_19 : decode mX7_moves.2.1 19 = .ok (.getfield 60, 3) := by decide +kernel
theorem dX7_moves_22 : decode mX7_moves.2.1 22 = .ok (.iconst 0, 1) := by decide +kernel
theorem dX7_moves_23 : decode mX7_moves.2.1 23 = .ok (.iaload, 1) := by decide +kernel
theorem dX7_moves_24 : decode mX7_moves.2.1 24 = .ok (.iload_n 2, 1) := by decide +kernel
theorem dX7_moves_25 : decode mX7_moves.2.1 25 = .ok (.if_icmp .ge 7, 3) := by decide +kernel
theorem dX7_moves_28 : decode mX7_moves.2.1 28 = .ok (.iload_n 2, 1) := by decide +kernel
theorem dX7_moves_29 : decode mX7_moves.2.1 29 = .ok (.goto 23, 3) := by decide +kernel
theorem dX7_moves_32 : decode mX7_moves.2.1 32 = .ok (.aload_n 0, 1) := by decide +kernel
theorem dX7_moves_33 : decode mX7_moves.2.1 33 = .ok (.getfield 60, 3) := by decide +kernel
theorem dX7_moves_36 : decode mX7_moves.2.1 36 = .ok (.iconst 0, 1) := by decide +kernel
theorem dX7_moves_37 : decode mX7_moves.2.1 37 = .ok (.iaload, 1) := by decide +kernel
theorem dX7_moves_38 : decode mX7_moves.2.1 38 = .ok (.iload_n 3, 1) := by decide +kernel
theorem dX7_moves_39 : decode mX7_moves.2.1 39 = .ok (.if_icmp .le 7, 3) := by decide +kernel
theorem dX7_moves_42 : decode mX7_moves.2.1 42 = .ok (.iload_n 3, 1) := by decide +kernel
theorem dX7_moves_43 : decode mX7_moves.2.1 43 = .ok (.goto 9, 3) := by decide +kernel
theorem dX7_moves_46 : decode mX7_moves.2.1 46 = .ok (.aload_n 0, 1) := by decide +kernel
theorem dX7_moves_47 : decode mX7_moves.2.1 47 = .ok (.getfield 60, 3) := by decide +kernel
theorem dX7_moves_50 : decode mX7_moves.2.1 50 = .ok (.iconst 0, 1) := by decide +kernel
theorem dX7_moves_51 : decode mX7_moves.2.1 51 = .ok (.iaload, 1) := by decide +kernel
theorem dX7_moves_52 : decode mX7_moves.2.1 52 = .ok (.istore 4, 2) := by decide +kernel
theorem dX7_moves_54 : decode mX7_moves.2.1 54 = .ok (.aload_n 0, 1) := by decide +kernel
theorem dX7_moves_55 : decode mX7_moves.2.1 55 = .ok (.getfield 60, 3) := by decide +kernel
theorem dX7_moves_58 : decode mX7_moves.2.1 58 = .ok (.iconst 0, 1) := by decide +kernel
theorem dX7_moves_59 : decode mX7_moves.2.1 59 = .ok (.iload 4, 2) := by decide +kernel
theorem dX7_moves_61 : decode mX7_moves.2.1 61 = .ok (.aload_n 0, 1) := by decide +kernel
theorem dX7_moves_62 : decode mX7_moves.2.1 62 = .ok (.getfield 19, 3) := by decide +kernel
theorem dX7_moves_65 : decode mX7_moves.2.1 65 = .ok (.if_icmp .le 10, 3) := by decide +kernel
theorem dX7_moves_68 : decode mX7_moves.2.1 68 = .ok (.aload_n 0, 1) := by decide +kernel
theorem dX7_moves_69 : decode mX7_moves.2.1 69 = .ok (.getfield 19, 3) := by decide +kernel
theorem dX7_moves_72 : decode mX7_moves.2.1 72 = .ok (.goto 5, 3) := by decide +kernel
theorem dX7_moves_75 : decode mX7_moves.2.1 75 = .ok (.iload 4, 2) := by decide +kernel
theorem dX7_moves_77 : decode mX7_moves.2.1 77 = .ok (.iastore, 1) := by decide +kernel
theorem dX7_moves_78 : decode mX7_moves.2.1 78 = .ok (.return_, 1) := by decide +kernel
theorem dX7_laid_0 : decode mX7_laid.2.1 0 = .ok (.aload_n 0, 1) := by decide +kernel
theorem dX7_laid_1 : decode mX7_laid.2.1 1 = .ok (.aload_n 0, 1) := by decide +kernel
theorem dX7_laid_2 : decode mX7_laid.2.1 2 = .ok (.iload_n 1, 1) := by decide +kernel
theorem dX7_laid_3 : decode mX7_laid.2.1 3 = .ok (.invokevirtual 170, 3) := by decide +kernel
theorem dX7_laid_6 : decode mX7_laid.2.1 6 = .ok (.invokevirtual 173, 3) := by decide +kernel
theorem dX7_laid_9 : decode mX7_laid.2.1 9 = .ok (.aload_n 0, 1) := by decide +kernel
theorem dX7_laid_10 : decode mX7_laid.2.1 10 = .ok (.getfield 60, 3) := by decide +kernel
theorem dX7_laid_13 : decode mX7_laid.2.1 13 = .ok (.iconst 0, 1) := by decide +kernel
theorem dX7_laid_14 : decode mX7_laid.2.1 14 = .ok (.iaload, 1) := by decide +kernel
theorem dX7_laid_15 : decode mX7_laid.2.1 15 = .ok (.istore_n 2, 1) := by decide +kernel
theorem dX7_laid_16 : decode mX7_laid.2.1 16 = .ok (.aload_n 0, 1) := by decide +kernel
theorem dX7_laid_17 : decode mX7_laid.2.1 17 = .ok (.getfield 60, 3) := by decide +kernel
theorem dX7_laid_20 : decode mX7_laid.2.1 20 = .ok (.bipush 15, 2) := by decide +kernel
theorem dX7_laid_22 : decode mX7_laid.2.1 22 = .ok (.iload_n 1, 1) := by decide +kernel
theorem dX7_laid_23 : decode mX7_laid.2.1 23 = .ok (.iadd, 1) := by decide +kernel
theorem dX7_laid_24 : decode mX7_laid.2.1 24 = .ok (.iload_n 2, 1) := by decide +kernel
theorem dX7_laid_25 : decode mX7_laid.2.1 25 = .ok (.iastore, 1) := by decide +kernel
theorem dX7_laid_26 : decode mX7_laid.2.1 26 = .ok (.aload_n 0, 1) := by decide +kernel
theorem dX7_laid_27 : decode mX7_laid.2.1 27 = .ok (.iconst 0, 1) := by decide +kernel
theorem dX7_laid_28 : decode mX7_laid.2.1 28 = .ok (.invokevirtual 173, 3) := by decide +kernel
theorem dX7_laid_31 : decode mX7_laid.2.1 31 = .ok (.aload_n 0, 1) := by decide +kernel
theorem dX7_laid_32 : decode mX7_laid.2.1 32 = .ok (.getfield 60, 3) := by decide +kernel
theorem dX7_laid_35 : decode mX7_laid.2.1 35 = .ok (.iconst 1, 1) := by decide +kernel
theorem dX7_laid_36 : decode mX7_laid.2.1 36 = .ok (.iconst 0, 1) := by decide +kernel
theorem dX7_laid_37 : decode mX7_laid.2.1 37 = .ok (.iastore, 1) := by decide +kernel
theorem dX7_laid_38 : decode mX7_laid.2.1 38 = .ok (.iload_n 2, 1) := by decide +kernel
theorem dX7_laid_39 : decode mX7_laid.2.1 39 = .ok (.ireturn, 1) := by decide +kernel
theorem dX7_readsOf_0 : decode mX7_readsOf.2.1 0 = .ok (.aload_n 0, 1) := by decide +kernel
theorem dX7_readsOf_1 : decode mX7_readsOf.2.1 1 = .ok (.invokevirtual 176, 3) := by decide +kernel
theorem dX7_readsOf_4 : decode mX7_readsOf.2.1 4 = .ok (.aload_n 0, 1) := by decide +kernel
theorem dX7_readsOf_5 : decode mX7_readsOf.2.1 5 = .ok (.iload_n 1, 1) := by decide +kernel
theorem dX7_readsOf_6 : decode mX7_readsOf.2.1 6 = .ok (.invokevirtual 179, 3) := by decide +kernel
theorem dX7_readsOf_9 : decode mX7_readsOf.2.1 9 = .ok (.ireturn, 1) := by decide +kernel
theorem dX7_chalked_0 : decode mX7_chalked.2.1 0 = .ok (.iconst 0, 1) := by decide +kernel
theorem dX7_chalked_1 : decode mX7_chalked.2.1 1 = .ok (.istore_n 1, 1) := by decide +kernel
theorem dX7_chalked_2 : decode mX7_chalked.2.1 2 = .ok (.iconst 0, 1) := by decide +kernel
theorem dX7_chalked_3 : decode mX7_chalked.2.1 3 = .ok (.istore_n 2, 1) := by decide +kernel
theorem dX7_chalked_4 : decode mX7_chalked.2.1 4 = .ok (.iload_n 2, 1) := by decide +kernel
theorem dX7_chalked_5 : decode mX7_chalked.2.1 5 = .ok (.aload_n 0, 1) := by decide +kernel
theorem dX7_chalked_6 : decode mX7_chalked.2.1 6 = .ok (.getfield 76, 3) := by decide +kernel
theorem dX7_chalked_9 : decode mX7_chalked.2.1 9 = .ok (.if_icmp .ge 33, 3) := by decide +kernel
theorem dX7_chalked_12 : decode mX7_chalked.2.1 12 = .ok (.iload_n 1, 1) := by decide +kernel
theorem dX7_chalked_13 : decode mX7_chalked.2.1 13 = .ok (.aload_n 0, 1) := by decide +kernel
theorem dX7_chalked_14 : decode mX7_chalked.2.1 14 = .ok (.getfield 26, 3) := by decide +kernel
theorem dX7_chalked_17 : decode mX7_chalked.2.1 17 = .ok (.bipush 15, 2) := by decide +kernel
theorem dX7_chalked_19 : decode mX7_chalked.2.1 19 = .ok (.iload_n 2, 1) := by decide +kernel
theorem dX7_chalked_20 : decode mX7_chalked.2.1 20 = .ok (.iadd, 1) := by decide +kernel
theorem dX7_chalked_21 : decode mX7_chalked.2.1 21 = .ok (.iaload, 1) := by decide +kernel
theorem dX7_chalked_22 : decode mX7_chalked.2.1 22 = .ok (.bipush (-9), 2) := by decide +kernel
theorem dX7_chalked_24 : decode mX7_chalked.2.1 24 = .ok (.if_icmp .ne 7, 3) := by decide +kernel
theorem dX7_chalked_27 : decode mX7_chalked.2.1 27 = .ok (.iconst 0, 1) := by decide +kernel
theorem dX7_chalked_28 : decode mX7_chalked.2.1 28 = .ok (.goto 6, 3) := by decide +kernel
theorem dX7_chalked_31 : decode mX7_chalked.2.1 31 = .ok (.iconst 1, 1) := by decide +kernel
theorem dX7_chalked_32 : decode mX7_chalked.2.1 32 = .ok (.iload_n 2, 1) := by decide +kernel
theorem dX7_chalked_33 : decode mX7_chalked.2.1 33 = .ok (.ishl, 1) := by decide +kernel
theorem dX7_chalked_34 : decode mX7_chalked.2.1 34 = .ok (.ior, 1) := by decide +kernel
theorem dX7_chalked_35 : decode mX7_chalked.2.1 35 = .ok (.istore_n 1, 1) := by decide +kernel
theorem dX7_chalked_36 : decode mX7_chalked.2.1 36 = .ok (.iinc 2 1, 3) := by decide +kernel
theorem dX7_chalked_39 : decode mX7_chalked.2.1 39 = .ok (.goto (-35), 3) := by decide +kernel
theorem dX7_chalked_42 : decode mX7_chalked.2.1 42 = .ok (.iload_n 1, 1) := by decide +kernel
theorem dX7_chalked_43 : decode mX7_chalked.2.1 43 = .ok (.ireturn, 1) := by decide +kernel
theorem dX7_whoDid_0 : decode mX7_whoDid.2.1 0 = .ok (.iconst 0, 1) := by decide +kernel
theorem dX7_whoDid_1 : decode mX7_whoDid.2.1 1 = .ok (.istore_n 2, 1) := by decide +kernel
theorem dX7_whoDid_2 : decode mX7_whoDid.2.1 2 = .ok (.iconst 0, 1) := by decide +kernel
theorem dX7_whoDid_3 : decode mX7_whoDid.2.1 3 = .ok (.istore_n 3, 1) := by decide +kernel
theorem dX7_whoDid_4 : decode mX7_whoDid.2.1 4 = .ok (.iload_n 3, 1) := by decide +kernel
theorem dX7_whoDid_5 : decode mX7_whoDid.2.1 5 = .ok (.aload_n 0, 1) := by decide +kernel
theorem dX7_whoDid_6 : decode mX7_whoDid.2.1 6 = .ok (.getfield 76, 3) := by decide +kernel
theorem dX7_whoDid_9 : decode mX7_whoDid.2.1 9 = .ok (.if_icmp .ge 35, 3) := by decide +kernel
theorem dX7_whoDid_12 : decode mX7_whoDid.2.1 12 = .ok (.iload_n 2, 1) := by decide +kernel
theorem dX7_whoDid_13 : decode mX7_whoDid.2.1 13 = .ok (.aload_n 0, 1) := by decide +kernel
theorem dX7_whoDid_14 : decode mX7_whoDid.2.1 14 = .ok (.getfield 26, 3) := by decide +kernel
theorem dX7_whoDid_17 : decode mX7_whoDid.2.1 17 = .ok (.bipush 9, 2) := by decide +kernel
theorem dX7_whoDid_19 : decode mX7_whoDid.2.1 19 = .ok (.iload_n 3, 1) := by decide +kernel
theorem dX7_whoDid_20 : decode mX7_whoDid.2.1 20 = .ok (.iadd, 1) := by decide +kernel
theorem dX7_whoDid_21 : decode mX7_whoDid.2.1 21 = .ok (.iaload, 1) := by decide +kernel
theorem dX7_whoDid_22 : decode mX7_whoDid.2.1 22 = .ok (.iload_n 1, 1) := by decide +kernel
theorem dX7_whoDid_23 : decode mX7_whoDid.2.1 23 = .ok (.invokestatic 119, 3) := by decide +kernel
theorem dX7_whoDid_26 : decode mX7_whoDid.2.1 26 = .ok (.ifCond .eq 9, 3) := by decide +kernel
theorem dX7_whoDid_29 : decode mX7_whoDid.2.1 29 = .ok (.iconst 1, 1) := by decide +kernel
theorem dX7_whoDid_30 : decode mX7_whoDid.2.1 30 = .ok (.iload_n 3, 1) := by decide +kernel
theorem dX7_whoDid_31 : decode mX7_whoDid.2.1 31 = .ok (.ishl, 1) := by decide +kernel
theorem dX7_whoDid_32 : decode mX7_whoDid.2.1 32 = .ok (.goto 4, 3) := by decide +kernel
theorem dX7_whoDid_35 : decode mX7_whoDid.2.1 35 = .ok (.iconst 0, 1) := by decide +kernel
theorem dX7_whoDid_36 : decode mX7_whoDid.2.1 36 = .ok (.ior, 1) := by decide +kernel
theorem dX7_whoDid_37 : decode mX7_whoDid.2.1 37 = .ok (.istore_n 2, 1) := by decide +kernel
theorem dX7_whoDid_38 : decode mX7_whoDid.2.1 38 = .ok (.iinc 3 1, 3) := by decide +kernel
theorem dX7_whoDid_41 : decode mX7_whoDid.2.1 41 = .ok (.goto (-37), 3) := by decide +kernel
theorem dX7_whoDid_44 : decode mX7_whoDid.2.1 44 = .ok (.iload_n 2, 1) := by decide +kernel
theorem dX7_whoDid_45 : decode mX7_whoDid.2.1 45 = .ok (.ireturn, 1) := by decide +kernel
theorem dX7_deed_0 : decode mX7_deed.2.1 0 = .ok (.aload_n 0, 1) := by decide +kernel
theorem dX7_deed_1 : decode mX7_deed.2.1 1 = .ok (.iload_n 1, 1) := by decide +kernel
theorem dX7_deed_2 : decode mX7_deed.2.1 2 = .ok (.invokevirtual 182, 3) := by decide +kernel
theorem dX7_deed_5 : decode mX7_deed.2.1 5 = .ok (.ifCond .eq 12, 3) := by decide +kernel
theorem dX7_deed_8 : decode mX7_deed.2.1 8 = .ok (.iload_n 2, 1) := by decide +kernel
theorem dX7_deed_9 : decode mX7_deed.2.1 9 = .ok (.iconst 0, 1) := by decide +kernel
theorem dX7_deed_10 : decode mX7_deed.2.1 10 = .ok (.iconst 1, 1) := by decide +kernel
theorem dX7_deed_11 : decode mX7_deed.2.1 11 = .ok (.invokestatic 72, 3) := by decide +kernel
theorem dX7_deed_14 : decode mX7_deed.2.1 14 = .ok (.ifCond .ne 6, 3) := by decide +kernel
theorem dX7_deed_17 : decode mX7_deed.2.1 17 = .ok (.ldc 185, 2) := by decide +kernel
theorem dX7_deed_19 : decode mX7_deed.2.1 19 = .ok (.ireturn, 1) := by decide +kernel
theorem dX7_deed_20 : decode mX7_deed.2.1 20 = .ok (.iload_n 2, 1) := by decide +kernel
theorem dX7_deed_21 : decode mX7_deed.2.1 21 = .ok (.ifCond .ne 12, 3) := by decide +kernel
theorem dX7_deed_24 : decode mX7_deed.2.1 24 = .ok (.aload_n 0, 1) := by decide +kernel
theorem dX7_deed_25 : decode mX7_deed.2.1 25 = .ok (.getfield 7, 3) := by decide +kernel
theorem dX7_deed_28 : decode mX7_deed.2.1 28 = .ok (.iload_n 1, 1) := by decide +kernel
theorem dX7_deed_29 : decode mX7_deed.2.1 29 = .ok (.iaload, 1) := by decide +kernel
theorem dX7_deed_30 : decode mX7_deed.2.1 30 = .ok (.goto 8, 3) := by decide +kernel
theorem dX7_deed_33 : decode mX7_deed.2.1 33 = .ok (.aload_n 0, 1) := by decide +kernel
theorem dX7_deed_34 : decode mX7_deed.2.1 34 = .ok (.iload_n 1, 1) := by decide +kernel
theorem dX7_deed_35 : decode mX7_deed.2.1 35 = .ok (.invokevirtual 186, 3) := by decide +kernel
theorem dX7_deed_38 : decode mX7_deed.2.1 38 = .ok (.ireturn, 1) := by decide +kernel
theorem dX7_dead_0 : decode mX7_dead.2.1 0 = .ok (.aload_n 0, 1) := by decide +kernel
theorem dX7_dead_1 : decode mX7_dead.2.1 1 = .ok (.iload_n 1, 1) := by decide +kernel
theorem dX7_dead_2 : decode mX7_dead.2.1 2 = .ok (.invokevirtual 189, 3) := by decide +kernel
theorem dX7_dead_5 : decode mX7_dead.2.1 5 = .ok (.ifCond .ne 6, 3) := by decide +kernel
theorem dX7_dead_8 : decode mX7_dead.2.1 8 = .ok (.ldc 185, 2) := by decide +kernel
theorem dX7_dead_10 : decode mX7_dead.2.1 10 = .ok (.ireturn, 1) := by decide +kernel
theorem dX7_dead_11 : decode mX7_dead.2.1 11 = .ok (.aload_n 0, 1) := by decide +kernel
theorem dX7_dead_12 : decode mX7_dead.2.1 12 = .ok (.invokevirtual 176, 3) := by decide +kernel
theorem dX7_dead_15 : decode mX7_dead.2.1 15 = .ok (.iload_n 2, 1) := by decide +kernel
theorem dX7_dead_16 : decode mX7_dead.2.1 16 = .ok (.tableswitch 145 0 7 #[48, 55, 64, 74, 88, 94, 104, 110], 48) := by decide +kernel
theorem dX7_dead_64 : decode mX7_dead.2.1 64 = .ok (.aload_n 0, 1) := by decide +kernel
theorem dX7_dead_65 : decode mX7_dead.2.1 65 = .ok (.getfield 13, 3) := by decide +kernel
theorem dX7_dead_68 : decode mX7_dead.2.1 68 = .ok (.iload_n 1, 1) := by decide +kernel
theorem dX7_dead_69 : decode mX7_dead.2.1 69 = .ok (.iaload, 1) := by decide +kernel
theorem dX7_dead_70 : decode mX7_dead.2.1 70 = .ok (.ireturn, 1) := by decide +kernel
theorem dX7_dead_71 : decode mX7_dead.2.1 71 = .ok (.aload_n 0, 1) := by decide +kernel
theorem dX7_dead_72 : decode mX7_dead.2.1 72 = .ok (.getfield 26, 3) := by decide +kernel
theorem dX7_dead_75 : decode mX7_dead.2.1 75 = .ok (.iconst 3, 1) := by decide +kernel
theorem dX7_dead_76 : decode mX7_dead.2.1 76 = .ok (.iload_n 1, 1) := by decide +kernel
theorem dX7_dead_77 : decode mX7_dead.2.1 77 = .ok (.iadd, 1) := by decide +kernel
theorem dX7_dead_78 : decode mX7_dead.2.1 78 = .ok (.iaload, 1) := by decide +kernel
theorem dX7_dead_79 : decode mX7_dead.2.1 79 = .ok (.ireturn, 1) := by decide +kernel
theorem dX7_dead_80 : decode mX7_dead.2.1 80 = .ok (.aload_n 0, 1) := by decide +kernel
theorem dX7_dead_81 : decode mX7_dead.2.1 81 = .ok (.getfield 26, 3) := by decide +kernel
theorem dX7_dead_84 : decode mX7_dead.2.1 84 = .ok (.bipush 9, 2) := by decide +kernel
theorem dX7_dead_86 : decode mX7_dead.2.1 86 = .ok (.iload_n 1, 1) := by decide +kernel
theorem dX7_dead_87 : decode mX7_dead.2.1 87 = .ok (.iadd, 1) := by decide +kernel
theorem dX7_dead_88 : decode mX7_dead.2.1 88 = .ok (.iaload, 1) := by decide +kernel
theorem dX7_dead_89 : decode mX7_dead.2.1 89 = .ok (.ireturn, 1) := by decide +kernel
theorem dX7_dead_90 : decode mX7_dead.2.1 90 = .ok (.aload_n 0, 1) := by decide +kernel
theorem dX7_dead_91 : decode mX7_dead.2.1 91 = .ok (.aload_n 0, 1) := by decide +kernel
theorem dX7_dead_92 : decode mX7_dead.2.1 92 = .ok (.getfield 26, 3) := by decide +kernel
theorem dX7_dead_95 : decode mX7_dead.2.1 95 = .ok (.bipush 9, 2) := by decide +kernel
theorem dX7_dead_97 : decode mX7_dead.2.1 97 = .ok (.iload_n 1, 1) := by decide +kernel
theorem dX7_dead_98 : decode mX7_dead.2.1 98 = .ok (.iadd, 1) := by decide +kernel
theorem dX7_dead_99 : decode mX7_dead.2.1 99 = .ok (.iaload, 1) := by decide +kernel
theorem dX7_dead_100 : decode mX7_dead.2.1 100 = .ok (.invokevirtual 164, 3) := by decide +kernel
theorem dX7_dead_103 : decode mX7_dead.2.1 103 = .ok (.ireturn, 1) := by decide +kernel
theorem dX7_dead_104 : decode mX7_dead.2.1 104 = .ok (.aload_n 0, 1) := by decide +kernel
theorem dX7_dead_105 : decode mX7_dead.2.1 105 = .ok (.iload_n 1, 1) := by decide +kernel
theorem dX7_dead_106 : decode mX7_dead.2.1 106 = .ok (.invokevirtual 170, 3) := by decide +kernel
theorem dX7_dead_109 : decode mX7_dead.2.1 109 = .ok (.ireturn, 1) := by decide +kernel
theorem dX7_dead_110 : decode mX7_dead.2.1 110 = .ok (.aload_n 0, 1) := by decide +kernel
theorem dX7_dead_111 : decode mX7_dead.2.1 111 = .ok (.getfield 26, 3) := by decide +kernel
theorem dX7_dead_114 : decode mX7_dead.2.1 114 = .ok (.bipush 15, 2) := by decide +kernel
theorem dX7_dead_116 : decode mX7_dead.2.1 116 = .ok (.iload_n 1, 1) := by decide +kernel
theorem dX7_dead_117 : decode mX7_dead.2.1 117 = .ok (.iadd, 1) := by decide +kernel
theorem dX7_dead_118 : decode mX7_dead.2.1 118 = .ok (.iaload, 1) := by decide +kernel
theorem dX7_dead_119 : decode mX7_dead.2.1 119 = .ok (.ireturn, 1) := by decide +kernel
theorem dX7_dead_120 : decode mX7_dead.2.1 120 = .ok (.aload_n 0, 1) := by decide +kernel
theorem dX7_dead_121 : decode mX7_dead.2.1 121 = .ok (.iload_n 1, 1) := by decide +kernel
theorem dX7_dead_122 : decode mX7_dead.2.1 122 = .ok (.invokevirtual 192, 3) := by decide +kernel
theorem dX7_dead_125 : decode mX7_dead.2.1 125 = .ok (.ireturn, 1) := by decide +kernel
theorem dX7_dead_126 : decode mX7_dead.2.1 126 = .ok (.aload_n 0, 1) := by decide +kernel
theorem dX7_dead_127 : decode mX7_dead.2.1 127 = .ok (.getfield 26, 3) := by decide +kernel
theorem dX7_dead_130 : decode mX7_dead.2.1 130 = .ok (.bipush 15, 2) := by decide +kernel
theorem dX7_dead_132 : decode mX7_dead.2.1 132 = .ok (.iload_n 1, 1) := by decide +kernel
theorem dX7_dead_133 : decode mX7_dead.2.1 133 = .ok (.iadd, 1) := by decide +kernel
theorem dX7_dead_134 : decode mX7_dead.2.1 134 = .ok (.iaload, 1) := by decide +kernel
theorem dX7_dead_135 : decode mX7_dead.2.1 135 = .ok (.bipush (-9), 2) := by decide +kernel
theorem dX7_dead_137 : decode mX7_dead.2.1 137 = .ok (.if_icmp .ne 8, 3) := by decide +kernel
theorem dX7_dead_140 : decode mX7_dead.2.1 140 = .ok (.ldc 185, 2) := by decide +kernel
theorem dX7_dead_142 : decode mX7_dead.2.1 142 = .ok (.goto 18, 3) := by decide +kernel
theorem dX7_dead_145 : decode mX7_dead.2.1 145 = .ok (.aload_n 0, 1) := by decide +kernel
theorem dX7_dead_146 : decode mX7_dead.2.1 146 = .ok (.getfield 26, 3) := by decide +kernel
theorem dX7_dead_149 : decode mX7_dead.2.1 149 = .ok (.bipush 15, 2) := by decide +kernel
theorem dX7_dead_151 : decode mX7_dead.2.1 151 = .ok (.iload_n 1, 1) := by decide +kernel
theorem dX7_dead_152 : decode mX7_dead.2.1 152 = .ok (.iadd, 1) := by decide +kernel
theorem dX7_dead_153 : decode mX7_dead.2.1 153 = .ok (.iaload, 1) := by decide +kernel
theorem dX7_dead_154 : decode mX7_dead.2.1 154 = .ok (.aload_n 0, 1) := by decide +kernel
theorem dX7_dead_155 : decode mX7_dead.2.1 155 = .ok (.iload_n 1, 1) := by decide +kernel
theorem dX7_dead_156 : decode mX7_dead.2.1 156 = .ok (.invokevirtual 167, 3) := by decide +kernel
theorem dX7_dead_159 : decode mX7_dead.2.1 159 = .ok (.isub, 1) := by decide +kernel
theorem dX7_dead_160 : decode mX7_dead.2.1 160 = .ok (.ireturn, 1) := by decide +kernel
theorem dX7_dead_161 : decode mX7_dead.2.1 161 = .ok (.ldc 185, 2) := by decide +kernel

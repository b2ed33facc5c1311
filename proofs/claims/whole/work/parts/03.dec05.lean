theorem dX7_mayBegin_75 : decode cX7_mayBegin 75 = .ok (.getfield 123, 3) := by decide +kernel
theorem dX7_mayBegin_78 : decode cX7_mayBegin 78 = .ok (.bipush 6, 2) := by decide +kernel
theorem dX7_mayBegin_80 : decode cX7_mayBegin 80 = .ok (.if_icmp .ge 7, 3) := by decide +kernel
theorem dX7_mayBegin_83 : decode cX7_mayBegin 83 = .ok (.iconst 1, 1) := by decide +kernel
theorem dX7_mayBegin_84 : decode cX7_mayBegin 84 = .ok (.goto 4, 3) := by decide +kernel
theorem dX7_mayBegin_87 : decode cX7_mayBegin 87 = .ok (.iconst 0, 1) := by decide +kernel
theorem dX7_mayBegin_88 : decode cX7_mayBegin 88 = .ok (.ireturn, 1) := by decide +kernel
theorem dX7_mayBegin_89 : decode cX7_mayBegin 89 = .ok (.aload_n 0, 1) := by decide +kernel
theorem dX7_mayBegin_90 : decode cX7_mayBegin 90 = .ok (.getfield 126, 3) := by decide +kernel
theorem dX7_mayBegin_93 : decode cX7_mayBegin 93 = .ok (.ifCond .ge 7, 3) := by decide +kernel
theorem dX7_mayBegin_96 : decode cX7_mayBegin 96 = .ok (.iconst 1, 1) := by decide +kernel
theorem dX7_mayBegin_97 : decode cX7_mayBegin 97 = .ok (.goto 4, 3) := by decide +kernel
theorem dX7_mayBegin_100 : decode cX7_mayBegin 100 = .ok (.iconst 0, 1) := by decide +kernel
theorem dX7_mayBegin_101 : decode cX7_mayBegin 101 = .ok (.ireturn, 1) := by decide +kernel
theorem dX7_mayBegin_102 : decode cX7_mayBegin 102 = .ok (.aload_n 0, 1) := by decide +kernel
theorem dX7_mayBegin_103 : decode cX7_mayBegin 103 = .ok (.getfield 129, 3) := by decide +kernel
theorem dX7_mayBegin_106 : decode cX7_mayBegin 106 = .ok (.ifCond .ge 7, 3) := by decide +kernel
theorem dX7_mayBegin_109 : decode cX7_mayBegin 109 = .ok (.iconst 1, 1) := by decide +kernel
theorem dX7_mayBegin_110 : decode cX7_mayBegin 110 = .ok (.goto 4, 3) := by decide +kernel
theorem dX7_mayBegin_113 : decode cX7_mayBegin 113 = .ok (.iconst 0, 1) := by decide +kernel
theorem dX7_mayBegin_114 : decode cX7_mayBegin 114 = .ok (.ireturn, 1) := by decide +kernel
theorem dX7_readBody_0 : decode cX7_readBody 0 = .ok (.iload_n 1, 1) := by decide +kernel
theorem dX7_readBody_1 : decode cX7_readBody 1 = .ok (.lookupswitch 126 #[(98, 82), (100, 43), (108, 75), (112, 111)], 43) := by decide +kernel
theorem dX7_readBody_44 : decode cX7_readBody 44 = .ok (.aload_n 0, 1) := by decide +kernel
theorem dX7_readBody_45 : decode cX7_readBody 45 = .ok (.getfield 45, 3) := by decide +kernel
theorem dX7_readBody_48 : decode cX7_readBody 48 = .ok (.aload_n 0, 1) := by decide +kernel
theorem dX7_readBody_49 : decode cX7_readBody 49 = .ok (.getfield 116, 3) := by decide +kernel
theorem dX7_readBody_52 : decode cX7_readBody 52 = .ok (.aload_n 0, 1) := by decide +kernel
theorem dX7_readBody_53 : decode cX7_readBody 53 = .ok (.iconst 0, 1) := by decide +kernel
theorem dX7_readBody_54 : decode cX7_readBody 54 = .ok (.bipush 40, 2) := by decide +kernel
theorem dX7_readBody_56 : decode cX7_readBody 56 = .ok (.invokevirtual 112, 3) := by decide +kernel
theorem dX7_readBody_59 : decode cX7_readBody 59 = .ok (.bipush 20, 2) := by decide +kernel
theorem dX7_readBody_61 : decode cX7_readBody 61 = .ok (.isub, 1) := by decide +kernel
theorem dX7_readBody_62 : decode cX7_readBody 62 = .ok (.iastore, 1) := by decide +kernel
theorem dX7_readBody_63 : decode cX7_readBody 63 = .ok (.aload_n 0, 1) := by decide +kernel
theorem dX7_readBody_64 : decode cX7_readBody 64 = .ok (.dup, 1) := by decide +kernel
theorem dX7_readBody_65 : decode cX7_readBody 65 = .ok (.getfield 116, 3) := by decide +kernel
theorem dX7_readBody_68 : decode cX7_readBody 68 = .ok (.iconst 1, 1) := by decide +kernel
theorem dX7_readBody_69 : decode cX7_readBody 69 = .ok (.iadd, 1) := by decide +kernel
theorem dX7_readBody_70 : decode cX7_readBody 70 = .ok (.putfield 116, 3) := by decide +kernel
theorem dX7_readBody_73 : decode cX7_readBody 73 = .ok (.goto 65, 3) := by decide +kernel
theorem dX7_readBody_76 : decode cX7_readBody 76 = .ok (.aload_n 0, 1) := by decide +kernel
theorem dX7_readBody_77 : decode cX7_readBody 77 = .ok (.invokevirtual 132, 3) := by decide +kernel
theorem dX7_readBody_80 : decode cX7_readBody 80 = .ok (.goto 58, 3) := by decide +kernel
theorem dX7_readBody_83 : decode cX7_readBody 83 = .ok (.aload_n 0, 1) := by decide +kernel
theorem dX7_readBody_84 : decode cX7_readBody 84 = .ok (.getfield 57, 3) := by decide +kernel
theorem dX7_readBody_87 : decode cX7_readBody 87 = .ok (.aload_n 0, 1) := by decide +kernel
theorem dX7_readBody_88 : decode cX7_readBody 88 = .ok (.getfield 123, 3) := by decide +kernel
theorem dX7_readBody_91 : decode cX7_readBody 91 = .ok (.aload_n 0, 1) := by decide +kernel
theorem dX7_readBody_92 : decode cX7_readBody 92 = .ok (.iconst 1, 1) := by decide +kernel
theorem dX7_readBody_93 : decode cX7_readBody 93 = .ok (.bipush 60, 2) := by decide +kernel
theorem dX7_readBody_95 : decode cX7_readBody 95 = .ok (.invokevirtual 112, 3) := by decide +kernel
theorem dX7_readBody_98 : decode cX7_readBody 98 = .ok (.iastore, 1) := by decide +kernel
theorem dX7_readBody_99 : decode cX7_readBody 99 = .ok (.aload_n 0, 1) := by decide +kernel
theorem dX7_readBody_100 : decode cX7_readBody 100 = .ok (.dup, 1) := by decide +kernel
theorem dX7_readBody_101 : decode cX7_readBody 101 = .ok (.getfield 123, 3) := by decide +kernel
theorem dX7_readBody_104 : decode cX7_readBody 104 = .ok (.iconst 1, 1) := by decide +kernel
theorem dX7_readBody_105 : decode cX7_readBody 105 = .ok (.iadd, 1) := by decide +kernel
theorem dX7_readBody_106 : decode cX7_readBody 106 = .ok (.putfield 123, 3) := by decide +kernel
theorem dX7_readBody_109 : decode cX7_readBody 109 = .ok (.goto 29, 3) := by decide +kernel
theorem dX7_readBody_112 : decode cX7_readBody 112 = .ok (.aload_n 0, 1) := by decide +kernel
theorem dX7_readBody_113 : decode cX7_readBody 113 = .ok (.aload_n 0, 1) := by decide +kernel
theorem dX7_readBody_114 : decode cX7_readBody 114 = .ok (.bipush 10, 2) := by decide +kernel
theorem dX7_readBody_116 : decode cX7_readBody 116 = .ok (.bipush 99, 2) := by decide +kernel
theorem dX7_readBody_118 : decode cX7_readBody 118 = .ok (.invokevirtual 112, 3) := by decide +kernel
theorem dX7_readBody_121 : decode cX7_readBody 121 = .ok (.putfield 126, 3) := by decide +kernel
theorem dX7_readBody_124 : decode cX7_readBody 124 = .ok (.goto 14, 3) := by decide +kernel
theorem dX7_readBody_127 : decode cX7_readBody 127 = .ok (.aload_n 0, 1) := by decide +kernel
theorem dX7_readBody_128 : decode cX7_readBody 128 = .ok (.aload_n 0, 1) := by decide +kernel
theorem dX7_readBody_129 : decode cX7_readBody 129 = .ok (.iconst 0, 1) := by decide +kernel
theorem dX7_readBody_130 : decode cX7_readBody 130 = .ok (.bipush 9, 2) := by decide +kernel
theorem dX7_readBody_132 : decode cX7_readBody 132 = .ok (.invokevirtual 112, 3) := by decide +kernel
theorem dX7_readBody_135 : decode cX7_readBody 135 = .ok (.putfield 129, 3) := by decide +kernel
theorem dX7_readBody_138 : decode cX7_readBody 138 = .ok (.return_, 1) := by decide +kernel
theorem dX7_readItem_0 : decode cX7_readItem 0 = .ok (.aload_n 0, 1) := by decide +kernel
theorem dX7_readItem_1 : decode cX7_readItem 1 = .ok (.getfield 92, 3) := by decide +kernel
theorem dX7_readItem_4 : decode cX7_readItem 4 = .ok (.istore_n 1, 1) := by decide +kernel
theorem dX7_readItem_5 : decode cX7_readItem 5 = .ok (.aload_n 0, 1) := by decide +kernel
theorem dX7_readItem_6 : decode cX7_readItem 6 = .ok (.getfield 95, 3) := by decide +kernel
theorem dX7_readItem_9 : decode cX7_readItem 9 = .ok (.iconst 1, 1) := by decide +kernel
theorem dX7_readItem_10 : decode cX7_readItem 10 = .ok (.if_icmp .ne 11, 3) := by decide +kernel
theorem dX7_readItem_13 : decode cX7_readItem 13 = .ok (.aload_n 0, 1) := by decide +kernel
theorem dX7_readItem_14 : decode cX7_readItem 14 = .ok (.iload_n 1, 1) := by decide +kernel
theorem dX7_readItem_15 : decode cX7_readItem 15 = .ok (.invokevirtual 135, 3) := by decide +kernel
theorem dX7_readItem_18 : decode cX7_readItem 18 = .ok (.ifCond .ne 9, 3) := by decide +kernel
theorem dX7_readItem_21 : decode cX7_readItem 21 = .ok (.aload_n 0, 1) := by decide +kernel
theorem dX7_readItem_22 : decode cX7_readItem 22 = .ok (.iconst 1, 1) := by decide +kernel
theorem dX7_readItem_23 : decode cX7_readItem 23 = .ok (.putfield 102, 3) := by decide +kernel
theorem dX7_readItem_26 : decode cX7_readItem 26 = .ok (.return_, 1) := by decide +kernel
theorem dX7_readItem_27 : decode cX7_readItem 27 = .ok (.aload_n 0, 1) := by decide +kernel
theorem dX7_readItem_28 : decode cX7_readItem 28 = .ok (.invokevirtual 106, 3) := by decide +kernel
theorem dX7_readItem_31 : decode cX7_readItem 31 = .ok (.aload_n 0, 1) := by decide +kernel
theorem dX7_readItem_32 : decode cX7_readItem 32 = .ok (.iload_n 1, 1) := by decide +kernel
theorem dX7_readItem_33 : decode cX7_readItem 33 = .ok (.invokevirtual 138, 3) := by decide +kernel
theorem dX7_readItem_36 : decode cX7_readItem 36 = .ok (.aload_n 0, 1) := by decide +kernel
theorem dX7_readItem_37 : decode cX7_readItem 37 = .ok (.aload_n 0, 1) := by decide +kernel
theorem dX7_readItem_38 : decode cX7_readItem 38 = .ok (.getfield 102, 3) := by decide +kernel
theorem dX7_readItem_41 : decode cX7_readItem 41 = .ok (.ifCond .ne 11, 3) := by decide +kernel
theorem dX7_readItem_44 : decode cX7_readItem 44 = .ok (.aload_n 0, 1) := by decide +kernel
theorem dX7_readItem_45 : decode cX7_readItem 45 = .ok (.getfield 95, 3) := by decide +kernel
theorem dX7_readItem_48 : decode cX7_readItem 48 = .ok (.iconst 3, 1) := by decide +kernel
theorem dX7_readItem_49 : decode cX7_readItem 49 = .ok (.if_icmp .eq 7, 3) := by decide +kernel
theorem dX7_readItem_52 : decode cX7_readItem 52 = .ok (.iconst 1, 1) := by decide +kernel
theorem dX7_readItem_53 : decode cX7_readItem 53 = .ok (.goto 4, 3) := by decide +kernel
theorem dX7_readItem_56 : decode cX7_readItem 56 = .ok (.iconst 0, 1) := by decide +kernel
theorem dX7_readItem_57 : decode cX7_readItem 57 = .ok (.putfield 102, 3) := by decide +kernel
theorem dX7_readItem_60 : decode cX7_readItem 60 = .ok (.aload_n 0, 1) := by decide +kernel
theorem dX7_readItem_61 : decode cX7_readItem 61 = .ok (.getfield 102, 3) := by decide +kernel
theorem dX7_readItem_64 : decode cX7_readItem 64 = .ok (.ifCond .ne 7, 3) := by decide +kernel
theorem dX7_readItem_67 : decode cX7_readItem 67 = .ok (.aload_n 0, 1) := by decide +kernel
theorem dX7_readItem_68 : decode cX7_readItem 68 = .ok (.invokevirtual 106, 3) := by decide +kernel
theorem dX7_readItem_71 : decode cX7_readItem 71 = .ok (.return_, 1) := by decide +kernel
theorem dX7_gate_0 : decode cX7_gate 0 = .ok (.aload_n 0, 1) := by decide +kernel
theorem dX7_gate_1 : decode cX7_gate 1 = .ok (.iconst 0, 1) := by decide +kernel
theorem dX7_gate_2 : decode cX7_gate 2 = .ok (.putfield 82, 3) := by decide +kernel
theorem dX7_gate_5 : decode cX7_gate 5 = .ok (.aload_n 0, 1) := by decide +kernel
theorem dX7_gate_6 : decode cX7_gate 6 = .ok (.iconst 0, 1) := by decide +kernel
theorem dX7_gate_7 : decode cX7_gate 7 = .ok (.putfield 102, 3) := by decide +kernel
theorem dX7_gate_10 : decode cX7_gate 10 = .ok (.aload_n 0, 1) := by decide +kernel
theorem dX7_gate_11 : decode cX7_gate 11 = .ok (.iconst 0, 1) := by decide +kernel
theorem dX7_gate_12 : decode cX7_gate 12 = .ok (.putfield 142, 3) := by decide +kernel
theorem dX7_gate_15 : decode cX7_gate 15 = .ok (.aload_n 0, 1) := by decide +kernel
theorem dX7_gate_16 : decode cX7_gate 16 = .ok (.iconst 0, 1) := by decide +kernel
theorem dX7_gate_17 : decode cX7_gate 17 = .ok (.putfield 116, 3) := by decide +kernel
theorem dX7_gate_20 : decode cX7_gate 20 = .ok (.aload_n 0, 1) := by decide +kernel
theorem dX7_gate_21 : decode cX7_gate 21 = .ok (.iconst 0, 1) := by decide +kernel
theorem dX7_gate_22 : decode cX7_gate 22 = .ok (.putfield 109, 3) := by decide +kernel
theorem dX7_gate_25 : decode cX7_gate 25 = .ok (.aload_n 0, 1) := by decide +kernel
theorem dX7_gate_26 : decode cX7_gate 26 = .ok (.iconst 0, 1) := by decide +kernel
theorem dX7_gate_27 : decode cX7_gate 27 = .ok (.putfield 123, 3) := by decide +kernel
theorem dX7_gate_30 : decode cX7_gate 30 = .ok (.aload_n 0, 1) := by decide +kernel
theorem dX7_gate_31 : decode cX7_gate 31 = .ok (.iconst (-1), 1) := by decide +kernel
theorem dX7_gate_32 : decode cX7_gate 32 = .ok (.putfield 126, 3) := by decide +kernel
theorem dX7_gate_35 : decode cX7_gate 35 = .ok (.aload_n 0, 1) := by decide +kernel
theorem dX7_gate_36 : decode cX7_gate 36 = .ok (.iconst (-1), 1) := by decide +kernel
theorem dX7_gate_37 : decode cX7_gate 37 = .ok (.putfield 129, 3) := by decide +kernel
theorem dX7_gate_40 : decode cX7_gate 40 = .ok (.aload_n 0, 1) := by decide +kernel
theorem dX7_gate_41 : decode cX7_gate 41 = .ok (.invokevirtual 106, 3) := by decide +kernel
theorem dX7_gate_44 : decode cX7_gate 44 = .ok (.aload_n 0, 1) := by decide +kernel
theorem dX7_gate_45 : decode cX7_gate 45 = .ok (.getfield 95, 3) := by decide +kernel
theorem dX7_gate_48 : decode cX7_gate 48 = .ok (.ifCond .eq 27, 3) := by decide +kernel
theorem dX7_gate_51 : decode cX7_gate 51 = .ok (.aload_n 0, 1) := by decide +kernel
theorem dX7_gate_52 : decode cX7_gate 52 = .ok (.getfield 102, 3) := by decide +kernel
theorem dX7_gate_55 : decode cX7_gate 55 = .ok (.ifCond .ne 20, 3) := by decide +kernel
theorem dX7_gate_58 : decode cX7_gate 58 = .ok (.aload_n 0, 1) := by decide +kernel
theorem dX7_gate_59 : decode cX7_gate 59 = .ok (.invokevirtual 145, 3) := by decide +kernel
theorem dX7_gate_62 : decode cX7_gate 62 = .ok (.aload_n 0, 1) := by decide +kernel
theorem dX7_gate_63 : decode cX7_gate 63 = .ok (.dup, 1) := by decide +kernel
theorem dX7_gate_64 : decode cX7_gate 64 = .ok (.getfield 142, 3) := by decide +kernel
theorem dX7_gate_67 : decode cX7_gate 67 = .ok (.iconst 1, 1) := by decide +kernel
theorem dX7_gate_68 : decode cX7_gate 68 = .ok (.iadd, 1) := by decide +kernel
theorem dX7_gate_69 : decode cX7_gate 69 = .ok (.putfield 142, 3) := by decide +kernel
theorem dX7_gate_72 : decode cX7_gate 72 = .ok (.goto (-28), 3) := by decide +kernel
theorem dX7_gate_75 : decode cX7_gate 75 = .ok (.aload_n 0, 1) := by decide +kernel
theorem dX7_gate_76 : decode cX7_gate 76 = .ok (.getfield 102, 3) := by decide +kernel
theorem dX7_gate_79 : decode cX7_gate 79 = .ok (.ifCond .eq 11, 3) := by decide +kernel
theorem dX7_gate_82 : decode cX7_gate 82 = .ok (.bipush (-10), 2) := by decide +kernel
theorem dX7_gate_84 : decode cX7_gate 84 = .ok (.aload_n 0, 1) := by decide +kernel
theorem dX7_gate_85 : decode cX7_gate 85 = .ok (.getfield 89, 3) := by decide +kernel
theorem dX7_gate_88 : decode cX7_gate 88 = .ok (.isub, 1) := by decide +kernel
theorem dX7_gate_89 : decode cX7_gate 89 = .ok (.ireturn, 1) := by decide +kernel
theorem dX7_gate_90 : decode cX7_gate 90 = .ok (.aload_n 0, 1) := by decide +kernel
theorem dX7_gate_91 : decode cX7_gate 91 = .ok (.invokevirtual 148, 3) := by decide +kernel
theorem dX7_gate_94 : decode cX7_gate 94 = .ok (.aload_n 0, 1) := by decide +kernel
theorem dX7_gate_95 : decode cX7_gate 95 = .ok (.getfield 142, 3) := by decide +kernel
theorem dX7_gate_98 : decode cX7_gate 98 = .ok (.ireturn, 1) := by decide +kernel
theorem dX7_settles_0 : decode cX7_settles 0 = .ok (.aload_n 0, 1) := by decide +kernel
theorem dX7_settles_1 : decode cX7_settles 1 = .ok (.aload_n 0, 1) := by decide +kernel
theorem dX7_settles_2 : decode cX7_settles 2 = .ok (.getfield 116, 3) := by decide +kernel
theorem dX7_settles_5 : decode cX7_settles 5 = .ok (.putfield 69, 3) := by decide +kernel
theorem dX7_settles_8 : decode cX7_settles 8 = .ok (.aload_n 0, 1) := by decide +kernel
theorem dX7_settles_9 : decode cX7_settles 9 = .ok (.aload_n 0, 1) := by decide +kernel
theorem dX7_settles_10 : decode cX7_settles 10 = .ok (.getfield 109, 3) := by decide +kernel
theorem dX7_settles_13 : decode cX7_settles 13 = .ok (.putfield 76, 3) := by decide +kernel
theorem dX7_settles_16 : decode cX7_settles 16 = .ok (.aload_n 0, 1) := by decide +kernel
theorem dX7_settles_17 : decode cX7_settles 17 = .ok (.aload_n 0, 1) := by decide +kernel
theorem dX7_settles_18 : decode cX7_settles 18 = .ok (.getfield 123, 3) := by decide +kernel
theorem dX7_settles_21 : decode cX7_settles 21 = .ok (.putfield 151, 3) := by decide +kernel
theorem dX7_settles_24 : decode cX7_settles 24 = .ok (.aload_n 0, 1) := by decide +kernel
theorem dX7_settles_25 : decode cX7_settles 25 = .ok (.aload_n 0, 1) := by decide +kernel
theorem dX7_settles_26 : decode cX7_settles 26 = .ok (.getfield 126, 3) := by decide +kernel
theorem dX7_settles_29 : decode cX7_settles 29 = .ok (.ifCond .ge 8, 3) := by decide +kernel
theorem dX7_settles_32 : decode cX7_settles 32 = .ok (.bipush 80, 2) := by decide +kernel
theorem dX7_settles_34 : decode cX7_settles 34 = .ok (.goto 7, 3) := by decide +kernel
theorem dX7_settles_37 : decode cX7_settles 37 = .ok (.aload_n 0, 1) := by decide +kernel
theorem dX7_settles_38 : decode cX7_settles 38 = .ok (.getfield 126, 3) := by decide +kernel
theorem dX7_settles_41 : decode cX7_settles 41 = .ok (.putfield 19, 3) := by decide +kernel
theorem dX7_settles_44 : decode cX7_settles 44 = .ok (.aload_n 0, 1) := by decide +kernel
theorem dX7_settles_45 : decode cX7_settles 45 = .ok (.aload_n 0, 1) := by decide +kernel
theorem dX7_settles_46 : decode cX7_settles 46 = .ok (.getfield 129, 3) := by decide +kernel
theorem dX7_settles_49 : decode cX7_settles 49 = .ok (.ifCond .ge 7, 3) := by decide +kernel
theorem dX7_settles_52 : decode cX7_settles 52 = .ok (.iconst 2, 1) := by decide +kernel
theorem dX7_settles_53 : decode cX7_settles 53 = .ok (.goto 7, 3) := by decide +kernel
theorem dX7_settles_56 : decode cX7_settles 56 = .ok (.aload_n 0, 1) := by decide +kernel
theorem dX7_settles_57 : decode cX7_settles 57 = .ok (.getfield 129, 3) := by decide +kernel
theorem dX7_settles_60 : decode cX7_settles 60 = .ok (.putfield 23, 3) := by decide +kernel
theorem dX7_settles_63 : decode cX7_settles 63 = .ok (.aload_n 0, 1) := by decide +kernel
theorem dX7_settles_64 : decode cX7_settles 64 = .ok (.getfield 26, 3) := by decide +kernel
theorem dX7_settles_67 : decode cX7_settles 67 = .ok (.iconst 0, 1) := by decide +kernel
theorem dX7_settles_68 : decode cX7_settles 68 = .ok (.iconst 0, 1) := by decide +kernel
theorem dX7_settles_69 : decode cX7_settles 69 = .ok (.iastore, 1) := by decide +kernel
theorem dX7_settles_70 : decode cX7_settles 70 = .ok (.aload_n 0, 1) := by decide +kernel
theorem dX7_settles_71 : decode cX7_settles 71 = .ok (.getfield 26, 3) := by decide +kernel
theorem dX7_settles_74 : decode cX7_settles 74 = .ok (.iconst 1, 1) := by decide +kernel
theorem dX7_settles_75 : decode cX7_settles 75 = .ok (.iconst 0, 1) := by decide +kernel
theorem dX7_settles_76 : decode cX7_settles 76 = .ok (.iastore, 1) := by decide +kernel
theorem dX7_settles_77 : decode cX7_settles 77 = .ok (.aload_n 0, 1) := by decide +kernel
theorem dX7_settles_78 : decode cX7_settles 78 = .ok (.getfield 26, 3) := by decide +kernel
theorem dX7_settles_81 : decode cX7_settles 81 = .ok (.iconst 2, 1) := by decide +kernel
theorem dX7_settles_82 : decode cX7_settles 82 = .ok (.aload_n 0, 1) := by decide +kernel
theorem dX7_settles_83 : decode cX7_settles 83 = .ok (.getfield 23, 3) := by decide +kernel
theorem dX7_settles_86 : decode cX7_settles 86 = .ok (.iastore, 1) := by decide +kernel
theorem dX7_settles_87 : decode cX7_settles 87 = .ok (.iconst 0, 1) := by decide +kernel
theorem dX7_settles_88 : decode cX7_settles 88 = .ok (.istore_n 1, 1) := by decide +kernel
theorem dX7_settles_89 : decode cX7_settles 89 = .ok (.iload_n 1, 1) := by decide +kernel
theorem dX7_settles_90 : decode cX7_settles 90 = .ok (.bipush 6, 2) := by decide +kernel
theorem dX7_settles_92 : decode cX7_settles 92 = .ok (.if_icmp .ge 97, 3) := by decide +kernel
theorem dX7_settles_95 : decode cX7_settles 95 = .ok (.aload_n 0, 1) := by decide +kernel
theorem dX7_settles_96 : decode cX7_settles 96 = .ok (.getfield 7, 3) := by decide +kernel
theorem dX7_settles_99 : decode cX7_settles 99 = .ok (.iload_n 1, 1) := by decide +kernel
theorem dX7_settles_100 : decode cX7_settles 100 = .ok (.aload_n 0, 1) := by decide +kernel
theorem dX7_settles_101 : decode cX7_settles 101 = .ok (.getfield 45, 3) := by decide +kernel
theorem dX7_settles_104 : decode cX7_settles 104 = .ok (.iload_n 1, 1) := by decide +kernel
theorem dX7_settles_105 : decode cX7_settles 105 = .ok (.iaload, 1) := by decide +kernel
theorem dX7_settles_106 : decode cX7_settles 106 = .ok (.iastore, 1) := by decide +kernel
theorem dX7_settles_107 : decode cX7_settles 107 = .ok (.aload_n 0, 1) := by decide +kernel
theorem dX7_settles_108 : decode cX7_settles 108 = .ok (.getfield 13, 3) := by decide +kernel
theorem dX7_settles_111 : decode cX7_settles 111 = .ok (.iload_n 1, 1) := by decide +kernel
theorem dX7_settles_112 : decode cX7_settles 112 = .ok (.aload_n 0, 1) := by decide +kernel
theorem dX7_settles_113 : decode cX7_settles 113 = .ok (.getfield 48, 3) := by decide +kernel
theorem dX7_settles_116 : decode cX7_settles 116 = .ok (.iload_n 1, 1) := by decide +kernel
theorem dX7_settles_117 : decode cX7_settles 117 = .ok (.iaload, 1) := by decide +kernel
theorem dX7_settles_118 : decode cX7_settles 118 = .ok (.iastore, 1) := by decide +kernel
theorem dX7_settles_119 : decode cX7_settles 119 = .ok (.aload_n 0, 1) := by decide +kernel
theorem dX7_settles_120 : decode cX7_settles 120 = .ok (.getfield 16, 3) := by decide +kernel
theorem dX7_settles_123 : decode cX7_settles 123 = .ok (.iload_n 1, 1) := by decide +kernel
theorem dX7_settles_124 : decode cX7_settles 124 = .ok (.aload_n 0, 1) := by decide +kernel
theorem dX7_settles_125 : decode cX7_settles 125 = .ok (.getfield 57, 3) := by decide +kernel
theorem dX7_settles_128 : decode cX7_settles 128 = .ok (.iload_n 1, 1) := by decide +kernel
theorem dX7_settles_129 : decode cX7_settles 129 = .ok (.iaload, 1) := by decide +kernel
theorem dX7_settles_130 : decode cX7_settles 130 = .ok (.iastore, 1) := by decide +kernel
theorem dX7_settles_131 : decode cX7_settles 131 = .ok (.aload_n 0, 1) := by decide +kernel
theorem dX7_settles_132 : decode cX7_settles 132 = .ok (.getfield 26, 3) := by decide +kernel
theorem dX7_settles_135 : decode cX7_settles 135 = .ok (.iconst 3, 1) := by decide +kernel
theorem dX7_settles_136 : decode cX7_settles 136 = .ok (.iload_n 1, 1) := by decide +kernel
theorem dX7_settles_137 : decode cX7_settles 137 = .ok (.iadd, 1) := by decide +kernel
theorem dX7_settles_138 : decode cX7_settles 138 = .ok (.aload_n 0, 1) := by decide +kernel
theorem dX7_settles_139 : decode cX7_settles 139 = .ok (.getfield 51, 3) := by decide +kernel
theorem dX7_settles_142 : decode cX7_settles 142 = .ok (.iload_n 1, 1) := by decide +kernel
theorem dX7_settles_143 : decode cX7_settles 143 = .ok (.iaload, 1) := by decide +kernel
theorem dX7_settles_144 : decode cX7_settles 144 = .ok (.iastore, 1) := by decide +kernel
theorem dX7_settles_145 : decode cX7_settles 145 = .ok (.aload_n 0, 1) := by decide +kernel
theorem dX7_settles_146 : decode cX7_settles 146 = .ok (.getfield 26, 3) := by decide +kernel
theorem dX7_settles_149 : decode cX7_settles 149 = .ok (.bipush 9, 2) := by decide +kernel
theorem dX7_settles_151 : decode cX7_settles 151 = .ok (.iload_n 1, 1) := by decide +kernel
theorem dX7_settles_152 : decode cX7_settles 152 = .ok (.iadd, 1) := by decide +kernel
theorem dX7_settles_153 : decode cX7_settles 153 = .ok (.iload_n 1, 1) := by decide +kernel
theorem dX7_settles_154 : decode cX7_settles 154 = .ok (.aload_n 0, 1) := by decide +kernel
theorem dX7_settles_155 : decode cX7_settles 155 = .ok (.getfield 76, 3) := by decide +kernel
theorem dX7_settles_158 : decode cX7_settles 158 = .ok (.if_icmp .ge 12, 3) := by decide +kernel
theorem dX7_settles_161 : decode cX7_settles 161 = .ok (.aload_n 0, 1) := by decide +kernel
theorem dX7_settles_162 : decode cX7_settles 162 = .ok (.getfield 54, 3) := by decide +kernel
theorem dX7_settles_165 : decode cX7_settles 165 = .ok (.iload_n 1, 1) := by decide +kernel
theorem dX7_settles_166 : decode cX7_settles 166 = .ok (.iaload, 1) := by decide +kernel
theorem dX7_settles_167 : decode cX7_settles 167 = .ok (.goto 4, 3) := by decide +kernel
theorem dX7_settles_170 : decode cX7_settles 170 = .ok (.iconst 0, 1) := by decide +kernel
theorem dX7_settles_171 : decode cX7_settles 171 = .ok (.iastore, 1) := by decide +kernel
theorem dX7_settles_172 : decode cX7_settles 172 = .ok (.aload_n 0, 1) := by decide +kernel
theorem dX7_settles_173 : decode cX7_settles 173 = .ok (.getfield 26, 3) := by decide +kernel
theorem dX7_settles_176 : decode cX7_settles 176 = .ok (.bipush 15, 2) := by decide +kernel
theorem dX7_settles_178 : decode cX7_settles 178 = .ok (.iload_n 1, 1) := by decide +kernel
theorem dX7_settles_179 : decode cX7_settles 179 = .ok (.iadd, 1) := by decide +kernel
theorem dX7_settles_180 : decode cX7_settles 180 = .ok (.bipush (-9), 2) := by decide +kernel
theorem dX7_settles_182 : decode cX7_settles 182 = .ok (.iastore, 1) := by decide +kernel
theorem dX7_settles_183 : decode cX7_settles 183 = .ok (.iinc 1 1, 3) := by decide +kernel
theorem dX7_settles_186 : decode cX7_settles 186 = .ok (.goto (-97), 3) := by decide +kernel
theorem dX7_settles_189 : decode cX7_settles 189 = .ok (.aload_n 0, 1) := by decide +kernel
theorem dX7_settles_190 : decode cX7_settles 190 = .ok (.iconst 0, 1) := by decide +kernel
theorem dX7_settles_191 : decode cX7_settles 191 = .ok (.putfield 154, 3) := by decide +kernel
theorem dX7_settles_194 : decode cX7_settles 194 = .ok (.aload_n 0, 1) := by decide +kernel
theorem dX7_settles_195 : decode cX7_settles 195 = .ok (.iconst 0, 1) := by decide +kernel
theorem dX7_settles_196 : decode cX7_settles 196 = .ok (.putfield 157, 3) := by decide +kernel
theorem dX7_settles_199 : decode cX7_settles 199 = .ok (.aload_n 0, 1) := by decide +kernel
theorem dX7_settles_200 : decode cX7_settles 200 = .ok (.getfield 35, 3) := by decide +kernel
theorem dX7_settles_203 : decode cX7_settles 203 = .ok (.iconst 0, 1) := by decide +kernel
theorem dX7_settles_204 : decode cX7_settles 204 = .ok (.iconst 0, 1) := by decide +kernel
theorem dX7_settles_205 : decode cX7_settles 205 = .ok (.bastore, 1) := by decide +kernel
theorem dX7_settles_206 : decode cX7_settles 206 = .ok (.aload_n 0, 1) := by decide +kernel
theorem dX7_settles_207 : decode cX7_settles 207 = .ok (.getfield 35, 3) := by decide +kernel
theorem dX7_settles_210 : decode cX7_settles 210 = .ok (.iconst 1, 1) := by decide +kernel
theorem dX7_settles_211 : decode cX7_settles 211 = .ok (.iconst 0, 1) := by decide +kernel
theorem dX7_settles_212 : decode cX7_settles 212 = .ok (.bastore, 1) := by decide +kernel
theorem dX7_settles_213 : decode cX7_settles 213 = .ok (.aload_n 0, 1) := by decide +kernel
theorem dX7_settles_214 : decode cX7_settles 214 = .ok (.iconst 0, 1) := by decide +kernel
theorem dX7_settles_215 : decode cX7_settles 215 = .ok (.putfield 79, 3) := by decide +kernel
theorem dX7_settles_218 : decode cX7_settles 218 = .ok (.return_, 1) := by decide +kernel
theorem dX7_asItIs_0 : decode cX7_asItIs 0 = .ok (.aload_n 0, 1) := by decide +kernel
theorem dX7_asItIs_1 : decode cX7_asItIs 1 = .ok (.getfield 60, 3) := by decide +kernel
theorem dX7_asItIs_4 : decode cX7_asItIs 4 = .ok (.iconst 0, 1) := by decide +kernel
theorem dX7_asItIs_5 : decode cX7_asItIs 5 = .ok (.aload_n 0, 1) := by decide +kernel
theorem dX7_asItIs_6 : decode cX7_asItIs 6 = .ok (.getfield 26, 3) := by decide +kernel
theorem dX7_asItIs_9 : decode cX7_asItIs 9 = .ok (.iconst 0, 1) := by decide +kernel
theorem dX7_asItIs_10 : decode cX7_asItIs 10 = .ok (.invokestatic 160, 3) := by decide +kernel
theorem dX7_asItIs_13 : decode cX7_asItIs 13 = .ok (.return_, 1) := by decide +kernel
theorem dX7_weightOf_0 : decode cX7_weightOf 0 = .ok (.iconst 0, 1) := by decide +kernel
theorem dX7_weightOf_1 : decode cX7_weightOf 1 = .ok (.istore_n 2, 1) := by decide +kernel
theorem dX7_weightOf_2 : decode cX7_weightOf 2 = .ok (.iconst 0, 1) := by decide +kernel
theorem dX7_weightOf_3 : decode cX7_weightOf 3 = .ok (.istore_n 3, 1) := by decide +kernel
theorem dX7_weightOf_4 : decode cX7_weightOf 4 = .ok (.iload_n 3, 1) := by decide +kernel
theorem dX7_weightOf_5 : decode cX7_weightOf 5 = .ok (.aload_n 0, 1) := by decide +kernel
theorem dX7_weightOf_6 : decode cX7_weightOf 6 = .ok (.getfield 69, 3) := by decide +kernel
theorem dX7_weightOf_9 : decode cX7_weightOf 9 = .ok (.if_icmp .ge 30, 3) := by decide +kernel
theorem dX7_weightOf_12 : decode cX7_weightOf 12 = .ok (.iload_n 2, 1) := by decide +kernel
theorem dX7_weightOf_13 : decode cX7_weightOf 13 = .ok (.iload_n 1, 1) := by decide +kernel
theorem dX7_weightOf_14 : decode cX7_weightOf 14 = .ok (.iload_n 3, 1) := by decide +kernel
theorem dX7_weightOf_15 : decode cX7_weightOf 15 = .ok (.invokestatic 119, 3) := by decide +kernel
theorem dX7_weightOf_18 : decode cX7_weightOf 18 = .ok (.ifCond .eq 12, 3) := by decide +kernel
theorem dX7_weightOf_21 : decode cX7_weightOf 21 = .ok (.aload_n 0, 1) := by decide +kernel
theorem dX7_weightOf_22 : decode cX7_weightOf 22 = .ok (.getfield 7, 3) := by decide +kernel
theorem dX7_weightOf_25 : decode cX7_weightOf 25 = .ok (.iload_n 3, 1) := by decide +kernel
theorem dX7_weightOf_26 : decode cX7_weightOf 26 = .ok (.iaload, 1) := by decide +kernel
theorem dX7_weightOf_27 : decode cX7_weightOf 27 = .ok (.goto 4, 3) := by decide +kernel
theorem dX7_weightOf_30 : decode cX7_weightOf 30 = .ok (.iconst 0, 1) := by decide +kernel
theorem dX7_weightOf_31 : decode cX7_weightOf 31 = .ok (.iadd, 1) := by decide +kernel
theorem dX7_weightOf_32 : decode cX7_weightOf 32 = .ok (.istore_n 2, 1) := by decide +kernel
theorem dX7_weightOf_33 : decode cX7_weightOf 33 = .ok (.iinc 3 1, 3) := by decide +kernel
theorem dX7_weightOf_36 : decode cX7_weightOf 36 = .ok (.goto (-32), 3) := by decide +kernel
theorem dX7_weightOf_39 : decode cX7_weightOf 39 = .ok (.iload_n 2, 1) := by decide +kernel
theorem dX7_weightOf_40 : decode cX7_weightOf 40 = .ok (.ireturn, 1) := by decide +kernel
theorem dX7_truly_0 : decode cX7_truly 0 = .ok (.aload_n 0, 1) := by decide +kernel
theorem dX7_truly_1 : decode cX7_truly 1 = .ok (.getfield 13, 3) := by decide +kernel
theorem dX7_truly_4 : decode cX7_truly 4 = .ok (.iload_n 1, 1) := by decide +kernel
theorem dX7_truly_5 : decode cX7_truly 5 = .ok (.iaload, 1) := by decide +kernel
theorem dX7_truly_6 : decode cX7_truly 6 = .ok (.aload_n 0, 1) := by decide +kernel
theorem dX7_truly_7 : decode cX7_truly 7 = .ok (.getfield 60, 3) := by decide +kernel
theorem dX7_truly_10 : decode cX7_truly 10 = .ok (.iconst 3, 1) := by decide +kernel
theorem dX7_truly_11 : decode cX7_truly 11 = .ok (.iload_n 1, 1) := by decide +kernel
theorem dX7_truly_12 : decode cX7_truly 12 = .ok (.iadd, 1) := by decide +kernel
theorem dX7_truly_13 : decode cX7_truly 13 = .ok (.iaload, 1) := by decide +kernel
theorem dX7_truly_14 : decode cX7_truly 14 = .ok (.iadd, 1) := by decide +kernel
theorem dX7_truly_15 : decode cX7_truly 15 = .ok (.aload_n 0, 1) := by decide +kernel
theorem dX7_truly_16 : decode cX7_truly 16 = .ok (.aload_n 0, 1) := by decide +kernel
theorem dX7_truly_17 : decode cX7_truly 17 = .ok (.getfield 60, 3) := by decide +kernel
theorem dX7_truly_20 : decode cX7_truly 20 = .ok (.bipush 9, 2) := by decide +kernel
theorem dX7_truly_22 : decode cX7_truly 22 = .ok (.iload_n 1, 1) := by decide +kernel
theorem dX7_truly_23 : decode cX7_truly 23 = .ok (.iadd, 1) := by decide +kernel
theorem dX7_truly_24 : decode cX7_truly 24 = .ok (.iaload, 1) := by decide +kernel
theorem dX7_truly_25 : decode cX7_truly 25 = .ok (.invokevirtual 164, 3) := by decide +kernel
theorem dX7_truly_28 : decode cX7_truly 28 = .ok (.iadd, 1) := by decide +kernel
theorem dX7_truly_29 : decode cX7_truly 29 = .ok (.ireturn, 1) := by decide +kernel
theorem dX7_loadOf_0 : decode cX7_loadOf 0 = .ok (.aload_n 0, 1) := by decide +kernel
theorem dX7_loadOf_1 : decode cX7_loadOf 1 = .ok (.iload_n 1, 1) := by decide +kernel
theorem dX7_loadOf_2 : decode cX7_loadOf 2 = .ok (.invokevirtual 167, 3) := by decide +kernel
theorem dX7_loadOf_5 : decode cX7_loadOf 5 = .ok (.aload_n 0, 1) := by decide +kernel
theorem dX7_loadOf_6 : decode cX7_loadOf 6 = .ok (.getfield 60, 3) := by decide +kernel
theorem dX7_loadOf_9 : decode cX7_loadOf 9 = .ok (.iconst 1, 1) := by decide +kernel
theorem dX7_loadOf_10 : decode cX7_loadOf 10 = .ok (.iaload, 1) := by decide +kernel
theorem dX7_loadOf_11 : decode cX7_loadOf 11 = .ok (.iadd, 1) := by decide +kernel
theorem dX7_loadOf_12 : decode cX7_loadOf 12 = .ok (.istore_n 2, 1) := by decide +kernel
theorem dX7_loadOf_13 : decode cX7_loadOf 13 = .ok (.iload_n 2, 1) := by decide +kernel
theorem dX7_loadOf_14 : decode cX7_loadOf 14 = .ok (.ifCond .ge 7, 3) := by decide +kernel
theorem dX7_loadOf_17 : decode cX7_loadOf 17 = .ok (.iconst 0, 1) := by decide +kernel
theorem dX7_loadOf_18 : decode cX7_loadOf 18 = .ok (.goto 4, 3) := by decide +kernel
theorem dX7_loadOf_21 : decode cX7_loadOf 21 = .ok (.iload_n 2, 1) := by decide +kernel
theorem dX7_loadOf_22 : decode cX7_loadOf 22 = .ok (.ireturn, 1) := by decide +kernel
theorem dX7_moves_0 : decode cX7_moves 0 = .ok (.iload_n 1, 1) := by decide +kernel
theorem dX7_moves_1 : decode cX7_moves 1 = .ok (.aload_n 0, 1) := by decide +kernel
theorem dX7_moves_2 : decode cX7_moves 2 = .ok (.getfield 60, 3) := by decide +kernel
theorem dX7_moves_5 : decode cX7_moves 5 = .ok (.iconst 2, 1) := by decide +kernel
theorem dX7_moves_6 : decode cX7_moves 6 = .ok (.iaload, 1) := by decide +kernel
theorem dX7_moves_7 : decode cX7_moves 7 = .ok (.isub, 1) := by decide +kernel
theorem dX7_moves_8 : decode cX7_moves 8 = .ok (.istore_n 2, 1) := by decide +kernel
theorem dX7_moves_9 : decode cX7_moves 9 = .ok (.iload_n 1, 1) := by decide +kernel
theorem dX7_moves_10 : decode cX7_moves 10 = .ok (.aload_n 0, 1) := by decide +kernel
theorem dX7_moves_11 : decode cX7_moves 11 = .ok (.getfield 60, 3) := by decide +kernel
theorem dX7_moves_14 : decode cX7_moves 14 = .ok (.iconst 2, 1) := by decide +kernel
theorem dX7_moves_15 : decode cX7_moves 15 = .ok (.iaload, 1) := by decide +kernel
theorem dX7_moves_16 : decode cX7_moves 16 = .ok (.iadd, 1) := by decide +kernel
theorem dX7_moves_17 : decode cX7_moves 17 = .ok (.istore_n 3, 1) := by decide +kernel
theorem dX7_moves_18 : decode cX7_moves 18 = .ok (.aload_n 0, 1) := by decide +kernel
theorem dX7_moves_19 : decode cX7_moves 19 = .ok (.getfield 60, 3) := by decide +kernel
theorem dX7_moves_22 : decode cX7_moves 22 = .ok (.iconst 0, 1) := by decide +kernel
theorem dX7_moves_23 : decode cX7_moves 23 = .ok (.iaload, 1) := by decide +kernel
theorem dX7_moves_24 : decode cX7_moves 24 = .ok (.iload_n 2, 1) := by decide +kernel
theorem dX7_moves_25 : decode cX7_moves 25 = .ok (.if_icmp .ge 7, 3) := by decide +kernel
theorem dX7_moves_28 : decode cX7_moves 28 = .ok (.iload_n 2, 1) := by decide +kernel
theorem dX7_moves_29 : decode cX7_moves 29 = .ok (.goto 23, 3) := by decide +kernel
theorem dX7_moves_32 : decode cX7_moves 32 = .ok (.aload_n 0, 1) := by decide +kernel
theorem dX7_moves_33 : decode cX7_moves 33 = .ok (.getfield 60, 3) := by decide +kernel
theorem dX7_moves_36 : decode cX7_moves 36 = .ok (.iconst 0, 1) := by decide +kernel
theorem dX7_moves_37 : decode cX7_moves 37 = .ok (.iaload, 1) := by decide +kernel
theorem dX7_moves_38 : decode cX7_moves 38 = .ok (.iload_n 3, 1) := by decide +kernel
theorem dX7_moves_39 : decode cX7_moves 39 = .ok (.if_icmp .le 7, 3) := by decide +kernel
theorem dX7_moves_42 : decode cX7_moves 42 = .ok (.iload_n 3, 1) := by decide +kernel
theorem dX7_moves_43 : decode cX7_moves 43 = .ok (.goto 9, 3) := by decide +kernel
theorem dX7_moves_46 : decode cX7_moves 46 = .ok (.aload_n 0, 1) := by decide +kernel
theorem dX7_moves_47 : decode cX7_moves 47 = .ok (.getfield 60, 3) := by decide +kernel
theorem dX7_moves_50 : decode cX7_moves 50 = .ok (.iconst 0, 1) := by decide +kernel
theorem dX7_moves_51 : decode cX7_moves 51 = .ok (.iaload, 1) := by decide +kernel
theorem dX7_moves_52 : decode cX7_moves 52 = .ok (.istore 4, 2) := by decide +kernel
theorem dX7_moves_54 : decode cX7_moves 54 = .ok (.aload_n 0, 1) := by decide +kernel
theorem dX7_moves_55 : decode cX7_moves 55 = .ok (.getfield 60, 3) := by decide +kernel
theorem dX7_moves_58 : decode cX7_moves 58 = .ok (.iconst 0, 1) := by decide +kernel
theorem dX7_moves_59 : decode cX7_moves 59 = .ok (.iload 4, 2) := by decide +kernel
theorem dX7_moves_61 : decode cX7_moves 61 = .ok (.aload_n 0, 1) := by decide +kernel
theorem dX7_moves_62 : decode cX7_moves 62 = .ok (.getfield 19, 3) := by decide +kernel
theorem dX7_moves_65 : decode cX7_moves 65 = .ok (.if_icmp .le 10, 3) := by decide +kernel
theorem dX7_moves_68 : decode cX7_moves 68 = .ok (.aload_n 0, 1) := by decide +kernel
theorem dX7_moves_69 : decode cX7_moves 69 = .ok (.getfield 19, 3) := by decide +kernel
theorem dX7_moves_72 : decode cX7_moves 72 = .ok (.goto 5, 3) := by decide +kernel
theorem dX7_moves_75 : decode cX7_moves 75 = .ok (.iload 4, 2) := by decide +kernel
theorem dX7_moves_77 : decode cX7_moves 77 = .ok (.iastore, 1) := by decide +kernel
theorem dX7_moves_78 : decode cX7_moves 78 = .ok (.return_, 1) := by decide +kernel
theorem dX7_laid_0 : decode cX7_laid 0 = .ok (.aload_n 0, 1) := by decide +kernel
theorem dX7_laid_1 : decode cX7_laid 1 = .ok (.aload_n 0, 1) := by decide +kernel
theorem dX7_laid_2 : decode cX7_laid 2 = .ok (.iload_n 1, 1) := by decide +kernel
theorem dX7_laid_3 : decode cX7_laid 3 = .ok (.invokevirtual 170, 3) := by decide +kernel
theorem dX7_laid_6 : decode cX7_laid 6 = .ok (.invokevirtual 173, 3) := by decide +kernel
theorem dX7_laid_9 : decode cX7_laid 9 = .ok (.aload_n 0, 1) := by decide +kernel
theorem dX7_laid_10 : decode cX7_laid 10 = .ok (.getfield 60, 3) := by decide +kernel
theorem dX7_laid_13 : decode cX7_laid 13 = .ok (.iconst 0, 1) := by decide +kernel
theorem dX7_laid_14 : decode cX7_laid 14 = .ok (.iaload, 1) := by decide +kernel
theorem dX7_laid_15 : decode cX7_laid 15 = .ok (.istore_n 2, 1) := by decide +kernel
theorem dX7_laid_16 : decode cX7_laid 16 = .ok (.aload_n 0, 1) := by decide +kernel
theorem dX7_laid_17 : decode cX7_laid 17 = .ok (.getfield 60, 3) := by decide +kernel
theorem dX7_laid_20 : decode cX7_laid 20 = .ok (.bipush 15, 2) := by decide +kernel
theorem dX7_laid_22 : decode cX7_laid 22 = .ok (.iload_n 1, 1) := by decide +kernel
theorem dX7_laid_23 : decode cX7_laid 23 = .ok (.iadd, 1) := by decide +kernel
theorem dX7_laid_24 : decode cX7_laid 24 = .ok (.iload_n 2, 1) := by decide +kernel
theorem dX7_laid_25 : decode cX7_laid 25 = .ok (.iastore, 1) := by decide +kernel
theorem dX7_laid_26 : decode cX7_laid 26 = .ok (.aload_n 0, 1) := by decide +kernel
theorem dX7_laid_27 : decode cX7_laid 27 = .ok (.iconst 0, 1) := by decide +kernel
theorem dX7_laid_28 : decode cX7_laid 28 = .ok (.invokevirtual 173, 3) := by decide +kernel
theorem dX7_laid_31 : decode cX7_laid 31 = .ok (.aload_n 0, 1) := by decide +kernel
theorem dX7_laid_32 : decode cX7_laid 32 = .ok (.getfield 60, 3) := by decide +kernel
theorem dX7_laid_35 : decode cX7_laid 35 = .ok (.iconst 1, 1) := by decide +kernel
theorem dX7_laid_36 : decode cX7_laid 36 = .ok (.iconst 0, 1) := by decide +kernel
theorem dX7_laid_37 : decode cX7_laid 37 = .ok (.iastore, 1) := by decide +kernel
theorem dX7_laid_38 : decode cX7_laid 38 = .ok (.iload_n 2, 1) := by decide +kernel
theorem dX7_laid_39 : decode cX7_laid 39 = .ok (.ireturn, 1) := by decide +kernel
theorem dX7_readsOf_0 : decode cX7_readsOf 0 = .ok (.aload_n 0, 1) := by decide +kernel
theorem dX7_readsOf_1 : decode cX7_readsOf 1 = .ok (.invokevirtual 176, 3) := by decide +kernel
theorem dX7_readsOf_4 : decode cX7_readsOf 4 = .ok (.aload_n 0, 1) := by decide +kernel
theorem dX7_readsOf_5 : decode cX7_readsOf 5 = .ok (.iload_n 1, 1) := by decide +kernel
theorem dX7_readsOf_6 : decode cX7_readsOf 6 = .ok (.invokevirtual 179, 3) := by decide +kernel
theorem dX7_readsOf_9 : decode cX7_readsOf 9 = .ok (.ireturn, 1) := by decide +kernel
theorem dX7_chalked_0 : decode cX7_chalked 0 = .ok (.iconst 0, 1) := by decide +kernel
theorem dX7_chalked_1 : decode cX7_chalked 1 = .ok (.istore_n 1, 1) := by decide +kernel
theorem dX7_chalked_2 : decode cX7_chalked 2 = .ok (.iconst 0, 1) := by decide +kernel
theorem dX7_chalked_3 : decode cX7_chalked 3 = .ok (.istore_n 2, 1) := by decide +kernel
theorem dX7_chalked_4 : decode cX7_chalked 4 = .ok (.iload_n 2, 1) := by decide +kernel
theorem dX7_chalked_5 : decode cX7_chalked 5 = .ok (.aload_n 0, 1) := by decide +kernel
theorem dX7_chalked_6 : decode cX7_chalked 6 = .ok (.getfield 76, 3) := by decide +kernel
theorem dX7_chalked_9 : decode cX7_chalked 9 = .ok (.if_icmp .ge 33, 3) := by decide +kernel
theorem dX7_chalked_12 : decode cX7_chalked 12 = .ok (.iload_n 1, 1) := by decide +kernel
theorem dX7_chalked_13 : decode cX7_chalked 13 = .ok (.aload_n 0, 1) := by decide +kernel
theorem dX7_chalked_14 : decode cX7_chalked 14 = .ok (.getfield 26, 3) := by decide +kernel
theorem dX7_chalked_17 : decode cX7_chalked 17 = .ok (.bipush 15, 2) := by decide +kernel
theorem dX7_chalked_19 : decode cX7_chalked 19 = .ok (.iload_n 2, 1) := by decide +kernel
theorem dX7_chalked_20 : decode cX7_chalked 20 = .ok (.iadd, 1) := by decide +kernel
theorem dX7_chalked_21 : decode cX7_chalked 21 = .ok (.iaload, 1) := by decide +kernel
theorem dX7_chalked_22 : decode cX7_chalked 22 = .ok (.bipush (-9), 2) := by decide +kernel
theorem dX7_chalked_24 : decode cX7_chalked 24 = .ok (.if_icmp .ne 7, 3) := by decide +kernel
theorem dX7_chalked_27 : decode cX7_chalked 27 = .ok (.iconst 0, 1) := by decide +kernel
theorem dX7_chalked_28 : decode cX7_chalked 28 = .ok (.goto 6, 3) := by decide +kernel
theorem dX7_chalked_31 : decode cX7_chalked 31 = .ok (.iconst 1, 1) := by decide +kernel
theorem dX7_chalked_32 : decode cX7_chalked 32 = .ok (.iload_n 2, 1) := by decide +kernel
theorem dX7_chalked_33 : decode cX7_chalked 33 = .ok (.ishl, 1) := by decide +kernel
theorem dX7_chalked_34 : decode cX7_chalked 34 = .ok (.ior, 1) := by decide +kernel
theorem dX7_chalked_35 : decode cX7_chalked 35 = .ok (.istore_n 1, 1) := by decide +kernel
theorem dX7_chalked_36 : decode cX7_chalked 36 = .ok (.iinc 2 1, 3) := by decide +kernel
theorem dX7_chalked_39 : decode cX7_chalked 39 = .ok (.goto (-35), 3) := by decide +kernel
theorem dX7_chalked_42 : decode cX7_chalked 42 = .ok (.iload_n 1, 1) := by decide +kernel
theorem dX7_chalked_43 : decode cX7_chalked 43 = .ok (.ireturn, 1) := by decide +kernel
theorem dX7_whoDid_0 : decode cX7_whoDid 0 = .ok (.iconst 0, 1) := by decide +kernel
theorem dX7_whoDid_1 : decode cX7_whoDid 1 = .ok (.istore_n 2, 1) := by decide +kernel
theorem dX7_whoDid_2 : decode cX7_whoDid 2 = .ok (.iconst 0, 1) := by decide +kernel
theorem dX7_whoDid_3 : decode cX7_whoDid 3 = .ok (.istore_n 3, 1) := by decide +kernel
theorem dX7_whoDid_4 : decode cX7_whoDid 4 = .ok (.iload_n 3, 1) := by decide +kernel
theorem dX7_whoDid_5 : decode cX7_whoDid 5 = .ok (.aload_n 0, 1) := by decide +kernel
theorem dX7_whoDid_6 : decode cX7_whoDid 6 = .ok (.getfield 76, 3) := by decide +kernel
theorem dX7_whoDid_9 : decode cX7_whoDid 9 = .ok (.if_icmp .ge 35, 3) := by decide +kernel
theorem dX7_whoDid_12 : decode cX7_whoDid 12 = .ok (.iload_n 2, 1) := by decide +kernel
theorem dX7_whoDid_13 : decode cX7_whoDid 13 = .ok (.aload_n 0, 1) := by decide +kernel
theorem dX7_whoDid_14 : decode cX7_whoDid 14 = .ok (.getfield 26, 3) := by decide +kernel
theorem dX7_whoDid_17 : decode cX7_whoDid 17 = .ok (.bipush 9, 2) := by decide +kernel
theorem dX7_whoDid_19 : decode cX7_whoDid 19 = .ok (.iload_n 3, 1) := by decide +kernel
theorem dX7_whoDid_20 : decode cX7_whoDid 20 = .ok (.iadd, 1) := by decide +kernel
theorem dX7_whoDid_21 : decode cX7_whoDid 21 = .ok (.iaload, 1) := by decide +kernel
theorem dX7_whoDid_22 : decode cX7_whoDid 22 = .ok (.iload_n 1, 1) := by decide +kernel
theorem dX7_whoDid_23 : decode cX7_whoDid 23 = .ok (.invokestatic 119, 3) := by decide +kernel
theorem dX7_whoDid_26 : decode cX7_whoDid 26 = .ok (.ifCond .eq 9, 3) := by decide +kernel
theorem dX7_whoDid_29 : decode cX7_whoDid 29 = .ok (.iconst 1, 1) := by decide +kernel
theorem dX7_whoDid_30 : decode cX7_whoDid 30 = .ok (.iload_n 3, 1) := by decide +kernel
theorem dX7_whoDid_31 : decode cX7_whoDid 31 = .ok (.ishl, 1) := by decide +kernel
theorem dX7_whoDid_32 : decode cX7_whoDid 32 = .ok (.goto 4, 3) := by decide +kernel
theorem dX7_whoDid_35 : decode cX7_whoDid 35 = .ok (.iconst 0, 1) := by decide +kernel
theorem dX7_whoDid_36 : decode cX7_whoDid 36 = .ok (.ior, 1) := by decide +kernel
theorem dX7_whoDid_37 : decode cX7_whoDid 37 = .ok (.istore_n 2, 1) := by decide +kernel
theorem dX7_whoDid_38 : decode cX7_whoDid 38 = .ok (.iinc 3 1, 3) := by decide +kernel
theorem dX7_whoDid_41 : decode cX7_whoDid 41 = .ok (.goto (-37), 3) := by decide +kernel
theorem dX7_whoDid_44 : decode cX7_whoDid 44 = .ok (.iload_n 2, 1) := by decide +kernel
theorem dX7_whoDid_45 : decode cX7_whoDid 45 = .ok (.ireturn, 1) := by decide +kernel
theorem dX7_deed_0 : decode cX7_deed 0 = .ok (.aload_n 0, 1) := by decide +kernel
theorem dX7_deed_1 : decode cX7_deed 1 = .ok (.iload_n 1, 1) := by decide +kernel
theorem dX7_deed_2 : decode cX7_deed 2 = .ok (.invokevirtual 182, 3) := by decide +kernel
theorem dX7_deed_5 : decode cX7_deed 5 = .ok (.ifCond .eq 12, 3) := by decide +kernel
theorem dX7_deed_8 : decode cX7_deed 8 = .ok (.iload_n 2, 1) := by decide +kernel
theorem dX7_deed_9 : decode cX7_deed 9 = .ok (.iconst 0, 1) := by decide +kernel
theorem dX7_deed_10 : decode cX7_deed 10 = .ok (.iconst 1, 1) := by decide +kernel
theorem dX7_deed_11 : decode cX7_deed 11 = .ok (.invokestatic 72, 3) := by decide +kernel
theorem dX7_deed_14 : decode cX7_deed 14 = .ok (.ifCond .ne 6, 3) := by decide +kernel
theorem dX7_deed_17 : decode cX7_deed 17 = .ok (.ldc 185, 2) := by decide +kernel
theorem dX7_deed_19 : decode cX7_deed 19 = .ok (.ireturn, 1) := by decide +kernel
theorem dX7_deed_20 : decode cX7_deed 20 = .ok (.iload_n 2, 1) := by decide +kernel
theorem dX7_deed_21 : decode cX7_deed 21 = .ok (.ifCond .ne 12, 3) := by decide +kernel
theorem dX7_deed_24 : decode cX7_deed 24 = .ok (.aload_n 0, 1) := by decide +kernel
theorem dX7_deed_25 : decode cX7_deed 25 = .ok (.getfield 7, 3) := by decide +kernel
theorem dX7_deed_28 : decode cX7_deed 28 = .ok (.iload_n 1, 1) := by decide +kernel
theorem dX7_deed_29 : decode cX7_deed 29 = .ok (.iaload, 1) := by decide +kernel
theorem dX7_deed_30 : decode cX7_deed 30 = .ok (.goto 8, 3) := by decide +kernel
theorem dX7_deed_33 : decode cX7_deed 33 = .ok (.aload_n 0, 1) := by decide +kernel
theorem dX7_deed_34 : decode cX7_deed 34 = .ok (.iload_n 1, 1) := by decide +kernel
theorem dX7_deed_35 : decode cX7_deed 35 = .ok (.invokevirtual 186, 3) := by decide +kernel
theorem dX7_deed_38 : decode cX7_deed 38 = .ok (.ireturn, 1) := by decide +kernel
theorem dX7_dead_0 : decode cX7_dead 0 = .ok (.aload_n 0, 1) := by decide +kernel
theorem dX7_dead_1 : decode cX7_dead 1 = .ok (.iload_n 1, 1) := by decide +kernel
theorem dX7_dead_2 : decode cX7_dead 2 = .ok (.invokevirtual 189, 3) := by decide +kernel
theorem dX7_dead_5 : decode cX7_dead 5 = .ok (.ifCond .ne 6, 3) := by decide +kernel
theorem dX7_dead_8 : decode cX7_dead 8 = .ok (.ldc 185, 2) := by decide +kernel
theorem dX7_dead_10 : decode cX7_dead 10 = .ok (.ireturn, 1) := by decide +kernel
theorem dX7_dead_11 : decode cX7_dead 11 = .ok (.aload_n 0, 1) := by decide +kernel
theorem dX7_dead_12 : decode cX7_dead 12 = .ok (.invokevirtual 176, 3) := by decide +kernel
theorem dX7_dead_15 : decode cX7_dead 15 = .ok (.iload_n 2, 1) := by decide +kernel
theorem dX7_dead_16 : decode cX7_dead 16 = .ok (.tableswitch 145 0 7 #[48, 55, 64, 74, 88, 94, 104, 110], 48) := by decide +kernel
theorem dX7_dead_64 : decode cX7_dead 64 = .ok (.aload_n 0, 1) := by decide +kernel
theorem dX7_dead_65 : decode cX7_dead 65 = .ok (.getfield 13, 3) := by decide +kernel
theorem dX7_dead_68 : decode cX7_dead 68 = .ok (.iload_n 1, 1) := by decide +kernel
theorem dX7_dead_69 : decode cX7_dead 69 = .ok (.iaload, 1) := by decide +kernel
theorem dX7_dead_70 : decode cX7_dead 70 = .ok (.ireturn, 1) := by decide +kernel
theorem dX7_dead_71 : decode cX7_dead 71 = .ok (.aload_n 0, 1) := by decide +kernel
theorem dX7_dead_72 : decode cX7_dead 72 = .ok (.getfield 26, 3) := by decide +kernel
theorem dX7_dead_75 : decode cX7_dead 75 = .ok (.iconst 3, 1) := by decide +kernel
theorem dX7_dead_76 : decode cX7_dead 76 = .ok (.iload_n 1, 1) := by decide +kernel
theorem dX7_dead_77 : decode cX7_dead 77 = .ok (.iadd, 1) := by decide +kernel
theorem dX7_dead_78 : decode cX7_dead 78 = .ok (.iaload, 1) := by decide +kernel
theorem dX7_dead_79 : decode cX7_dead 79 = .ok (.ireturn, 1) := by decide +kernel
theorem dX7_dead_80 : decode cX7_dead 80 = .ok (.aload_n 0, 1) := by decide +kernel
theorem dX7_dead_81 : decode cX7_dead 81 = .ok (.getfield 26, 3) := by decide +kernel
theorem dX7_dead_84 : decode cX7_dead 84 = .ok (.bipush 9, 2) := by decide +kernel
theorem dX7_dead_86 : decode cX7_dead 86 = .ok (.iload_n 1, 1) := by decide +kernel
theorem dX7_dead_87 : decode cX7_dead 87 = .ok (.iadd, 1) := by decide +kernel
theorem dX7_dead_88 : decode cX7_dead 88 = .ok (.iaload, 1) := by decide +kernel
theorem dX7_dead_89 : decode cX7_dead 89 = .ok (.ireturn, 1) := by decide +kernel
theorem dX7_dead_90 : decode cX7_dead 90 = .ok (.aload_n 0, 1) := by decide +kernel
theorem dX7_dead_91 : decode cX7_dead 91 = .ok (.aload_n 0, 1) := by decide +kernel
theorem dX7_dead_92 : decode cX7_dead 92 = .ok (.getfield 26, 3) := by decide +kernel
theorem dX7_dead_95 : decode cX7_dead 95 = .ok (.bipush 9, 2) := by decide +kernel
theorem dX7_dead_97 : decode cX7_dead 97 = .ok (.iload_n 1, 1) := by decide +kernel
theorem dX7_dead_98 : decode cX7_dead 98 = .ok (.iadd, 1) := by decide +kernel
theorem dX7_dead_99 : decode cX7_dead 99 = .ok (.iaload, 1) := by decide +kernel
theorem dX7_dead_100 : decode cX7_dead 100 = .ok (.invokevirtual 164, 3) := by decide +kernel
theorem dX7_dead_103 : decode cX7_dead 103 = .ok (.ireturn, 1) := by decide +kernel
theorem dX7_dead_104 : decode cX7_dead 104 = .ok (.aload_n 0, 1) := by decide +kernel
theorem dX7_dead_105 : decode cX7_dead 105 = .ok (.iload_n 1, 1) := by decide +kernel
theorem dX7_dead_106 : decode cX7_dead 106 = .ok (.invokevirtual 170, 3) := by decide +kernel
theorem dX7_dead_109 : decode cX7_dead 109 = .ok (.ireturn, 1) := by decide +kernel
theorem dX7_dead_110 : decode cX7_dead 110 = .ok (.aload_n 0, 1) := by decide +kernel
theorem dX7_dead_111 : decode cX7_dead 111 = .ok (.getfield 26, 3) := by decide +kernel
theorem dX7_dead_114 : decode cX7_dead 114 = .ok (.bipush 15, 2) := by decide +kernel
theorem dX7_dead_116 : decode cX7_dead 116 = .ok (.iload_n 1, 1) := by decide +kernel
theorem dX7_dead_117 : decode cX7_dead 117 = .ok (.iadd, 1) := by decide +kernel
theorem dX7_dead_118 : decode cX7_dead 118 = .ok (.iaload, 1) := by decide +kernel
theorem dX7_dead_119 : decode cX7_dead 119 = .ok (.ireturn, 1) := by decide +kernel
theorem dX7_dead_120 : decode cX7_dead 120 = .ok (.aload_n 0, 1) := by decide +kernel
theorem dX7_dead_121 : decode cX7_dead 121 = .ok (.iload_n 1, 1) := by decide +kernel
theorem dX7_dead_122 : decode cX7_dead 122 = .ok (.invokevirtual 192, 3) := by decide +kernel
theorem dX7_dead_125 : decode cX7_dead 125 = .ok (.ireturn, 1) := by decide +kernel
theorem dX7_dead_126 : decode cX7_dead 126 = .ok (.aload_n 0, 1) := by decide +kernel
theorem dX7_dead_127 : decode cX7_dead 127 = .ok (.getfield 26, 3) := by decide +kernel
theorem dX7_dead_130 : decode cX7_dead 130 = .ok (.bipush 15, 2) := by decide +kernel
theorem dX7_dead_132 : decode cX7_dead 132 = .ok (.iload_n 1, 1) := by decide +kernel
theorem dX7_dead_133 : decode cX7_dead 133 = .ok (.iadd, 1) := by decide +kernel
theorem dX7_dead_134 : decode cX7_dead 134 = .ok (.iaload, 1) := by decide +kernel
theorem dX7_dead_135 : decode cX7_dead 135 = .ok (.bipush (-9), 2) := by decide +kernel
theorem dX7_dead_137 : decode cX7_dead 137 = .ok (.if_icmp .ne 8, 3) := by decide +kernel
theorem dX7_dead_140 : decode cX7_dead 140 = .ok (.ldc 185, 2) := by decide +kernel
theorem dX7_dead_142 : decode cX7_dead 142 = .ok (.goto 18, 3) := by decide +kernel
theorem dX7_dead_145 : decode cX7_dead 145 = .ok (.aload_n 0, 1) := by decide +kernel
theorem dX7_dead_146 : decode cX7_dead 146 = .ok (.getfield 26, 3) := by decide +kernel
theorem dX7_dead_149 : decode cX7_dead 149 = .ok (.bipush 15, 2) := by decide +kernel
theorem dX7_dead_151 : decode cX7_dead 151 = .ok (.iload_n 1, 1) := by decide +kernel
theorem dX7_dead_152 : decode cX7_dead 152 = .ok (.iadd, 1) := by decide +kernel
theorem dX7_dead_153 : decode cX7_dead 153 = .ok (.iaload, 1) := by decide +kernel
theorem dX7_dead_154 : decode cX7_dead 154 = .ok (.aload_n 0, 1) := by decide +kernel
theorem dX7_dead_155 : decode cX7_dead 155 = .ok (.iload_n 1, 1) := by decide +kernel
theorem dX7_dead_156 : decode cX7_dead 156 = .ok (.invokevirtual 167, 3) := by decide +kernel
theorem dX7_dead_159 : decode cX7_dead 159 = .ok (.isub, 1) := by decide +kernel
theorem dX7_dead_160 : decode cX7_dead 160 = .ok (.ireturn, 1) := by decide +kernel
theorem dX7_dead_161 : decode cX7_dead 161 = .ok (.ldc 185, 2) := by decide +kernel

theorem dX6_betterWay_49 : decode mX6_betterWay.2.1 49 = .ok (.iload 4, 2) := by decide +kernel
theorem dX6_betterWay_51 : decode mX6_betterWay.2.1 51 = .ok (.invokestatic 301, 3) := by decide +kernel
theorem dX6_betterWay_54 : decode mX6_betterWay.2.1 54 = .ok (.iload_n 3, 1) := by decide +kernel
theorem dX6_betterWay_55 : decode mX6_betterWay.2.1 55 = .ok (.invokevirtual 304, 3) := by decide +kernel
theorem dX6_betterWay_58 : decode mX6_betterWay.2.1 58 = .ok (.ifCond .eq 10, 3) := by decide +kernel
theorem dX6_betterWay_61 : decode mX6_betterWay.2.1 61 = .ok (.iload_n 1, 1) := by decide +kernel
theorem dX6_betterWay_62 : decode mX6_betterWay.2.1 62 = .ok (.iload 4, 2) := by decide +kernel
theorem dX6_betterWay_64 : decode mX6_betterWay.2.1 64 = .ok (.invokestatic 301, 3) := by decide +kernel
theorem dX6_betterWay_67 : decode mX6_betterWay.2.1 67 = .ok (.istore_n 3, 1) := by decide +kernel
theorem dX6_betterWay_68 : decode mX6_betterWay.2.1 68 = .ok (.iinc 4 1, 3) := by decide +kernel
theorem dX6_betterWay_71 : decode mX6_betterWay.2.1 71 = .ok (.goto (-66), 3) := by decide +kernel
theorem dX6_betterWay_74 : decode mX6_betterWay.2.1 74 = .ok (.iload_n 3, 1) := by decide +kernel
theorem dX6_betterWay_75 : decode mX6_betterWay.2.1 75 = .ok (.ireturn, 1) := by decide +kernel
theorem dX6_partLeaning_0 : decode mX6_partLeaning.2.1 0 = .ok (.iconst 0, 1) := by decide +kernel
theorem dX6_partLeaning_1 : decode mX6_partLeaning.2.1 1 = .ok (.istore_n 3, 1) := by decide +kernel
theorem dX6_partLeaning_2 : decode mX6_partLeaning.2.1 2 = .ok (.iconst 0, 1) := by decide +kernel
theorem dX6_partLeaning_3 : decode mX6_partLeaning.2.1 3 = .ok (.istore 4, 2) := by decide +kernel
theorem dX6_partLeaning_5 : decode mX6_partLeaning.2.1 5 = .ok (.iload 4, 2) := by decide +kernel
theorem dX6_partLeaning_7 : decode mX6_partLeaning.2.1 7 = .ok (.aload_n 0, 1) := by decide +kernel
theorem dX6_partLeaning_8 : decode mX6_partLeaning.2.1 8 = .ok (.getfield 30, 3) := by decide +kernel
theorem dX6_partLeaning_11 : decode mX6_partLeaning.2.1 11 = .ok (.getfield 237, 3) := by decide +kernel
theorem dX6_partLeaning_14 : decode mX6_partLeaning.2.1 14 = .ok (.invokestatic 195, 3) := by decide +kernel
theorem dX6_partLeaning_17 : decode mX6_partLeaning.2.1 17 = .ok (.if_icmp .gt 49, 3) := by decide +kernel
theorem dX6_partLeaning_20 : decode mX6_partLeaning.2.1 20 = .ok (.iload 4, 2) := by decide +kernel
theorem dX6_partLeaning_22 : decode mX6_partLeaning.2.1 22 = .ok (.invokestatic 181, 3) := by decide +kernel
theorem dX6_partLeaning_25 : decode mX6_partLeaning.2.1 25 = .ok (.istore 5, 2) := by decide +kernel
theorem dX6_partLeaning_27 : decode mX6_partLeaning.2.1 27 = .ok (.iload 5, 2) := by decide +kernel
theorem dX6_partLeaning_29 : decode mX6_partLeaning.2.1 29 = .ok (.iload_n 2, 1) := by decide +kernel
theorem dX6_partLeaning_30 : decode mX6_partLeaning.2.1 30 = .ok (.if_icmp .gt 30, 3) := by decide +kernel
theorem dX6_partLeaning_33 : decode mX6_partLeaning.2.1 33 = .ok (.iload_n 3, 1) := by decide +kernel
theorem dX6_partLeaning_34 : decode mX6_partLeaning.2.1 34 = .ok (.iload_n 1, 1) := by decide +kernel
theorem dX6_partLeaning_35 : decode mX6_partLeaning.2.1 35 = .ok (.iload 5, 2) := by decide +kernel
theorem dX6_partLeaning_37 : decode mX6_partLeaning.2.1 37 = .ok (.invokestatic 240, 3) := by decide +kernel
theorem dX6_partLeaning_40 : decode mX6_partLeaning.2.1 40 = .ok (.bipush 10, 2) := by decide +kernel
theorem dX6_partLeaning_42 : decode mX6_partLeaning.2.1 42 = .ok (.iload_n 1, 1) := by decide +kernel
theorem dX6_partLeaning_43 : decode mX6_partLeaning.2.1 43 = .ok (.isub, 1) := by decide +kernel
theorem dX6_partLeaning_44 : decode mX6_partLeaning.2.1 44 = .ok (.aload_n 0, 1) := by decide +kernel
theorem dX6_partLeaning_45 : decode mX6_partLeaning.2.1 45 = .ok (.getfield 30, 3) := by decide +kernel
theorem dX6_partLeaning_48 : decode mX6_partLeaning.2.1 48 = .ok (.getfield 237, 3) := by decide +kernel
theorem dX6_partLeaning_51 : decode mX6_partLeaning.2.1 51 = .ok (.iload 5, 2) := by decide +kernel
theorem dX6_partLeaning_53 : decode mX6_partLeaning.2.1 53 = .ok (.isub, 1) := by decide +kernel
theorem dX6_partLeaning_54 : decode mX6_partLeaning.2.1 54 = .ok (.invokestatic 240, 3) := by decide +kernel
theorem dX6_partLeaning_57 : decode mX6_partLeaning.2.1 57 = .ok (.imul, 1) := by decide +kernel
theorem dX6_partLeaning_58 : decode mX6_partLeaning.2.1 58 = .ok (.iadd, 1) := by decide +kernel
theorem dX6_partLeaning_59 : decode mX6_partLeaning.2.1 59 = .ok (.istore_n 3, 1) := by decide +kernel
theorem dX6_partLeaning_60 : decode mX6_partLeaning.2.1 60 = .ok (.iinc 4 1, 3) := by decide +kernel
theorem dX6_partLeaning_63 : decode mX6_partLeaning.2.1 63 = .ok (.goto (-58), 3) := by decide +kernel
theorem dX6_partLeaning_66 : decode mX6_partLeaning.2.1 66 = .ok (.iload_n 3, 1) := by decide +kernel
theorem dX6_partLeaning_67 : decode mX6_partLeaning.2.1 67 = .ok (.ireturn, 1) := by decide +kernel
theorem dX6_rateAsDeed_0 : decode mX6_rateAsDeed.2.1 0 = .ok (.aload_n 0, 1) := by decide +kernel
theorem dX6_rateAsDeed_1 : decode mX6_rateAsDeed.2.1 1 = .ok (.dup, 1) := by decide +kernel
theorem dX6_rateAsDeed_2 : decode mX6_rateAsDeed.2.1 2 = .ok (.getfield 274, 3) := by decide +kernel
theorem dX6_rateAsDeed_5 : decode mX6_rateAsDeed.2.1 5 = .ok (.lconst 1, 1) := by decide +kernel
theorem dX6_rateAsDeed_6 : decode mX6_rateAsDeed.2.1 6 = .ok (.ladd, 1) := by decide +kernel
theorem dX6_rateAsDeed_7 : decode mX6_rateAsDeed.2.1 7 = .ok (.putfield 274, 3) := by decide +kernel
theorem dX6_rateAsDeed_10 : decode mX6_rateAsDeed.2.1 10 = .ok (.aload_n 0, 1) := by decide +kernel
theorem dX6_rateAsDeed_11 : decode mX6_rateAsDeed.2.1 11 = .ok (.getfield 30, 3) := by decide +kernel
theorem dX6_rateAsDeed_14 : decode mX6_rateAsDeed.2.1 14 = .ok (.getfield 104, 3) := by decide +kernel
theorem dX6_rateAsDeed_17 : decode mX6_rateAsDeed.2.1 17 = .ok (.iload_n 1, 1) := by decide +kernel
theorem dX6_rateAsDeed_18 : decode mX6_rateAsDeed.2.1 18 = .ok (.invokevirtual 107, 3) := by decide +kernel
theorem dX6_rateAsDeed_21 : decode mX6_rateAsDeed.2.1 21 = .ok (.ireturn, 1) := by decide +kernel
theorem dX6_rateAsDebt_0 : decode mX6_rateAsDebt.2.1 0 = .ok (.aload_n 0, 1) := by decide +kernel
theorem dX6_rateAsDebt_1 : decode mX6_rateAsDebt.2.1 1 = .ok (.dup, 1) := by decide +kernel
theorem dX6_rateAsDebt_2 : decode mX6_rateAsDebt.2.1 2 = .ok (.getfield 274, 3) := by decide +kernel
theorem dX6_rateAsDebt_5 : decode mX6_rateAsDebt.2.1 5 = .ok (.ldc2_w 307, 3) := by decide +kernel
theorem dX6_rateAsDebt_8 : decode mX6_rateAsDebt.2.1 8 = .ok (.ladd, 1) := by decide +kernel
theorem dX6_rateAsDebt_9 : decode mX6_rateAsDebt.2.1 9 = .ok (.putfield 274, 3) := by decide +kernel
theorem dX6_rateAsDebt_12 : decode mX6_rateAsDebt.2.1 12 = .ok (.aload_n 0, 1) := by decide +kernel
theorem dX6_rateAsDebt_13 : decode mX6_rateAsDebt.2.1 13 = .ok (.iload_n 1, 1) := by decide +kernel
theorem dX6_rateAsDebt_14 : decode mX6_rateAsDebt.2.1 14 = .ok (.invokevirtual 246, 3) := by decide +kernel
theorem dX6_rateAsDebt_17 : decode mX6_rateAsDebt.2.1 17 = .ok (.aload_n 0, 1) := by decide +kernel
theorem dX6_rateAsDebt_18 : decode mX6_rateAsDebt.2.1 18 = .ok (.iload_n 1, 1) := by decide +kernel
theorem dX6_rateAsDebt_19 : decode mX6_rateAsDebt.2.1 19 = .ok (.invokevirtual 111, 3) := by decide +kernel
theorem dX6_rateAsDebt_22 : decode mX6_rateAsDebt.2.1 22 = .ok (.invokestatic 181, 3) := by decide +kernel
theorem dX6_rateAsDebt_25 : decode mX6_rateAsDebt.2.1 25 = .ok (.iadd, 1) := by decide +kernel
theorem dX6_rateAsDebt_26 : decode mX6_rateAsDebt.2.1 26 = .ok (.ireturn, 1) := by decide +kernel
theorem dX6_rateAsLie_0 : decode mX6_rateAsLie.2.1 0 = .ok (.aload_n 0, 1) := by decide +kernel
theorem dX6_rateAsLie_1 : decode mX6_rateAsLie.2.1 1 = .ok (.dup, 1) := by decide +kernel
theorem dX6_rateAsLie_2 : decode mX6_rateAsLie.2.1 2 = .ok (.getfield 274, 3) := by decide +kernel
theorem dX6_rateAsLie_5 : decode mX6_rateAsLie.2.1 5 = .ok (.ldc2_w 309, 3) := by decide +kernel
theorem dX6_rateAsLie_8 : decode mX6_rateAsLie.2.1 8 = .ok (.ladd, 1) := by decide +kernel
theorem dX6_rateAsLie_9 : decode mX6_rateAsLie.2.1 9 = .ok (.putfield 274, 3) := by decide +kernel
theorem dX6_rateAsLie_12 : decode mX6_rateAsLie.2.1 12 = .ok (.aload_n 0, 1) := by decide +kernel
theorem dX6_rateAsLie_13 : decode mX6_rateAsLie.2.1 13 = .ok (.iload_n 1, 1) := by decide +kernel
theorem dX6_rateAsLie_14 : decode mX6_rateAsLie.2.1 14 = .ok (.invokevirtual 246, 3) := by decide +kernel
theorem dX6_rateAsLie_17 : decode mX6_rateAsLie.2.1 17 = .ok (.aload_n 0, 1) := by decide +kernel
theorem dX6_rateAsLie_18 : decode mX6_rateAsLie.2.1 18 = .ok (.getfield 40, 3) := by decide +kernel
theorem dX6_rateAsLie_21 : decode mX6_rateAsLie.2.1 21 = .ok (.getfield 153, 3) := by decide +kernel
theorem dX6_rateAsLie_24 : decode mX6_rateAsLie.2.1 24 = .ok (.isub, 1) := by decide +kernel
theorem dX6_rateAsLie_25 : decode mX6_rateAsLie.2.1 25 = .ok (.ireturn, 1) := by decide +kernel
theorem dX6_rateAsOath_0 : decode mX6_rateAsOath.2.1 0 = .ok (.aload_n 0, 1) := by decide +kernel
theorem dX6_rateAsOath_1 : decode mX6_rateAsOath.2.1 1 = .ok (.dup, 1) := by decide +kernel
theorem dX6_rateAsOath_2 : decode mX6_rateAsOath.2.1 2 = .ok (.getfield 274, 3) := by decide +kernel
theorem dX6_rateAsOath_5 : decode mX6_rateAsOath.2.1 5 = .ok (.ldc2_w 311, 3) := by decide +kernel
theorem dX6_rateAsOath_8 : decode mX6_rateAsOath.2.1 8 = .ok (.ladd, 1) := by decide +kernel
theorem dX6_rateAsOath_9 : decode mX6_rateAsOath.2.1 9 = .ok (.putfield 274, 3) := by decide +kernel
theorem dX6_rateAsOath_12 : decode mX6_rateAsOath.2.1 12 = .ok (.iconst 2, 1) := by decide +kernel
theorem dX6_rateAsOath_13 : decode mX6_rateAsOath.2.1 13 = .ok (.aload_n 0, 1) := by decide +kernel
theorem dX6_rateAsOath_14 : decode mX6_rateAsOath.2.1 14 = .ok (.iload_n 1, 1) := by decide +kernel
theorem dX6_rateAsOath_15 : decode mX6_rateAsOath.2.1 15 = .ok (.invokevirtual 249, 3) := by decide +kernel
theorem dX6_rateAsOath_18 : decode mX6_rateAsOath.2.1 18 = .ok (.imul, 1) := by decide +kernel
theorem dX6_rateAsOath_19 : decode mX6_rateAsOath.2.1 19 = .ok (.ireturn, 1) := by decide +kernel
theorem dX6_rateAsKiss_0 : decode mX6_rateAsKiss.2.1 0 = .ok (.aload_n 0, 1) := by decide +kernel
theorem dX6_rateAsKiss_1 : decode mX6_rateAsKiss.2.1 1 = .ok (.dup, 1) := by decide +kernel
theorem dX6_rateAsKiss_2 : decode mX6_rateAsKiss.2.1 2 = .ok (.getfield 274, 3) := by decide +kernel
theorem dX6_rateAsKiss_5 : decode mX6_rateAsKiss.2.1 5 = .ok (.ldc2_w 313, 3) := by decide +kernel
theorem dX6_rateAsKiss_8 : decode mX6_rateAsKiss.2.1 8 = .ok (.ladd, 1) := by decide +kernel
theorem dX6_rateAsKiss_9 : decode mX6_rateAsKiss.2.1 9 = .ok (.putfield 274, 3) := by decide +kernel
theorem dX6_rateAsKiss_12 : decode mX6_rateAsKiss.2.1 12 = .ok (.aload_n 0, 1) := by decide +kernel
theorem dX6_rateAsKiss_13 : decode mX6_rateAsKiss.2.1 13 = .ok (.iload_n 1, 1) := by decide +kernel
theorem dX6_rateAsKiss_14 : decode mX6_rateAsKiss.2.1 14 = .ok (.invokevirtual 252, 3) := by decide +kernel
theorem dX6_rateAsKiss_17 : decode mX6_rateAsKiss.2.1 17 = .ok (.iload_n 1, 1) := by decide +kernel
theorem dX6_rateAsKiss_18 : decode mX6_rateAsKiss.2.1 18 = .ok (.iadd, 1) := by decide +kernel
theorem dX6_rateAsKiss_19 : decode mX6_rateAsKiss.2.1 19 = .ok (.ireturn, 1) := by decide +kernel
theorem dX6_rateAsTheft_0 : decode mX6_rateAsTheft.2.1 0 = .ok (.aload_n 0, 1) := by decide +kernel
theorem dX6_rateAsTheft_1 : decode mX6_rateAsTheft.2.1 1 = .ok (.dup, 1) := by decide +kernel
theorem dX6_rateAsTheft_2 : decode mX6_rateAsTheft.2.1 2 = .ok (.getfield 274, 3) := by decide +kernel
theorem dX6_rateAsTheft_5 : decode mX6_rateAsTheft.2.1 5 = .ok (.ldc2_w 315, 3) := by decide +kernel
theorem dX6_rateAsTheft_8 : decode mX6_rateAsTheft.2.1 8 = .ok (.ladd, 1) := by decide +kernel
theorem dX6_rateAsTheft_9 : decode mX6_rateAsTheft.2.1 9 = .ok (.putfield 274, 3) := by decide +kernel
theorem dX6_rateAsTheft_12 : decode mX6_rateAsTheft.2.1 12 = .ok (.aload_n 0, 1) := by decide +kernel
theorem dX6_rateAsTheft_13 : decode mX6_rateAsTheft.2.1 13 = .ok (.iload_n 1, 1) := by decide +kernel
theorem dX6_rateAsTheft_14 : decode mX6_rateAsTheft.2.1 14 = .ok (.invokevirtual 246, 3) := by decide +kernel
theorem dX6_rateAsTheft_17 : decode mX6_rateAsTheft.2.1 17 = .ok (.aload_n 0, 1) := by decide +kernel
theorem dX6_rateAsTheft_18 : decode mX6_rateAsTheft.2.1 18 = .ok (.getfield 40, 3) := by decide +kernel
theorem dX6_rateAsTheft_21 : decode mX6_rateAsTheft.2.1 21 = .ok (.getfield 147, 3) := by decide +kernel
theorem dX6_rateAsTheft_24 : decode mX6_rateAsTheft.2.1 24 = .ok (.iadd, 1) := by decide +kernel
theorem dX6_rateAsTheft_25 : decode mX6_rateAsTheft.2.1 25 = .ok (.ireturn, 1) := by decide +kernel
theorem dX7_init_0 : decode mX7_init.2.1 0 = .ok (.aload_n 0, 1) := by decide +kernel
theorem dX7_init_1 : decode mX7_init.2.1 1 = .ok (.invokespecial 1, 3) := by decide +kernel
theorem dX7_init_4 : decode mX7_init.2.1 4 = .ok (.aload_n 0, 1) := by decide +kernel
theorem dX7_init_5 : decode mX7_init.2.1 5 = .ok (.bipush 6, 2) := by decide +kernel
theorem dX7_init_7 : decode mX7_init.2.1 7 = .ok (.newarray .int, 2) := by decide +kernel
theorem dX7_init_9 : decode mX7_init.2.1 9 = .ok (.putfield 7, 3) := by decide +kernel
theorem dX7_init_12 : decode mX7_init.2.1 12 = .ok (.aload_n 0, 1) := by decide +kernel
theorem dX7_init_13 : decode mX7_init.2.1 13 = .ok (.bipush 6, 2) := by decide +kernel
theorem dX7_init_15 : decode mX7_init.2.1 15 = .ok (.newarray .int, 2) := by decide +kernel
theorem dX7_init_17 : decode mX7_init.2.1 17 = .ok (.putfield 13, 3) := by decide +kernel
theorem dX7_init_20 : decode mX7_init.2.1 20 = .ok (.aload_n 0, 1) := by decide +kernel
theorem dX7_init_21 : decode mX7_init.2.1 21 = .ok (.bipush 6, 2) := by decide +kernel
theorem dX7_init_23 : decode mX7_init.2.1 23 = .ok (.newarray .int, 2) := by decide +kernel
theorem dX7_init_25 : decode mX7_init.2.1 25 = .ok (.putfield 16, 3) := by decide +kernel
theorem dX7_init_28 : decode mX7_init.2.1 28 = .ok (.aload_n 0, 1) := by decide +kernel
theorem dX7_init_29 : decode mX7_init.2.1 29 = .ok (.bipush 80, 2) := by decide +kernel
theorem dX7_init_31 : decode mX7_init.2.1 31 = .ok (.putfield 19, 3) := by decide +kernel
theorem dX7_init_34 : decode mX7_init.2.1 34 = .ok (.aload_n 0, 1) := by decide +kernel
theorem dX7_init_35 : decode mX7_init.2.1 35 = .ok (.iconst 2, 1) := by decide +kernel
theorem dX7_init_36 : decode mX7_init.2.1 36 = .ok (.putfield 23, 3) := by decide +kernel
theorem dX7_init_39 : decode mX7_init.2.1 39 = .ok (.aload_n 0, 1) := by decide +kernel
theorem dX7_init_40 : decode mX7_init.2.1 40 = .ok (.bipush 21, 2) := by decide +kernel
theorem dX7_init_42 : decode mX7_init.2.1 42 = .ok (.newarray .int, 2) := by decide +kernel
theorem dX7_init_44 : decode mX7_init.2.1 44 = .ok (.putfield 26, 3) := by decide +kernel
theorem dX7_init_47 : decode mX7_init.2.1 47 = .ok (.aload_n 0, 1) := by decide +kernel
theorem dX7_init_48 : decode mX7_init.2.1 48 = .ok (.sipush 210, 3) := by decide +kernel
theorem dX7_init_51 : decode mX7_init.2.1 51 = .ok (.newarray .int, 2) := by decide +kernel
theorem dX7_init_53 : decode mX7_init.2.1 53 = .ok (.putfield 29, 3) := by decide +kernel
theorem dX7_init_56 : decode mX7_init.2.1 56 = .ok (.aload_n 0, 1) := by decide +kernel
theorem dX7_init_57 : decode mX7_init.2.1 57 = .ok (.bipush 42, 2) := by decide +kernel
theorem dX7_init_59 : decode mX7_init.2.1 59 = .ok (.newarray .int, 2) := by decide +kernel
theorem dX7_init_61 : decode mX7_init.2.1 61 = .ok (.putfield 32, 3) := by decide +kernel
theorem dX7_init_64 : decode mX7_init.2.1 64 = .ok (.aload_n 0, 1) := by decide +kernel
theorem dX7_init_65 : decode mX7_init.2.1 65 = .ok (.iconst 2, 1) := by decide +kernel
theorem dX7_init_66 : decode mX7_init.2.1 66 = .ok (.newarray .boolean, 2) := by decide +kernel
theorem dX7_init_68 : decode mX7_init.2.1 68 = .ok (.putfield 35, 3) := by decide +kernel
theorem dX7_init_71 : decode mX7_init.2.1 71 = .ok (.aload_n 0, 1) := by decide +kernel
theorem dX7_init_72 : decode mX7_init.2.1 72 = .ok (.bipush 12, 2) := by decide +kernel
theorem dX7_init_74 : decode mX7_init.2.1 74 = .ok (.newarray .int, 2) := by decide +kernel
theorem dX7_init_76 : decode mX7_init.2.1 76 = .ok (.putfield 39, 3) := by decide +kernel
theorem dX7_init_79 : decode mX7_init.2.1 79 = .ok (.aload_n 0, 1) := by decide +kernel
theorem dX7_init_80 : decode mX7_init.2.1 80 = .ok (.sipush 150, 3) := by decide +kernel
theorem dX7_init_83 : decode mX7_init.2.1 83 = .ok (.newarray .int, 2) := by decide +kernel
theorem dX7_init_85 : decode mX7_init.2.1 85 = .ok (.putfield 42, 3) := by decide +kernel
theorem dX7_init_88 : decode mX7_init.2.1 88 = .ok (.aload_n 0, 1) := by decide +kernel
theorem dX7_init_89 : decode mX7_init.2.1 89 = .ok (.bipush 6, 2) := by decide +kernel
theorem dX7_init_91 : decode mX7_init.2.1 91 = .ok (.newarray .int, 2) := by decide +kernel
theorem dX7_init_93 : decode mX7_init.2.1 93 = .ok (.putfield 45, 3) := by decide +kernel
theorem dX7_init_96 : decode mX7_init.2.1 96 = .ok (.aload_n 0, 1) := by decide +kernel
theorem dX7_init_97 : decode mX7_init.2.1 97 = .ok (.bipush 6, 2) := by decide +kernel
theorem dX7_init_99 : decode mX7_init.2.1 99 = .ok (.newarray .int, 2) := by decide +kernel
theorem dX7_init_101 : decode mX7_init.2.1 101 = .ok (.putfield 48, 3) := by decide +kernel
theorem dX7_init_104 : decode mX7_init.2.1 104 = .ok (.aload_n 0, 1) := by decide +kernel
theorem dX7_init_105 : decode mX7_init.2.1 105 = .ok (.bipush 6, 2) := by decide +kernel
theorem dX7_init_107 : decode mX7_init.2.1 107 = .ok (.newarray .int, 2) := by decide +kernel
theorem dX7_init_109 : decode mX7_init.2.1 109 = .ok (.putfield 51, 3) := by decide +kernel
theorem dX7_init_112 : decode mX7_init.2.1 112 = .ok (.aload_n 0, 1) := by decide +kernel
theorem dX7_init_113 : decode mX7_init.2.1 113 = .ok (.bipush 6, 2) := by decide +kernel
theorem dX7_init_115 : decode mX7_init.2.1 115 = .ok (.newarray .int, 2) := by decide +kernel
theorem dX7_init_117 : decode mX7_init.2.1 117 = .ok (.putfield 54, 3) := by decide +kernel
theorem dX7_init_120 : decode mX7_init.2.1 120 = .ok (.aload_n 0, 1) := by decide +kernel
theorem dX7_init_121 : decode mX7_init.2.1 121 = .ok (.bipush 6, 2) := by decide +kernel
theorem dX7_init_123 : decode mX7_init.2.1 123 = .ok (.newarray .int, 2) := by decide +kernel
theorem dX7_init_125 : decode mX7_init.2.1 125 = .ok (.putfield 57, 3) := by decide +kernel
theorem dX7_init_128 : decode mX7_init.2.1 128 = .ok (.aload_n 0, 1) := by decide +kernel
theorem dX7_init_129 : decode mX7_init.2.1 129 = .ok (.bipush 21, 2) := by decide +kernel
theorem dX7_init_131 : decode mX7_init.2.1 131 = .ok (.newarray .int, 2) := by decide +kernel
theorem dX7_init_133 : decode mX7_init.2.1 133 = .ok (.putfield 60, 3) := by decide +kernel
theorem dX7_init_136 : decode mX7_init.2.1 136 = .ok (.aload_n 0, 1) := by decide +kernel
theorem dX7_init_137 : decode mX7_init.2.1 137 = .ok (.bipush 6, 2) := by decide +kernel
theorem dX7_init_139 : decode mX7_init.2.1 139 = .ok (.newarray .int, 2) := by decide +kernel
theorem dX7_init_141 : decode mX7_init.2.1 141 = .ok (.putfield 63, 3) := by decide +kernel
theorem dX7_init_144 : decode mX7_init.2.1 144 = .ok (.aload_n 0, 1) := by decide +kernel
theorem dX7_init_145 : decode mX7_init.2.1 145 = .ok (.bipush 6, 2) := by decide +kernel
theorem dX7_init_147 : decode mX7_init.2.1 147 = .ok (.newarray .int, 2) := by decide +kernel
theorem dX7_init_149 : decode mX7_init.2.1 149 = .ok (.putfield 66, 3) := by decide +kernel
theorem dX7_init_152 : decode mX7_init.2.1 152 = .ok (.aload_n 0, 1) := by decide +kernel
theorem dX7_init_153 : decode mX7_init.2.1 153 = .ok (.getfield 26, 3) := by decide +kernel
theorem dX7_init_156 : decode mX7_init.2.1 156 = .ok (.iconst 2, 1) := by decide +kernel
theorem dX7_init_157 : decode mX7_init.2.1 157 = .ok (.iconst 2, 1) := by decide +kernel
theorem dX7_init_158 : decode mX7_init.2.1 158 = .ok (.iastore, 1) := by decide +kernel
theorem dX7_init_159 : decode mX7_init.2.1 159 = .ok (.return_, 1) := by decide +kernel
theorem dX7_in_0 : decode mX7_in.2.1 0 = .ok (.iload_n 0, 1) := by decide +kernel
theorem dX7_in_1 : decode mX7_in.2.1 1 = .ok (.iload_n 1, 1) := by decide +kernel
theorem dX7_in_2 : decode mX7_in.2.1 2 = .ok (.if_icmp .lt 12, 3) := by decide +kernel
theorem dX7_in_5 : decode mX7_in.2.1 5 = .ok (.iload_n 0, 1) := by decide +kernel
theorem dX7_in_6 : decode mX7_in.2.1 6 = .ok (.iload_n 2, 1) := by decide +kernel
theorem dX7_in_7 : decode mX7_in.2.1 7 = .ok (.if_icmp .gt 7, 3) := by decide +kernel
theorem dX7_in_10 : decode mX7_in.2.1 10 = .ok (.iconst 1, 1) := by decide +kernel
theorem dX7_in_11 : decode mX7_in.2.1 11 = .ok (.goto 4, 3) := by decide +kernel
theorem dX7_in_14 : decode mX7_in.2.1 14 = .ok (.iconst 0, 1) := by decide +kernel
theorem dX7_in_15 : decode mX7_in.2.1 15 = .ok (.ireturn, 1) := by decide +kernel
theorem dX7_has_0 : decode mX7_has.2.1 0 = .ok (.iload_n 0, 1) := by decide +kernel
theorem dX7_has_1 : decode mX7_has.2.1 1 = .ok (.iload_n 1, 1) := by decide +kernel
theorem dX7_has_2 : decode mX7_has.2.1 2 = .ok (.ishr, 1) := by decide +kernel
theorem dX7_has_3 : decode mX7_has.2.1 3 = .ok (.iconst 1, 1) := by decide +kernel
theorem dX7_has_4 : decode mX7_has.2.1 4 = .ok (.iand, 1) := by decide +kernel
theorem dX7_has_5 : decode mX7_has.2.1 5 = .ok (.iconst 1, 1) := by decide +kernel
theorem dX7_has_6 : decode mX7_has.2.1 6 = .ok (.if_icmp .ne 7, 3) := by decide +kernel
theorem dX7_has_9 : decode mX7_has.2.1 9 = .ok (.iconst 1, 1) := by decide +kernel
theorem dX7_has_10 : decode mX7_has.2.1 10 = .ok (.goto 4, 3) := by decide +kernel
theorem dX7_has_13 : decode mX7_has.2.1 13 = .ok (.iconst 0, 1) := by decide +kernel
theorem dX7_has_14 : decode mX7_has.2.1 14 = .ok (.ireturn, 1) := by decide +kernel
theorem dX7_bits_0 : decode mX7_bits.2.1 0 = .ok (.iconst 0, 1) := by decide +kernel
theorem dX7_bits_1 : decode mX7_bits.2.1 1 = .ok (.istore_n 1, 1) := by decide +kernel
theorem dX7_bits_2 : decode mX7_bits.2.1 2 = .ok (.iconst 0, 1) := by decide +kernel
theorem dX7_bits_3 : decode mX7_bits.2.1 3 = .ok (.istore_n 2, 1) := by decide +kernel
theorem dX7_bits_4 : decode mX7_bits.2.1 4 = .ok (.iload_n 2, 1) := by decide +kernel
theorem dX7_bits_5 : decode mX7_bits.2.1 5 = .ok (.bipush 6, 2) := by decide +kernel
theorem dX7_bits_7 : decode mX7_bits.2.1 7 = .ok (.if_icmp .ge 17, 3) := by decide +kernel
theorem dX7_bits_10 : decode mX7_bits.2.1 10 = .ok (.iload_n 1, 1) := by decide +kernel
theorem dX7_bits_11 : decode mX7_bits.2.1 11 = .ok (.iload_n 0, 1) := by decide +kernel
theorem dX7_bits_12 : decode mX7_bits.2.1 12 = .ok (.iload_n 2, 1) := by decide +kernel
theorem dX7_bits_13 : decode mX7_bits.2.1 13 = .ok (.ishr, 1) := by decide +kernel
theorem dX7_bits_14 : decode mX7_bits.2.1 14 = .ok (.iconst 1, 1) := by decide +kernel
theorem dX7_bits_15 : decode mX7_bits.2.1 15 = .ok (.iand, 1) := by decide +kernel
theorem dX7_bits_16 : decode mX7_bits.2.1 16 = .ok (.iadd, 1) := by decide +kernel
theorem dX7_bits_17 : decode mX7_bits.2.1 17 = .ok (.istore_n 1, 1) := by decide +kernel
theorem dX7_bits_18 : decode mX7_bits.2.1 18 = .ok (.iinc 2 1, 3) := by decide +kernel
theorem dX7_bits_21 : decode mX7_bits.2.1 21 = .ok (.goto (-17), 3) := by decide +kernel
theorem dX7_bits_24 : decode mX7_bits.2.1 24 = .ok (.iload_n 1, 1) := by decide +kernel
theorem dX7_bits_25 : decode mX7_bits.2.1 25 = .ok (.ireturn, 1) := by decide +kernel
theorem dX7_size_0 : decode mX7_size.2.1 0 = .ok (.iload_n 0, 1) := by decide +kernel
theorem dX7_size_1 : decode mX7_size.2.1 1 = .ok (.ifCond .ge 8, 3) := by decide +kernel
theorem dX7_size_4 : decode mX7_size.2.1 4 = .ok (.iload_n 0, 1) := by decide +kernel
theorem dX7_size_5 : decode mX7_size.2.1 5 = .ok (.ineg, 1) := by decide +kernel
theorem dX7_size_6 : decode mX7_size.2.1 6 = .ok (.goto 4, 3) := by decide +kernel
theorem dX7_size_9 : decode mX7_size.2.1 9 = .ok (.iload_n 0, 1) := by decide +kernel
theorem dX7_size_10 : decode mX7_size.2.1 10 = .ok (.ireturn, 1) := by decide +kernel
theorem dX7_isDeed_0 : decode mX7_isDeed.2.1 0 = .ok (.iload_n 1, 1) := by decide +kernel
theorem dX7_isDeed_1 : decode mX7_isDeed.2.1 1 = .ok (.iconst 0, 1) := by decide +kernel
theorem dX7_isDeed_2 : decode mX7_isDeed.2.1 2 = .ok (.aload_n 0, 1) := by decide +kernel
theorem dX7_isDeed_3 : decode mX7_isDeed.2.1 3 = .ok (.getfield 69, 3) := by decide +kernel
theorem dX7_isDeed_6 : decode mX7_isDeed.2.1 6 = .ok (.iconst 1, 1) := by decide +kernel
theorem dX7_isDeed_7 : decode mX7_isDeed.2.1 7 = .ok (.isub, 1) := by decide +kernel
theorem dX7_isDeed_8 : decode mX7_isDeed.2.1 8 = .ok (.invokestatic 72, 3) := by decide +kernel
theorem dX7_isDeed_11 : decode mX7_isDeed.2.1 11 = .ok (.ireturn, 1) := by decide +kernel
theorem dX7_isDead_0 : decode mX7_isDead.2.1 0 = .ok (.iload_n 1, 1) := by decide +kernel
theorem dX7_isDead_1 : decode mX7_isDead.2.1 1 = .ok (.iconst 0, 1) := by decide +kernel
theorem dX7_isDead_2 : decode mX7_isDead.2.1 2 = .ok (.aload_n 0, 1) := by decide +kernel
theorem dX7_isDead_3 : decode mX7_isDead.2.1 3 = .ok (.getfield 76, 3) := by decide +kernel
theorem dX7_isDead_6 : decode mX7_isDead.2.1 6 = .ok (.iconst 1, 1) := by decide +kernel
theorem dX7_isDead_7 : decode mX7_isDead.2.1 7 = .ok (.isub, 1) := by decide +kernel
theorem dX7_isDead_8 : decode mX7_isDead.2.1 8 = .ok (.invokestatic 72, 3) := by decide +kernel
theorem dX7_isDead_11 : decode mX7_isDead.2.1 11 = .ok (.ireturn, 1) := by decide +kernel
theorem dX7_copy_0 : decode mX7_copy.2.1 0 = .ok (.iconst 0, 1) := by decide +kernel
theorem dX7_copy_1 : decode mX7_copy.2.1 1 = .ok (.istore 4, 2) := by decide +kernel
theorem dX7_copy_3 : decode mX7_copy.2.1 3 = .ok (.iload 4, 2) := by decide +kernel
theorem dX7_copy_5 : decode mX7_copy.2.1 5 = .ok (.bipush 21, 2) := by decide +kernel
theorem dX7_copy_7 : decode mX7_copy.2.1 7 = .ok (.if_icmp .ge 21, 3) := by decide +kernel
theorem dX7_copy_10 : decode mX7_copy.2.1 10 = .ok (.aload_n 0, 1) := by decide +kernel
theorem dX7_copy_11 : decode mX7_copy.2.1 11 = .ok (.iload_n 1, 1) := by decide +kernel
theorem dX7_copy_12 : decode mX7_copy.2.1 12 = .ok (.iload 4, 2) := by decide +kernel
theorem dX7_copy_14 : decode mX7_copy.2.1 14 = .ok (.iadd, 1) := by decide +kernel
theorem dX7_copy_15 : decode mX7_copy.2.1 15 = .ok (.aload_n 2, 1) := by decide +kernel
theorem dX7_copy_16 : decode mX7_copy.2.1 16 = .ok (.iload_n 3, 1) := by decide +kernel
theorem dX7_copy_17 : decode mX7_copy.2.1 17 = .ok (.iload 4, 2) := by decide +kernel
theorem dX7_copy_19 : decode mX7_copy.2.1 19 = .ok (.iadd, 1) := by decide +kernel
theorem dX7_copy_20 : decode mX7_copy.2.1 20 = .ok (.iaload, 1) := by decide +kernel
theorem dX7_copy_21 : decode mX7_copy.2.1 21 = .ok (.iastore, 1) := by decide +kernel
theorem dX7_copy_22 : decode mX7_copy.2.1 22 = .ok (.iinc 4 1, 3) := by decide +kernel
theorem dX7_copy_25 : decode mX7_copy.2.1 25 = .ok (.goto (-22), 3) := by decide +kernel
theorem dX7_copy_28 : decode mX7_copy.2.1 28 = .ok (.return_, 1) := by decide +kernel
theorem dX7_type_0 : decode mX7_type.2.1 0 = .ok (.iload_n 1, 1) := by decide +kernel
theorem dX7_type_1 : decode mX7_type.2.1 1 = .ok (.iconst 0, 1) := by decide +kernel
theorem dX7_type_2 : decode mX7_type.2.1 2 = .ok (.sipush 255, 3) := by decide +kernel
theorem dX7_type_5 : decode mX7_type.2.1 5 = .ok (.invokestatic 72, 3) := by decide +kernel
theorem dX7_type_8 : decode mX7_type.2.1 8 = .ok (.ifCond .ne 5, 3) := by decide +kernel
theorem dX7_type_11 : decode mX7_type.2.1 11 = .ok (.iconst (-1), 1) := by decide +kernel
theorem dX7_type_12 : decode mX7_type.2.1 12 = .ok (.ireturn, 1) := by decide +kernel
theorem dX7_type_13 : decode mX7_type.2.1 13 = .ok (.aload_n 0, 1) := by decide +kernel
theorem dX7_type_14 : decode mX7_type.2.1 14 = .ok (.getfield 79, 3) := by decide +kernel
theorem dX7_type_17 : decode mX7_type.2.1 17 = .ok (.sipush 150, 3) := by decide +kernel
theorem dX7_type_20 : decode mX7_type.2.1 20 = .ok (.if_icmp .ne 6, 3) := by decide +kernel
theorem dX7_type_23 : decode mX7_type.2.1 23 = .ok (.bipush (-3), 2) := by decide +kernel
theorem dX7_type_25 : decode mX7_type.2.1 25 = .ok (.ireturn, 1) := by decide +kernel
theorem dX7_type_26 : decode mX7_type.2.1 26 = .ok (.aload_n 0, 1) := by decide +kernel
theorem dX7_type_27 : decode mX7_type.2.1 27 = .ok (.getfield 42, 3) := by decide +kernel
theorem dX7_type_30 : decode mX7_type.2.1 30 = .ok (.aload_n 0, 1) := by decide +kernel
theorem dX7_type_31 : decode mX7_type.2.1 31 = .ok (.getfield 79, 3) := by decide +kernel
theorem dX7_type_34 : decode mX7_type.2.1 34 = .ok (.iload_n 1, 1) := by decide +kernel
theorem dX7_type_35 : decode mX7_type.2.1 35 = .ok (.iastore, 1) := by decide +kernel
theorem dX7_type_36 : decode mX7_type.2.1 36 = .ok (.aload_n 0, 1) := by decide +kernel
theorem dX7_type_37 : decode mX7_type.2.1 37 = .ok (.dup, 1) := by decide +kernel
theorem dX7_type_38 : decode mX7_type.2.1 38 = .ok (.getfield 79, 3) := by decide +kernel
theorem dX7_type_41 : decode mX7_type.2.1 41 = .ok (.iconst 1, 1) := by decide +kernel
theorem dX7_type_42 : decode mX7_type.2.1 42 = .ok (.iadd, 1) := by decide +kernel
theorem dX7_type_43 : decode mX7_type.2.1 43 = .ok (.putfield 79, 3) := by decide +kernel
theorem dX7_type_46 : decode mX7_type.2.1 46 = .ok (.aload_n 0, 1) := by decide +kernel
theorem dX7_type_47 : decode mX7_type.2.1 47 = .ok (.getfield 79, 3) := by decide +kernel
theorem dX7_type_50 : decode mX7_type.2.1 50 = .ok (.ireturn, 1) := by decide +kernel
theorem dX7_clear_0 : decode mX7_clear.2.1 0 = .ok (.aload_n 0, 1) := by decide +kernel
theorem dX7_clear_1 : decode mX7_clear.2.1 1 = .ok (.getfield 79, 3) := by decide +kernel
theorem dX7_clear_4 : decode mX7_clear.2.1 4 = .ok (.istore_n 1, 1) := by decide +kernel
theorem dX7_clear_5 : decode mX7_clear.2.1 5 = .ok (.aload_n 0, 1) := by decide +kernel
theorem dX7_clear_6 : decode mX7_clear.2.1 6 = .ok (.iconst 0, 1) := by decide +kernel
theorem dX7_clear_7 : decode mX7_clear.2.1 7 = .ok (.putfield 79, 3) := by decide +kernel
theorem dX7_clear_10 : decode mX7_clear.2.1 10 = .ok (.iload_n 1, 1) := by decide +kernel
theorem dX7_clear_11 : decode mX7_clear.2.1 11 = .ok (.ireturn, 1) := by decide +kernel
theorem dX7_letterAt_0 : decode mX7_letterAt.2.1 0 = .ok (.iload_n 1, 1) := by decide +kernel
theorem dX7_letterAt_1 : decode mX7_letterAt.2.1 1 = .ok (.aload_n 0, 1) := by decide +kernel
theorem dX7_letterAt_2 : decode mX7_letterAt.2.1 2 = .ok (.getfield 79, 3) := by decide +kernel
theorem dX7_letterAt_5 : decode mX7_letterAt.2.1 5 = .ok (.if_icmp .ge 12, 3) := by decide +kernel
theorem dX7_letterAt_8 : decode mX7_letterAt.2.1 8 = .ok (.aload_n 0, 1) := by decide +kernel
theorem dX7_letterAt_9 : decode mX7_letterAt.2.1 9 = .ok (.getfield 42, 3) := by decide +kernel
theorem dX7_letterAt_12 : decode mX7_letterAt.2.1 12 = .ok (.iload_n 1, 1) := by decide +kernel
theorem dX7_letterAt_13 : decode mX7_letterAt.2.1 13 = .ok (.iaload, 1) := by decide +kernel
theorem dX7_letterAt_14 : decode mX7_letterAt.2.1 14 = .ok (.goto 4, 3) := by decide +kernel
theorem dX7_letterAt_17 : decode mX7_letterAt.2.1 17 = .ok (.iconst (-1), 1) := by decide +kernel
theorem dX7_letterAt_18 : decode mX7_letterAt.2.1 18 = .ok (.ireturn, 1) := by decide +kernel
theorem dX7_isFigure_0 : decode mX7_isFigure.2.1 0 = .ok (.iload_n 0, 1) := by decide +kernel
theorem dX7_isFigure_1 : decode mX7_isFigure.2.1 1 = .ok (.bipush 48, 2) := by decide +kernel
theorem dX7_isFigure_3 : decode mX7_isFigure.2.1 3 = .ok (.bipush 57, 2) := by decide +kernel
theorem dX7_isFigure_5 : decode mX7_isFigure.2.1 5 = .ok (.invokestatic 72, 3) := by decide +kernel
theorem dX7_isFigure_8 : decode mX7_isFigure.2.1 8 = .ok (.ireturn, 1) := by decide +kernel
theorem dX7_next_0 : decode mX7_next.2.1 0 = .ok (.aload_n 0, 1) := by decide +kernel
theorem dX7_next_1 : decode mX7_next.2.1 1 = .ok (.aload_n 0, 1) := by decide +kernel
theorem dX7_next_2 : decode mX7_next.2.1 2 = .ok (.getfield 82, 3) := by decide +kernel
theorem dX7_next_5 : decode mX7_next.2.1 5 = .ok (.invokevirtual 85, 3) := by decide +kernel
theorem dX7_next_8 : decode mX7_next.2.1 8 = .ok (.bipush 32, 2) := by decide +kernel
theorem dX7_next_10 : decode mX7_next.2.1 10 = .ok (.if_icmp .ne 16, 3) := by decide +kernel
theorem dX7_next_13 : decode mX7_next.2.1 13 = .ok (.aload_n 0, 1) := by decide +kernel
theorem dX7_next_14 : decode mX7_next.2.1 14 = .ok (.dup, 1) := by decide +kernel
theorem dX7_next_15 : decode mX7_next.2.1 15 = .ok (.getfield 82, 3) := by decide +kernel
theorem dX7_next_18 : decode mX7_next.2.1 18 = .ok (.iconst 1, 1) := by decide +kernel
theorem dX7_next_19 : decode mX7_next.2.1 19 = .ok (.iadd, 1) := by decide +kernel
theorem dX7_next_20 : decode mX7_next.2.1 20 = .ok (.putfield 82, 3) := by decide +kernel
theorem dX7_next_23 : decode mX7_next.2.1 23 = .ok (.goto (-23), 3) := by decide +kernel
theorem dX7_next_26 : decode mX7_next.2.1 26 = .ok (.aload_n 0, 1) := by decide +kernel
theorem dX7_next_27 : decode mX7_next.2.1 27 = .ok (.aload_n 0, 1) := by decide +kernel
theorem dX7_next_28 : decode mX7_next.2.1 28 = .ok (.getfield 82, 3) := by decide +kernel
theorem dX7_next_31 : decode mX7_next.2.1 31 = .ok (.putfield 89, 3) := by decide +kernel
theorem dX7_next_34 : decode mX7_next.2.1 34 = .ok (.aload_n 0, 1) := by decide +kernel
theorem dX7_next_35 : decode mX7_next.2.1 35 = .ok (.aload_n 0, 1) := by decide +kernel
theorem dX7_next_36 : decode mX7_next.2.1 36 = .ok (.getfield 82, 3) := by decide +kernel
theorem dX7_next_39 : decode mX7_next.2.1 39 = .ok (.invokevirtual 85, 3) := by decide +kernel
theorem dX7_next_42 : decode mX7_next.2.1 42 = .ok (.istore_n 1, 1) := by decide +kernel
theorem dX7_next_43 : decode mX7_next.2.1 43 = .ok (.aload_n 0, 1) := by decide +kernel
theorem dX7_next_44 : decode mX7_next.2.1 44 = .ok (.iconst 0, 1) := by decide +kernel
theorem dX7_next_45 : decode mX7_next.2.1 45 = .ok (.putfield 92, 3) := by decide +kernel
theorem dX7_next_48 : decode mX7_next.2.1 48 = .ok (.iload_n 1, 1) := by decide +kernel
theorem dX7_next_49 : decode mX7_next.2.1 49 = .ok (.ifCond .ge 11, 3) := by decide +kernel
theorem dX7_next_52 : decode mX7_next.2.1 52 = .ok (.aload_n 0, 1) := by decide +kernel
theorem dX7_next_53 : decode mX7_next.2.1 53 = .ok (.iconst 0, 1) := by decide +kernel
theorem dX7_next_54 : decode mX7_next.2.1 54 = .ok (.putfield 95, 3) := by decide +kernel
theorem dX7_next_57 : decode mX7_next.2.1 57 = .ok (.goto 180, 3) := by decide +kernel
theorem dX7_next_60 : decode mX7_next.2.1 60 = .ok (.iload_n 1, 1) := by decide +kernel
theorem dX7_next_61 : decode mX7_next.2.1 61 = .ok (.invokestatic 98, 3) := by decide +kernel
theorem dX7_next_64 : decode mX7_next.2.1 64 = .ok (.ifCond .eq 109, 3) := by decide +kernel
theorem dX7_next_67 : decode mX7_next.2.1 67 = .ok (.aload_n 0, 1) := by decide +kernel
theorem dX7_next_68 : decode mX7_next.2.1 68 = .ok (.aload_n 0, 1) := by decide +kernel
theorem dX7_next_69 : decode mX7_next.2.1 69 = .ok (.getfield 82, 3) := by decide +kernel
theorem dX7_next_72 : decode mX7_next.2.1 72 = .ok (.invokevirtual 85, 3) := by decide +kernel
theorem dX7_next_75 : decode mX7_next.2.1 75 = .ok (.invokestatic 98, 3) := by decide +kernel
theorem dX7_next_78 : decode mX7_next.2.1 78 = .ok (.ifCond .eq 55, 3) := by decide +kernel
theorem dX7_next_81 : decode mX7_next.2.1 81 = .ok (.aload_n 0, 1) := by decide +kernel
theorem dX7_next_82 : decode mX7_next.2.1 82 = .ok (.aload_n 0, 1) := by decide +kernel
theorem dX7_next_83 : decode mX7_next.2.1 83 = .ok (.getfield 92, 3) := by decide +kernel
theorem dX7_next_86 : decode mX7_next.2.1 86 = .ok (.bipush 99, 2) := by decide +kernel
theorem dX7_next_88 : decode mX7_next.2.1 88 = .ok (.if_icmp .le 10, 3) := by decide +kernel
theorem dX7_next_91 : decode mX7_next.2.1 91 = .ok (.aload_n 0, 1) := by decide +kernel
theorem dX7_next_92 : decode mX7_next.2.1 92 = .ok (.getfield 92, 3) := by decide +kernel
theorem dX7_next_95 : decode mX7_next.2.1 95 = .ok (.goto 22, 3) := by decide +kernel
theorem dX7_next_98 : decode mX7_next.2.1 98 = .ok (.bipush 10, 2) := by decide +kernel
theorem dX7_next_100 : decode mX7_next.2.1 100 = .ok (.aload_n 0, 1) := by decide +kernel
theorem dX7_next_101 : decode mX7_next.2.1 101 = .ok (.getfield 92, 3) := by decide +kernel
theorem dX7_next_104 : decode mX7_next.2.1 104 = .ok (.imul, 1) := by decide +kernel
theorem dX7_next_105 : decode mX7_next.2.1 105 = .ok (.aload_n 0, 1) := by decide +kernel
theorem dX7_next_106 : decode mX7_next.2.1 106 = .ok (.aload_n 0, 1) := by decide +kernel
theorem dX7_next_107 : decode mX7_next.2.1 107 = .ok (.getfield 82, 3) := by decide +kernel
theorem dX7_next_110 : decode mX7_next.2.1 110 = .ok (.invokevirtual 85, 3) := by decide +kernel
theorem dX7_next_113 : decode mX7_next.2.1 113 = .ok (.iadd, 1) := by decide +kernel
theorem dX7_next_114 : decode mX7_next.2.1 114 = .ok (.bipush 48, 2) := by decide +kernel
theorem dX7_next_116 : decode mX7_next.2.1 116 = .ok (.isub, 1) := by decide +kernel
theorem dX7_next_117 : decode mX7_next.2.1 117 = .ok (.putfield 92, 3) := by decide +kernel
theorem dX7_next_120 : decode mX7_next.2.1 120 = .ok (.aload_n 0, 1) := by decide +kernel
theorem dX7_next_121 : decode mX7_next.2.1 121 = .ok (.dup, 1) := by decide +kernel
theorem dX7_next_122 : decode mX7_next.2.1 122 = .ok (.getfield 82, 3) := by decide +kernel
theorem dX7_next_125 : decode mX7_next.2.1 125 = .ok (.iconst 1, 1) := by decide +kernel
theorem dX7_next_126 : decode mX7_next.2.1 126 = .ok (.iadd, 1) := by decide +kernel
theorem dX7_next_127 : decode mX7_next.2.1 127 = .ok (.putfield 82, 3) := by decide +kernel
theorem dX7_next_130 : decode mX7_next.2.1 130 = .ok (.goto (-63), 3) := by decide +kernel
theorem dX7_next_133 : decode mX7_next.2.1 133 = .ok (.aload_n 0, 1) := by decide +kernel
theorem dX7_next_134 : decode mX7_next.2.1 134 = .ok (.aload_n 0, 1) := by decide +kernel
theorem dX7_next_135 : decode mX7_next.2.1 135 = .ok (.getfield 92, 3) := by decide +kernel
theorem dX7_next_138 : decode mX7_next.2.1 138 = .ok (.bipush 99, 2) := by decide +kernel
theorem dX7_next_140 : decode mX7_next.2.1 140 = .ok (.if_icmp .gt 22, 3) := by decide +kernel
theorem dX7_next_143 : decode mX7_next.2.1 143 = .ok (.iload_n 1, 1) := by decide +kernel
theorem dX7_next_144 : decode mX7_next.2.1 144 = .ok (.bipush 48, 2) := by decide +kernel
theorem dX7_next_146 : decode mX7_next.2.1 146 = .ok (.if_icmp .ne 20, 3) := by decide +kernel
theorem dX7_next_149 : decode mX7_next.2.1 149 = .ok (.aload_n 0, 1) := by decide +kernel
theorem dX7_next_150 : decode mX7_next.2.1 150 = .ok (.getfield 82, 3) := by decide +kernel
theorem dX7_next_153 : decode mX7_next.2.1 153 = .ok (.aload_n 0, 1) := by decide +kernel
theorem dX7_next_154 : decode mX7_next.2.1 154 = .ok (.getfield 89, 3) := by decide +kernel
theorem dX7_next_157 : decode mX7_next.2.1 157 = .ok (.isub, 1) := by decide +kernel
theorem dX7_next_158 : decode mX7_next.2.1 158 = .ok (.iconst 1, 1) := by decide +kernel
theorem dX7_next_159 : decode mX7_next.2.1 159 = .ok (.if_icmp .le 7, 3) := by decide +kernel
theorem dX7_next_162 : decode mX7_next.2.1 162 = .ok (.iconst 4, 1) := by decide +kernel
theorem dX7_next_163 : decode mX7_next.2.1 163 = .ok (.goto 4, 3) := by decide +kernel
theorem dX7_next_166 : decode mX7_next.2.1 166 = .ok (.iconst 2, 1) := by decide +kernel
theorem dX7_next_167 : decode mX7_next.2.1 167 = .ok (.putfield 95, 3) := by decide +kernel
theorem dX7_next_170 : decode mX7_next.2.1 170 = .ok (.goto 67, 3) := by decide +kernel
theorem dX7_next_173 : decode mX7_next.2.1 173 = .ok (.aload_n 0, 1) := by decide +kernel
theorem dX7_next_174 : decode mX7_next.2.1 174 = .ok (.iload_n 1, 1) := by decide +kernel
theorem dX7_next_175 : decode mX7_next.2.1 175 = .ok (.bipush 100, 2) := by decide +kernel
theorem dX7_next_177 : decode mX7_next.2.1 177 = .ok (.if_icmp .eq 27, 3) := by decide +kernel
theorem dX7_next_180 : decode mX7_next.2.1 180 = .ok (.iload_n 1, 1) := by decide +kernel
theorem dX7_next_181 : decode mX7_next.2.1 181 = .ok (.bipush 108, 2) := by decide +kernel
theorem dX7_next_183 : decode mX7_next.2.1 183 = .ok (.if_icmp .eq 21, 3) := by decide +kernel
theorem dX7_next_186 : decode mX7_next.2.1 186 = .ok (.iload_n 1, 1) := by decide +kernel
theorem dX7_next_187 : decode mX7_next.2.1 187 = .ok (.bipush 98, 2) := by decide +kernel
theorem dX7_next_189 : decode mX7_next.2.1 189 = .ok (.if_icmp .eq 15, 3) := by decide +kernel
theorem dX7_next_192 : decode mX7_next.2.1 192 = .ok (.iload_n 1, 1) := by decide +kernel
theorem dX7_next_193 : decode mX7_next.2.1 193 = .ok (.bipush 112, 2) := by decide +kernel
theorem dX7_next_195 : decode mX7_next.2.1 195 = .ok (.if_icmp .eq 9, 3) := by decide +kernel
theorem dX7_next_198 : decode mX7_next.2.1 198 = .ok (.iload_n 1, 1) := by decide +kernel
theorem dX7_next_199 : decode mX7_next.2.1 199 = .ok (.bipush 114, 2) := by decide +kernel
theorem dX7_next_201 : decode mX7_next.2.1 201 = .ok (.if_icmp .ne 7, 3) := by decide +kernel
theorem dX7_next_204 : decode mX7_next.2.1 204 = .ok (.iconst 1, 1) := by decide +kernel
theorem dX7_next_205 : decode mX7_next.2.1 205 = .ok (.goto 14, 3) := by decide +kernel
theorem dX7_next_208 : decode mX7_next.2.1 208 = .ok (.iload_n 1, 1) := by decide +kernel
theorem dX7_next_209 : decode mX7_next.2.1 209 = .ok (.bipush 59, 2) := by decide +kernel
theorem dX7_next_211 : decode mX7_next.2.1 211 = .ok (.if_icmp .ne 7, 3) := by decide +kernel
theorem dX7_next_214 : decode mX7_next.2.1 214 = .ok (.iconst 3, 1) := by decide +kernel
theorem dX7_next_215 : decode mX7_next.2.1 215 = .ok (.goto 4, 3) := by decide +kernel
theorem dX7_next_218 : decode mX7_next.2.1 218 = .ok (.iconst 4, 1) := by decide +kernel
theorem dX7_next_219 : decode mX7_next.2.1 219 = .ok (.putfield 95, 3) := by decide +kernel
theorem dX7_next_222 : decode mX7_next.2.1 222 = .ok (.aload_n 0, 1) := by decide +kernel
theorem dX7_next_223 : decode mX7_next.2.1 223 = .ok (.iload_n 1, 1) := by decide +kernel
theorem dX7_next_224 : decode mX7_next.2.1 224 = .ok (.putfield 92, 3) := by decide +kernel
theorem dX7_next_227 : decode mX7_next.2.1 227 = .ok (.aload_n 0, 1) := by decide +kernel
theorem dX7_next_228 : decode mX7_next.2.1 228 = .ok (.dup, 1) := by decide +kernel
theorem dX7_next_229 : decode mX7_next.2.1 229 = .ok (.getfield 82, 3) := by decide +kernel
theorem dX7_next_232 : decode mX7_next.2.1 232 = .ok (.iconst 1, 1) := by decide +kernel
theorem dX7_next_233 : decode mX7_next.2.1 233 = .ok (.iadd, 1) := by decide +kernel
theorem dX7_next_234 : decode mX7_next.2.1 234 = .ok (.putfield 82, 3) := by decide +kernel
theorem dX7_next_237 : decode mX7_next.2.1 237 = .ok (.return_, 1) := by decide +kernel
theorem dX7_takesNumber_0 : decode mX7_takesNumber.2.1 0 = .ok (.aload_n 0, 1) := by decide +kernel
theorem dX7_takesNumber_1 : decode mX7_takesNumber.2.1 1 = .ok (.getfield 102, 3) := by decide +kernel
theorem dX7_takesNumber_4 : decode mX7_takesNumber.2.1 4 = .ok (.ifCond .ne 27, 3) := by decide +kernel
theorem dX7_takesNumber_7 : decode mX7_takesNumber.2.1 7 = .ok (.aload_n 0, 1) := by decide +kernel
theorem dX7_takesNumber_8 : decode mX7_takesNumber.2.1 8 = .ok (.getfield 95, 3) := by decide +kernel
theorem dX7_takesNumber_11 : decode mX7_takesNumber.2.1 11 = .ok (.iconst 2, 1) := by decide +kernel
theorem dX7_takesNumber_12 : decode mX7_takesNumber.2.1 12 = .ok (.if_icmp .ne 19, 3) := by decide +kernel
theorem dX7_takesNumber_15 : decode mX7_takesNumber.2.1 15 = .ok (.aload_n 0, 1) := by decide +kernel
theorem dX7_takesNumber_16 : decode mX7_takesNumber.2.1 16 = .ok (.getfield 92, 3) := by decide +kernel
theorem dX7_takesNumber_19 : decode mX7_takesNumber.2.1 19 = .ok (.iload_n 1, 1) := by decide +kernel
theorem dX7_takesNumber_20 : decode mX7_takesNumber.2.1 20 = .ok (.iload_n 2, 1) := by decide +kernel
theorem dX7_takesNumber_21 : decode mX7_takesNumber.2.1 21 = .ok (.invokestatic 72, 3) := by decide +kernel
theorem dX7_takesNumber_24 : decode mX7_takesNumber.2.1 24 = .ok (.ifCond .eq 7, 3) := by decide +kernel
theorem dX7_takesNumber_27 : decode mX7_takesNumber.2.1 27 = .ok (.iconst 1, 1) := by decide +kernel
theorem dX7_takesNumber_28 : decode mX7_takesNumber.2.1 28 = .ok (.goto 4, 3) := by decide +kernel
theorem dX7_takesNumber_31 : decode mX7_takesNumber.2.1 31 = .ok (.iconst 0, 1) := by decide +kernel
theorem dX7_takesNumber_32 : decode mX7_takesNumber.2.1 32 = .ok (.istore_n 3, 1) := by decide +kernel
theorem dX7_takesNumber_33 : decode mX7_takesNumber.2.1 33 = .ok (.aload_n 0, 1) := by decide +kernel
theorem dX7_takesNumber_34 : decode mX7_takesNumber.2.1 34 = .ok (.iload_n 3, 1) := by decide +kernel
theorem dX7_takesNumber_35 : decode mX7_takesNumber.2.1 35 = .ok (.ifCond .ne 7, 3) := by decide +kernel
theorem dX7_takesNumber_38 : decode mX7_takesNumber.2.1 38 = .ok (.iconst 1, 1) := by decide +kernel
theorem dX7_takesNumber_39 : decode mX7_takesNumber.2.1 39 = .ok (.goto 4, 3) := by decide +kernel
theorem dX7_takesNumber_42 : decode mX7_takesNumber.2.1 42 = .ok (.iconst 0, 1) := by decide +kernel
theorem dX7_takesNumber_43 : decode mX7_takesNumber.2.1 43 = .ok (.putfield 102, 3) := by decide +kernel
theorem dX7_takesNumber_46 : decode mX7_takesNumber.2.1 46 = .ok (.aload_n 0, 1) := by decide +kernel
theorem dX7_takesNumber_47 : decode mX7_takesNumber.2.1 47 = .ok (.getfield 92, 3) := by decide +kernel
theorem dX7_takesNumber_50 : decode mX7_takesNumber.2.1 50 = .ok (.istore 4, 2) := by decide +kernel
theorem dX7_takesNumber_52 : decode mX7_takesNumber.2.1 52 = .ok (.iload_n 3, 1) := by decide +kernel
theorem dX7_takesNumber_53 : decode mX7_takesNumber.2.1 53 = .ok (.ifCond .eq 7, 3) := by decide +kernel
theorem dX7_takesNumber_56 : decode mX7_takesNumber.2.1 56 = .ok (.aload_n 0, 1) := by decide +kernel
theorem dX7_takesNumber_57 : decode mX7_takesNumber.2.1 57 = .ok (.invokevirtual 106, 3) := by decide +kernel
theorem dX7_takesNumber_60 : decode mX7_takesNumber.2.1 60 = .ok (.iload_n 3, 1) := by decide +kernel
theorem dX7_takesNumber_61 : decode mX7_takesNumber.2.1 61 = .ok (.ifCond .eq 8, 3) := by decide +kernel
theorem dX7_takesNumber_64 : decode mX7_takesNumber.2.1 64 = .ok (.iload 4, 2) := by decide +kernel
theorem dX7_takesNumber_66 : decode mX7_takesNumber.2.1 66 = .ok (.goto 4, 3) := by decide +kernel
theorem dX7_takesNumber_69 : decode mX7_takesNumber.2.1 69 = .ok (.iconst 0, 1) := by decide +kernel
theorem dX7_takesNumber_70 : decode mX7_takesNumber.2.1 70 = .ok (.ireturn, 1) := by decide +kernel
theorem dX7_readDead_0 : decode mX7_readDead.2.1 0 = .ok (.aload_n 0, 1) := by decide +kernel
theorem dX7_readDead_1 : decode mX7_readDead.2.1 1 = .ok (.getfield 48, 3) := by decide +kernel
theorem dX7_readDead_4 : decode mX7_readDead.2.1 4 = .ok (.aload_n 0, 1) := by decide +kernel
theorem dX7_readDead_5 : decode mX7_readDead.2.1 5 = .ok (.getfield 109, 3) := by decide +kernel
theorem dX7_readDead_8 : decode mX7_readDead.2.1 8 = .ok (.aload_n 0, 1) := by decide +kernel
theorem dX7_readDead_9 : decode mX7_readDead.2.1 9 = .ok (.iconst 1, 1) := by decide +kernel
theorem dX7_readDead_10 : decode mX7_readDead.2.1 10 = .ok (.bipush 40, 2) := by decide +kernel
theorem dX7_readDead_12 : decode mX7_readDead.2.1 12 = .ok (.invokevirtual 112, 3) := by decide +kernel
theorem dX7_readDead_15 : decode mX7_readDead.2.1 15 = .ok (.iastore, 1) := by decide +kernel
theorem dX7_readDead_16 : decode mX7_readDead.2.1 16 = .ok (.aload_n 0, 1) := by decide +kernel
theorem dX7_readDead_17 : decode mX7_readDead.2.1 17 = .ok (.getfield 51, 3) := by decide +kernel
theorem dX7_readDead_20 : decode mX7_readDead.2.1 20 = .ok (.aload_n 0, 1) := by decide +kernel
theorem dX7_readDead_21 : decode mX7_readDead.2.1 21 = .ok (.getfield 109, 3) := by decide +kernel
theorem dX7_readDead_24 : decode mX7_readDead.2.1 24 = .ok (.aload_n 0, 1) := by decide +kernel
theorem dX7_readDead_25 : decode mX7_readDead.2.1 25 = .ok (.iconst 0, 1) := by decide +kernel
theorem dX7_readDead_26 : decode mX7_readDead.2.1 26 = .ok (.bipush 9, 2) := by decide +kernel
theorem dX7_readDead_28 : decode mX7_readDead.2.1 28 = .ok (.invokevirtual 112, 3) := by decide +kernel
theorem dX7_readDead_31 : decode mX7_readDead.2.1 31 = .ok (.iastore, 1) := by decide +kernel
theorem dX7_readDead_32 : decode mX7_readDead.2.1 32 = .ok (.iconst 0, 1) := by decide +kernel
theorem dX7_readDead_33 : decode mX7_readDead.2.1 33 = .ok (.istore_n 1, 1) := by decide +kernel
theorem dX7_readDead_34 : decode mX7_readDead.2.1 34 = .ok (.aload_n 0, 1) := by decide +kernel
theorem dX7_readDead_35 : decode mX7_readDead.2.1 35 = .ok (.getfield 102, 3) := by decide +kernel
theorem dX7_readDead_38 : decode mX7_readDead.2.1 38 = .ok (.ifCond .ne 80, 3) := by decide +kernel
theorem dX7_readDead_41 : decode mX7_readDead.2.1 41 = .ok (.aload_n 0, 1) := by decide +kernel
theorem dX7_readDead_42 : decode mX7_readDead.2.1 42 = .ok (.getfield 95, 3) := by decide +kernel
theorem dX7_readDead_45 : decode mX7_readDead.2.1 45 = .ok (.iconst 2, 1) := by decide +kernel
theorem dX7_readDead_46 : decode mX7_readDead.2.1 46 = .ok (.if_icmp .ne 72, 3) := by decide +kernel
theorem dX7_readDead_49 : decode mX7_readDead.2.1 49 = .ok (.aload_n 0, 1) := by decide +kernel
theorem dX7_readDead_50 : decode mX7_readDead.2.1 50 = .ok (.aload_n 0, 1) := by decide +kernel
theorem dX7_readDead_51 : decode mX7_readDead.2.1 51 = .ok (.getfield 92, 3) := by decide +kernel
theorem dX7_readDead_54 : decode mX7_readDead.2.1 54 = .ok (.iconst 0, 1) := by decide +kernel
theorem dX7_readDead_55 : decode mX7_readDead.2.1 55 = .ok (.aload_n 0, 1) := by decide +kernel
theorem dX7_readDead_56 : decode mX7_readDead.2.1 56 = .ok (.getfield 116, 3) := by decide +kernel
theorem dX7_readDead_59 : decode mX7_readDead.2.1 59 = .ok (.iconst 1, 1) := by decide +kernel
theorem dX7_readDead_60 : decode mX7_readDead.2.1 60 = .ok (.isub, 1) := by decide +kernel
theorem dX7_readDead_61 : decode mX7_readDead.2.1 61 = .ok (.invokestatic 72, 3) := by decide +kernel
theorem dX7_readDead_64 : decode mX7_readDead.2.1 64 = .ok (.ifCond .eq 18, 3) := by decide +kernel
theorem dX7_readDead_67 : decode mX7_readDead.2.1 67 = .ok (.iload_n 1, 1) := by decide +kernel
theorem dX7_readDead_68 : decode mX7_readDead.2.1 68 = .ok (.aload_n 0, 1) := by decide +kernel
theorem dX7_readDead_69 : decode mX7_readDead.2.1 69 = .ok (.getfield 92, 3) := by decide +kernel
theorem dX7_readDead_72 : decode mX7_readDead.2.1 72 = .ok (.invokestatic 119, 3) := by decide +kernel
theorem dX7_readDead_75 : decode mX7_readDead.2.1 75 = .ok (.ifCond .eq 7, 3) := by decide +kernel
theorem dX7_readDead_78 : decode mX7_readDead.2.1 78 = .ok (.iconst 1, 1) := by decide +kernel
theorem dX7_readDead_79 : decode mX7_readDead.2.1 79 = .ok (.goto 4, 3) := by decide +kernel
theorem dX7_readDead_82 : decode mX7_readDead.2.1 82 = .ok (.iconst 0, 1) := by decide +kernel
theorem dX7_readDead_83 : decode mX7_readDead.2.1 83 = .ok (.putfield 102, 3) := by decide +kernel
theorem dX7_readDead_86 : decode mX7_readDead.2.1 86 = .ok (.aload_n 0, 1) := by decide +kernel
theorem dX7_readDead_87 : decode mX7_readDead.2.1 87 = .ok (.iconst 0, 1) := by decide +kernel
theorem dX7_readDead_88 : decode mX7_readDead.2.1 88 = .ok (.aload_n 0, 1) := by decide +kernel
theorem dX7_readDead_89 : decode mX7_readDead.2.1 89 = .ok (.getfield 116, 3) := by decide +kernel
theorem dX7_readDead_92 : decode mX7_readDead.2.1 92 = .ok (.iconst 1, 1) := by decide +kernel
theorem dX7_readDead_93 : decode mX7_readDead.2.1 93 = .ok (.isub, 1) := by decide +kernel
theorem dX7_readDead_94 : decode mX7_readDead.2.1 94 = .ok (.invokevirtual 112, 3) := by decide +kernel
theorem dX7_readDead_97 : decode mX7_readDead.2.1 97 = .ok (.istore_n 2, 1) := by decide +kernel
theorem dX7_readDead_98 : decode mX7_readDead.2.1 98 = .ok (.iload_n 1, 1) := by decide +kernel
theorem dX7_readDead_99 : decode mX7_readDead.2.1 99 = .ok (.aload_n 0, 1) := by decide +kernel
theorem dX7_readDead_100 : decode mX7_readDead.2.1 100 = .ok (.getfield 102, 3) := by decide +kernel
theorem dX7_readDead_103 : decode mX7_readDead.2.1 103 = .ok (.ifCond .eq 7, 3) := by decide +kernel
theorem dX7_readDead_106 : decode mX7_readDead.2.1 106 = .ok (.iconst 0, 1) := by decide +kernel
theorem dX7_readDead_107 : decode mX7_readDead.2.1 107 = .ok (.goto 6, 3) := by decide +kernel
theorem dX7_readDead_110 : decode mX7_readDead.2.1 110 = .ok (.iconst 1, 1) := by decide +kernel
theorem dX7_readDead_111 : decode mX7_readDead.2.1 111 = .ok (.iload_n 2, 1) := by decide +kernel
theorem dX7_readDead_112 : decode mX7_readDead.2.1 112 = .ok (.ishl, 1) := by decide +kernel
theorem dX7_readDead_113 : decode mX7_readDead.2.1 113 = .ok (.ior, 1) := by decide +kernel
theorem dX7_readDead_114 : decode mX7_readDead.2.1 114 = .ok (.istore_n 1, 1) := by decide +kernel
theorem dX7_readDead_115 : decode mX7_readDead.2.1 115 = .ok (.goto (-81), 3) := by decide +kernel
theorem dX7_readDead_118 : decode mX7_readDead.2.1 118 = .ok (.aload_n 0, 1) := by decide +kernel
theorem dX7_readDead_119 : decode mX7_readDead.2.1 119 = .ok (.getfield 54, 3) := by decide +kernel
theorem dX7_readDead_122 : decode mX7_readDead.2.1 122 = .ok (.aload_n 0, 1) := by decide +kernel
theorem dX7_readDead_123 : decode mX7_readDead.2.1 123 = .ok (.getfield 109, 3) := by decide +kernel
theorem dX7_readDead_126 : decode mX7_readDead.2.1 126 = .ok (.iload_n 1, 1) := by decide +kernel
theorem dX7_readDead_127 : decode mX7_readDead.2.1 127 = .ok (.iastore, 1) := by decide +kernel
theorem dX7_readDead_128 : decode mX7_readDead.2.1 128 = .ok (.aload_n 0, 1) := by decide +kernel
theorem dX7_readDead_129 : decode mX7_readDead.2.1 129 = .ok (.dup, 1) := by decide +kernel
theorem dX7_readDead_130 : decode mX7_readDead.2.1 130 = .ok (.getfield 109, 3) := by decide +kernel
theorem dX7_readDead_133 : decode mX7_readDead.2.1 133 = .ok (.iconst 1, 1) := by decide +kernel
theorem dX7_readDead_134 : decode mX7_readDead.2.1 134 = .ok (.iadd, 1) := by decide +kernel
theorem dX7_readDead_135 : decode mX7_readDead.2.1 135 = .ok (.putfield 109, 3) := by decide +kernel
theorem dX7_readDead_138 : decode mX7_readDead.2.1 138 = .ok (.return_, 1) := by decide +kernel
theorem dX7_mayBegin_0 : decode mX7_mayBegin.2.1 0 = .ok (.iload_n 1, 1) := by decide +kernel
theorem dX7_mayBegin_1 : decode mX7_mayBegin.2.1 1 = .ok (.lookupswitch 101 #[(98, 73), (100, 43), (108, 58), (112, 88)], 43) := by decide +kernel
theorem dX7_mayBegin_44 : decode mX7_mayBegin.2.1 44 = .ok (.aload_n 0, 1) := by decide +kernel
theorem dX7_mayBegin_45 : decode mX7_mayBegin.2.1 45 = .ok (.getfield 116, 3) := by decide +kernel
theorem dX7_mayBegin_48 : decode mX7_mayBegin.2.1 48 = .ok (.bipush 6, 2) := by decide +kernel
theorem dX7_mayBegin_50 : decode mX7_mayBegin.2.1 50 = .ok (.if_icmp .ge 7, 3) := by decide +kernel
theorem dX7_mayBegin_53 : decode mX7_mayBegin.2.1 53 = .ok (.iconst 1, 1) := by decide +kernel
theorem dX7_mayBegin_54 : decode mX7_mayBegin.2.1 54 = .ok (.goto 4, 3) := by decide +kernel
theorem dX7_mayBegin_57 : decode mX7_mayBegin.2.1 57 = .ok (.iconst 0, 1) := by decide +kernel
theorem dX7_mayBegin_58 : decode mX7_mayBegin.2.1 58 = .ok (.ireturn, 1) := by decide +kernel
theorem dX7_mayBegin_59 : decode mX7_mayBegin.2.1 59 = .ok (.aload_n 0, 1) := by decide +kernel
theorem dX7_mayBegin_60 : decode mX7_mayBegin.2.1 60 = .ok (.getfield 109, 3) := by decide +kernel
theorem dX7_mayBegin_63 : decode mX7_mayBegin.2.1 63 = .ok (.bipush 6, 2) := by decide +kernel
theorem dX7_mayBegin_65 : decode mX7_mayBegin.2.1 65 = .ok (.if_icmp .ge 7, 3) := by decide +kernel
theorem dX7_mayBegin_68 : decode mX7_mayBegin.2.1 68 = .ok (.iconst 1, 1) := by decide +kernel
theorem dX7_mayBegin_69 : decode mX7_mayBegin.2.1 69 = .ok (.goto 4, 3) := by decide +kernel
theorem dX7_mayBegin_72 : decode mX7_mayBegin.2.1 72 = .ok (.iconst 0, 1) := by decide +kernel
theorem dX7_mayBegin_73 : decode mX7_mayBegin.2.1 73 = .ok (.ireturn, 1) := by decide +kernel
theorem dX7_mayBegin_74 : decode mX7_mayBegin.2.1 74 = .ok (.aload_n 0, 1) := by decide +kernel

theorem dX6_isIn_5 : decode cX6_isIn 5 = .ok (.ifCond .eq 7, 3) := by decide +kernel
theorem dX6_isIn_8 : decode cX6_isIn 8 = .ok (.iconst 1, 1) := by decide +kernel
theorem dX6_isIn_9 : decode cX6_isIn 9 = .ok (.goto 4, 3) := by decide +kernel
theorem dX6_isIn_12 : decode cX6_isIn 12 = .ok (.iconst 0, 1) := by decide +kernel
theorem dX6_isIn_13 : decode cX6_isIn 13 = .ok (.ireturn, 1) := by decide +kernel
theorem dX6_allOf_0 : decode cX6_allOf 0 = .ok (.iconst 1, 1) := by decide +kernel
theorem dX6_allOf_1 : decode cX6_allOf 1 = .ok (.iload_n 0, 1) := by decide +kernel
theorem dX6_allOf_2 : decode cX6_allOf 2 = .ok (.ishl, 1) := by decide +kernel
theorem dX6_allOf_3 : decode cX6_allOf 3 = .ok (.iconst 1, 1) := by decide +kernel
theorem dX6_allOf_4 : decode cX6_allOf 4 = .ok (.isub, 1) := by decide +kernel
theorem dX6_allOf_5 : decode cX6_allOf 5 = .ok (.ireturn, 1) := by decide +kernel
theorem dX6_power_0 : decode cX6_power 0 = .ok (.iconst 1, 1) := by decide +kernel
theorem dX6_power_1 : decode cX6_power 1 = .ok (.istore_n 2, 1) := by decide +kernel
theorem dX6_power_2 : decode cX6_power 2 = .ok (.iconst 0, 1) := by decide +kernel
theorem dX6_power_3 : decode cX6_power 3 = .ok (.istore_n 3, 1) := by decide +kernel
theorem dX6_power_4 : decode cX6_power 4 = .ok (.iload_n 3, 1) := by decide +kernel
theorem dX6_power_5 : decode cX6_power 5 = .ok (.iload_n 1, 1) := by decide +kernel
theorem dX6_power_6 : decode cX6_power 6 = .ok (.if_icmp .ge 13, 3) := by decide +kernel
theorem dX6_power_9 : decode cX6_power 9 = .ok (.iload_n 2, 1) := by decide +kernel
theorem dX6_power_10 : decode cX6_power 10 = .ok (.iload_n 0, 1) := by decide +kernel
theorem dX6_power_11 : decode cX6_power 11 = .ok (.imul, 1) := by decide +kernel
theorem dX6_power_12 : decode cX6_power 12 = .ok (.istore_n 2, 1) := by decide +kernel
theorem dX6_power_13 : decode cX6_power 13 = .ok (.iinc 3 1, 3) := by decide +kernel
theorem dX6_power_16 : decode cX6_power 16 = .ok (.goto (-12), 3) := by decide +kernel
theorem dX6_power_19 : decode cX6_power 19 = .ok (.iload_n 2, 1) := by decide +kernel
theorem dX6_power_20 : decode cX6_power 20 = .ok (.ireturn, 1) := by decide +kernel
theorem dX6_commonDivisor_0 : decode cX6_commonDivisor 0 = .ok (.iload_n 1, 1) := by decide +kernel
theorem dX6_commonDivisor_1 : decode cX6_commonDivisor 1 = .ok (.istore_n 2, 1) := by decide +kernel
theorem dX6_commonDivisor_2 : decode cX6_commonDivisor 2 = .ok (.iload_n 0, 1) := by decide +kernel
theorem dX6_commonDivisor_3 : decode cX6_commonDivisor 3 = .ok (.istore_n 3, 1) := by decide +kernel
theorem dX6_commonDivisor_4 : decode cX6_commonDivisor 4 = .ok (.iconst 0, 1) := by decide +kernel
theorem dX6_commonDivisor_5 : decode cX6_commonDivisor 5 = .ok (.istore 4, 2) := by decide +kernel
theorem dX6_commonDivisor_7 : decode cX6_commonDivisor 7 = .ok (.iload 4, 2) := by decide +kernel
theorem dX6_commonDivisor_9 : decode cX6_commonDivisor 9 = .ok (.bipush 64, 2) := by decide +kernel
theorem dX6_commonDivisor_11 : decode cX6_commonDivisor 11 = .ok (.if_icmp .ge 23, 3) := by decide +kernel
theorem dX6_commonDivisor_14 : decode cX6_commonDivisor 14 = .ok (.iload_n 3, 1) := by decide +kernel
theorem dX6_commonDivisor_15 : decode cX6_commonDivisor 15 = .ok (.ifCond .le 19, 3) := by decide +kernel
theorem dX6_commonDivisor_18 : decode cX6_commonDivisor 18 = .ok (.iload_n 2, 1) := by decide +kernel
theorem dX6_commonDivisor_19 : decode cX6_commonDivisor 19 = .ok (.iload_n 3, 1) := by decide +kernel
theorem dX6_commonDivisor_20 : decode cX6_commonDivisor 20 = .ok (.irem, 1) := by decide +kernel
theorem dX6_commonDivisor_21 : decode cX6_commonDivisor 21 = .ok (.istore 5, 2) := by decide +kernel
theorem dX6_commonDivisor_23 : decode cX6_commonDivisor 23 = .ok (.iload_n 3, 1) := by decide +kernel
theorem dX6_commonDivisor_24 : decode cX6_commonDivisor 24 = .ok (.istore_n 2, 1) := by decide +kernel
theorem dX6_commonDivisor_25 : decode cX6_commonDivisor 25 = .ok (.iload 5, 2) := by decide +kernel
theorem dX6_commonDivisor_27 : decode cX6_commonDivisor 27 = .ok (.istore_n 3, 1) := by decide +kernel
theorem dX6_commonDivisor_28 : decode cX6_commonDivisor 28 = .ok (.iinc 4 1, 3) := by decide +kernel
theorem dX6_commonDivisor_31 : decode cX6_commonDivisor 31 = .ok (.goto (-24), 3) := by decide +kernel
theorem dX6_commonDivisor_34 : decode cX6_commonDivisor 34 = .ok (.iconst 1, 1) := by decide +kernel
theorem dX6_commonDivisor_35 : decode cX6_commonDivisor 35 = .ok (.iload_n 2, 1) := by decide +kernel
theorem dX6_commonDivisor_36 : decode cX6_commonDivisor 36 = .ok (.invokestatic 217, 3) := by decide +kernel
theorem dX6_commonDivisor_39 : decode cX6_commonDivisor 39 = .ok (.ireturn, 1) := by decide +kernel
theorem dX6_needleBy_0 : decode cX6_needleBy 0 = .ok (.iload_n 1, 1) := by decide +kernel
theorem dX6_needleBy_1 : decode cX6_needleBy 1 = .ok (.istore_n 3, 1) := by decide +kernel
theorem dX6_needleBy_2 : decode cX6_needleBy 2 = .ok (.iload_n 1, 1) := by decide +kernel
theorem dX6_needleBy_3 : decode cX6_needleBy 3 = .ok (.iload_n 2, 1) := by decide +kernel
theorem dX6_needleBy_4 : decode cX6_needleBy 4 = .ok (.aload_n 0, 1) := by decide +kernel
theorem dX6_needleBy_5 : decode cX6_needleBy 5 = .ok (.getfield 40, 3) := by decide +kernel
theorem dX6_needleBy_8 : decode cX6_needleBy 8 = .ok (.getfield 153, 3) := by decide +kernel
theorem dX6_needleBy_11 : decode cX6_needleBy 11 = .ok (.isub, 1) := by decide +kernel
theorem dX6_needleBy_12 : decode cX6_needleBy 12 = .ok (.if_icmp .ge 16, 3) := by decide +kernel
theorem dX6_needleBy_15 : decode cX6_needleBy 15 = .ok (.iload_n 2, 1) := by decide +kernel
theorem dX6_needleBy_16 : decode cX6_needleBy 16 = .ok (.aload_n 0, 1) := by decide +kernel
theorem dX6_needleBy_17 : decode cX6_needleBy 17 = .ok (.getfield 40, 3) := by decide +kernel
theorem dX6_needleBy_20 : decode cX6_needleBy 20 = .ok (.getfield 153, 3) := by decide +kernel
theorem dX6_needleBy_23 : decode cX6_needleBy 23 = .ok (.isub, 1) := by decide +kernel
theorem dX6_needleBy_24 : decode cX6_needleBy 24 = .ok (.istore_n 3, 1) := by decide +kernel
theorem dX6_needleBy_25 : decode cX6_needleBy 25 = .ok (.goto 26, 3) := by decide +kernel
theorem dX6_needleBy_28 : decode cX6_needleBy 28 = .ok (.iload_n 1, 1) := by decide +kernel
theorem dX6_needleBy_29 : decode cX6_needleBy 29 = .ok (.iload_n 2, 1) := by decide +kernel
theorem dX6_needleBy_30 : decode cX6_needleBy 30 = .ok (.aload_n 0, 1) := by decide +kernel
theorem dX6_needleBy_31 : decode cX6_needleBy 31 = .ok (.getfield 40, 3) := by decide +kernel
theorem dX6_needleBy_34 : decode cX6_needleBy 34 = .ok (.getfield 153, 3) := by decide +kernel
theorem dX6_needleBy_37 : decode cX6_needleBy 37 = .ok (.iadd, 1) := by decide +kernel
theorem dX6_needleBy_38 : decode cX6_needleBy 38 = .ok (.if_icmp .le 13, 3) := by decide +kernel
theorem dX6_needleBy_41 : decode cX6_needleBy 41 = .ok (.iload_n 2, 1) := by decide +kernel
theorem dX6_needleBy_42 : decode cX6_needleBy 42 = .ok (.aload_n 0, 1) := by decide +kernel
theorem dX6_needleBy_43 : decode cX6_needleBy 43 = .ok (.getfield 40, 3) := by decide +kernel
theorem dX6_needleBy_46 : decode cX6_needleBy 46 = .ok (.getfield 153, 3) := by decide +kernel
theorem dX6_needleBy_49 : decode cX6_needleBy 49 = .ok (.iadd, 1) := by decide +kernel
theorem dX6_needleBy_50 : decode cX6_needleBy 50 = .ok (.istore_n 3, 1) := by decide +kernel
theorem dX6_needleBy_51 : decode cX6_needleBy 51 = .ok (.iload_n 3, 1) := by decide +kernel
theorem dX6_needleBy_52 : decode cX6_needleBy 52 = .ok (.aload_n 0, 1) := by decide +kernel
theorem dX6_needleBy_53 : decode cX6_needleBy 53 = .ok (.getfield 30, 3) := by decide +kernel
theorem dX6_needleBy_56 : decode cX6_needleBy 56 = .ok (.getfield 270, 3) := by decide +kernel
theorem dX6_needleBy_59 : decode cX6_needleBy 59 = .ok (.invokestatic 278, 3) := by decide +kernel
theorem dX6_needleBy_62 : decode cX6_needleBy 62 = .ok (.ireturn, 1) := by decide +kernel
theorem dX6_burdenOf_0 : decode cX6_burdenOf 0 = .ok (.aload_n 0, 1) := by decide +kernel
theorem dX6_burdenOf_1 : decode cX6_burdenOf 1 = .ok (.getfield 30, 3) := by decide +kernel
theorem dX6_burdenOf_4 : decode cX6_burdenOf 4 = .ok (.getfield 117, 3) := by decide +kernel
theorem dX6_burdenOf_7 : decode cX6_burdenOf 7 = .ok (.iload_n 1, 1) := by decide +kernel
theorem dX6_burdenOf_8 : decode cX6_burdenOf 8 = .ok (.invokevirtual 107, 3) := by decide +kernel
theorem dX6_burdenOf_11 : decode cX6_burdenOf 11 = .ok (.aload_n 0, 1) := by decide +kernel
theorem dX6_burdenOf_12 : decode cX6_burdenOf 12 = .ok (.getfield 40, 3) := by decide +kernel
theorem dX6_burdenOf_15 : decode cX6_burdenOf 15 = .ok (.getfield 120, 3) := by decide +kernel
theorem dX6_burdenOf_18 : decode cX6_burdenOf 18 = .ok (.iload_n 1, 1) := by decide +kernel
theorem dX6_burdenOf_19 : decode cX6_burdenOf 19 = .ok (.invokevirtual 107, 3) := by decide +kernel
theorem dX6_burdenOf_22 : decode cX6_burdenOf 22 = .ok (.iadd, 1) := by decide +kernel
theorem dX6_burdenOf_23 : decode cX6_burdenOf 23 = .ok (.aload_n 0, 1) := by decide +kernel
theorem dX6_burdenOf_24 : decode cX6_burdenOf 24 = .ok (.getfield 30, 3) := by decide +kernel
theorem dX6_burdenOf_27 : decode cX6_burdenOf 27 = .ok (.getfield 104, 3) := by decide +kernel
theorem dX6_burdenOf_30 : decode cX6_burdenOf 30 = .ok (.aload_n 0, 1) := by decide +kernel
theorem dX6_burdenOf_31 : decode cX6_burdenOf 31 = .ok (.getfield 40, 3) := by decide +kernel
theorem dX6_burdenOf_34 : decode cX6_burdenOf 34 = .ok (.getfield 123, 3) := by decide +kernel
theorem dX6_burdenOf_37 : decode cX6_burdenOf 37 = .ok (.iload_n 1, 1) := by decide +kernel
theorem dX6_burdenOf_38 : decode cX6_burdenOf 38 = .ok (.invokevirtual 107, 3) := by decide +kernel
theorem dX6_burdenOf_41 : decode cX6_burdenOf 41 = .ok (.invokevirtual 126, 3) := by decide +kernel
theorem dX6_burdenOf_44 : decode cX6_burdenOf 44 = .ok (.iadd, 1) := by decide +kernel
theorem dX6_burdenOf_45 : decode cX6_burdenOf 45 = .ok (.ireturn, 1) := by decide +kernel
theorem dX6_loadBy_0 : decode cX6_loadBy 0 = .ok (.iconst 0, 1) := by decide +kernel
theorem dX6_loadBy_1 : decode cX6_loadBy 1 = .ok (.iload_n 0, 1) := by decide +kernel
theorem dX6_loadBy_2 : decode cX6_loadBy 2 = .ok (.iload_n 1, 1) := by decide +kernel
theorem dX6_loadBy_3 : decode cX6_loadBy 3 = .ok (.iadd, 1) := by decide +kernel
theorem dX6_loadBy_4 : decode cX6_loadBy 4 = .ok (.invokestatic 217, 3) := by decide +kernel
theorem dX6_loadBy_7 : decode cX6_loadBy 7 = .ok (.ireturn, 1) := by decide +kernel
theorem dX6_loadOf_0 : decode cX6_loadOf 0 = .ok (.aload_n 0, 1) := by decide +kernel
theorem dX6_loadOf_1 : decode cX6_loadOf 1 = .ok (.iload_n 1, 1) := by decide +kernel
theorem dX6_loadOf_2 : decode cX6_loadOf 2 = .ok (.invokevirtual 192, 3) := by decide +kernel
theorem dX6_loadOf_5 : decode cX6_loadOf 5 = .ok (.aload_n 0, 1) := by decide +kernel
theorem dX6_loadOf_6 : decode cX6_loadOf 6 = .ok (.getfield 40, 3) := by decide +kernel
theorem dX6_loadOf_9 : decode cX6_loadOf 9 = .ok (.getfield 150, 3) := by decide +kernel
theorem dX6_loadOf_12 : decode cX6_loadOf 12 = .ok (.invokestatic 281, 3) := by decide +kernel
theorem dX6_loadOf_15 : decode cX6_loadOf 15 = .ok (.ireturn, 1) := by decide +kernel
theorem dX6_readingOf_0 : decode cX6_readingOf 0 = .ok (.aload_n 0, 1) := by decide +kernel
theorem dX6_readingOf_1 : decode cX6_readingOf 1 = .ok (.aload_n 0, 1) := by decide +kernel
theorem dX6_readingOf_2 : decode cX6_readingOf 2 = .ok (.getfield 40, 3) := by decide +kernel
theorem dX6_readingOf_5 : decode cX6_readingOf 5 = .ok (.getfield 147, 3) := by decide +kernel
theorem dX6_readingOf_8 : decode cX6_readingOf 8 = .ok (.aload_n 0, 1) := by decide +kernel
theorem dX6_readingOf_9 : decode cX6_readingOf 9 = .ok (.iload_n 1, 1) := by decide +kernel
theorem dX6_readingOf_10 : decode cX6_readingOf 10 = .ok (.invokevirtual 129, 3) := by decide +kernel
theorem dX6_readingOf_13 : decode cX6_readingOf 13 = .ok (.invokevirtual 170, 3) := by decide +kernel
theorem dX6_readingOf_16 : decode cX6_readingOf 16 = .ok (.ireturn, 1) := by decide +kernel
theorem dX6_errorOf_0 : decode cX6_errorOf 0 = .ok (.aload_n 0, 1) := by decide +kernel
theorem dX6_errorOf_1 : decode cX6_errorOf 1 = .ok (.getfield 40, 3) := by decide +kernel
theorem dX6_errorOf_4 : decode cX6_errorOf 4 = .ok (.iload_n 1, 1) := by decide +kernel
theorem dX6_errorOf_5 : decode cX6_errorOf 5 = .ok (.invokevirtual 163, 3) := by decide +kernel
theorem dX6_errorOf_8 : decode cX6_errorOf 8 = .ok (.ifCond .eq 23, 3) := by decide +kernel
theorem dX6_errorOf_11 : decode cX6_errorOf 11 = .ok (.aload_n 0, 1) := by decide +kernel
theorem dX6_errorOf_12 : decode cX6_errorOf 12 = .ok (.getfield 40, 3) := by decide +kernel
theorem dX6_errorOf_15 : decode cX6_errorOf 15 = .ok (.getfield 132, 3) := by decide +kernel
theorem dX6_errorOf_18 : decode cX6_errorOf 18 = .ok (.iload_n 1, 1) := by decide +kernel
theorem dX6_errorOf_19 : decode cX6_errorOf 19 = .ok (.invokevirtual 107, 3) := by decide +kernel
theorem dX6_errorOf_22 : decode cX6_errorOf 22 = .ok (.aload_n 0, 1) := by decide +kernel
theorem dX6_errorOf_23 : decode cX6_errorOf 23 = .ok (.iload_n 1, 1) := by decide +kernel
theorem dX6_errorOf_24 : decode cX6_errorOf 24 = .ok (.invokevirtual 192, 3) := by decide +kernel
theorem dX6_errorOf_27 : decode cX6_errorOf 27 = .ok (.isub, 1) := by decide +kernel
theorem dX6_errorOf_28 : decode cX6_errorOf 28 = .ok (.goto 5, 3) := by decide +kernel
theorem dX6_errorOf_31 : decode cX6_errorOf 31 = .ok (.ldc 103, 2) := by decide +kernel
theorem dX6_errorOf_33 : decode cX6_errorOf 33 = .ok (.ireturn, 1) := by decide +kernel
theorem dX6_whoIsChalked_0 : decode cX6_whoIsChalked 0 = .ok (.iconst 0, 1) := by decide +kernel
theorem dX6_whoIsChalked_1 : decode cX6_whoIsChalked 1 = .ok (.istore_n 1, 1) := by decide +kernel
theorem dX6_whoIsChalked_2 : decode cX6_whoIsChalked 2 = .ok (.iconst 0, 1) := by decide +kernel
theorem dX6_whoIsChalked_3 : decode cX6_whoIsChalked 3 = .ok (.istore_n 2, 1) := by decide +kernel
theorem dX6_whoIsChalked_4 : decode cX6_whoIsChalked 4 = .ok (.iload_n 2, 1) := by decide +kernel
theorem dX6_whoIsChalked_5 : decode cX6_whoIsChalked 5 = .ok (.aload_n 0, 1) := by decide +kernel
theorem dX6_whoIsChalked_6 : decode cX6_whoIsChalked 6 = .ok (.getfield 30, 3) := by decide +kernel
theorem dX6_whoIsChalked_9 : decode cX6_whoIsChalked 9 = .ok (.getfield 189, 3) := by decide +kernel
theorem dX6_whoIsChalked_12 : decode cX6_whoIsChalked 12 = .ok (.if_icmp .ge 27, 3) := by decide +kernel
theorem dX6_whoIsChalked_15 : decode cX6_whoIsChalked 15 = .ok (.aload_n 0, 1) := by decide +kernel
theorem dX6_whoIsChalked_16 : decode cX6_whoIsChalked 16 = .ok (.getfield 40, 3) := by decide +kernel
theorem dX6_whoIsChalked_19 : decode cX6_whoIsChalked 19 = .ok (.iload_n 2, 1) := by decide +kernel
theorem dX6_whoIsChalked_20 : decode cX6_whoIsChalked 20 = .ok (.invokevirtual 163, 3) := by decide +kernel
theorem dX6_whoIsChalked_23 : decode cX6_whoIsChalked 23 = .ok (.ifCond .eq 10, 3) := by decide +kernel
theorem dX6_whoIsChalked_26 : decode cX6_whoIsChalked 26 = .ok (.iload_n 1, 1) := by decide +kernel
theorem dX6_whoIsChalked_27 : decode cX6_whoIsChalked 27 = .ok (.iload_n 2, 1) := by decide +kernel
theorem dX6_whoIsChalked_28 : decode cX6_whoIsChalked 28 = .ok (.invokestatic 178, 3) := by decide +kernel
theorem dX6_whoIsChalked_31 : decode cX6_whoIsChalked 31 = .ok (.ior, 1) := by decide +kernel
theorem dX6_whoIsChalked_32 : decode cX6_whoIsChalked 32 = .ok (.istore_n 1, 1) := by decide +kernel
theorem dX6_whoIsChalked_33 : decode cX6_whoIsChalked 33 = .ok (.iinc 2 1, 3) := by decide +kernel
theorem dX6_whoIsChalked_36 : decode cX6_whoIsChalked 36 = .ok (.goto (-32), 3) := by decide +kernel
theorem dX6_whoIsChalked_39 : decode cX6_whoIsChalked 39 = .ok (.iload_n 1, 1) := by decide +kernel
theorem dX6_whoIsChalked_40 : decode cX6_whoIsChalked 40 = .ok (.ireturn, 1) := by decide +kernel
theorem dX6_whoDid_0 : decode cX6_whoDid 0 = .ok (.iconst 0, 1) := by decide +kernel
theorem dX6_whoDid_1 : decode cX6_whoDid 1 = .ok (.istore_n 2, 1) := by decide +kernel
theorem dX6_whoDid_2 : decode cX6_whoDid 2 = .ok (.iconst 0, 1) := by decide +kernel
theorem dX6_whoDid_3 : decode cX6_whoDid 3 = .ok (.istore_n 3, 1) := by decide +kernel
theorem dX6_whoDid_4 : decode cX6_whoDid 4 = .ok (.iload_n 3, 1) := by decide +kernel
theorem dX6_whoDid_5 : decode cX6_whoDid 5 = .ok (.aload_n 0, 1) := by decide +kernel
theorem dX6_whoDid_6 : decode cX6_whoDid 6 = .ok (.getfield 30, 3) := by decide +kernel
theorem dX6_whoDid_9 : decode cX6_whoDid 9 = .ok (.getfield 189, 3) := by decide +kernel
theorem dX6_whoDid_12 : decode cX6_whoDid 12 = .ok (.if_icmp .ge 34, 3) := by decide +kernel
theorem dX6_whoDid_15 : decode cX6_whoDid 15 = .ok (.aload_n 0, 1) := by decide +kernel
theorem dX6_whoDid_16 : decode cX6_whoDid 16 = .ok (.getfield 40, 3) := by decide +kernel
theorem dX6_whoDid_19 : decode cX6_whoDid 19 = .ok (.getfield 123, 3) := by decide +kernel
theorem dX6_whoDid_22 : decode cX6_whoDid 22 = .ok (.iload_n 3, 1) := by decide +kernel
theorem dX6_whoDid_23 : decode cX6_whoDid 23 = .ok (.invokevirtual 107, 3) := by decide +kernel
theorem dX6_whoDid_26 : decode cX6_whoDid 26 = .ok (.iload_n 1, 1) := by decide +kernel
theorem dX6_whoDid_27 : decode cX6_whoDid 27 = .ok (.invokestatic 174, 3) := by decide +kernel
theorem dX6_whoDid_30 : decode cX6_whoDid 30 = .ok (.ifCond .eq 10, 3) := by decide +kernel
theorem dX6_whoDid_33 : decode cX6_whoDid 33 = .ok (.iload_n 2, 1) := by decide +kernel
theorem dX6_whoDid_34 : decode cX6_whoDid 34 = .ok (.iload_n 3, 1) := by decide +kernel
theorem dX6_whoDid_35 : decode cX6_whoDid 35 = .ok (.invokestatic 178, 3) := by decide +kernel
theorem dX6_whoDid_38 : decode cX6_whoDid 38 = .ok (.ior, 1) := by decide +kernel
theorem dX6_whoDid_39 : decode cX6_whoDid 39 = .ok (.istore_n 2, 1) := by decide +kernel
theorem dX6_whoDid_40 : decode cX6_whoDid 40 = .ok (.iinc 3 1, 3) := by decide +kernel
theorem dX6_whoDid_43 : decode cX6_whoDid 43 = .ok (.goto (-39), 3) := by decide +kernel
theorem dX6_whoDid_46 : decode cX6_whoDid 46 = .ok (.iload_n 2, 1) := by decide +kernel
theorem dX6_whoDid_47 : decode cX6_whoDid 47 = .ok (.ireturn, 1) := by decide +kernel
theorem dX6_leastError_0 : decode cX6_leastError 0 = .ok (.iload_n 1, 1) := by decide +kernel
theorem dX6_leastError_1 : decode cX6_leastError 1 = .ok (.ifCond .eq 10, 3) := by decide +kernel
theorem dX6_leastError_4 : decode cX6_leastError 4 = .ok (.iload 4, 2) := by decide +kernel
theorem dX6_leastError_6 : decode cX6_leastError 6 = .ok (.bipush 6, 2) := by decide +kernel
theorem dX6_leastError_8 : decode cX6_leastError 8 = .ok (.if_icmp .lt 5, 3) := by decide +kernel
theorem dX6_leastError_11 : decode cX6_leastError 11 = .ok (.iconst 0, 1) := by decide +kernel
theorem dX6_leastError_12 : decode cX6_leastError 12 = .ok (.ireturn, 1) := by decide +kernel
theorem dX6_leastError_13 : decode cX6_leastError 13 = .ok (.ldc_w 284, 3) := by decide +kernel
theorem dX6_leastError_16 : decode cX6_leastError 16 = .ok (.istore 5, 2) := by decide +kernel
theorem dX6_leastError_18 : decode cX6_leastError 18 = .ok (.iconst 0, 1) := by decide +kernel
theorem dX6_leastError_19 : decode cX6_leastError 19 = .ok (.istore 6, 2) := by decide +kernel
theorem dX6_leastError_21 : decode cX6_leastError 21 = .ok (.iload 6, 2) := by decide +kernel
theorem dX6_leastError_23 : decode cX6_leastError 23 = .ok (.aload_n 0, 1) := by decide +kernel
theorem dX6_leastError_24 : decode cX6_leastError 24 = .ok (.getfield 30, 3) := by decide +kernel
theorem dX6_leastError_27 : decode cX6_leastError 27 = .ok (.getfield 189, 3) := by decide +kernel
theorem dX6_leastError_30 : decode cX6_leastError 30 = .ok (.if_icmp .ge 36, 3) := by decide +kernel
theorem dX6_leastError_33 : decode cX6_leastError 33 = .ok (.iload_n 1, 1) := by decide +kernel
theorem dX6_leastError_34 : decode cX6_leastError 34 = .ok (.iload 6, 2) := by decide +kernel
theorem dX6_leastError_36 : decode cX6_leastError 36 = .ok (.invokestatic 174, 3) := by decide +kernel
theorem dX6_leastError_39 : decode cX6_leastError 39 = .ok (.ifCond .eq 21, 3) := by decide +kernel
theorem dX6_leastError_42 : decode cX6_leastError 42 = .ok (.iload 5, 2) := by decide +kernel
theorem dX6_leastError_44 : decode cX6_leastError 44 = .ok (.aload_n 0, 1) := by decide +kernel
theorem dX6_leastError_45 : decode cX6_leastError 45 = .ok (.iload 6, 2) := by decide +kernel
theorem dX6_leastError_47 : decode cX6_leastError 47 = .ok (.iload_n 1, 1) := by decide +kernel
theorem dX6_leastError_48 : decode cX6_leastError 48 = .ok (.iload_n 2, 1) := by decide +kernel
theorem dX6_leastError_49 : decode cX6_leastError 49 = .ok (.iload_n 3, 1) := by decide +kernel
theorem dX6_leastError_50 : decode cX6_leastError 50 = .ok (.iload 4, 2) := by decide +kernel
theorem dX6_leastError_52 : decode cX6_leastError 52 = .ok (.invokevirtual 285, 3) := by decide +kernel
theorem dX6_leastError_55 : decode cX6_leastError 55 = .ok (.invokestatic 278, 3) := by decide +kernel
theorem dX6_leastError_58 : decode cX6_leastError 58 = .ok (.istore 5, 2) := by decide +kernel
theorem dX6_leastError_60 : decode cX6_leastError 60 = .ok (.iinc 6 1, 3) := by decide +kernel
theorem dX6_leastError_63 : decode cX6_leastError 63 = .ok (.goto (-42), 3) := by decide +kernel
theorem dX6_leastError_66 : decode cX6_leastError 66 = .ok (.iload 5, 2) := by decide +kernel
theorem dX6_leastError_68 : decode cX6_leastError 68 = .ok (.ireturn, 1) := by decide +kernel
theorem dX6_leastErrorFrom_0 : decode cX6_leastErrorFrom 0 = .ok (.aload_n 0, 1) := by decide +kernel
theorem dX6_leastErrorFrom_1 : decode cX6_leastErrorFrom 1 = .ok (.getfield 55, 3) := by decide +kernel
theorem dX6_leastErrorFrom_4 : decode cX6_leastErrorFrom 4 = .ok (.iload_n 1, 1) := by decide +kernel
theorem dX6_leastErrorFrom_5 : decode cX6_leastErrorFrom 5 = .ok (.invokevirtual 107, 3) := by decide +kernel
theorem dX6_leastErrorFrom_8 : decode cX6_leastErrorFrom 8 = .ok (.iload 4, 2) := by decide +kernel
theorem dX6_leastErrorFrom_10 : decode cX6_leastErrorFrom 10 = .ok (.invokestatic 281, 3) := by decide +kernel
theorem dX6_leastErrorFrom_13 : decode cX6_leastErrorFrom 13 = .ok (.istore 6, 2) := by decide +kernel
theorem dX6_leastErrorFrom_15 : decode cX6_leastErrorFrom 15 = .ok (.aload_n 0, 1) := by decide +kernel
theorem dX6_leastErrorFrom_16 : decode cX6_leastErrorFrom 16 = .ok (.iload_n 3, 1) := by decide +kernel
theorem dX6_leastErrorFrom_17 : decode cX6_leastErrorFrom 17 = .ok (.iload 6, 2) := by decide +kernel
theorem dX6_leastErrorFrom_19 : decode cX6_leastErrorFrom 19 = .ok (.invokevirtual 170, 3) := by decide +kernel
theorem dX6_leastErrorFrom_22 : decode cX6_leastErrorFrom 22 = .ok (.istore 7, 2) := by decide +kernel
theorem dX6_leastErrorFrom_24 : decode cX6_leastErrorFrom 24 = .ok (.aload_n 0, 1) := by decide +kernel
theorem dX6_leastErrorFrom_25 : decode cX6_leastErrorFrom 25 = .ok (.iload_n 2, 1) := by decide +kernel
theorem dX6_leastErrorFrom_26 : decode cX6_leastErrorFrom 26 = .ok (.iload_n 1, 1) := by decide +kernel
theorem dX6_leastErrorFrom_27 : decode cX6_leastErrorFrom 27 = .ok (.invokestatic 178, 3) := by decide +kernel
theorem dX6_leastErrorFrom_30 : decode cX6_leastErrorFrom 30 = .ok (.iconst (-1), 1) := by decide +kernel
theorem dX6_leastErrorFrom_31 : decode cX6_leastErrorFrom 31 = .ok (.ixor, 1) := by decide +kernel
theorem dX6_leastErrorFrom_32 : decode cX6_leastErrorFrom 32 = .ok (.iand, 1) := by decide +kernel
theorem dX6_leastErrorFrom_33 : decode cX6_leastErrorFrom 33 = .ok (.aload_n 0, 1) := by decide +kernel
theorem dX6_leastErrorFrom_34 : decode cX6_leastErrorFrom 34 = .ok (.iload 7, 2) := by decide +kernel
theorem dX6_leastErrorFrom_36 : decode cX6_leastErrorFrom 36 = .ok (.iconst 0, 1) := by decide +kernel
theorem dX6_leastErrorFrom_37 : decode cX6_leastErrorFrom 37 = .ok (.invokevirtual 170, 3) := by decide +kernel
theorem dX6_leastErrorFrom_40 : decode cX6_leastErrorFrom 40 = .ok (.iconst 0, 1) := by decide +kernel
theorem dX6_leastErrorFrom_41 : decode cX6_leastErrorFrom 41 = .ok (.iload 5, 2) := by decide +kernel
theorem dX6_leastErrorFrom_43 : decode cX6_leastErrorFrom 43 = .ok (.iconst 1, 1) := by decide +kernel
theorem dX6_leastErrorFrom_44 : decode cX6_leastErrorFrom 44 = .ok (.iadd, 1) := by decide +kernel
theorem dX6_leastErrorFrom_45 : decode cX6_leastErrorFrom 45 = .ok (.invokevirtual 198, 3) := by decide +kernel
theorem dX6_leastErrorFrom_48 : decode cX6_leastErrorFrom 48 = .ok (.istore 8, 2) := by decide +kernel
theorem dX6_leastErrorFrom_50 : decode cX6_leastErrorFrom 50 = .ok (.iload 7, 2) := by decide +kernel
theorem dX6_leastErrorFrom_52 : decode cX6_leastErrorFrom 52 = .ok (.iload 6, 2) := by decide +kernel
theorem dX6_leastErrorFrom_54 : decode cX6_leastErrorFrom 54 = .ok (.isub, 1) := by decide +kernel
theorem dX6_leastErrorFrom_55 : decode cX6_leastErrorFrom 55 = .ok (.invokestatic 289, 3) := by decide +kernel
theorem dX6_leastErrorFrom_58 : decode cX6_leastErrorFrom 58 = .ok (.iload 8, 2) := by decide +kernel
theorem dX6_leastErrorFrom_60 : decode cX6_leastErrorFrom 60 = .ok (.iadd, 1) := by decide +kernel
theorem dX6_leastErrorFrom_61 : decode cX6_leastErrorFrom 61 = .ok (.ireturn, 1) := by decide +kernel
theorem dX6_inOrder_0 : decode cX6_inOrder 0 = .ok (.iload_n 2, 1) := by decide +kernel
theorem dX6_inOrder_1 : decode cX6_inOrder 1 = .ok (.istore_n 3, 1) := by decide +kernel
theorem dX6_inOrder_2 : decode cX6_inOrder 2 = .ok (.aload_n 0, 1) := by decide +kernel
theorem dX6_inOrder_3 : decode cX6_inOrder 3 = .ok (.getfield 40, 3) := by decide +kernel
theorem dX6_inOrder_6 : decode cX6_inOrder 6 = .ok (.getfield 147, 3) := by decide +kernel
theorem dX6_inOrder_9 : decode cX6_inOrder 9 = .ok (.istore 4, 2) := by decide +kernel
theorem dX6_inOrder_11 : decode cX6_inOrder 11 = .ok (.aload_n 0, 1) := by decide +kernel
theorem dX6_inOrder_12 : decode cX6_inOrder 12 = .ok (.getfield 40, 3) := by decide +kernel
theorem dX6_inOrder_15 : decode cX6_inOrder 15 = .ok (.getfield 150, 3) := by decide +kernel
theorem dX6_inOrder_18 : decode cX6_inOrder 18 = .ok (.istore 5, 2) := by decide +kernel
theorem dX6_inOrder_20 : decode cX6_inOrder 20 = .ok (.bipush (-9), 2) := by decide +kernel
theorem dX6_inOrder_22 : decode cX6_inOrder 22 = .ok (.istore 6, 2) := by decide +kernel
theorem dX6_inOrder_24 : decode cX6_inOrder 24 = .ok (.iconst 0, 1) := by decide +kernel
theorem dX6_inOrder_25 : decode cX6_inOrder 25 = .ok (.istore 7, 2) := by decide +kernel
theorem dX6_inOrder_27 : decode cX6_inOrder 27 = .ok (.iload 7, 2) := by decide +kernel
theorem dX6_inOrder_29 : decode cX6_inOrder 29 = .ok (.iload_n 1, 1) := by decide +kernel
theorem dX6_inOrder_30 : decode cX6_inOrder 30 = .ok (.if_icmp .gt 72, 3) := by decide +kernel
theorem dX6_inOrder_33 : decode cX6_inOrder 33 = .ok (.aload_n 0, 1) := by decide +kernel
theorem dX6_inOrder_34 : decode cX6_inOrder 34 = .ok (.iload_n 3, 1) := by decide +kernel
theorem dX6_inOrder_35 : decode cX6_inOrder 35 = .ok (.iload 4, 2) := by decide +kernel
theorem dX6_inOrder_37 : decode cX6_inOrder 37 = .ok (.iload 5, 2) := by decide +kernel
theorem dX6_inOrder_39 : decode cX6_inOrder 39 = .ok (.iload 7, 2) := by decide +kernel
theorem dX6_inOrder_41 : decode cX6_inOrder 41 = .ok (.invokevirtual 292, 3) := by decide +kernel
theorem dX6_inOrder_44 : decode cX6_inOrder 44 = .ok (.istore 6, 2) := by decide +kernel
theorem dX6_inOrder_46 : decode cX6_inOrder 46 = .ok (.iload 6, 2) := by decide +kernel
theorem dX6_inOrder_48 : decode cX6_inOrder 48 = .ok (.bipush (-9), 2) := by decide +kernel
theorem dX6_inOrder_50 : decode cX6_inOrder 50 = .ok (.if_icmp .ne 6, 3) := by decide +kernel
theorem dX6_inOrder_53 : decode cX6_inOrder 53 = .ok (.bipush (-9), 2) := by decide +kernel
theorem dX6_inOrder_55 : decode cX6_inOrder 55 = .ok (.ireturn, 1) := by decide +kernel
theorem dX6_inOrder_56 : decode cX6_inOrder 56 = .ok (.aload_n 0, 1) := by decide +kernel
theorem dX6_inOrder_57 : decode cX6_inOrder 57 = .ok (.aload_n 0, 1) := by decide +kernel
theorem dX6_inOrder_58 : decode cX6_inOrder 58 = .ok (.iload 4, 2) := by decide +kernel
theorem dX6_inOrder_60 : decode cX6_inOrder 60 = .ok (.aload_n 0, 1) := by decide +kernel
theorem dX6_inOrder_61 : decode cX6_inOrder 61 = .ok (.getfield 55, 3) := by decide +kernel
theorem dX6_inOrder_64 : decode cX6_inOrder 64 = .ok (.iload 6, 2) := by decide +kernel
theorem dX6_inOrder_66 : decode cX6_inOrder 66 = .ok (.invokevirtual 107, 3) := by decide +kernel
theorem dX6_inOrder_69 : decode cX6_inOrder 69 = .ok (.iload 5, 2) := by decide +kernel
theorem dX6_inOrder_71 : decode cX6_inOrder 71 = .ok (.invokestatic 281, 3) := by decide +kernel
theorem dX6_inOrder_74 : decode cX6_inOrder 74 = .ok (.invokevirtual 170, 3) := by decide +kernel
theorem dX6_inOrder_77 : decode cX6_inOrder 77 = .ok (.iconst 0, 1) := by decide +kernel
theorem dX6_inOrder_78 : decode cX6_inOrder 78 = .ok (.invokevirtual 170, 3) := by decide +kernel
theorem dX6_inOrder_81 : decode cX6_inOrder 81 = .ok (.istore 4, 2) := by decide +kernel
theorem dX6_inOrder_83 : decode cX6_inOrder 83 = .ok (.iconst 0, 1) := by decide +kernel
theorem dX6_inOrder_84 : decode cX6_inOrder 84 = .ok (.istore 5, 2) := by decide +kernel
theorem dX6_inOrder_86 : decode cX6_inOrder 86 = .ok (.iload_n 3, 1) := by decide +kernel
theorem dX6_inOrder_87 : decode cX6_inOrder 87 = .ok (.iload 6, 2) := by decide +kernel
theorem dX6_inOrder_89 : decode cX6_inOrder 89 = .ok (.invokestatic 178, 3) := by decide +kernel
theorem dX6_inOrder_92 : decode cX6_inOrder 92 = .ok (.iconst (-1), 1) := by decide +kernel
theorem dX6_inOrder_93 : decode cX6_inOrder 93 = .ok (.ixor, 1) := by decide +kernel
theorem dX6_inOrder_94 : decode cX6_inOrder 94 = .ok (.iand, 1) := by decide +kernel
theorem dX6_inOrder_95 : decode cX6_inOrder 95 = .ok (.istore_n 3, 1) := by decide +kernel
theorem dX6_inOrder_96 : decode cX6_inOrder 96 = .ok (.iinc 7 1, 3) := by decide +kernel
theorem dX6_inOrder_99 : decode cX6_inOrder 99 = .ok (.goto (-72), 3) := by decide +kernel
theorem dX6_inOrder_102 : decode cX6_inOrder 102 = .ok (.iload 6, 2) := by decide +kernel
theorem dX6_inOrder_104 : decode cX6_inOrder 104 = .ok (.ireturn, 1) := by decide +kernel
theorem dX6_bestNext_0 : decode cX6_bestNext 0 = .ok (.bipush (-9), 2) := by decide +kernel
theorem dX6_bestNext_2 : decode cX6_bestNext 2 = .ok (.istore 5, 2) := by decide +kernel
theorem dX6_bestNext_4 : decode cX6_bestNext 4 = .ok (.ldc_w 284, 3) := by decide +kernel
theorem dX6_bestNext_7 : decode cX6_bestNext 7 = .ok (.istore 6, 2) := by decide +kernel
theorem dX6_bestNext_9 : decode cX6_bestNext 9 = .ok (.iconst 0, 1) := by decide +kernel
theorem dX6_bestNext_10 : decode cX6_bestNext 10 = .ok (.istore 7, 2) := by decide +kernel
theorem dX6_bestNext_12 : decode cX6_bestNext 12 = .ok (.iload 7, 2) := by decide +kernel
theorem dX6_bestNext_14 : decode cX6_bestNext 14 = .ok (.aload_n 0, 1) := by decide +kernel
theorem dX6_bestNext_15 : decode cX6_bestNext 15 = .ok (.getfield 30, 3) := by decide +kernel
theorem dX6_bestNext_18 : decode cX6_bestNext 18 = .ok (.getfield 189, 3) := by decide +kernel
theorem dX6_bestNext_21 : decode cX6_bestNext 21 = .ok (.if_icmp .ge 52, 3) := by decide +kernel
theorem dX6_bestNext_24 : decode cX6_bestNext 24 = .ok (.iload_n 1, 1) := by decide +kernel
theorem dX6_bestNext_25 : decode cX6_bestNext 25 = .ok (.iload 7, 2) := by decide +kernel
theorem dX6_bestNext_27 : decode cX6_bestNext 27 = .ok (.invokestatic 174, 3) := by decide +kernel
theorem dX6_bestNext_30 : decode cX6_bestNext 30 = .ok (.ifCond .eq 17, 3) := by decide +kernel
theorem dX6_bestNext_33 : decode cX6_bestNext 33 = .ok (.aload_n 0, 1) := by decide +kernel
theorem dX6_bestNext_34 : decode cX6_bestNext 34 = .ok (.iload 7, 2) := by decide +kernel
theorem dX6_bestNext_36 : decode cX6_bestNext 36 = .ok (.iload_n 1, 1) := by decide +kernel
theorem dX6_bestNext_37 : decode cX6_bestNext 37 = .ok (.iload_n 2, 1) := by decide +kernel
theorem dX6_bestNext_38 : decode cX6_bestNext 38 = .ok (.iload_n 3, 1) := by decide +kernel
theorem dX6_bestNext_39 : decode cX6_bestNext 39 = .ok (.iload 4, 2) := by decide +kernel
theorem dX6_bestNext_41 : decode cX6_bestNext 41 = .ok (.invokevirtual 285, 3) := by decide +kernel
theorem dX6_bestNext_44 : decode cX6_bestNext 44 = .ok (.goto 6, 3) := by decide +kernel
theorem dX6_bestNext_47 : decode cX6_bestNext 47 = .ok (.ldc_w 284, 3) := by decide +kernel
theorem dX6_bestNext_50 : decode cX6_bestNext 50 = .ok (.istore 8, 2) := by decide +kernel
theorem dX6_bestNext_52 : decode cX6_bestNext 52 = .ok (.iload 8, 2) := by decide +kernel
theorem dX6_bestNext_54 : decode cX6_bestNext 54 = .ok (.iload 6, 2) := by decide +kernel
theorem dX6_bestNext_56 : decode cX6_bestNext 56 = .ok (.if_icmp .ge 11, 3) := by decide +kernel
theorem dX6_bestNext_59 : decode cX6_bestNext 59 = .ok (.iload 8, 2) := by decide +kernel
theorem dX6_bestNext_61 : decode cX6_bestNext 61 = .ok (.istore 6, 2) := by decide +kernel
theorem dX6_bestNext_63 : decode cX6_bestNext 63 = .ok (.iload 7, 2) := by decide +kernel
theorem dX6_bestNext_65 : decode cX6_bestNext 65 = .ok (.istore 5, 2) := by decide +kernel
theorem dX6_bestNext_67 : decode cX6_bestNext 67 = .ok (.iinc 7 1, 3) := by decide +kernel
theorem dX6_bestNext_70 : decode cX6_bestNext 70 = .ok (.goto (-58), 3) := by decide +kernel
theorem dX6_bestNext_73 : decode cX6_bestNext 73 = .ok (.iload 5, 2) := by decide +kernel
theorem dX6_bestNext_75 : decode cX6_bestNext 75 = .ok (.ireturn, 1) := by decide +kernel
theorem dX6_explainsAll_0 : decode cX6_explainsAll 0 = .ok (.aload_n 0, 1) := by decide +kernel
theorem dX6_explainsAll_1 : decode cX6_explainsAll 1 = .ok (.getfield 30, 3) := by decide +kernel
theorem dX6_explainsAll_4 : decode cX6_explainsAll 4 = .ok (.getfield 104, 3) := by decide +kernel
theorem dX6_explainsAll_7 : decode cX6_explainsAll 7 = .ok (.iload_n 1, 1) := by decide +kernel
theorem dX6_explainsAll_8 : decode cX6_explainsAll 8 = .ok (.invokevirtual 126, 3) := by decide +kernel
theorem dX6_explainsAll_11 : decode cX6_explainsAll 11 = .ok (.istore_n 2, 1) := by decide +kernel
theorem dX6_explainsAll_12 : decode cX6_explainsAll 12 = .ok (.iconst 0, 1) := by decide +kernel
theorem dX6_explainsAll_13 : decode cX6_explainsAll 13 = .ok (.istore_n 3, 1) := by decide +kernel
theorem dX6_explainsAll_14 : decode cX6_explainsAll 14 = .ok (.iload_n 3, 1) := by decide +kernel
theorem dX6_explainsAll_15 : decode cX6_explainsAll 15 = .ok (.aload_n 0, 1) := by decide +kernel
theorem dX6_explainsAll_16 : decode cX6_explainsAll 16 = .ok (.getfield 93, 3) := by decide +kernel
theorem dX6_explainsAll_19 : decode cX6_explainsAll 19 = .ok (.if_icmp .ge 39, 3) := by decide +kernel
theorem dX6_explainsAll_22 : decode cX6_explainsAll 22 = .ok (.aload_n 0, 1) := by decide +kernel
theorem dX6_explainsAll_23 : decode cX6_explainsAll 23 = .ok (.iconst 0, 1) := by decide +kernel
theorem dX6_explainsAll_24 : decode cX6_explainsAll 24 = .ok (.aload_n 0, 1) := by decide +kernel
theorem dX6_explainsAll_25 : decode cX6_explainsAll 25 = .ok (.getfield 65, 3) := by decide +kernel
theorem dX6_explainsAll_28 : decode cX6_explainsAll 28 = .ok (.iload_n 3, 1) := by decide +kernel
theorem dX6_explainsAll_29 : decode cX6_explainsAll 29 = .ok (.invokevirtual 107, 3) := by decide +kernel
theorem dX6_explainsAll_32 : decode cX6_explainsAll 32 = .ok (.iload_n 2, 1) := by decide +kernel
theorem dX6_explainsAll_33 : decode cX6_explainsAll 33 = .ok (.invokestatic 281, 3) := by decide +kernel
theorem dX6_explainsAll_36 : decode cX6_explainsAll 36 = .ok (.invokevirtual 170, 3) := by decide +kernel
theorem dX6_explainsAll_39 : decode cX6_explainsAll 39 = .ok (.aload_n 0, 1) := by decide +kernel
theorem dX6_explainsAll_40 : decode cX6_explainsAll 40 = .ok (.getfield 68, 3) := by decide +kernel
theorem dX6_explainsAll_43 : decode cX6_explainsAll 43 = .ok (.iload_n 3, 1) := by decide +kernel
theorem dX6_explainsAll_44 : decode cX6_explainsAll 44 = .ok (.invokevirtual 107, 3) := by decide +kernel
theorem dX6_explainsAll_47 : decode cX6_explainsAll 47 = .ok (.if_icmp .eq 5, 3) := by decide +kernel
theorem dX6_explainsAll_50 : decode cX6_explainsAll 50 = .ok (.iconst 0, 1) := by decide +kernel
theorem dX6_explainsAll_51 : decode cX6_explainsAll 51 = .ok (.ireturn, 1) := by decide +kernel
theorem dX6_explainsAll_52 : decode cX6_explainsAll 52 = .ok (.iinc 3 1, 3) := by decide +kernel
theorem dX6_explainsAll_55 : decode cX6_explainsAll 55 = .ok (.goto (-41), 3) := by decide +kernel
theorem dX6_explainsAll_58 : decode cX6_explainsAll 58 = .ok (.iconst 1, 1) := by decide +kernel
theorem dX6_explainsAll_59 : decode cX6_explainsAll 59 = .ok (.ireturn, 1) := by decide +kernel
theorem dX6_setsWith_0 : decode cX6_setsWith 0 = .ok (.iconst 0, 1) := by decide +kernel
theorem dX6_setsWith_1 : decode cX6_setsWith 1 = .ok (.istore_n 2, 1) := by decide +kernel
theorem dX6_setsWith_2 : decode cX6_setsWith 2 = .ok (.iconst 0, 1) := by decide +kernel
theorem dX6_setsWith_3 : decode cX6_setsWith 3 = .ok (.istore_n 3, 1) := by decide +kernel
theorem dX6_setsWith_4 : decode cX6_setsWith 4 = .ok (.iload_n 3, 1) := by decide +kernel
theorem dX6_setsWith_5 : decode cX6_setsWith 5 = .ok (.aload_n 0, 1) := by decide +kernel
theorem dX6_setsWith_6 : decode cX6_setsWith 6 = .ok (.getfield 30, 3) := by decide +kernel
theorem dX6_setsWith_9 : decode cX6_setsWith 9 = .ok (.getfield 214, 3) := by decide +kernel
theorem dX6_setsWith_12 : decode cX6_setsWith 12 = .ok (.invokestatic 195, 3) := by decide +kernel
theorem dX6_setsWith_15 : decode cX6_setsWith 15 = .ok (.if_icmp .gt 27, 3) := by decide +kernel
theorem dX6_setsWith_18 : decode cX6_setsWith 18 = .ok (.iload_n 3, 1) := by decide +kernel
theorem dX6_setsWith_19 : decode cX6_setsWith 19 = .ok (.iload_n 1, 1) := by decide +kernel
theorem dX6_setsWith_20 : decode cX6_setsWith 20 = .ok (.iand, 1) := by decide +kernel
theorem dX6_setsWith_21 : decode cX6_setsWith 21 = .ok (.iload_n 1, 1) := by decide +kernel
theorem dX6_setsWith_22 : decode cX6_setsWith 22 = .ok (.if_icmp .ne 14, 3) := by decide +kernel
theorem dX6_setsWith_25 : decode cX6_setsWith 25 = .ok (.aload_n 0, 1) := by decide +kernel
theorem dX6_setsWith_26 : decode cX6_setsWith 26 = .ok (.iload_n 3, 1) := by decide +kernel
theorem dX6_setsWith_27 : decode cX6_setsWith 27 = .ok (.invokevirtual 295, 3) := by decide +kernel
theorem dX6_setsWith_30 : decode cX6_setsWith 30 = .ok (.ifCond .eq 6, 3) := by decide +kernel
theorem dX6_setsWith_33 : decode cX6_setsWith 33 = .ok (.iinc 2 1, 3) := by decide +kernel
theorem dX6_setsWith_36 : decode cX6_setsWith 36 = .ok (.iinc 3 1, 3) := by decide +kernel
theorem dX6_setsWith_39 : decode cX6_setsWith 39 = .ok (.goto (-35), 3) := by decide +kernel
theorem dX6_setsWith_42 : decode cX6_setsWith 42 = .ok (.iload_n 2, 1) := by decide +kernel
theorem dX6_setsWith_43 : decode cX6_setsWith 43 = .ok (.ireturn, 1) := by decide +kernel
theorem dX6_deedsInAllSets_0 : decode cX6_deedsInAllSets 0 = .ok (.aload_n 0, 1) := by decide +kernel
theorem dX6_deedsInAllSets_1 : decode cX6_deedsInAllSets 1 = .ok (.iconst 0, 1) := by decide +kernel
theorem dX6_deedsInAllSets_2 : decode cX6_deedsInAllSets 2 = .ok (.invokevirtual 205, 3) := by decide +kernel
theorem dX6_deedsInAllSets_5 : decode cX6_deedsInAllSets 5 = .ok (.istore_n 1, 1) := by decide +kernel
theorem dX6_deedsInAllSets_6 : decode cX6_deedsInAllSets 6 = .ok (.iload_n 1, 1) := by decide +kernel
theorem dX6_deedsInAllSets_7 : decode cX6_deedsInAllSets 7 = .ok (.ifCond .ne 6, 3) := by decide +kernel
theorem dX6_deedsInAllSets_10 : decode cX6_deedsInAllSets 10 = .ok (.bipush (-9), 2) := by decide +kernel
theorem dX6_deedsInAllSets_12 : decode cX6_deedsInAllSets 12 = .ok (.ireturn, 1) := by decide +kernel
theorem dX6_deedsInAllSets_13 : decode cX6_deedsInAllSets 13 = .ok (.iconst 0, 1) := by decide +kernel
theorem dX6_deedsInAllSets_14 : decode cX6_deedsInAllSets 14 = .ok (.istore_n 2, 1) := by decide +kernel
theorem dX6_deedsInAllSets_15 : decode cX6_deedsInAllSets 15 = .ok (.iconst 0, 1) := by decide +kernel
theorem dX6_deedsInAllSets_16 : decode cX6_deedsInAllSets 16 = .ok (.istore_n 3, 1) := by decide +kernel
theorem dX6_deedsInAllSets_17 : decode cX6_deedsInAllSets 17 = .ok (.iload_n 3, 1) := by decide +kernel
theorem dX6_deedsInAllSets_18 : decode cX6_deedsInAllSets 18 = .ok (.aload_n 0, 1) := by decide +kernel
theorem dX6_deedsInAllSets_19 : decode cX6_deedsInAllSets 19 = .ok (.getfield 30, 3) := by decide +kernel
theorem dX6_deedsInAllSets_22 : decode cX6_deedsInAllSets 22 = .ok (.getfield 214, 3) := by decide +kernel
theorem dX6_deedsInAllSets_25 : decode cX6_deedsInAllSets 25 = .ok (.if_icmp .ge 28, 3) := by decide +kernel
theorem dX6_deedsInAllSets_28 : decode cX6_deedsInAllSets 28 = .ok (.aload_n 0, 1) := by decide +kernel
theorem dX6_deedsInAllSets_29 : decode cX6_deedsInAllSets 29 = .ok (.iload_n 3, 1) := by decide +kernel
theorem dX6_deedsInAllSets_30 : decode cX6_deedsInAllSets 30 = .ok (.invokestatic 178, 3) := by decide +kernel
theorem dX6_deedsInAllSets_33 : decode cX6_deedsInAllSets 33 = .ok (.invokevirtual 205, 3) := by decide +kernel
theorem dX6_deedsInAllSets_36 : decode cX6_deedsInAllSets 36 = .ok (.iload_n 1, 1) := by decide +kernel
theorem dX6_deedsInAllSets_37 : decode cX6_deedsInAllSets 37 = .ok (.if_icmp .ne 10, 3) := by decide +kernel
theorem dX6_deedsInAllSets_40 : decode cX6_deedsInAllSets 40 = .ok (.iload_n 2, 1) := by decide +kernel
theorem dX6_deedsInAllSets_41 : decode cX6_deedsInAllSets 41 = .ok (.iload_n 3, 1) := by decide +kernel
theorem dX6_deedsInAllSets_42 : decode cX6_deedsInAllSets 42 = .ok (.invokestatic 178, 3) := by decide +kernel
theorem dX6_deedsInAllSets_45 : decode cX6_deedsInAllSets 45 = .ok (.ior, 1) := by decide +kernel
theorem dX6_deedsInAllSets_46 : decode cX6_deedsInAllSets 46 = .ok (.istore_n 2, 1) := by decide +kernel
theorem dX6_deedsInAllSets_47 : decode cX6_deedsInAllSets 47 = .ok (.iinc 3 1, 3) := by decide +kernel
theorem dX6_deedsInAllSets_50 : decode cX6_deedsInAllSets 50 = .ok (.goto (-33), 3) := by decide +kernel
theorem dX6_deedsInAllSets_53 : decode cX6_deedsInAllSets 53 = .ok (.iload_n 2, 1) := by decide +kernel
theorem dX6_deedsInAllSets_54 : decode cX6_deedsInAllSets 54 = .ok (.ireturn, 1) := by decide +kernel
theorem dX6_deedsInSomeSets_0 : decode cX6_deedsInSomeSets 0 = .ok (.iconst 0, 1) := by decide +kernel
theorem dX6_deedsInSomeSets_1 : decode cX6_deedsInSomeSets 1 = .ok (.istore_n 1, 1) := by decide +kernel
theorem dX6_deedsInSomeSets_2 : decode cX6_deedsInSomeSets 2 = .ok (.iconst 0, 1) := by decide +kernel
theorem dX6_deedsInSomeSets_3 : decode cX6_deedsInSomeSets 3 = .ok (.istore_n 2, 1) := by decide +kernel
theorem dX6_deedsInSomeSets_4 : decode cX6_deedsInSomeSets 4 = .ok (.iload_n 2, 1) := by decide +kernel
theorem dX6_deedsInSomeSets_5 : decode cX6_deedsInSomeSets 5 = .ok (.aload_n 0, 1) := by decide +kernel
theorem dX6_deedsInSomeSets_6 : decode cX6_deedsInSomeSets 6 = .ok (.getfield 30, 3) := by decide +kernel
theorem dX6_deedsInSomeSets_9 : decode cX6_deedsInSomeSets 9 = .ok (.getfield 214, 3) := by decide +kernel
theorem dX6_deedsInSomeSets_12 : decode cX6_deedsInSomeSets 12 = .ok (.if_icmp .ge 27, 3) := by decide +kernel
theorem dX6_deedsInSomeSets_15 : decode cX6_deedsInSomeSets 15 = .ok (.aload_n 0, 1) := by decide +kernel
theorem dX6_deedsInSomeSets_16 : decode cX6_deedsInSomeSets 16 = .ok (.iload_n 2, 1) := by decide +kernel
theorem dX6_deedsInSomeSets_17 : decode cX6_deedsInSomeSets 17 = .ok (.invokestatic 178, 3) := by decide +kernel
theorem dX6_deedsInSomeSets_20 : decode cX6_deedsInSomeSets 20 = .ok (.invokevirtual 205, 3) := by decide +kernel
theorem dX6_deedsInSomeSets_23 : decode cX6_deedsInSomeSets 23 = .ok (.ifCond .le 10, 3) := by decide +kernel
theorem dX6_deedsInSomeSets_26 : decode cX6_deedsInSomeSets 26 = .ok (.iload_n 1, 1) := by decide +kernel
theorem dX6_deedsInSomeSets_27 : decode cX6_deedsInSomeSets 27 = .ok (.iload_n 2, 1) := by decide +kernel
theorem dX6_deedsInSomeSets_28 : decode cX6_deedsInSomeSets 28 = .ok (.invokestatic 178, 3) := by decide +kernel
theorem dX6_deedsInSomeSets_31 : decode cX6_deedsInSomeSets 31 = .ok (.ior, 1) := by decide +kernel
theorem dX6_deedsInSomeSets_32 : decode cX6_deedsInSomeSets 32 = .ok (.istore_n 1, 1) := by decide +kernel
theorem dX6_deedsInSomeSets_33 : decode cX6_deedsInSomeSets 33 = .ok (.iinc 2 1, 3) := by decide +kernel
theorem dX6_deedsInSomeSets_36 : decode cX6_deedsInSomeSets 36 = .ok (.goto (-32), 3) := by decide +kernel
theorem dX6_deedsInSomeSets_39 : decode cX6_deedsInSomeSets 39 = .ok (.iload_n 1, 1) := by decide +kernel
theorem dX6_deedsInSomeSets_40 : decode cX6_deedsInSomeSets 40 = .ok (.ireturn, 1) := by decide +kernel
theorem dX6_wayOf_0 : decode cX6_wayOf 0 = .ok (.iload_n 0, 1) := by decide +kernel
theorem dX6_wayOf_1 : decode cX6_wayOf 1 = .ok (.bipush 6, 2) := by decide +kernel
theorem dX6_wayOf_3 : decode cX6_wayOf 3 = .ok (.ishl, 1) := by decide +kernel
theorem dX6_wayOf_4 : decode cX6_wayOf 4 = .ok (.iload_n 1, 1) := by decide +kernel
theorem dX6_wayOf_5 : decode cX6_wayOf 5 = .ok (.ior, 1) := by decide +kernel
theorem dX6_wayOf_6 : decode cX6_wayOf 6 = .ok (.ireturn, 1) := by decide +kernel
theorem dX6_fourOf_0 : decode cX6_fourOf 0 = .ok (.iload_n 0, 1) := by decide +kernel
theorem dX6_fourOf_1 : decode cX6_fourOf 1 = .ok (.bipush 6, 2) := by decide +kernel
theorem dX6_fourOf_3 : decode cX6_fourOf 3 = .ok (.ishr, 1) := by decide +kernel
theorem dX6_fourOf_4 : decode cX6_fourOf 4 = .ok (.ireturn, 1) := by decide +kernel
theorem dX6_leftOf_0 : decode cX6_leftOf 0 = .ok (.iload_n 0, 1) := by decide +kernel
theorem dX6_leftOf_1 : decode cX6_leftOf 1 = .ok (.bipush 6, 2) := by decide +kernel
theorem dX6_leftOf_3 : decode cX6_leftOf 3 = .ok (.invokestatic 195, 3) := by decide +kernel
theorem dX6_leftOf_6 : decode cX6_leftOf 6 = .ok (.iand, 1) := by decide +kernel
theorem dX6_leftOf_7 : decode cX6_leftOf 7 = .ok (.ireturn, 1) := by decide +kernel
theorem dX6_unevenness_0 : decode cX6_unevenness 0 = .ok (.iload_n 1, 1) := by decide +kernel
theorem dX6_unevenness_1 : decode cX6_unevenness 1 = .ok (.invokestatic 228, 3) := by decide +kernel
theorem dX6_unevenness_4 : decode cX6_unevenness 4 = .ok (.istore_n 2, 1) := by decide +kernel
theorem dX6_unevenness_5 : decode cX6_unevenness 5 = .ok (.iload_n 1, 1) := by decide +kernel
theorem dX6_unevenness_6 : decode cX6_unevenness 6 = .ok (.invokestatic 225, 3) := by decide +kernel
theorem dX6_unevenness_9 : decode cX6_unevenness 9 = .ok (.iload_n 2, 1) := by decide +kernel
theorem dX6_unevenness_10 : decode cX6_unevenness 10 = .ok (.iconst (-1), 1) := by decide +kernel
theorem dX6_unevenness_11 : decode cX6_unevenness 11 = .ok (.ixor, 1) := by decide +kernel
theorem dX6_unevenness_12 : decode cX6_unevenness 12 = .ok (.iand, 1) := by decide +kernel
theorem dX6_unevenness_13 : decode cX6_unevenness 13 = .ok (.istore_n 3, 1) := by decide +kernel
theorem dX6_unevenness_14 : decode cX6_unevenness 14 = .ok (.aload_n 0, 1) := by decide +kernel
theorem dX6_unevenness_15 : decode cX6_unevenness 15 = .ok (.getfield 30, 3) := by decide +kernel
theorem dX6_unevenness_18 : decode cX6_unevenness 18 = .ok (.getfield 144, 3) := by decide +kernel
theorem dX6_unevenness_21 : decode cX6_unevenness 21 = .ok (.iload_n 2, 1) := by decide +kernel
theorem dX6_unevenness_22 : decode cX6_unevenness 22 = .ok (.invokevirtual 126, 3) := by decide +kernel
theorem dX6_unevenness_25 : decode cX6_unevenness 25 = .ok (.aload_n 0, 1) := by decide +kernel
theorem dX6_unevenness_26 : decode cX6_unevenness 26 = .ok (.getfield 30, 3) := by decide +kernel
theorem dX6_unevenness_29 : decode cX6_unevenness 29 = .ok (.getfield 144, 3) := by decide +kernel
theorem dX6_unevenness_32 : decode cX6_unevenness 32 = .ok (.iload_n 3, 1) := by decide +kernel
theorem dX6_unevenness_33 : decode cX6_unevenness 33 = .ok (.invokevirtual 126, 3) := by decide +kernel
theorem dX6_unevenness_36 : decode cX6_unevenness 36 = .ok (.isub, 1) := by decide +kernel
theorem dX6_unevenness_37 : decode cX6_unevenness 37 = .ok (.invokestatic 289, 3) := by decide +kernel
theorem dX6_unevenness_40 : decode cX6_unevenness 40 = .ok (.ireturn, 1) := by decide +kernel
theorem dX6_isBetter_0 : decode cX6_isBetter 0 = .ok (.aload_n 0, 1) := by decide +kernel
theorem dX6_isBetter_1 : decode cX6_isBetter 1 = .ok (.iload_n 1, 1) := by decide +kernel
theorem dX6_isBetter_2 : decode cX6_isBetter 2 = .ok (.invokevirtual 231, 3) := by decide +kernel
theorem dX6_isBetter_5 : decode cX6_isBetter 5 = .ok (.istore_n 3, 1) := by decide +kernel
theorem dX6_isBetter_6 : decode cX6_isBetter 6 = .ok (.aload_n 0, 1) := by decide +kernel
theorem dX6_isBetter_7 : decode cX6_isBetter 7 = .ok (.iload_n 2, 1) := by decide +kernel
theorem dX6_isBetter_8 : decode cX6_isBetter 8 = .ok (.invokevirtual 231, 3) := by decide +kernel
theorem dX6_isBetter_11 : decode cX6_isBetter 11 = .ok (.istore 4, 2) := by decide +kernel
theorem dX6_isBetter_13 : decode cX6_isBetter 13 = .ok (.iload_n 3, 1) := by decide +kernel
theorem dX6_isBetter_14 : decode cX6_isBetter 14 = .ok (.iload 4, 2) := by decide +kernel
theorem dX6_isBetter_16 : decode cX6_isBetter 16 = .ok (.if_icmp .eq 15, 3) := by decide +kernel
theorem dX6_isBetter_19 : decode cX6_isBetter 19 = .ok (.iload_n 3, 1) := by decide +kernel
theorem dX6_isBetter_20 : decode cX6_isBetter 20 = .ok (.iload 4, 2) := by decide +kernel
theorem dX6_isBetter_22 : decode cX6_isBetter 22 = .ok (.if_icmp .ge 7, 3) := by decide +kernel
theorem dX6_isBetter_25 : decode cX6_isBetter 25 = .ok (.iconst 1, 1) := by decide +kernel
theorem dX6_isBetter_26 : decode cX6_isBetter 26 = .ok (.goto 4, 3) := by decide +kernel
theorem dX6_isBetter_29 : decode cX6_isBetter 29 = .ok (.iconst 0, 1) := by decide +kernel
theorem dX6_isBetter_30 : decode cX6_isBetter 30 = .ok (.ireturn, 1) := by decide +kernel
theorem dX6_isBetter_31 : decode cX6_isBetter 31 = .ok (.aload_n 0, 1) := by decide +kernel
theorem dX6_isBetter_32 : decode cX6_isBetter 32 = .ok (.getfield 30, 3) := by decide +kernel
theorem dX6_isBetter_35 : decode cX6_isBetter 35 = .ok (.getfield 144, 3) := by decide +kernel
theorem dX6_isBetter_38 : decode cX6_isBetter 38 = .ok (.iload_n 1, 1) := by decide +kernel
theorem dX6_isBetter_39 : decode cX6_isBetter 39 = .ok (.invokestatic 225, 3) := by decide +kernel
theorem dX6_isBetter_42 : decode cX6_isBetter 42 = .ok (.invokevirtual 126, 3) := by decide +kernel
theorem dX6_isBetter_45 : decode cX6_isBetter 45 = .ok (.aload_n 0, 1) := by decide +kernel
theorem dX6_isBetter_46 : decode cX6_isBetter 46 = .ok (.getfield 30, 3) := by decide +kernel
theorem dX6_isBetter_49 : decode cX6_isBetter 49 = .ok (.getfield 144, 3) := by decide +kernel
theorem dX6_isBetter_52 : decode cX6_isBetter 52 = .ok (.iload_n 2, 1) := by decide +kernel
theorem dX6_isBetter_53 : decode cX6_isBetter 53 = .ok (.invokestatic 225, 3) := by decide +kernel
theorem dX6_isBetter_56 : decode cX6_isBetter 56 = .ok (.invokevirtual 126, 3) := by decide +kernel
theorem dX6_isBetter_59 : decode cX6_isBetter 59 = .ok (.if_icmp .ge 7, 3) := by decide +kernel
theorem dX6_isBetter_62 : decode cX6_isBetter 62 = .ok (.iconst 1, 1) := by decide +kernel
theorem dX6_isBetter_63 : decode cX6_isBetter 63 = .ok (.goto 4, 3) := by decide +kernel
theorem dX6_isBetter_66 : decode cX6_isBetter 66 = .ok (.iconst 0, 1) := by decide +kernel
theorem dX6_isBetter_67 : decode cX6_isBetter 67 = .ok (.ireturn, 1) := by decide +kernel
theorem dX6_bestWay_0 : decode cX6_bestWay 0 = .ok (.bipush (-9), 2) := by decide +kernel
theorem dX6_bestWay_2 : decode cX6_bestWay 2 = .ok (.istore_n 2, 1) := by decide +kernel
theorem dX6_bestWay_3 : decode cX6_bestWay 3 = .ok (.iconst 0, 1) := by decide +kernel
theorem dX6_bestWay_4 : decode cX6_bestWay 4 = .ok (.istore_n 3, 1) := by decide +kernel
theorem dX6_bestWay_5 : decode cX6_bestWay 5 = .ok (.iload_n 3, 1) := by decide +kernel
theorem dX6_bestWay_6 : decode cX6_bestWay 6 = .ok (.aload_n 0, 1) := by decide +kernel
theorem dX6_bestWay_7 : decode cX6_bestWay 7 = .ok (.getfield 30, 3) := by decide +kernel
theorem dX6_bestWay_10 : decode cX6_bestWay 10 = .ok (.getfield 237, 3) := by decide +kernel
theorem dX6_bestWay_13 : decode cX6_bestWay 13 = .ok (.invokestatic 195, 3) := by decide +kernel
theorem dX6_bestWay_16 : decode cX6_bestWay 16 = .ok (.if_icmp .gt 39, 3) := by decide +kernel
theorem dX6_bestWay_19 : decode cX6_bestWay 19 = .ok (.iload_n 3, 1) := by decide +kernel
theorem dX6_bestWay_20 : decode cX6_bestWay 20 = .ok (.invokestatic 181, 3) := by decide +kernel
theorem dX6_bestWay_23 : decode cX6_bestWay 23 = .ok (.iconst 4, 1) := by decide +kernel
theorem dX6_bestWay_24 : decode cX6_bestWay 24 = .ok (.if_icmp .ne 25, 3) := by decide +kernel
theorem dX6_bestWay_27 : decode cX6_bestWay 27 = .ok (.aload_n 0, 1) := by decide +kernel
theorem dX6_bestWay_28 : decode cX6_bestWay 28 = .ok (.getfield 30, 3) := by decide +kernel
theorem dX6_bestWay_31 : decode cX6_bestWay 31 = .ok (.getfield 144, 3) := by decide +kernel
theorem dX6_bestWay_34 : decode cX6_bestWay 34 = .ok (.iload_n 3, 1) := by decide +kernel
theorem dX6_bestWay_35 : decode cX6_bestWay 35 = .ok (.invokevirtual 126, 3) := by decide +kernel
theorem dX6_bestWay_38 : decode cX6_bestWay 38 = .ok (.iload_n 1, 1) := by decide +kernel
theorem dX6_bestWay_39 : decode cX6_bestWay 39 = .ok (.if_icmp .lt 10, 3) := by decide +kernel
theorem dX6_bestWay_42 : decode cX6_bestWay 42 = .ok (.aload_n 0, 1) := by decide +kernel
theorem dX6_bestWay_43 : decode cX6_bestWay 43 = .ok (.iload_n 3, 1) := by decide +kernel
theorem dX6_bestWay_44 : decode cX6_bestWay 44 = .ok (.iload_n 2, 1) := by decide +kernel
theorem dX6_bestWay_45 : decode cX6_bestWay 45 = .ok (.invokevirtual 298, 3) := by decide +kernel
theorem dX6_bestWay_48 : decode cX6_bestWay 48 = .ok (.istore_n 2, 1) := by decide +kernel
theorem dX6_bestWay_49 : decode cX6_bestWay 49 = .ok (.iinc 3 1, 3) := by decide +kernel
theorem dX6_bestWay_52 : decode cX6_bestWay 52 = .ok (.goto (-47), 3) := by decide +kernel
theorem dX6_bestWay_55 : decode cX6_bestWay 55 = .ok (.iload_n 2, 1) := by decide +kernel
theorem dX6_bestWay_56 : decode cX6_bestWay 56 = .ok (.ireturn, 1) := by decide +kernel
theorem dX6_betterWay_0 : decode cX6_betterWay 0 = .ok (.iload_n 2, 1) := by decide +kernel
theorem dX6_betterWay_1 : decode cX6_betterWay 1 = .ok (.istore_n 3, 1) := by decide +kernel
theorem dX6_betterWay_2 : decode cX6_betterWay 2 = .ok (.iconst 0, 1) := by decide +kernel
theorem dX6_betterWay_3 : decode cX6_betterWay 3 = .ok (.istore 4, 2) := by decide +kernel
theorem dX6_betterWay_5 : decode cX6_betterWay 5 = .ok (.iload 4, 2) := by decide +kernel
theorem dX6_betterWay_7 : decode cX6_betterWay 7 = .ok (.iload_n 1, 1) := by decide +kernel
theorem dX6_betterWay_8 : decode cX6_betterWay 8 = .ok (.if_icmp .ge 66, 3) := by decide +kernel
theorem dX6_betterWay_11 : decode cX6_betterWay 11 = .ok (.iload 4, 2) := by decide +kernel
theorem dX6_betterWay_13 : decode cX6_betterWay 13 = .ok (.iload_n 1, 1) := by decide +kernel
theorem dX6_betterWay_14 : decode cX6_betterWay 14 = .ok (.iconst (-1), 1) := by decide +kernel
theorem dX6_betterWay_15 : decode cX6_betterWay 15 = .ok (.ixor, 1) := by decide +kernel
theorem dX6_betterWay_16 : decode cX6_betterWay 16 = .ok (.iand, 1) := by decide +kernel
theorem dX6_betterWay_17 : decode cX6_betterWay 17 = .ok (.ifCond .ne 16, 3) := by decide +kernel
theorem dX6_betterWay_20 : decode cX6_betterWay 20 = .ok (.iload 4, 2) := by decide +kernel
theorem dX6_betterWay_22 : decode cX6_betterWay 22 = .ok (.invokestatic 181, 3) := by decide +kernel
theorem dX6_betterWay_25 : decode cX6_betterWay 25 = .ok (.iconst 2, 1) := by decide +kernel
theorem dX6_betterWay_26 : decode cX6_betterWay 26 = .ok (.if_icmp .ne 7, 3) := by decide +kernel
theorem dX6_betterWay_29 : decode cX6_betterWay 29 = .ok (.iconst 1, 1) := by decide +kernel
theorem dX6_betterWay_30 : decode cX6_betterWay 30 = .ok (.goto 4, 3) := by decide +kernel
theorem dX6_betterWay_33 : decode cX6_betterWay 33 = .ok (.iconst 0, 1) := by decide +kernel
theorem dX6_betterWay_34 : decode cX6_betterWay 34 = .ok (.istore 5, 2) := by decide +kernel
theorem dX6_betterWay_36 : decode cX6_betterWay 36 = .ok (.iload 5, 2) := by decide +kernel
theorem dX6_betterWay_38 : decode cX6_betterWay 38 = .ok (.ifCond .eq 30, 3) := by decide +kernel
theorem dX6_betterWay_41 : decode cX6_betterWay 41 = .ok (.iload_n 3, 1) := by decide +kernel
theorem dX6_betterWay_42 : decode cX6_betterWay 42 = .ok (.bipush (-9), 2) := by decide +kernel
theorem dX6_betterWay_44 : decode cX6_betterWay 44 = .ok (.if_icmp .eq 17, 3) := by decide +kernel
theorem dX6_betterWay_47 : decode cX6_betterWay 47 = .ok (.aload_n 0, 1) := by decide +kernel
theorem dX6_betterWay_48 : decode cX6_betterWay 48 = .ok (.iload_n 1, 1) := by decide +kernel

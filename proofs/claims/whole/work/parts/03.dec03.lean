theorem dX6_isIn_5 : decode mX6_isIn.2.1 5 = .ok (.ifCond .eq 7, 3) := by decide +kernel
theorem dX6_isIn_8 : decode mX6_isIn.2.1 8 = .ok (.iconst 1, 1) := by decide +kernel
theorem dX6_isIn_9 : decode mX6_isIn.2.1 9 = .ok (.goto 4, 3) := by decide +kernel
theorem dX6_isIn_12 : decode mX6_isIn.2.1 12 = .ok (.iconst 0, 1) := by decide +kernel
theorem dX6_isIn_13 : decode mX6_isIn.2.1 13 = .ok (.ireturn, 1) := by decide +kernel
theorem dX6_allOf_0 : decode mX6_allOf.2.1 0 = .ok (.iconst 1, 1) := by decide +kernel
theorem dX6_allOf_1 : decode mX6_allOf.2.1 1 = .ok (.iload_n 0, 1) := by decide +kernel
theorem dX6_allOf_2 : decode mX6_allOf.2.1 2 = .ok (.ishl, 1) := by decide +kernel
theorem dX6_allOf_3 : decode mX6_allOf.2.1 3 = .ok (.iconst 1, 1) := by decide +kernel
theorem dX6_allOf_4 : decode mX6_allOf.2.1 4 = .ok (.isub, 1) := by decide +kernel
theorem dX6_allOf_5 : decode mX6_allOf.2.1 5 = .ok (.ireturn, 1) := by decide +kernel
theorem dX6_power_0 : decode mX6_power.2.1 0 = .ok (.iconst 1, 1) := by decide +kernel
theorem dX6_power_1 : decode mX6_power.2.1 1 = .ok (.istore_n 2, 1) := by decide +kernel
theorem dX6_power_2 : decode mX6_power.2.1 2 = .ok (.iconst 0, 1) := by decide +kernel
theorem dX6_power_3 : decode mX6_power.2.1 3 = .ok (.istore_n 3, 1) := by decide +kernel
theorem dX6_power_4 : decode mX6_power.2.1 4 = .ok (.iload_n 3, 1) := by decide +kernel
theorem dX6_power_5 : decode mX6_power.2.1 5 = .ok (.iload_n 1, 1) := by decide +kernel
theorem dX6_power_6 : decode mX6_power.2.1 6 = .ok (.if_icmp .ge 13, 3) := by decide +kernel
theorem dX6_power_9 : decode mX6_power.2.1 9 = .ok (.iload_n 2, 1) := by decide +kernel
theorem dX6_power_10 : decode mX6_power.2.1 10 = .ok (.iload_n 0, 1) := by decide +kernel
theorem dX6_power_11 : decode mX6_power.2.1 11 = .ok (.imul, 1) := by decide +kernel
theorem dX6_power_12 : decode mX6_power.2.1 12 = .ok (.istore_n 2, 1) := by decide +kernel
theorem dX6_power_13 : decode mX6_power.2.1 13 = .ok (.iinc 3 1, 3) := by decide +kernel
theorem dX6_power_16 : decode mX6_power.2.1 16 = .ok (.goto (-12), 3) := by decide +kernel
theorem dX6_power_19 : decode mX6_power.2.1 19 = .ok (.iload_n 2, 1) := by decide +kernel
theorem dX6_power_20 : decode mX6_power.2.1 20 = .ok (.ireturn, 1) := by decide +kernel
theorem dX6_commonDivisor_0 : decode mX6_commonDivisor.2.1 0 = .ok (.iload_n 1, 1) := by decide +kernel
theorem dX6_commonDivisor_1 : decode mX6_commonDivisor.2.1 1 = .ok (.istore_n 2, 1) := by decide +kernel
theorem dX6_commonDivisor_2 : decode mX6_commonDivisor.2.1 2 = .ok (.iload_n 0, 1) := by decide +kernel
theorem dX6_commonDivisor_3 : decode mX6_commonDivisor.2.1 3 = .ok (.istore_n 3, 1) := by decide +kernel
theorem dX6_commonDivisor_4 : decode mX6_commonDivisor.2.1 4 = .ok (.iconst 0, 1) := by decide +kernel
theorem dX6_commonDivisor_5 : decode mX6_commonDivisor.2.1 5 = .ok (.istore 4, 2) := by decide +kernel
theorem dX6_commonDivisor_7 : decode mX6_commonDivisor.2.1 7 = .ok (.iload 4, 2) := by decide +kernel
theorem dX6_commonDivisor_9 : decode mX6_commonDivisor.2.1 9 = .ok (.bipush 64, 2) := by decide +kernel
theorem dX6_commonDivisor_11 : decode mX6_commonDivisor.2.1 11 = .ok (.if_icmp .ge 23, 3) := by decide +kernel
theorem dX6_commonDivisor_14 : decode mX6_commonDivisor.2.1 14 = .ok (.iload_n 3, 1) := by decide +kernel
theorem dX6_commonDivisor_15 : decode mX6_commonDivisor.2.1 15 = .ok (.ifCond .le 19, 3) := by decide +kernel
theorem dX6_commonDivisor_18 : decode mX6_commonDivisor.2.1 18 = .ok (.iload_n 2, 1) := by decide +kernel
theorem dX6_commonDivisor_19 : decode mX6_commonDivisor.2.1 19 = .ok (.iload_n 3, 1) := by decide +kernel
theorem dX6_commonDivisor_20 : decode mX6_commonDivisor.2.1 20 = .ok (.irem, 1) := by decide +kernel
theorem dX6_commonDivisor_21 : decode mX6_commonDivisor.2.1 21 = .ok (.istore 5, 2) := by decide +kernel
theorem dX6_commonDivisor_23 : decode mX6_commonDivisor.2.1 23 = .ok (.iload_n 3, 1) := by decide +kernel
theorem dX6_commonDivisor_24 : decode mX6_commonDivisor.2.1 24 = .ok (.istore_n 2, 1) := by decide +kernel
theorem dX6_commonDivisor_25 : decode mX6_commonDivisor.2.1 25 = .ok (.iload 5, 2) := by decide +kernel
theorem dX6_commonDivisor_27 : decode mX6_commonDivisor.2.1 27 = .ok (.istore_n 3, 1) := by decide +kernel
theorem dX6_commonDivisor_28 : decode mX6_commonDivisor.2.1 28 = .ok (.iinc 4 1, 3) := by decide +kernel
theorem dX6_commonDivisor_31 : decode mX6_commonDivisor.2.1 31 = .ok (.goto (-24), 3) := by decide +kernel
theorem dX6_commonDivisor_34 : decode mX6_commonDivisor.2.1 34 = .ok (.iconst 1, 1) := by decide +kernel
theorem dX6_commonDivisor_35 : decode mX6_commonDivisor.2.1 35 = .ok (.iload_n 2, 1) := by decide +kernel
theorem dX6_commonDivisor_36 : decode mX6_commonDivisor.2.1 36 = .ok (.invokestatic 217, 3) := by decide +kernel
theorem dX6_commonDivisor_39 : decode mX6_commonDivisor.2.1 39 = .ok (.ireturn, 1) := by decide +kernel
theorem dX6_needleBy_0 : decode mX6_needleBy.2.1 0 = .ok (.iload_n 1, 1) := by decide +kernel
theorem dX6_needleBy_1 : decode mX6_needleBy.2.1 1 = .ok (.istore_n 3, 1) := by decide +kernel
theorem dX6_needleBy_2 : decode mX6_needleBy.2.1 2 = .ok (.iload_n 1, 1) := by decide +kernel
theorem dX6_needleBy_3 : decode mX6_needleBy.2.1 3 = .ok (.iload_n 2, 1) := by decide +kernel
theorem dX6_needleBy_4 : decode mX6_needleBy.2.1 4 = .ok (.aload_n 0, 1) := by decide +kernel
theorem dX6_needleBy_5 : decode mX6_needleBy.2.1 5 = .ok (.getfield 40, 3) := by decide +kernel
theorem dX6_needleBy_8 : decode mX6_needleBy.2.1 8 = .ok (.getfield 153, 3) := by decide +kernel
theorem dX6_needleBy_11 : decode mX6_needleBy.2.1 11 = .ok (.isub, 1) := by decide +kernel
theorem dX6_needleBy_12 : decode mX6_needleBy.2.1 12 = .ok (.if_icmp .ge 16, 3) := by decide +kernel
theorem dX6_needleBy_15 : decode mX6_needleBy.2.1 15 = .ok (.iload_n 2, 1) := by decide +kernel
theorem dX6_needleBy_16 : decode mX6_needleBy.2.1 16 = .ok (.aload_n 0, 1) := by decide +kernel
theorem dX6_needleBy_17 : decode mX6_needleBy.2.1 17 = .ok (.getfield 40, 3) := by decide +kernel
theorem dX6_needleBy_20 : decode mX6_needleBy.2.1 20 = .ok (.getfield 153, 3) := by decide +kernel
theorem dX6_needleBy_23 : decode mX6_needleBy.2.1 23 = .ok (.isub, 1) := by decide +kernel
theorem dX6_needleBy_24 : decode mX6_needleBy.2.1 24 = .ok (.istore_n 3, 1) := by decide +kernel
theorem dX6_needleBy_25 : decode mX6_needleBy.2.1 25 = .ok (.goto 26, 3) := by decide +kernel
theorem dX6_needleBy_28 : decode mX6_needleBy.2.1 28 = .ok (.iload_n 1, 1) := by decide +kernel
theorem dX6_needleBy_29 : decode mX6_needleBy.2.1 29 = .ok (.iload_n 2, 1) := by decide +kernel
theorem dX6_needleBy_30 : decode mX6_needleBy.2.1 30 = .ok (.aload_n 0, 1) := by decide +kernel
theorem dX6_needleBy_31 : decode mX6_needleBy.2.1 31 = .ok (.getfield 40, 3) := by decide +kernel
theorem dX6_needleBy_34 : decode mX6_needleBy.2.1 34 = .ok (.getfield 153, 3) := by decide +kernel
theorem dX6_needleBy_37 : decode mX6_needleBy.2.1 37 = .ok (.iadd, 1) := by decide +kernel
theorem dX6_needleBy_38 : decode mX6_needleBy.2.1 38 = .ok (.if_icmp .le 13, 3) := by decide +kernel
theorem dX6_needleBy_41 : decode mX6_needleBy.2.1 41 = .ok (.iload_n 2, 1) := by decide +kernel
theorem dX6_needleBy_42 : decode mX6_needleBy.2.1 42 = .ok (.aload_n 0, 1) := by decide +kernel
theorem dX6_needleBy_43 : decode mX6_needleBy.2.1 43 = .ok (.getfield 40, 3) := by decide +kernel
theorem dX6_needleBy_46 : decode mX6_needleBy.2.1 46 = .ok (.getfield 153, 3) := by decide +kernel
theorem dX6_needleBy_49 : decode mX6_needleBy.2.1 49 = .ok (.iadd, 1) := by decide +kernel
theorem dX6_needleBy_50 : decode mX6_needleBy.2.1 50 = .ok (.istore_n 3, 1) := by decide +kernel
theorem dX6_needleBy_51 : decode mX6_needleBy.2.1 51 = .ok (.iload_n 3, 1) := by decide +kernel
theorem dX6_needleBy_52 : decode mX6_needleBy.2.1 52 = .ok (.aload_n 0, 1) := by decide +kernel
theorem dX6_needleBy_53 : decode mX6_needleBy.2.1 53 = .ok (.getfield 30, 3) := by decide +kernel
theorem dX6_needleBy_56 : decode mX6_needleBy.2.1 56 = .ok (.getfield 270, 3) := by decide +kernel
theorem dX6_needleBy_59 : decode mX6_needleBy.2.1 59 = .ok (.invokestatic 278, 3) := by decide +kernel
theorem dX6_needleBy_62 : decode mX6_needleBy.2.1 62 = .ok (.ireturn, 1) := by decide +kernel
theorem dX6_burdenOf_0 : decode mX6_burdenOf.2.1 0 = .ok (.aload_n 0, 1) := by decide +kernel
theorem dX6_burdenOf_1 : decode mX6_burdenOf.2.1 1 = .ok (.getfield 30, 3) := by decide +kernel
theorem dX6_burdenOf_4 : decode mX6_burdenOf.2.1 4 = .ok (.getfield 117, 3) := by decide +kernel
theorem dX6_burdenOf_7 : decode mX6_burdenOf.2.1 7 = .ok (.iload_n 1, 1) := by decide +kernel
theorem dX6_burdenOf_8 : decode mX6_burdenOf.2.1 8 = .ok (.invokevirtual 107, 3) := by decide +kernel
theorem dX6_burdenOf_11 : decode mX6_burdenOf.2.1 11 = .ok (.aload_n 0, 1) := by decide +kernel
theorem dX6_burdenOf_12 : decode mX6_burdenOf.2.1 12 = .ok (.getfield 40, 3) := by decide +kernel
theorem dX6_burdenOf_15 : decode mX6_burdenOf.2.1 15 = .ok (.getfield 120, 3) := by decide +kernel
theorem dX6_burdenOf_18 : decode mX6_burdenOf.2.1 18 = .ok (.iload_n 1, 1) := by decide +kernel
theorem dX6_burdenOf_19 : decode mX6_burdenOf.2.1 19 = .ok (.invokevirtual 107, 3) := by decide +kernel
theorem dX6_burdenOf_22 : decode mX6_burdenOf.2.1 22 = .ok (.iadd, 1) := by decide +kernel
theorem dX6_burdenOf_23 : decode mX6_burdenOf.2.1 23 = .ok (.aload_n 0, 1) := by decide +kernel
theorem dX6_burdenOf_24 : decode mX6_burdenOf.2.1 24 = .ok (.getfield 30, 3) := by decide +kernel
theorem dX6_burdenOf_27 : decode mX6_burdenOf.2.1 27 = .ok (.getfield 104, 3) := by decide +kernel
theorem dX6_burdenOf_30 : decode mX6_burdenOf.2.1 30 = .ok (.aload_n 0, 1) := by decide +kernel
theorem dX6_burdenOf_31 : decode mX6_burdenOf.2.1 31 = .ok (.getfield 40, 3) := by decide +kernel
theorem dX6_burdenOf_34 : decode mX6_burdenOf.2.1 34 = .ok (.getfield 123, 3) := by decide +kernel
theorem dX6_burdenOf_37 : decode mX6_burdenOf.2.1 37 = .ok (.iload_n 1, 1) := by decide +kernel
theorem dX6_burdenOf_38 : decode mX6_burdenOf.2.1 38 = .ok (.invokevirtual 107, 3) := by decide +kernel
theorem dX6_burdenOf_41 : decode mX6_burdenOf.2.1 41 = .ok (.invokevirtual 126, 3) := by decide +kernel
theorem dX6_burdenOf_44 : decode mX6_burdenOf.2.1 44 = .ok (.iadd, 1) := by decide +kernel
theorem dX6_burdenOf_45 : decode mX6_burdenOf.2.1 45 = .ok (.ireturn, 1) := by decide +kernel
theorem dX6_loadBy_0 : decode mX6_loadBy.2.1 0 = .ok (.iconst 0, 1) := by decide +kernel
theorem dX6_loadBy_1 : decode mX6_loadBy.2.1 1 = .ok (.iload_n 0, 1) := by decide +kernel
theorem dX6_loadBy_2 : decode mX6_loadBy.2.1 2 = .ok (.iload_n 1, 1) := by decide +kernel
theorem dX6_loadBy_3 : decode mX6_loadBy.2.1 3 = .ok (.iadd, 1) := by decide +kernel
theorem dX6_loadBy_4 : decode mX6_loadBy.2.1 4 = .ok (.invokestatic 217, 3) := by decide +kernel
theorem dX6_loadBy_7 : decode mX6_loadBy.2.1 7 = .ok (.ireturn, 1) := by decide +kernel
theorem dX6_loadOf_0 : decode mX6_loadOf.2.1 0 = .ok (.aload_n 0, 1) := by decide +kernel
theorem dX6_loadOf_1 : decode mX6_loadOf.2.1 1 = .ok (.iload_n 1, 1) := by decide +kernel
theorem dX6_loadOf_2 : decode mX6_loadOf.2.1 2 = .ok (.invokevirtual 192, 3) := by decide +kernel
theorem dX6_loadOf_5 : decode mX6_loadOf.2.1 5 = .ok (.aload_n 0, 1) := by decide +kernel
theorem dX6_loadOf_6 : decode mX6_loadOf.2.1 6 = .ok (.getfield 40, 3) := by decide +kernel
theorem dX6_loadOf_9 : decode mX6_loadOf.2.1 9 = .ok (.getfield 150, 3) := by decide +kernel
theorem dX6_loadOf_12 : decode mX6_loadOf.2.1 12 = .ok (.invokestatic 281, 3) := by decide +kernel
theorem dX6_loadOf_15 : decode mX6_loadOf.2.1 15 = .ok (.ireturn, 1) := by decide +kernel
theorem dX6_readingOf_0 : decode mX6_readingOf.2.1 0 = .ok (.aload_n 0, 1) := by decide +kernel
theorem dX6_readingOf_1 : decode mX6_readingOf.2.1 1 = .ok (.aload_n 0, 1) := by decide +kernel
theorem dX6_readingOf_2 : decode mX6_readingOf.2.1 2 = .ok (.getfield 40, 3) := by decide +kernel
theorem dX6_readingOf_5 : decode mX6_readingOf.2.1 5 = .ok (.getfield 147, 3) := by decide +kernel
theorem dX6_readingOf_8 : decode mX6_readingOf.2.1 8 = .ok (.aload_n 0, 1) := by decide +kernel
theorem dX6_readingOf_9 : decode mX6_readingOf.2.1 9 = .ok (.iload_n 1, 1) := by decide +kernel
theorem dX6_readingOf_10 : decode mX6_readingOf.2.1 10 = .ok (.invokevirtual 129, 3) := by decide +kernel
theorem dX6_readingOf_13 : decode mX6_readingOf.2.1 13 = .ok (.invokevirtual 170, 3) := by decide +kernel
theorem dX6_readingOf_16 : decode mX6_readingOf.2.1 16 = .ok (.ireturn, 1) := by decide +kernel
theorem dX6_errorOf_0 : decode mX6_errorOf.2.1 0 = .ok (.aload_n 0, 1) := by decide +kernel
theorem dX6_errorOf_1 : decode mX6_errorOf.2.1 1 = .ok (.getfield 40, 3) := by decide +kernel
theorem dX6_errorOf_4 : decode mX6_errorOf.2.1 4 = .ok (.iload_n 1, 1) := by decide +kernel
theorem dX6_errorOf_5 : decode mX6_errorOf.2.1 5 = .ok (.invokevirtual 163, 3) := by decide +kernel
theorem dX6_errorOf_8 : decode mX6_errorOf.2.1 8 = .ok (.ifCond .eq 23, 3) := by decide +kernel
theorem dX6_errorOf_11 : decode mX6_errorOf.2.1 11 = .ok (.aload_n 0, 1) := by decide +kernel
theorem dX6_errorOf_12 : decode mX6_errorOf.2.1 12 = .ok (.getfield 40, 3) := by decide +kernel
theorem dX6_errorOf_15 : decode mX6_errorOf.2.1 15 = .ok (.getfield 132, 3) := by decide +kernel
theorem dX6_errorOf_18 : decode mX6_errorOf.2.1 18 = .ok (.iload_n 1, 1) := by decide +kernel
theorem dX6_errorOf_19 : decode mX6_errorOf.2.1 19 = .ok (.invokevirtual 107, 3) := by decide +kernel
theorem dX6_errorOf_22 : decode mX6_errorOf.2.1 22 = .ok (.aload_n 0, 1) := by decide +kernel
theorem dX6_errorOf_23 : decode mX6_errorOf.2.1 23 = .ok (.iload_n 1, 1) := by decide +kernel
theorem dX6_errorOf_24 : decode mX6_errorOf.2.1 24 = .ok (.invokevirtual 192, 3) := by decide +kernel
theorem dX6_errorOf_27 : decode mX6_errorOf.2.1 27 = .ok (.isub, 1) := by decide +kernel
theorem dX6_errorOf_28 : decode mX6_errorOf.2.1 28 = .ok (.goto 5, 3) := by decide +kernel
theorem dX6_errorOf_31 : decode mX6_errorOf.2.1 31 = .ok (.ldc 103, 2) := by decide +kernel
theorem dX6_errorOf_33 : decode mX6_errorOf.2.1 33 = .ok (.ireturn, 1) := by decide +kernel
theorem dX6_whoIsChalked_0 : decode mX6_whoIsChalked.2.1 0 = .ok (.iconst 0, 1) := by decide +kernel
theorem dX6_whoIsChalked_1 : decode mX6_whoIsChalked.2.1 1 = .ok (.istore_n 1, 1) := by decide +kernel
theorem dX6_whoIsChalked_2 : decode mX6_whoIsChalked.2.1 2 = .ok (.iconst 0, 1) := by decide +kernel
theorem dX6_whoIsChalked_3 : decode mX6_whoIsChalked.2.1 3 = .ok (.istore_n 2, 1) := by decide +kernel
theorem dX6_whoIsChalked_4 : decode mX6_whoIsChalked.2.1 4 = .ok (.iload_n 2, 1) := by decide +kernel
theorem dX6_whoIsChalked_5 : decode mX6_whoIsChalked.2.1 5 = .ok (.aload_n 0, 1) := by decide +kernel
theorem dX6_whoIsChalked_6 : decode mX6_whoIsChalked.2.1 6 = .ok (.getfield 30, 3) := by decide +kernel
theorem dX6_whoIsChalked_9 : decode mX6_whoIsChalked.2.1 9 = .ok (.getfield 189, 3) := by decide +kernel
theorem dX6_whoIsChalked_12 : decode mX6_whoIsChalked.2.1 12 = .ok (.if_icmp .ge 27, 3) := by decide +kernel
theorem dX6_whoIsChalked_15 : decode mX6_whoIsChalked.2.1 15 = .ok (.aload_n 0, 1) := by decide +kernel
theorem dX6_whoIsChalked_16 : decode mX6_whoIsChalked.2.1 16 = .ok (.getfield 40, 3) := by decide +kernel
theorem dX6_whoIsChalked_19 : decode mX6_whoIsChalked.2.1 19 = .ok (.iload_n 2, 1) := by decide +kernel
theorem dX6_whoIsChalked_20 : decode mX6_whoIsChalked.2.1 20 = .ok (.invokevirtual 163, 3) := by decide +kernel
theorem dX6_whoIsChalked_23 : decode mX6_whoIsChalked.2.1 23 = .ok (.ifCond .eq 10, 3) := by decide +kernel
theorem dX6_whoIsChalked_26 : decode mX6_whoIsChalked.2.1 26 = .ok (.iload_n 1, 1) := by decide +kernel
theorem dX6_whoIsChalked_27 : decode mX6_whoIsChalked.2.1 27 = .ok (.iload_n 2, 1) := by decide +kernel
theorem dX6_whoIsChalked_28 : decode mX6_whoIsChalked.2.1 28 = .ok (.invokestatic 178, 3) := by decide +kernel
theorem dX6_whoIsChalked_31 : decode mX6_whoIsChalked.2.1 31 = .ok (.ior, 1) := by decide +kernel
theorem dX6_whoIsChalked_32 : decode mX6_whoIsChalked.2.1 32 = .ok (.istore_n 1, 1) := by decide +kernel
theorem dX6_whoIsChalked_33 : decode mX6_whoIsChalked.2.1 33 = .ok (.iinc 2 1, 3) := by decide +kernel
theorem dX6_whoIsChalked_36 : decode mX6_whoIsChalked.2.1 36 = .ok (.goto (-32), 3) := by decide +kernel
theorem dX6_whoIsChalked_39 : decode mX6_whoIsChalked.2.1 39 = .ok (.iload_n 1, 1) := by decide +kernel
theorem dX6_whoIsChalked_40 : decode mX6_whoIsChalked.2.1 40 = .ok (.ireturn, 1) := by decide +kernel
theorem dX6_whoDid_0 : decode mX6_whoDid.2.1 0 = .ok (.iconst 0, 1) := by decide +kernel
theorem dX6_whoDid_1 : decode mX6_whoDid.2.1 1 = .ok (.istore_n 2, 1) := by decide +kernel
theorem dX6_whoDid_2 : decode mX6_whoDid.2.1 2 = .ok (.iconst 0, 1) := by decide +kernel
theorem dX6_whoDid_3 : decode mX6_whoDid.2.1 3 = .ok (.istore_n 3, 1) := by decide +kernel
theorem dX6_whoDid_4 : decode mX6_whoDid.2.1 4 = .ok (.iload_n 3, 1) := by decide +kernel
theorem dX6_whoDid_5 : decode mX6_whoDid.2.1 5 = .ok (.aload_n 0, 1) := by decide +kernel
theorem dX6_whoDid_6 : decode mX6_whoDid.2.1 6 = .ok (.getfield 30, 3) := by decide +kernel
theorem dX6_whoDid_9 : decode mX6_whoDid.2.1 9 = .ok (.getfield 189, 3) := by decide +kernel
theorem dX6_whoDid_12 : decode mX6_whoDid.2.1 12 = .ok (.if_icmp .ge 34, 3) := by decide +kernel
theorem dX6_whoDid_15 : decode mX6_whoDid.2.1 15 = .ok (.aload_n 0, 1) := by decide +kernel
theorem dX6_whoDid_16 : decode mX6_whoDid.2.1 16 = .ok (.getfield 40, 3) := by decide +kernel
theorem dX6_whoDid_19 : decode mX6_whoDid.2.1 19 = .ok (.getfield 123, 3) := by decide +kernel
theorem dX6_whoDid_22 : decode mX6_whoDid.2.1 22 = .ok (.iload_n 3, 1) := by decide +kernel
theorem dX6_whoDid_23 : decode mX6_whoDid.2.1 23 = .ok (.invokevirtual 107, 3) := by decide +kernel
theorem dX6_whoDid_26 : decode mX6_whoDid.2.1 26 = .ok (.iload_n 1, 1) := by decide +kernel
theorem dX6_whoDid_27 : decode mX6_whoDid.2.1 27 = .ok (.invokestatic 174, 3) := by decide +kernel
theorem dX6_whoDid_30 : decode mX6_whoDid.2.1 30 = .ok (.ifCond .eq 10, 3) := by decide +kernel
theorem dX6_whoDid_33 : decode mX6_whoDid.2.1 33 = .ok (.iload_n 2, 1) := by decide +kernel
theorem dX6_whoDid_34 : decode mX6_whoDid.2.1 34 = .ok (.iload_n 3, 1) := by decide +kernel
theorem dX6_whoDid_35 : decode mX6_whoDid.2.1 35 = .ok (.invokestatic 178, 3) := by decide +kernel
theorem dX6_whoDid_38 : decode mX6_whoDid.2.1 38 = .ok (.ior, 1) := by decide +kernel
theorem dX6_whoDid_39 : decode mX6_whoDid.2.1 39 = .ok (.istore_n 2, 1) := by decide +kernel
theorem dX6_whoDid_40 : decode mX6_whoDid.2.1 40 = .ok (.iinc 3 1, 3) := by decide +kernel
theorem dX6_whoDid_43 : decode mX6_whoDid.2.1 43 = .ok (.goto (-39), 3) := by decide +kernel
theorem dX6_whoDid_46 : decode mX6_whoDid.2.1 46 = .ok (.iload_n 2, 1) := by decide +kernel
theorem dX6_whoDid_47 : decode mX6_whoDid.2.1 47 = .ok (.ireturn, 1) := by decide +kernel
theorem dX6_leastError_0 : decode mX6_leastError.2.1 0 = .ok (.iload_n 1, 1) := by decide +kernel
theorem dX6_leastError_1 : decode mX6_leastError.2.1 1 = .ok (.ifCond .eq 10, 3) := by decide +kernel
theorem dX6_leastError_4 : decode mX6_leastError.2.1 4 = .ok (.iload 4, 2) := by decide +kernel
theorem dX6_leastError_6 : decode mX6_leastError.2.1 6 = .ok (.bipush 6, 2) := by decide +kernel
theorem dX6_leastError_8 : decode mX6_leastError.2.1 8 = .ok (.if_icmp .lt 5, 3) := by decide +kernel
theorem dX6_leastError_11 : decode mX6_leastError.2.1 11 = .ok (.iconst 0, 1) := by decide +kernel
theorem dX6_leastError_12 : decode mX6_leastError.2.1 12 = .ok (.ireturn, 1) := by decide +kernel
theorem dX6_leastError_13 : decode mX6_leastError.2.1 13 = .ok (.ldc_w 284, 3) := by decide +kernel
theorem dX6_leastError_16 : decode mX6_leastError.2.1 16 = .ok (.istore 5, 2) := by decide +kernel
theorem dX6_leastError_18 : decode mX6_leastError.2.1 18 = .ok (.iconst 0, 1) := by decide +kernel
theorem dX6_leastError_19 : decode mX6_leastError.2.1 19 = .ok (.istore 6, 2) := by decide +kernel
theorem dX6_leastError_21 : decode mX6_leastError.2.1 21 = .ok (.iload 6, 2) := by decide +kernel
theorem dX6_leastError_23 : decode mX6_leastError.2.1 23 = .ok (.aload_n 0, 1) := by decide +kernel
theorem dX6_leastError_24 : decode mX6_leastError.2.1 24 = .ok (.getfield 30, 3) := by decide +kernel
theorem dX6_leastError_27 : decode mX6_leastError.2.1 27 = .ok (.getfield 189, 3) := by decide +kernel
theorem dX6_leastError_30 : decode mX6_leastError.2.1 30 = .ok (.if_icmp .ge 36, 3) := by decide +kernel
theorem dX6_leastError_33 : decode mX6_leastError.2.1 33 = .ok (.iload_n 1, 1) := by decide +kernel
theorem dX6_leastError_34 : decode mX6_leastError.2.1 34 = .ok (.iload 6, 2) := by decide +kernel
theorem dX6_leastError_36 : decode mX6_leastError.2.1 36 = .ok (.invokestatic 174, 3) := by decide +kernel
theorem dX6_leastError_39 : decode mX6_leastError.2.1 39 = .ok (.ifCond .eq 21, 3) := by decide +kernel
theorem dX6_leastError_42 : decode mX6_leastError.2.1 42 = .ok (.iload 5, 2) := by decide +kernel
theorem dX6_leastError_44 : decode mX6_leastError.2.1 44 = .ok (.aload_n 0, 1) := by decide +kernel
theorem dX6_leastError_45 : decode mX6_leastError.2.1 45 = .ok (.iload 6, 2) := by decide +kernel
theorem dX6_leastError_47 : decode mX6_leastError.2.1 47 = .ok (.iload_n 1, 1) := by decide +kernel
theorem dX6_leastError_48 : decode mX6_leastError.2.1 48 = .ok (.iload_n 2, 1) := by decide +kernel
theorem dX6_leastError_49 : decode mX6_leastError.2.1 49 = .ok (.iload_n 3, 1) := by decide +kernel
theorem dX6_leastError_50 : decode mX6_leastError.2.1 50 = .ok (.iload 4, 2) := by decide +kernel
theorem dX6_leastError_52 : decode mX6_leastError.2.1 52 = .ok (.invokevirtual 285, 3) := by decide +kernel
theorem dX6_leastError_55 : decode mX6_leastError.2.1 55 = .ok (.invokestatic 278, 3) := by decide +kernel
theorem dX6_leastError_58 : decode mX6_leastError.2.1 58 = .ok (.istore 5, 2) := by decide +kernel
theorem dX6_leastError_60 : decode mX6_leastError.2.1 60 = .ok (.iinc 6 1, 3) := by decide +kernel
theorem dX6_leastError_63 : decode mX6_leastError.2.1 63 = .ok (.goto (-42), 3) := by decide +kernel
theorem dX6_leastError_66 : decode mX6_leastError.2.1 66 = .ok (.iload 5, 2) := by decide +kernel
theorem dX6_leastError_68 : decode mX6_leastError.2.1 68 = .ok (.ireturn, 1) := by decide +kernel
theorem dX6_leastErrorFrom_0 : decode mX6_leastErrorFrom.2.1 0 = .ok (.aload_n 0, 1) := by decide +kernel
theorem dX6_leastErrorFrom_1 : decode mX6_leastErrorFrom.2.1 1 = .ok (.getfield 55, 3) := by decide +kernel
theorem dX6_leastErrorFrom_4 : decode mX6_leastErrorFrom.2.1 4 = .ok (.iload_n 1, 1) := by decide +kernel
theorem dX6_leastErrorFrom_5 : decode mX6_leastErrorFrom.2.1 5 = .ok (.invokevirtual 107, 3) := by decide +kernel
theorem dX6_leastErrorFrom_8 : decode mX6_leastErrorFrom.2.1 8 = .ok (.iload 4, 2) := by decide +kernel
theorem dX6_leastErrorFrom_10 : decode mX6_leastErrorFrom.2.1 10 = .ok (.invokestatic 281, 3) := by decide +kernel
theorem dX6_leastErrorFrom_13 : decode mX6_leastErrorFrom.2.1 13 = .ok (.istore 6, 2) := by decide +kernel
theorem dX6_leastErrorFrom_15 : decode mX6_leastErrorFrom.2.1 15 = .ok (.aload_n 0, 1) := by decide +kernel
theorem dX6_leastErrorFrom_16 : decode mX6_leastErrorFrom.2.1 16 = .ok (.iload_n 3, 1) := by decide +kernel
theorem dX6_leastErrorFrom_17 : decode mX6_leastErrorFrom.2.1 17 = .ok (.iload 6, 2) := by decide +kernel
theorem dX6_leastErrorFrom_19 : decode mX6_leastErrorFrom.2.1 19 = .ok (.invokevirtual 170, 3) := by decide +kernel
theorem dX6_leastErrorFrom_22 : decode mX6_leastErrorFrom.2.1 22 = .ok (.istore 7, 2) := by decide +kernel
theorem dX6_leastErrorFrom_24 : decode mX6_leastErrorFrom.2.1 24 = .ok (.aload_n 0, 1) := by decide +kernel
theorem dX6_leastErrorFrom_25 : decode mX6_leastErrorFrom.2.1 25 = .ok (.iload_n 2, 1) := by decide +kernel
theorem dX6_leastErrorFrom_26 : decode mX6_leastErrorFrom.2.1 26 = .ok (.iload_n 1, 1) := by decide +kernel
theorem dX6_leastErrorFrom_27 : decode mX6_leastErrorFrom.2.1 27 = .ok (.invokestatic 178, 3) := by decide +kernel
theorem dX6_leastErrorFrom_30 : decode mX6_leastErrorFrom.2.1 30 = .ok (.iconst (-1), 1) := by decide +kernel
theorem dX6_leastErrorFrom_31 : decode mX6_leastErrorFrom.2.1 31 = .ok (.ixor, 1) := by decide +kernel
theorem dX6_leastErrorFrom_32 : decode mX6_leastErrorFrom.2.1 32 = .ok (.iand, 1) := by decide +kernel
theorem dX6_leastErrorFrom_33 : decode mX6_leastErrorFrom.2.1 33 = .ok (.aload_n 0, 1) := by decide +kernel
theorem dX6_leastErrorFrom_34 : decode mX6_leastErrorFrom.2.1 34 = .ok (.iload 7, 2) := by decide +kernel
theorem dX6_leastErrorFrom_36 : decode mX6_leastErrorFrom.2.1 36 = .ok (.iconst 0, 1) := by decide +kernel
theorem dX6_leastErrorFrom_37 : decode mX6_leastErrorFrom.2.1 37 = .ok (.invokevirtual 170, 3) := by decide +kernel
theorem dX6_leastErrorFrom_40 : decode mX6_leastErrorFrom.2.1 40 = .ok (.iconst 0, 1) := by decide +kernel
theorem dX6_leastErrorFrom_41 : decode mX6_leastErrorFrom.2.1 41 = .ok (.iload 5, 2) := by decide +kernel
theorem dX6_leastErrorFrom_43 : decode mX6_leastErrorFrom.2.1 43 = .ok (.iconst 1, 1) := by decide +kernel
theorem dX6_leastErrorFrom_44 : decode mX6_leastErrorFrom.2.1 44 = .ok (.iadd, 1) := by decide +kernel
theorem dX6_leastErrorFrom_45 : decode mX6_leastErrorFrom.2.1 45 = .ok (.invokevirtual 198, 3) := by decide +kernel
theorem dX6_leastErrorFrom_48 : decode mX6_leastErrorFrom.2.1 48 = .ok (.istore 8, 2) := by decide +kernel
theorem dX6_leastErrorFrom_50 : decode mX6_leastErrorFrom.2.1 50 = .ok (.iload 7, 2) := by decide +kernel
theorem dX6_leastErrorFrom_52 : decode mX6_leastErrorFrom.2.1 52 = .ok (.iload 6, 2) := by decide +kernel
theorem dX6_leastErrorFrom_54 : decode mX6_leastErrorFrom.2.1 54 = .ok (.isub, 1) := by decide +kernel
theorem dX6_leastErrorFrom_55 : decode mX6_leastErrorFrom.2.1 55 = .ok (.invokestatic 289, 3) := by decide +kernel
theorem dX6_leastErrorFrom_58 : decode mX6_leastErrorFrom.2.1 58 = .ok (.iload 8, 2) := by decide +kernel
theorem dX6_leastErrorFrom_60 : decode mX6_leastErrorFrom.2.1 60 = .ok (.iadd, 1) := by decide +kernel
theorem dX6_leastErrorFrom_61 : decode mX6_leastErrorFrom.2.1 61 = .ok (.ireturn, 1) := by decide +kernel
theorem dX6_inOrder_0 : decode mX6_inOrder.2.1 0 = .ok (.iload_n 2, 1) := by decide +kernel
theorem dX6_inOrder_1 : decode mX6_inOrder.2.1 1 = .ok (.istore_n 3, 1) := by decide +kernel
theorem dX6_inOrder_2 : decode mX6_inOrder.2.1 2 = .ok (.aload_n 0, 1) := by decide +kernel
theorem dX6_inOrder_3 : decode mX6_inOrder.2.1 3 = .ok (.getfield 40, 3) := by decide +kernel
theorem dX6_inOrder_6 : decode mX6_inOrder.2.1 6 = .ok (.getfield 147, 3) := by decide +kernel
theorem dX6_inOrder_9 : decode mX6_inOrder.2.1 9 = .ok (.istore 4, 2) := by decide +kernel
theorem dX6_inOrder_11 : decode mX6_inOrder.2.1 11 = .ok (.aload_n 0, 1) := by decide +kernel
theorem dX6_inOrder_12 : decode mX6_inOrder.2.1 12 = .ok (.getfield 40, 3) := by decide +kernel
theorem dX6_inOrder_15 : decode mX6_inOrder.2.1 15 = .ok (.getfield 150, 3) := by decide +kernel
theorem dX6_inOrder_18 : decode mX6_inOrder.2.1 18 = .ok (.istore 5, 2) := by decide +kernel
theorem dX6_inOrder_20 : decode mX6_inOrder.2.1 20 = .ok (.bipush (-9), 2) := by decide +kernel
theorem dX6_inOrder_22 : decode mX6_inOrder.2.1 22 = .ok (.istore 6, 2) := by decide +kernel
theorem dX6_inOrder_24 : decode mX6_inOrder.2.1 24 = .ok (.iconst 0, 1) := by decide +kernel
theorem dX6_inOrder_25 : decode mX6_inOrder.2.1 25 = .ok (.istore 7, 2) := by decide +kernel
theorem dX6_inOrder_27 : decode mX6_inOrder.2.1 27 = .ok (.iload 7, 2) := by decide +kernel
theorem dX6_inOrder_29 : decode mX6_inOrder.2.1 29 = .ok (.iload_n 1, 1) := by decide +kernel
theorem dX6_inOrder_30 : decode mX6_inOrder.2.1 30 = .ok (.if_icmp .gt 72, 3) := by decide +kernel
theorem dX6_inOrder_33 : decode mX6_inOrder.2.1 33 = .ok (.aload_n 0, 1) := by decide +kernel
theorem dX6_inOrder_34 : decode mX6_inOrder.2.1 34 = .ok (.iload_n 3, 1) := by decide +kernel
theorem dX6_inOrder_35 : decode mX6_inOrder.2.1 35 = .ok (.iload 4, 2) := by decide +kernel
theorem dX6_inOrder_37 : decode mX6_inOrder.2.1 37 = .ok (.iload 5, 2) := by decide +kernel
theorem dX6_inOrder_39 : decode mX6_inOrder.2.1 39 = .ok (.iload 7, 2) := by decide +kernel
theorem dX6_inOrder_41 : decode mX6_inOrder.2.1 41 = .ok (.invokevirtual 292, 3) := by decide +kernel
theorem dX6_inOrder_44 : decode mX6_inOrder.2.1 44 = .ok (.istore 6, 2) := by decide +kernel
theorem dX6_inOrder_46 : decode mX6_inOrder.2.1 46 = .ok (.iload 6, 2) := by decide +kernel
theorem dX6_inOrder_48 : decode mX6_inOrder.2.1 48 = .ok (.bipush (-9), 2) := by decide +kernel
theorem dX6_inOrder_50 : decode mX6_inOrder.2.1 50 = .ok (.if_icmp .ne 6, 3) := by decide +kernel
theorem dX6_inOrder_53 : decode mX6_inOrder.2.1 53 = .ok (.bipush (-9), 2) := by decide +kernel
theorem dX6_inOrder_55 : decode mX6_inOrder.2.1 55 = .ok (.ireturn, 1) := by decide +kernel
theorem dX6_inOrder_56 : decode mX6_inOrder.2.1 56 = .ok (.aload_n 0, 1) := by decide +kernel
theorem dX6_inOrder_57 : decode mX6_inOrder.2.1 57 = .ok (.aload_n 0, 1) := by decide +kernel
theorem dX6_inOrder_58 : decode mX6_inOrder.2.1 58 = .ok (.iload 4, 2) := by decide +kernel
theorem dX6_inOrder_60 : decode mX6_inOrder.2.1 60 = .ok (.aload_n 0, 1) := by decide +kernel
theorem dX6_inOrder_61 : decode mX6_inOrder.2.1 61 = .ok (.getfield 55, 3) := by decide +kernel
theorem dX6_inOrder_64 : decode mX6_inOrder.2.1 64 = .ok (.iload 6, 2) := by decide +kernel
theorem dX6_inOrder_66 : decode mX6_inOrder.2.1 66 = .ok (.invokevirtual 107, 3) := by decide +kernel
theorem dX6_inOrder_69 : decode mX6_inOrder.2.1 69 = .ok (.iload 5, 2) := by decide +kernel
theorem dX6_inOrder_71 : decode mX6_inOrder.2.1 71 = .ok (.invokestatic 281, 3) := by decide +kernel
theorem dX6_inOrder_74 : decode mX6_inOrder.2.1 74 = .ok (.invokevirtual 170, 3) := by decide +kernel
theorem dX6_inOrder_77 : decode mX6_inOrder.2.1 77 = .ok (.iconst 0, 1) := by decide +kernel
theorem dX6_inOrder_78 : decode mX6_inOrder.2.1 78 = .ok (.invokevirtual 170, 3) := by decide +kernel
theorem dX6_inOrder_81 : decode mX6_inOrder.2.1 81 = .ok (.istore 4, 2) := by decide +kernel
theorem dX6_inOrder_83 : decode mX6_inOrder.2.1 83 = .ok (.iconst 0, 1) := by decide +kernel
theorem dX6_inOrder_84 : decode mX6_inOrder.2.1 84 = .ok (.istore 5, 2) := by decide +kernel
theorem dX6_inOrder_86 : decode mX6_inOrder.2.1 86 = .ok (.iload_n 3, 1) := by decide +kernel
theorem dX6_inOrder_87 : decode mX6_inOrder.2.1 87 = .ok (.iload 6, 2) := by decide +kernel
theorem dX6_inOrder_89 : decode mX6_inOrder.2.1 89 = .ok (.invokestatic 178, 3) := by decide +kernel
theorem dX6_inOrder_92 : decode mX6_inOrder.2.1 92 = .ok (.iconst (-1), 1) := by decide +kernel
theorem dX6_inOrder_93 : decode mX6_inOrder.2.1 93 = .ok (.ixor, 1) := by decide +kernel
theorem dX6_inOrder_94 : decode mX6_inOrder.2.1 94 = .ok (.iand, 1) := by decide +kernel
theorem dX6_inOrder_95 : decode mX6_inOrder.2.1 95 = .ok (.istore_n 3, 1) := by decide +kernel
theorem dX6_inOrder_96 : decode mX6_inOrder.2.1 96 = .ok (.iinc 7 1, 3) := by decide +kernel
theorem dX6_inOrder_99 : decode mX6_inOrder.2.1 99 = .ok (.goto (-72), 3) := by decide +kernel
theorem dX6_inOrder_102 : decode mX6_inOrder.2.1 102 = .ok (.iload 6, 2) := by decide +kernel
theorem dX6_inOrder_104 : decode mX6_inOrder.2.1 104 = .ok (.ireturn, 1) := by decide +kernel
theorem dX6_bestNext_0 : decode mX6_bestNext.2.1 0 = .ok (.bipush (-9), 2) := by decide +kernel
theorem dX6_bestNext_2 : decode mX6_bestNext.2.1 2 = .ok (.istore 5, 2) := by decide +kernel
theorem dX6_bestNext_4 : decode mX6_bestNext.2.1 4 = .ok (.ldc_w 284, 3) := by decide +kernel
theorem dX6_bestNext_7 : decode mX6_bestNext.2.1 7 = .ok (.istore 6, 2) := by decide +kernel
theorem dX6_bestNext_9 : decode mX6_bestNext.2.1 9 = .ok (.iconst 0, 1) := by decide +kernel
theorem dX6_bestNext_10 : decode mX6_bestNext.2.1 10 = .ok (.istore 7, 2) := by decide +kernel
theorem dX6_bestNext_12 : decode mX6_bestNext.2.1 12 = .ok (.iload 7, 2) := by decide +kernel
theorem dX6_bestNext_14 : decode mX6_bestNext.2.1 14 = .ok (.aload_n 0, 1) := by decide +kernel
theorem dX6_bestNext_15 : decode mX6_bestNext.2.1 15 = .ok (.getfield 30, 3) := by decide +kernel
theorem dX6_bestNext_18 : decode mX6_bestNext.2.1 18 = .ok (.getfield 189, 3) := by decide +kernel
theorem dX6_bestNext_21 : decode mX6_bestNext.2.1 21 = .ok (.if_icmp .ge 52, 3) := by decide +kernel
theorem dX6_bestNext_24 : decode mX6_bestNext.2.1 24 = .ok (.iload_n 1, 1) := by decide +kernel
theorem dX6_bestNext_25 : decode mX6_bestNext.2.1 25 = .ok (.iload 7, 2) := by decide +kernel
theorem dX6_bestNext_27 : decode mX6_bestNext.2.1 27 = .ok (.invokestatic 174, 3) := by decide +kernel
theorem dX6_bestNext_30 : decode mX6_bestNext.2.1 30 = .ok (.ifCond .eq 17, 3) := by decide +kernel
theorem dX6_bestNext_33 : decode mX6_bestNext.2.1 33 = .ok (.aload_n 0, 1) := by decide +kernel
theorem dX6_bestNext_34 : decode mX6_bestNext.2.1 34 = .ok (.iload 7, 2) := by decide +kernel
theorem dX6_bestNext_36 : decode mX6_bestNext.2.1 36 = .ok (.iload_n 1, 1) := by decide +kernel
theorem dX6_bestNext_37 : decode mX6_bestNext.2.1 37 = .ok (.iload_n 2, 1) := by decide +kernel
theorem dX6_bestNext_38 : decode mX6_bestNext.2.1 38 = .ok (.iload_n 3, 1) := by decide +kernel
theorem dX6_bestNext_39 : decode mX6_bestNext.2.1 39 = .ok (.iload 4, 2) := by decide +kernel
theorem dX6_bestNext_41 : decode mX6_bestNext.2.1 41 = .ok (.invokevirtual 285, 3) := by decide +kernel
theorem dX6_bestNext_44 : decode mX6_bestNext.2.1 44 = .ok (.goto 6, 3) := by decide +kernel
theorem dX6_bestNext_47 : decode mX6_bestNext.2.1 47 = .ok (.ldc_w 284, 3) := by decide +kernel
theorem dX6_bestNext_50 : decode mX6_bestNext.2.1 50 = .ok (.istore 8, 2) := by decide +kernel
theorem dX6_bestNext_52 : decode mX6_bestNext.2.1 52 = .ok (.iload 8, 2) := by decide +kernel
theorem dX6_bestNext_54 : decode mX6_bestNext.2.1 54 = .ok (.iload 6, 2) := by decide +kernel
theorem dX6_bestNext_56 : decode mX6_bestNext.2.1 56 = .ok (.if_icmp .ge 11, 3) := by decide +kernel
theorem dX6_bestNext_59 : decode mX6_bestNext.2.1 59 = .ok (.iload 8, 2) := by decide +kernel
theorem dX6_bestNext_61 : decode mX6_bestNext.2.1 61 = .ok (.istore 6, 2) := by decide +kernel
theorem dX6_bestNext_63 : decode mX6_bestNext.2.1 63 = .ok (.iload 7, 2) := by decide +kernel
theorem dX6_bestNext_65 : decode mX6_bestNext.2.1 65 = .ok (.istore 5, 2) := by decide +kernel
theorem dX6_bestNext_67 : decode mX6_bestNext.2.1 67 = .ok (.iinc 7 1, 3) := by decide +kernel
theorem dX6_bestNext_70 : decode mX6_bestNext.2.1 70 = .ok (.goto (-58), 3) := by decide +kernel
theorem dX6_bestNext_73 : decode mX6_bestNext.2.1 73 = .ok (.iload 5, 2) := by decide +kernel
theorem dX6_bestNext_75 : decode mX6_bestNext.2.1 75 = .ok (.ireturn, 1) := by decide +kernel
theorem dX6_explainsAll_0 : decode mX6_explainsAll.2.1 0 = .ok (.aload_n 0, 1) := by decide +kernel
theorem dX6_explainsAll_1 : decode mX6_explainsAll.2.1 1 = .ok (.getfield 30, 3) := by decide +kernel
theorem dX6_explainsAll_4 : decode mX6_explainsAll.2.1 4 = .ok (.getfield 104, 3) := by decide +kernel
theorem dX6_explainsAll_7 : decode mX6_explainsAll.2.1 7 = .ok (.iload_n 1, 1) := by decide +kernel
theorem dX6_explainsAll_8 : decode mX6_explainsAll.2.1 8 = .ok (.invokevirtual 126, 3) := by decide +kernel
theorem dX6_explainsAll_11 : decode mX6_explainsAll.2.1 11 = .ok (.istore_n 2, 1) := by decide +kernel
theorem dX6_explainsAll_12 : decode mX6_explainsAll.2.1 12 = .ok (.iconst 0, 1) := by decide +kernel
theorem dX6_explainsAll_13 : decode mX6_explainsAll.2.1 13 = .ok (.istore_n 3, 1) := by decide +kernel
theorem dX6_explainsAll_14 : decode mX6_explainsAll.2.1 14 = .ok (.iload_n 3, 1) := by decide +kernel
theorem dX6_explainsAll_15 : decode mX6_explainsAll.2.1 15 = .ok (.aload_n 0, 1) := by decide +kernel
theorem dX6_explainsAll_16 : decode mX6_explainsAll.2.1 16 = .ok (.getfield 93, 3) := by decide +kernel
theorem dX6_explainsAll_19 : decode mX6_explainsAll.2.1 19 = .ok (.if_icmp .ge 39, 3) := by decide +kernel
theorem dX6_explainsAll_22 : decode mX6_explainsAll.2.1 22 = .ok (.aload_n 0, 1) := by decide +kernel
theorem dX6_explainsAll_23 : decode mX6_explainsAll.2.1 23 = .ok (.iconst 0, 1) := by decide +kernel
theorem dX6_explainsAll_24 : decode mX6_explainsAll.2.1 24 = .ok (.aload_n 0, 1) := by decide +kernel
theorem dX6_explainsAll_25 : decode mX6_explainsAll.2.1 25 = .ok (.getfield 65, 3) := by decide +kernel
theorem dX6_explainsAll_28 : decode mX6_explainsAll.2.1 28 = .ok (.iload_n 3, 1) := by decide +kernel
theorem dX6_explainsAll_29 : decode mX6_explainsAll.2.1 29 = .ok (.invokevirtual 107, 3) := by decide +kernel
theorem dX6_explainsAll_32 : decode mX6_explainsAll.2.1 32 = .ok (.iload_n 2, 1) := by decide +kernel
theorem dX6_explainsAll_33 : decode mX6_explainsAll.2.1 33 = .ok (.invokestatic 281, 3) := by decide +kernel
theorem dX6_explainsAll_36 : decode mX6_explainsAll.2.1 36 = .ok (.invokevirtual 170, 3) := by decide +kernel
theorem dX6_explainsAll_39 : decode mX6_explainsAll.2.1 39 = .ok (.aload_n 0, 1) := by decide +kernel
theorem dX6_explainsAll_40 : decode mX6_explainsAll.2.1 40 = .ok (.getfield 68, 3) := by decide +kernel
theorem dX6_explainsAll_43 : decode mX6_explainsAll.2.1 43 = .ok (.iload_n 3, 1) := by decide +kernel
theorem dX6_explainsAll_44 : decode mX6_explainsAll.2.1 44 = .ok (.invokevirtual 107, 3) := by decide +kernel
theorem dX6_explainsAll_47 : decode mX6_explainsAll.2.1 47 = .ok (.if_icmp .eq 5, 3) := by decide +kernel
theorem dX6_explainsAll_50 : decode mX6_explainsAll.2.1 50 = .ok (.iconst 0, 1) := by decide +kernel
theorem dX6_explainsAll_51 : decode mX6_explainsAll.2.1 51 = .ok (.ireturn, 1) := by decide +kernel
theorem dX6_explainsAll_52 : decode mX6_explainsAll.2.1 52 = .ok (.iinc 3 1, 3) := by decide +kernel
theorem dX6_explainsAll_55 : decode mX6_explainsAll.2.1 55 = .ok (.goto (-41), 3) := by decide +kernel
theorem dX6_explainsAll_58 : decode mX6_explainsAll.2.1 58 = .ok (.iconst 1, 1) := by decide +kernel
theorem dX6_explainsAll_59 : decode mX6_explainsAll.2.1 59 = .ok (.ireturn, 1) := by decide +kernel
theorem dX6_setsWith_0 : decode mX6_setsWith.2.1 0 = .ok (.iconst 0, 1) := by decide +kernel
theorem dX6_setsWith_1 : decode mX6_setsWith.2.1 1 = .ok (.istore_n 2, 1) := by decide +kernel
theorem dX6_setsWith_2 : decode mX6_setsWith.2.1 2 = .ok (.iconst 0, 1) := by decide +kernel
theorem dX6_setsWith_3 : decode mX6_setsWith.2.1 3 = .ok (.istore_n 3, 1) := by decide +kernel
theorem dX6_setsWith_4 : decode mX6_setsWith.2.1 4 = .ok (.iload_n 3, 1) := by decide +kernel
theorem dX6_setsWith_5 : decode mX6_setsWith.2.1 5 = .ok (.aload_n 0, 1) := by decide +kernel
theorem dX6_setsWith_6 : decode mX6_setsWith.2.1 6 = .ok (.getfield 30, 3) := by decide +kernel
theorem dX6_setsWith_9 : decode mX6_setsWith.2.1 9 = .ok (.getfield 214, 3) := by decide +kernel
theorem dX6_setsWith_12 : decode mX6_setsWith.2.1 12 = .ok (.invokestatic 195, 3) := by decide +kernel
theorem dX6_setsWith_15 : decode mX6_setsWith.2.1 15 = .ok (.if_icmp .gt 27, 3) := by decide +kernel
theorem dX6_setsWith_18 : decode mX6_setsWith.2.1 18 = .ok (.iload_n 3, 1) := by decide +kernel
theorem dX6_setsWith_19 : decode mX6_setsWith.2.1 19 = .ok (.iload_n 1, 1) := by decide +kernel
theorem dX6_setsWith_20 : decode mX6_setsWith.2.1 20 = .ok (.iand, 1) := by decide +kernel
theorem dX6_setsWith_21 : decode mX6_setsWith.2.1 21 = .ok (.iload_n 1, 1) := by decide +kernel
theorem dX6_setsWith_22 : decode mX6_setsWith.2.1 22 = .ok (.if_icmp .ne 14, 3) := by decide +kernel
theorem dX6_setsWith_25 : decode mX6_setsWith.2.1 25 = .ok (.aload_n 0, 1) := by decide +kernel
theorem dX6_setsWith_26 : decode mX6_setsWith.2.1 26 = .ok (.iload_n 3, 1) := by decide +kernel
theorem dX6_setsWith_27 : decode mX6_setsWith.2.1 27 = .ok (.invokevirtual 295, 3) := by decide +kernel
theorem dX6_setsWith_30 : decode mX6_setsWith.2.1 30 = .ok (.ifCond .eq 6, 3) := by decide +kernel
theorem dX6_setsWith_33 : decode mX6_setsWith.2.1 33 = .ok (.iinc 2 1, 3) := by decide +kernel
theorem dX6_setsWith_36 : decode mX6_setsWith.2.1 36 = .ok (.iinc 3 1, 3) := by decide +kernel
theorem dX6_setsWith_39 : decode mX6_setsWith.2.1 39 = .ok (.goto (-35), 3) := by decide +kernel
theorem dX6_setsWith_42 : decode mX6_setsWith.2.1 42 = .ok (.iload_n 2, 1) := by decide +kernel
theorem dX6_setsWith_43 : decode mX6_setsWith.2.1 43 = .ok (.ireturn, 1) := by decide +kernel
theorem dX6_deedsInAllSets_0 : decode mX6_deedsInAllSets.2.1 0 = .ok (.aload_n 0, 1) := by decide +kernel
theorem dX6_deedsInAllSets_1 : decode mX6_deedsInAllSets.2.1 1 = .ok (.iconst 0, 1) := by decide +kernel
theorem dX6_deedsInAllSets_2 : decode mX6_deedsInAllSets.2.1 2 = .ok (.invokevirtual 205, 3) := by decide +kernel
theorem dX6_deedsInAllSets_5 : decode mX6_deedsInAllSets.2.1 5 = .ok (.istore_n 1, 1) := by decide +kernel
theorem dX6_deedsInAllSets_6 : decode mX6_deedsInAllSets.2.1 6 = .ok (.iload_n 1, 1) := by decide +kernel
theorem dX6_deedsInAllSets_7 : decode mX6_deedsInAllSets.2.1 7 = .ok (.ifCond .ne 6, 3) := by decide +kernel
theorem dX6_deedsInAllSets_10 : decode mX6_deedsInAllSets.2.1 10 = .ok (.bipush (-9), 2) := by decide +kernel
theorem dX6_deedsInAllSets_12 : decode mX6_deedsInAllSets.2.1 12 = .ok (.ireturn, 1) := by decide +kernel
theorem dX6_deedsInAllSets_13 : decode mX6_deedsInAllSets.2.1 13 = .ok (.iconst 0, 1) := by decide +kernel
theorem dX6_deedsInAllSets_14 : decode mX6_deedsInAllSets.2.1 14 = .ok (.istore_n 2, 1) := by decide +kernel
theorem dX6_deedsInAllSets_15 : decode mX6_deedsInAllSets.2.1 15 = .ok (.iconst 0, 1) := by decide +kernel
theorem dX6_deedsInAllSets_16 : decode mX6_deedsInAllSets.2.1 16 = .ok (.istore_n 3, 1) := by decide +kernel
theorem dX6_deedsInAllSets_17 : decode mX6_deedsInAllSets.2.1 17 = .ok (.iload_n 3, 1) := by decide +kernel
theorem dX6_deedsInAllSets_18 : decode mX6_deedsInAllSets.2.1 18 = .ok (.aload_n 0, 1) := by decide +kernel
theorem dX6_deedsInAllSets_19 : decode mX6_deedsInAllSets.2.1 19 = .ok (.getfield 30, 3) := by decide +kernel
theorem dX6_deedsInAllSets_22 : decode mX6_deedsInAllSets.2.1 22 = .ok (.getfield 214, 3) := by decide +kernel
theorem dX6_deedsInAllSets_25 : decode mX6_deedsInAllSets.2.1 25 = .ok (.if_icmp .ge 28, 3) := by decide +kernel
theorem dX6_deedsInAllSets_28 : decode mX6_deedsInAllSets.2.1 28 = .ok (.aload_n 0, 1) := by decide +kernel
theorem dX6_deedsInAllSets_29 : decode mX6_deedsInAllSets.2.1 29 = .ok (.iload_n 3, 1) := by decide +kernel
theorem dX6_deedsInAllSets_30 : decode mX6_deedsInAllSets.2.1 30 = .ok (.invokestatic 178, 3) := by decide +kernel
theorem dX6_deedsInAllSets_33 : decode mX6_deedsInAllSets.2.1 33 = .ok (.invokevirtual 205, 3) := by decide +kernel
theorem dX6_deedsInAllSets_36 : decode mX6_deedsInAllSets.2.1 36 = .ok (.iload_n 1, 1) := by decide +kernel
theorem dX6_deedsInAllSets_37 : decode mX6_deedsInAllSets.2.1 37 = .ok (.if_icmp .ne 10, 3) := by decide +kernel
theorem dX6_deedsInAllSets_40 : decode mX6_deedsInAllSets.2.1 40 = .ok (.iload_n 2, 1) := by decide +kernel
theorem dX6_deedsInAllSets_41 : decode mX6_deedsInAllSets.2.1 41 = .ok (.iload_n 3, 1) := by decide +kernel
theorem dX6_deedsInAllSets_42 : decode mX6_deedsInAllSets.2.1 42 = .ok (.invokestatic 178, 3) := by decide +kernel
theorem dX6_deedsInAllSets_45 : decode mX6_deedsInAllSets.2.1 45 = .ok (.ior, 1) := by decide +kernel
theorem dX6_deedsInAllSets_46 : decode mX6_deedsInAllSets.2.1 46 = .ok (.istore_n 2, 1) := by decide +kernel
theorem dX6_deedsInAllSets_47 : decode mX6_deedsInAllSets.2.1 47 = .ok (.iinc 3 1, 3) := by decide +kernel
theorem dX6_deedsInAllSets_50 : decode mX6_deedsInAllSets.2.1 50 = .ok (.goto (-33), 3) := by decide +kernel
theorem dX6_deedsInAllSets_53 : decode mX6_deedsInAllSets.2.1 53 = .ok (.iload_n 2, 1) := by decide +kernel
theorem dX6_deedsInAllSets_54 : decode mX6_deedsInAllSets.2.1 54 = .ok (.ireturn, 1) := by decide +kernel
theorem dX6_deedsInSomeSets_0 : decode mX6_deedsInSomeSets.2.1 0 = .ok (.iconst 0, 1) := by decide +kernel
theorem dX6_deedsInSomeSets_1 : decode mX6_deedsInSomeSets.2.1 1 = .ok (.istore_n 1, 1) := by decide +kernel
theorem dX6_deedsInSomeSets_2 : decode mX6_deedsInSomeSets.2.1 2 = .ok (.iconst 0, 1) := by decide +kernel
theorem dX6_deedsInSomeSets_3 : decode mX6_deedsInSomeSets.2.1 3 = .ok (.istore_n 2, 1) := by decide +kernel
theorem dX6_deedsInSomeSets_4 : decode mX6_deedsInSomeSets.2.1 4 = .ok (.iload_n 2, 1) := by decide +kernel
theorem dX6_deedsInSomeSets_5 : decode mX6_deedsInSomeSets.2.1 5 = .ok (.aload_n 0, 1) := by decide +kernel
theorem dX6_deedsInSomeSets_6 : decode mX6_deedsInSomeSets.2.1 6 = .ok (.getfield 30, 3) := by decide +kernel
theorem dX6_deedsInSomeSets_9 : decode mX6_deedsInSomeSets.2.1 9 = .ok (.getfield 214, 3) := by decide +kernel
theorem dX6_deedsInSomeSets_12 : decode mX6_deedsInSomeSets.2.1 12 = .ok (.if_icmp .ge 27, 3) := by decide +kernel
theorem dX6_deedsInSomeSets_15 : decode mX6_deedsInSomeSets.2.1 15 = .ok (.aload_n 0, 1) := by decide +kernel
theorem dX6_deedsInSomeSets_16 : decode mX6_deedsInSomeSets.2.1 16 = .ok (.iload_n 2, 1) := by decide +kernel
theorem dX6_deedsInSomeSets_17 : decode mX6_deedsInSomeSets.2.1 17 = .ok (.invokestatic 178, 3) := by decide +kernel
theorem dX6_deedsInSomeSets_20 : decode mX6_deedsInSomeSets.2.1 20 = .ok (.invokevirtual 205, 3) := by decide +kernel
theorem dX6_deedsInSomeSets_23 : decode mX6_deedsInSomeSets.2.1 23 = .ok (.ifCond .le 10, 3) := by decide +kernel
theorem dX6_deedsInSomeSets_26 : decode mX6_deedsInSomeSets.2.1 26 = .ok (.iload_n 1, 1) := by decide +kernel
theorem dX6_deedsInSomeSets_27 : decode mX6_deedsInSomeSets.2.1 27 = .ok (.iload_n 2, 1) := by decide +kernel
theorem dX6_deedsInSomeSets_28 : decode mX6_deedsInSomeSets.2.1 28 = .ok (.invokestatic 178, 3) := by decide +kernel
theorem dX6_deedsInSomeSets_31 : decode mX6_deedsInSomeSets.2.1 31 = .ok (.ior, 1) := by decide +kernel
theorem dX6_deedsInSomeSets_32 : decode mX6_deedsInSomeSets.2.1 32 = .ok (.istore_n 1, 1) := by decide +kernel
theorem dX6_deedsInSomeSets_33 : decode mX6_deedsInSomeSets.2.1 33 = .ok (.iinc 2 1, 3) := by decide +kernel
theorem dX6_deedsInSomeSets_36 : decode mX6_deedsInSomeSets.2.1 36 = .ok (.goto (-32), 3) := by decide +kernel
theorem dX6_deedsInSomeSets_39 : decode mX6_deedsInSomeSets.2.1 39 = .ok (.iload_n 1, 1) := by decide +kernel
theorem dX6_deedsInSomeSets_40 : decode mX6_deedsInSomeSets.2.1 40 = .ok (.ireturn, 1) := by decide +kernel
theorem dX6_wayOf_0 : decode mX6_wayOf.2.1 0 = .ok (.iload_n 0, 1) := by decide +kernel
theorem dX6_wayOf_1 : decode mX6_wayOf.2.1 1 = .ok (.bipush 6, 2) := by decide +kernel
theorem dX6_wayOf_3 : decode mX6_wayOf.2.1 3 = .ok (.ishl, 1) := by decide +kernel
theorem dX6_wayOf_4 : decode mX6_wayOf.2.1 4 = .ok (.iload_n 1, 1) := by decide +kernel
theorem dX6_wayOf_5 : decode mX6_wayOf.2.1 5 = .ok (.ior, 1) := by decide +kernel
theorem dX6_wayOf_6 : decode mX6_wayOf.2.1 6 = .ok (.ireturn, 1) := by decide +kernel
theorem dX6_fourOf_0 : decode mX6_fourOf.2.1 0 = .ok (.iload_n 0, 1) := by decide +kernel
theorem dX6_fourOf_1 : decode mX6_fourOf.2.1 1 = .ok (.bipush 6, 2) := by decide +kernel
theorem dX6_fourOf_3 : decode mX6_fourOf.2.1 3 = .ok (.ishr, 1) := by decide +kernel
theorem dX6_fourOf_4 : decode mX6_fourOf.2.1 4 = .ok (.ireturn, 1) := by decide +kernel
theorem dX6_leftOf_0 : decode mX6_leftOf.2.1 0 = .ok (.iload_n 0, 1) := by decide +kernel
theorem dX6_leftOf_1 : decode mX6_leftOf.2.1 1 = .ok (.bipush 6, 2) := by decide +kernel
theorem dX6_leftOf_3 : decode mX6_leftOf.2.1 3 = .ok (.invokestatic 195, 3) := by decide +kernel
theorem dX6_leftOf_6 : decode mX6_leftOf.2.1 6 = .ok (.iand, 1) := by decide +kernel
theorem dX6_leftOf_7 : decode mX6_leftOf.2.1 7 = .ok (.ireturn, 1) := by decide +kernel
theorem dX6_unevenness_0 : decode mX6_unevenness.2.1 0 = .ok (.iload_n 1, 1) := by decide +kernel
theorem dX6_unevenness_1 : decode mX6_unevenness.2.1 1 = .ok (.invokestatic 228, 3) := by decide +kernel
theorem dX6_unevenness_4 : decode mX6_unevenness.2.1 4 = .ok (.istore_n 2, 1) := by decide +kernel
theorem dX6_unevenness_5 : decode mX6_unevenness.2.1 5 = .ok (.iload_n 1, 1) := by decide +kernel
theorem dX6_unevenness_6 : decode mX6_unevenness.2.1 6 = .ok (.invokestatic 225, 3) := by decide +kernel
theorem dX6_unevenness_9 : decode mX6_unevenness.2.1 9 = .ok (.iload_n 2, 1) := by decide +kernel
theorem dX6_unevenness_10 : decode mX6_unevenness.2.1 10 = .ok (.iconst (-1), 1) := by decide +kernel
theorem dX6_unevenness_11 : decode mX6_unevenness.2.1 11 = .ok (.ixor, 1) := by decide +kernel
theorem dX6_unevenness_12 : decode mX6_unevenness.2.1 12 = .ok (.iand, 1) := by decide +kernel
theorem dX6_unevenness_13 : decode mX6_unevenness.2.1 13 = .ok (.istore_n 3, 1) := by decide +kernel
theorem dX6_unevenness_14 : decode mX6_unevenness.2.1 14 = .ok (.aload_n 0, 1) := by decide +kernel
theorem dX6_unevenness_15 : decode mX6_unevenness.2.1 15 = .ok (.getfield 30, 3) := by decide +kernel
theorem dX6_unevenness_18 : decode mX6_unevenness.2.1 18 = .ok (.getfield 144, 3) := by decide +kernel
theorem dX6_unevenness_21 : decode mX6_unevenness.2.1 21 = .ok (.iload_n 2, 1) := by decide +kernel
theorem dX6_unevenness_22 : decode mX6_unevenness.2.1 22 = .ok (.invokevirtual 126, 3) := by decide +kernel
theorem dX6_unevenness_25 : decode mX6_unevenness.2.1 25 = .ok (.aload_n 0, 1) := by decide +kernel
theorem dX6_unevenness_26 : decode mX6_unevenness.2.1 26 = .ok (.getfield 30, 3) := by decide +kernel
theorem dX6_unevenness_29 : decode mX6_unevenness.2.1 29 = .ok (.getfield 144, 3) := by decide +kernel
theorem dX6_unevenness_32 : decode mX6_unevenness.2.1 32 = .ok (.iload_n 3, 1) := by decide +kernel
theorem dX6_unevenness_33 : decode mX6_unevenness.2.1 33 = .ok (.invokevirtual 126, 3) := by decide +kernel
theorem dX6_unevenness_36 : decode mX6_unevenness.2.1 36 = .ok (.isub, 1) := by decide +kernel
theorem dX6_unevenness_37 : decode mX6_unevenness.2.1 37 = .ok (.invokestatic 289, 3) := by decide +kernel
theorem dX6_unevenness_40 : decode mX6_unevenness.2.1 40 = .ok (.ireturn, 1) := by decide +kernel
theorem dX6_isBetter_0 : decode mX6_isBetter.2.1 0 = .ok (.aload_n 0, 1) := by decide +kernel
theorem dX6_isBetter_1 : decode mX6_isBetter.2.1 1 = .ok (.iload_n 1, 1) := by decide +kernel
theorem dX6_isBetter_2 : decode mX6_isBetter.2.1 2 = .ok (.invokevirtual 231, 3) := by decide +kernel
theorem dX6_isBetter_5 : decode mX6_isBetter.2.1 5 = .ok (.istore_n 3, 1) := by decide +kernel
theorem dX6_isBetter_6 : decode mX6_isBetter.2.1 6 = .ok (.aload_n 0, 1) := by decide +kernel
theorem dX6_isBetter_7 : decode mX6_isBetter.2.1 7 = .ok (.iload_n 2, 1) := by decide +kernel
theorem dX6_isBetter_8 : decode mX6_isBetter.2.1 8 = .ok (.invokevirtual 231, 3) := by decide +kernel
theorem dX6_isBetter_11 : decode mX6_isBetter.2.1 11 = .ok (.istore 4, 2) := by decide +kernel
theorem dX6_isBetter_13 : decode mX6_isBetter.2.1 13 = .ok (.iload_n 3, 1) := by decide +kernel
theorem dX6_isBetter_14 : decode mX6_isBetter.2.1 14 = .ok (.iload 4, 2) := by decide +kernel
theorem dX6_isBetter_16 : decode mX6_isBetter.2.1 16 = .ok (.if_icmp .eq 15, 3) := by decide +kernel
theorem dX6_isBetter_19 : decode mX6_isBetter.2.1 19 = .ok (.iload_n 3, 1) := by decide +kernel
theorem dX6_isBetter_20 : decode mX6_isBetter.2.1 20 = .ok (.iload 4, 2) := by decide +kernel
theorem dX6_isBetter_22 : decode mX6_isBetter.2.1 22 = .ok (.if_icmp .ge 7, 3) := by decide +kernel
theorem dX6_isBetter_25 : decode mX6_isBetter.2.1 25 = .ok (.iconst 1, 1) := by decide +kernel
theorem dX6_isBetter_26 : decode mX6_isBetter.2.1 26 = .ok (.goto 4, 3) := by decide +kernel
theorem dX6_isBetter_29 : decode mX6_isBetter.2.1 29 = .ok (.iconst 0, 1) := by decide +kernel
theorem dX6_isBetter_30 : decode mX6_isBetter.2.1 30 = .ok (.ireturn, 1) := by decide +kernel
theorem dX6_isBetter_31 : decode mX6_isBetter.2.1 31 = .ok (.aload_n 0, 1) := by decide +kernel
theorem dX6_isBetter_32 : decode mX6_isBetter.2.1 32 = .ok (.getfield 30, 3) := by decide +kernel
theorem dX6_isBetter_35 : decode mX6_isBetter.2.1 35 = .ok (.getfield 144, 3) := by decide +kernel
theorem dX6_isBetter_38 : decode mX6_isBetter.2.1 38 = .ok (.iload_n 1, 1) := by decide +kernel
theorem dX6_isBetter_39 : decode mX6_isBetter.2.1 39 = .ok (.invokestatic 225, 3) := by decide +kernel
theorem dX6_isBetter_42 : decode mX6_isBetter.2.1 42 = .ok (.invokevirtual 126, 3) := by decide +kernel
theorem dX6_isBetter_45 : decode mX6_isBetter.2.1 45 = .ok (.aload_n 0, 1) := by decide +kernel
theorem dX6_isBetter_46 : decode mX6_isBetter.2.1 46 = .ok (.getfield 30, 3) := by decide +kernel
theorem dX6_isBetter_49 : decode mX6_isBetter.2.1 49 = .ok (.getfield 144, 3) := by decide +kernel
theorem dX6_isBetter_52 : decode mX6_isBetter.2.1 52 = .ok (.iload_n 2, 1) := by decide +kernel
theorem dX6_isBetter_53 : decode mX6_isBetter.2.1 53 = .ok (.invokestatic 225, 3) := by decide +kernel
theorem dX6_isBetter_56 : decode mX6_isBetter.2.1 56 = .ok (.invokevirtual 126, 3) := by decide +kernel
theorem dX6_isBetter_59 : decode mX6_isBetter.2.1 59 = .ok (.if_icmp .ge 7, 3) := by decide +kernel
theorem dX6_isBetter_62 : decode mX6_isBetter.2.1 62 = .ok (.iconst 1, 1) := by decide +kernel
theorem dX6_isBetter_63 : decode mX6_isBetter.2.1 63 = .ok (.goto 4, 3) := by decide +kernel
theorem dX6_isBetter_66 : decode mX6_isBetter.2.1 66 = .ok (.iconst 0, 1) := by decide +kernel
theorem dX6_isBetter_67 : decode mX6_isBetter.2.1 67 = .ok (.ireturn, 1) := by decide +kernel
theorem dX6_bestWay_0 : decode mX6_bestWay.2.1 0 = .ok (.bipush (-9), 2) := by decide +kernel
theorem dX6_bestWay_2 : decode mX6_bestWay.2.1 2 = .ok (.istore_n 2, 1) := by decide +kernel
theorem dX6_bestWay_3 : decode mX6_bestWay.2.1 3 = .ok (.iconst 0, 1) := by decide +kernel
theorem dX6_bestWay_4 : decode mX6_bestWay.2.1 4 = .ok (.istore_n 3, 1) := by decide +kernel
theorem dX6_bestWay_5 : decode mX6_bestWay.2.1 5 = .ok (.iload_n 3, 1) := by decide +kernel
theorem dX6_bestWay_6 : decode mX6_bestWay.2.1 6 = .ok (.aload_n 0, 1) := by decide +kernel
theorem dX6_bestWay_7 : decode mX6_bestWay.2.1 7 = .ok (.getfield 30, 3) := by decide +kernel
theorem dX6_bestWay_10 : decode mX6_bestWay.2.1 10 = .ok (.getfield 237, 3) := by decide +kernel
theorem dX6_bestWay_13 : decode mX6_bestWay.2.1 13 = .ok (.invokestatic 195, 3) := by decide +kernel
theorem dX6_bestWay_16 : decode mX6_bestWay.2.1 16 = .ok (.if_icmp .gt 39, 3) := by decide +kernel
theorem dX6_bestWay_19 : decode mX6_bestWay.2.1 19 = .ok (.iload_n 3, 1) := by decide +kernel
theorem dX6_bestWay_20 : decode mX6_bestWay.2.1 20 = .ok (.invokestatic 181, 3) := by decide +kernel
theorem dX6_bestWay_23 : decode mX6_bestWay.2.1 23 = .ok (.iconst 4, 1) := by decide +kernel
theorem dX6_bestWay_24 : decode mX6_bestWay.2.1 24 = .ok (.if_icmp .ne 25, 3) := by decide +kernel
theorem dX6_bestWay_27 : decode mX6_bestWay.2.1 27 = .ok (.aload_n 0, 1) := by decide +kernel
theorem dX6_bestWay_28 : decode mX6_bestWay.2.1 28 = .ok (.getfield 30, 3) := by decide +kernel
theorem dX6_bestWay_31 : decode mX6_bestWay.2.1 31 = .ok (.getfield 144, 3) := by decide +kernel
theorem dX6_bestWay_34 : decode mX6_bestWay.2.1 34 = .ok (.iload_n 3, 1) := by decide +kernel
theorem dX6_bestWay_35 : decode mX6_bestWay.2.1 35 = .ok (.invokevirtual 126, 3) := by decide +kernel
theorem dX6_bestWay_38 : decode mX6_bestWay.2.1 38 = .ok (.iload_n 1, 1) := by decide +kernel
theorem dX6_bestWay_39 : decode mX6_bestWay.2.1 39 = .ok (.if_icmp .lt 10, 3) := by decide +kernel
theorem dX6_bestWay_42 : decode mX6_bestWay.2.1 42 = .ok (.aload_n 0, 1) := by decide +kernel
theorem dX6_bestWay_43 : decode mX6_bestWay.2.1 43 = .ok (.iload_n 3, 1) := by decide +kernel
theorem dX6_bestWay_44 : decode mX6_bestWay.2.1 44 = .ok (.iload_n 2, 1) := by decide +kernel
theorem dX6_bestWay_45 : decode mX6_bestWay.2.1 45 = .ok (.invokevirtual 298, 3) := by decide +kernel
theorem dX6_bestWay_48 : decode mX6_bestWay.2.1 48 = .ok (.istore_n 2, 1) := by decide +kernel
theorem dX6_bestWay_49 : decode mX6_bestWay.2.1 49 = .ok (.iinc 3 1, 3) := by decide +kernel
theorem dX6_bestWay_52 : decode mX6_bestWay.2.1 52 = .ok (.goto (-47), 3) := by decide +kernel
theorem dX6_bestWay_55 : decode mX6_bestWay.2.1 55 = .ok (.iload_n 2, 1) := by decide +kernel
theorem dX6_bestWay_56 : decode mX6_bestWay.2.1 56 = .ok (.ireturn, 1) := by decide +kernel
theorem dX6_betterWay_0 : decode mX6_betterWay.2.1 0 = .ok (.iload_n 2, 1) := by decide +kernel
theorem dX6_betterWay_1 : decode mX6_betterWay.2.1 1 = .ok (.istore_n 3, 1) := by decide +kernel
theorem dX6_betterWay_2 : decode mX6_betterWay.2.1 2 = .ok (.iconst 0, 1) := by decide +kernel
theorem dX6_betterWay_3 : decode mX6_betterWay.2.1 3 = .ok (.istore 4, 2) := by decide +kernel
theorem dX6_betterWay_5 : decode mX6_betterWay.2.1 5 = .ok (.iload 4, 2) := by decide +kernel
theorem dX6_betterWay_7 : decode mX6_betterWay.2.1 7 = .ok (.iload_n 1, 1) := by decide +kernel
theorem dX6_betterWay_8 : decode mX6_betterWay.2.1 8 = .ok (.if_icmp .ge 66, 3) := by decide +kernel
theorem dX6_betterWay_11 : decode mX6_betterWay.2.1 11 = .ok (.iload 4, 2) := by decide +kernel
theorem dX6_betterWay_13 : decode mX6_betterWay.2.1 13 = .ok (.iload_n 1, 1) := by decide +kernel
theorem dX6_betterWay_14 : decode mX6_betterWay.2.1 14 = .ok (.iconst (-1), 1) := by decide +kernel
theorem dX6_betterWay_15 : decode mX6_betterWay.2.1 15 = .ok (.ixor, 1) := by decide +kernel
theorem dX6_betterWay_16 : decode mX6_betterWay.2.1 16 = .ok (.iand, 1) := by decide +kernel
theorem dX6_betterWay_17 : decode mX6_betterWay.2.1 17 = .ok (.ifCond .ne 16, 3) := by decide +kernel
theorem dX6_betterWay_20 : decode mX6_betterWay.2.1 20 = .ok (.iload 4, 2) := by decide +kernel
theorem dX6_betterWay_22 : decode mX6_betterWay.2.1 22 = .ok (.invokestatic 181, 3) := by decide +kernel
theorem dX6_betterWay_25 : decode mX6_betterWay.2.1 25 = .ok (.iconst 2, 1) := by decide +kernel
theorem dX6_betterWay_26 : decode mX6_betterWay.2.1 26 = .ok (.if_icmp .ne 7, 3) := by decide +kernel
theorem dX6_betterWay_29 : decode mX6_betterWay.2.1 29 = .ok (.iconst 1, 1) := by decide +kernel
theorem dX6_betterWay_30 : decode mX6_betterWay.2.1 30 = .ok (.goto 4, 3) := by decide +kernel
theorem dX6_betterWay_33 : decode mX6_betterWay.2.1 33 = .ok (.iconst 0, 1) := by decide +kernel
theorem dX6_betterWay_34 : decode mX6_betterWay.2.1 34 = .ok (.istore 5, 2) := by decide +kernel
theorem dX6_betterWay_36 : decode mX6_betterWay.2.1 36 = .ok (.iload 5, 2) := by decide +kernel
theorem dX6_betterWay_38 : decode mX6_betterWay.2.1 38 = .ok (.ifCond .eq 30, 3) := by decide +kernel
theorem dX6_betterWay_41 : decode mX6_betterWay.2.1 41 = .ok (.iload_n 3, 1) := by decide +kernel
theorem dX6_betterWay_42 : decode mX6_betterWay.2.1 42 = .ok (.bipush (-9), 2) := by decide +kernel
theorem dX6_betterWay_44 : decode mX6_betterWay.2.1 44 = .ok (.if_icmp .eq 17, 3) := by decide +kernel
theorem dX6_betterWay_47 : decode mX6_betterWay.2.1 47 = .ok (.aload_n 0, 1) := by decide +kernel
theorem dX6_betterWay_48 : decode mX6_betterWay.2.1 48 = .ok (.iload_n 1, 1) := by decide +kernel

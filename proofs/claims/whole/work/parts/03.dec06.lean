theorem dX7_dead_163 : decode mX7_dead.2.1 163 = .ok (.ireturn, 1) := by decide +kernel
theorem dX7_bearer_0 : decode mX7_bearer.2.1 0 = .ok (.iload_n 1, 1) := by decide +kernel
theorem dX7_bearer_1 : decode mX7_bearer.2.1 1 = .ok (.iconst 0, 1) := by decide +kernel
theorem dX7_bearer_2 : decode mX7_bearer.2.1 2 = .ok (.aload_n 0, 1) := by decide +kernel
theorem dX7_bearer_3 : decode mX7_bearer.2.1 3 = .ok (.getfield 151, 3) := by decide +kernel
theorem dX7_bearer_6 : decode mX7_bearer.2.1 6 = .ok (.iconst 1, 1) := by decide +kernel
theorem dX7_bearer_7 : decode mX7_bearer.2.1 7 = .ok (.isub, 1) := by decide +kernel
theorem dX7_bearer_8 : decode mX7_bearer.2.1 8 = .ok (.invokestatic 72, 3) := by decide +kernel
theorem dX7_bearer_11 : decode mX7_bearer.2.1 11 = .ok (.ifCond .eq 12, 3) := by decide +kernel
theorem dX7_bearer_14 : decode mX7_bearer.2.1 14 = .ok (.aload_n 0, 1) := by decide +kernel
theorem dX7_bearer_15 : decode mX7_bearer.2.1 15 = .ok (.getfield 16, 3) := by decide +kernel
theorem dX7_bearer_18 : decode mX7_bearer.2.1 18 = .ok (.iload_n 1, 1) := by decide +kernel
theorem dX7_bearer_19 : decode mX7_bearer.2.1 19 = .ok (.iaload, 1) := by decide +kernel
theorem dX7_bearer_20 : decode mX7_bearer.2.1 20 = .ok (.goto 4, 3) := by decide +kernel
theorem dX7_bearer_23 : decode mX7_bearer.2.1 23 = .ok (.iconst (-1), 1) := by decide +kernel
theorem dX7_bearer_24 : decode mX7_bearer.2.1 24 = .ok (.ireturn, 1) := by decide +kernel
theorem dX7_now_0 : decode mX7_now.2.1 0 = .ok (.iload_n 1, 1) := by decide +kernel
theorem dX7_now_1 : decode mX7_now.2.1 1 = .ok (.tableswitch 52 0 4 #[35, 35, 35, 42, 47], 35) := by decide +kernel
theorem dX7_now_36 : decode mX7_now.2.1 36 = .ok (.aload_n 0, 1) := by decide +kernel
theorem dX7_now_37 : decode mX7_now.2.1 37 = .ok (.getfield 26, 3) := by decide +kernel
theorem dX7_now_40 : decode mX7_now.2.1 40 = .ok (.iload_n 1, 1) := by decide +kernel
theorem dX7_now_41 : decode mX7_now.2.1 41 = .ok (.iaload, 1) := by decide +kernel
theorem dX7_now_42 : decode mX7_now.2.1 42 = .ok (.ireturn, 1) := by decide +kernel
theorem dX7_now_43 : decode mX7_now.2.1 43 = .ok (.aload_n 0, 1) := by decide +kernel
theorem dX7_now_44 : decode mX7_now.2.1 44 = .ok (.invokevirtual 195, 3) := by decide +kernel
theorem dX7_now_47 : decode mX7_now.2.1 47 = .ok (.ireturn, 1) := by decide +kernel
theorem dX7_now_48 : decode mX7_now.2.1 48 = .ok (.aload_n 0, 1) := by decide +kernel
theorem dX7_now_49 : decode mX7_now.2.1 49 = .ok (.getfield 154, 3) := by decide +kernel
theorem dX7_now_52 : decode mX7_now.2.1 52 = .ok (.ireturn, 1) := by decide +kernel
theorem dX7_now_53 : decode mX7_now.2.1 53 = .ok (.ldc 185, 2) := by decide +kernel
theorem dX7_now_55 : decode mX7_now.2.1 55 = .ok (.ireturn, 1) := by decide +kernel
theorem dX7_remembers_0 : decode mX7_remembers.2.1 0 = .ok (.aload_n 0, 1) := by decide +kernel
theorem dX7_remembers_1 : decode mX7_remembers.2.1 1 = .ok (.getfield 154, 3) := by decide +kernel
theorem dX7_remembers_4 : decode mX7_remembers.2.1 4 = .ok (.bipush 10, 2) := by decide +kernel
theorem dX7_remembers_6 : decode mX7_remembers.2.1 6 = .ok (.if_icmp .ne 43, 3) := by decide +kernel
theorem dX7_remembers_9 : decode mX7_remembers.2.1 9 = .ok (.iconst 0, 1) := by decide +kernel
theorem dX7_remembers_10 : decode mX7_remembers.2.1 10 = .ok (.istore_n 1, 1) := by decide +kernel
theorem dX7_remembers_11 : decode mX7_remembers.2.1 11 = .ok (.iload_n 1, 1) := by decide +kernel
theorem dX7_remembers_12 : decode mX7_remembers.2.1 12 = .ok (.sipush 189, 3) := by decide +kernel
theorem dX7_remembers_15 : decode mX7_remembers.2.1 15 = .ok (.if_icmp .ge 24, 3) := by decide +kernel
theorem dX7_remembers_18 : decode mX7_remembers.2.1 18 = .ok (.aload_n 0, 1) := by decide +kernel
theorem dX7_remembers_19 : decode mX7_remembers.2.1 19 = .ok (.getfield 29, 3) := by decide +kernel
theorem dX7_remembers_22 : decode mX7_remembers.2.1 22 = .ok (.iload_n 1, 1) := by decide +kernel
theorem dX7_remembers_23 : decode mX7_remembers.2.1 23 = .ok (.aload_n 0, 1) := by decide +kernel
theorem dX7_remembers_24 : decode mX7_remembers.2.1 24 = .ok (.getfield 29, 3) := by decide +kernel
theorem dX7_remembers_27 : decode mX7_remembers.2.1 27 = .ok (.iload_n 1, 1) := by decide +kernel
theorem dX7_remembers_28 : decode mX7_remembers.2.1 28 = .ok (.bipush 21, 2) := by decide +kernel
theorem dX7_remembers_30 : decode mX7_remembers.2.1 30 = .ok (.iadd, 1) := by decide +kernel
theorem dX7_remembers_31 : decode mX7_remembers.2.1 31 = .ok (.iaload, 1) := by decide +kernel
theorem dX7_remembers_32 : decode mX7_remembers.2.1 32 = .ok (.iastore, 1) := by decide +kernel
theorem dX7_remembers_33 : decode mX7_remembers.2.1 33 = .ok (.iinc 1 1, 3) := by decide +kernel
theorem dX7_remembers_36 : decode mX7_remembers.2.1 36 = .ok (.goto (-25), 3) := by decide +kernel
theorem dX7_remembers_39 : decode mX7_remembers.2.1 39 = .ok (.aload_n 0, 1) := by decide +kernel
theorem dX7_remembers_40 : decode mX7_remembers.2.1 40 = .ok (.dup, 1) := by decide +kernel
theorem dX7_remembers_41 : decode mX7_remembers.2.1 41 = .ok (.getfield 154, 3) := by decide +kernel
theorem dX7_remembers_44 : decode mX7_remembers.2.1 44 = .ok (.iconst 1, 1) := by decide +kernel
theorem dX7_remembers_45 : decode mX7_remembers.2.1 45 = .ok (.isub, 1) := by decide +kernel
theorem dX7_remembers_46 : decode mX7_remembers.2.1 46 = .ok (.putfield 154, 3) := by decide +kernel
theorem dX7_remembers_49 : decode mX7_remembers.2.1 49 = .ok (.aload_n 0, 1) := by decide +kernel
theorem dX7_remembers_50 : decode mX7_remembers.2.1 50 = .ok (.getfield 29, 3) := by decide +kernel
theorem dX7_remembers_53 : decode mX7_remembers.2.1 53 = .ok (.bipush 21, 2) := by decide +kernel
theorem dX7_remembers_55 : decode mX7_remembers.2.1 55 = .ok (.aload_n 0, 1) := by decide +kernel
theorem dX7_remembers_56 : decode mX7_remembers.2.1 56 = .ok (.getfield 154, 3) := by decide +kernel
theorem dX7_remembers_59 : decode mX7_remembers.2.1 59 = .ok (.imul, 1) := by decide +kernel
theorem dX7_remembers_60 : decode mX7_remembers.2.1 60 = .ok (.aload_n 0, 1) := by decide +kernel
theorem dX7_remembers_61 : decode mX7_remembers.2.1 61 = .ok (.getfield 26, 3) := by decide +kernel
theorem dX7_remembers_64 : decode mX7_remembers.2.1 64 = .ok (.iconst 0, 1) := by decide +kernel
theorem dX7_remembers_65 : decode mX7_remembers.2.1 65 = .ok (.invokestatic 160, 3) := by decide +kernel
theorem dX7_remembers_68 : decode mX7_remembers.2.1 68 = .ok (.aload_n 0, 1) := by decide +kernel
theorem dX7_remembers_69 : decode mX7_remembers.2.1 69 = .ok (.dup, 1) := by decide +kernel
theorem dX7_remembers_70 : decode mX7_remembers.2.1 70 = .ok (.getfield 154, 3) := by decide +kernel
theorem dX7_remembers_73 : decode mX7_remembers.2.1 73 = .ok (.iconst 1, 1) := by decide +kernel
theorem dX7_remembers_74 : decode mX7_remembers.2.1 74 = .ok (.iadd, 1) := by decide +kernel
theorem dX7_remembers_75 : decode mX7_remembers.2.1 75 = .ok (.putfield 154, 3) := by decide +kernel
theorem dX7_remembers_78 : decode mX7_remembers.2.1 78 = .ok (.return_, 1) := by decide +kernel
theorem dX7_lays_0 : decode mX7_lays.2.1 0 = .ok (.aload_n 0, 1) := by decide +kernel
theorem dX7_lays_1 : decode mX7_lays.2.1 1 = .ok (.iload_n 1, 1) := by decide +kernel
theorem dX7_lays_2 : decode mX7_lays.2.1 2 = .ok (.invokevirtual 189, 3) := by decide +kernel
theorem dX7_lays_5 : decode mX7_lays.2.1 5 = .ok (.ifCond .ne 5, 3) := by decide +kernel
theorem dX7_lays_8 : decode mX7_lays.2.1 8 = .ok (.iconst (-1), 1) := by decide +kernel
theorem dX7_lays_9 : decode mX7_lays.2.1 9 = .ok (.ireturn, 1) := by decide +kernel
theorem dX7_lays_10 : decode mX7_lays.2.1 10 = .ok (.aload_n 0, 1) := by decide +kernel
theorem dX7_lays_11 : decode mX7_lays.2.1 11 = .ok (.getfield 26, 3) := by decide +kernel
theorem dX7_lays_14 : decode mX7_lays.2.1 14 = .ok (.bipush 15, 2) := by decide +kernel
theorem dX7_lays_16 : decode mX7_lays.2.1 16 = .ok (.iload_n 1, 1) := by decide +kernel
theorem dX7_lays_17 : decode mX7_lays.2.1 17 = .ok (.iadd, 1) := by decide +kernel
theorem dX7_lays_18 : decode mX7_lays.2.1 18 = .ok (.iaload, 1) := by decide +kernel
theorem dX7_lays_19 : decode mX7_lays.2.1 19 = .ok (.bipush (-9), 2) := by decide +kernel
theorem dX7_lays_21 : decode mX7_lays.2.1 21 = .ok (.if_icmp .eq 6, 3) := by decide +kernel
theorem dX7_lays_24 : decode mX7_lays.2.1 24 = .ok (.bipush (-2), 2) := by decide +kernel
theorem dX7_lays_26 : decode mX7_lays.2.1 26 = .ok (.ireturn, 1) := by decide +kernel
theorem dX7_lays_27 : decode mX7_lays.2.1 27 = .ok (.aload_n 0, 1) := by decide +kernel
theorem dX7_lays_28 : decode mX7_lays.2.1 28 = .ok (.invokevirtual 199, 3) := by decide +kernel
theorem dX7_lays_31 : decode mX7_lays.2.1 31 = .ok (.aload_n 0, 1) := by decide +kernel
theorem dX7_lays_32 : decode mX7_lays.2.1 32 = .ok (.invokevirtual 176, 3) := by decide +kernel
theorem dX7_lays_35 : decode mX7_lays.2.1 35 = .ok (.aload_n 0, 1) := by decide +kernel
theorem dX7_lays_36 : decode mX7_lays.2.1 36 = .ok (.iload_n 1, 1) := by decide +kernel
theorem dX7_lays_37 : decode mX7_lays.2.1 37 = .ok (.invokevirtual 179, 3) := by decide +kernel
theorem dX7_lays_40 : decode mX7_lays.2.1 40 = .ok (.istore_n 2, 1) := by decide +kernel
theorem dX7_lays_41 : decode mX7_lays.2.1 41 = .ok (.aload_n 0, 1) := by decide +kernel
theorem dX7_lays_42 : decode mX7_lays.2.1 42 = .ok (.getfield 26, 3) := by decide +kernel
theorem dX7_lays_45 : decode mX7_lays.2.1 45 = .ok (.iconst 0, 1) := by decide +kernel
theorem dX7_lays_46 : decode mX7_lays.2.1 46 = .ok (.aload_n 0, 1) := by decide +kernel
theorem dX7_lays_47 : decode mX7_lays.2.1 47 = .ok (.getfield 60, 3) := by decide +kernel
theorem dX7_lays_50 : decode mX7_lays.2.1 50 = .ok (.iconst 0, 1) := by decide +kernel
theorem dX7_lays_51 : decode mX7_lays.2.1 51 = .ok (.invokestatic 160, 3) := by decide +kernel
theorem dX7_lays_54 : decode mX7_lays.2.1 54 = .ok (.iload_n 2, 1) := by decide +kernel
theorem dX7_lays_55 : decode mX7_lays.2.1 55 = .ok (.ireturn, 1) := by decide +kernel
theorem dX7_thumbs_0 : decode mX7_thumbs.2.1 0 = .ok (.iload_n 1, 1) := by decide +kernel
theorem dX7_thumbs_1 : decode mX7_thumbs.2.1 1 = .ok (.bipush (-9), 2) := by decide +kernel
theorem dX7_thumbs_3 : decode mX7_thumbs.2.1 3 = .ok (.bipush 9, 2) := by decide +kernel
theorem dX7_thumbs_5 : decode mX7_thumbs.2.1 5 = .ok (.invokestatic 72, 3) := by decide +kernel
theorem dX7_thumbs_8 : decode mX7_thumbs.2.1 8 = .ok (.ifCond .ne 6, 3) := by decide +kernel
theorem dX7_thumbs_11 : decode mX7_thumbs.2.1 11 = .ok (.ldc 185, 2) := by decide +kernel
theorem dX7_thumbs_13 : decode mX7_thumbs.2.1 13 = .ok (.ireturn, 1) := by decide +kernel
theorem dX7_thumbs_14 : decode mX7_thumbs.2.1 14 = .ok (.aload_n 0, 1) := by decide +kernel
theorem dX7_thumbs_15 : decode mX7_thumbs.2.1 15 = .ok (.invokevirtual 199, 3) := by decide +kernel
theorem dX7_thumbs_18 : decode mX7_thumbs.2.1 18 = .ok (.aload_n 0, 1) := by decide +kernel
theorem dX7_thumbs_19 : decode mX7_thumbs.2.1 19 = .ok (.getfield 26, 3) := by decide +kernel
theorem dX7_thumbs_22 : decode mX7_thumbs.2.1 22 = .ok (.iconst 1, 1) := by decide +kernel
theorem dX7_thumbs_23 : decode mX7_thumbs.2.1 23 = .ok (.iaload, 1) := by decide +kernel
theorem dX7_thumbs_24 : decode mX7_thumbs.2.1 24 = .ok (.istore_n 2, 1) := by decide +kernel
theorem dX7_thumbs_25 : decode mX7_thumbs.2.1 25 = .ok (.aload_n 0, 1) := by decide +kernel
theorem dX7_thumbs_26 : decode mX7_thumbs.2.1 26 = .ok (.getfield 26, 3) := by decide +kernel
theorem dX7_thumbs_29 : decode mX7_thumbs.2.1 29 = .ok (.iconst 1, 1) := by decide +kernel
theorem dX7_thumbs_30 : decode mX7_thumbs.2.1 30 = .ok (.iload_n 1, 1) := by decide +kernel
theorem dX7_thumbs_31 : decode mX7_thumbs.2.1 31 = .ok (.iastore, 1) := by decide +kernel
theorem dX7_thumbs_32 : decode mX7_thumbs.2.1 32 = .ok (.iload_n 2, 1) := by decide +kernel
theorem dX7_thumbs_33 : decode mX7_thumbs.2.1 33 = .ok (.ireturn, 1) := by decide +kernel
theorem dX7_adorns_0 : decode mX7_adorns.2.1 0 = .ok (.aload_n 0, 1) := by decide +kernel
theorem dX7_adorns_1 : decode mX7_adorns.2.1 1 = .ok (.iload_n 1, 1) := by decide +kernel
theorem dX7_adorns_2 : decode mX7_adorns.2.1 2 = .ok (.invokevirtual 189, 3) := by decide +kernel
theorem dX7_adorns_5 : decode mX7_adorns.2.1 5 = .ok (.ifCond .eq 13, 3) := by decide +kernel
theorem dX7_adorns_8 : decode mX7_adorns.2.1 8 = .ok (.iload_n 2, 1) := by decide +kernel
theorem dX7_adorns_9 : decode mX7_adorns.2.1 9 = .ok (.iconst 0, 1) := by decide +kernel
theorem dX7_adorns_10 : decode mX7_adorns.2.1 10 = .ok (.bipush 9, 2) := by decide +kernel
theorem dX7_adorns_12 : decode mX7_adorns.2.1 12 = .ok (.invokestatic 72, 3) := by decide +kernel
theorem dX7_adorns_15 : decode mX7_adorns.2.1 15 = .ok (.ifCond .ne 5, 3) := by decide +kernel
theorem dX7_adorns_18 : decode mX7_adorns.2.1 18 = .ok (.iconst (-1), 1) := by decide +kernel
theorem dX7_adorns_19 : decode mX7_adorns.2.1 19 = .ok (.ireturn, 1) := by decide +kernel
theorem dX7_adorns_20 : decode mX7_adorns.2.1 20 = .ok (.aload_n 0, 1) := by decide +kernel
theorem dX7_adorns_21 : decode mX7_adorns.2.1 21 = .ok (.invokevirtual 199, 3) := by decide +kernel
theorem dX7_adorns_24 : decode mX7_adorns.2.1 24 = .ok (.aload_n 0, 1) := by decide +kernel
theorem dX7_adorns_25 : decode mX7_adorns.2.1 25 = .ok (.getfield 26, 3) := by decide +kernel
theorem dX7_adorns_28 : decode mX7_adorns.2.1 28 = .ok (.iconst 3, 1) := by decide +kernel
theorem dX7_adorns_29 : decode mX7_adorns.2.1 29 = .ok (.iload_n 1, 1) := by decide +kernel
theorem dX7_adorns_30 : decode mX7_adorns.2.1 30 = .ok (.iadd, 1) := by decide +kernel
theorem dX7_adorns_31 : decode mX7_adorns.2.1 31 = .ok (.iaload, 1) := by decide +kernel
theorem dX7_adorns_32 : decode mX7_adorns.2.1 32 = .ok (.istore_n 3, 1) := by decide +kernel
theorem dX7_adorns_33 : decode mX7_adorns.2.1 33 = .ok (.aload_n 0, 1) := by decide +kernel
theorem dX7_adorns_34 : decode mX7_adorns.2.1 34 = .ok (.getfield 26, 3) := by decide +kernel
theorem dX7_adorns_37 : decode mX7_adorns.2.1 37 = .ok (.iconst 3, 1) := by decide +kernel
theorem dX7_adorns_38 : decode mX7_adorns.2.1 38 = .ok (.iload_n 1, 1) := by decide +kernel
theorem dX7_adorns_39 : decode mX7_adorns.2.1 39 = .ok (.iadd, 1) := by decide +kernel
theorem dX7_adorns_40 : decode mX7_adorns.2.1 40 = .ok (.iload_n 2, 1) := by decide +kernel
theorem dX7_adorns_41 : decode mX7_adorns.2.1 41 = .ok (.iastore, 1) := by decide +kernel
theorem dX7_adorns_42 : decode mX7_adorns.2.1 42 = .ok (.iload_n 3, 1) := by decide +kernel
theorem dX7_adorns_43 : decode mX7_adorns.2.1 43 = .ok (.ireturn, 1) := by decide +kernel
theorem dX7_sins_0 : decode mX7_sins.2.1 0 = .ok (.aload_n 0, 1) := by decide +kernel
theorem dX7_sins_1 : decode mX7_sins.2.1 1 = .ok (.iload_n 1, 1) := by decide +kernel
theorem dX7_sins_2 : decode mX7_sins.2.1 2 = .ok (.invokevirtual 189, 3) := by decide +kernel
theorem dX7_sins_5 : decode mX7_sins.2.1 5 = .ok (.ifCond .eq 11, 3) := by decide +kernel
theorem dX7_sins_8 : decode mX7_sins.2.1 8 = .ok (.aload_n 0, 1) := by decide +kernel
theorem dX7_sins_9 : decode mX7_sins.2.1 9 = .ok (.iload_n 2, 1) := by decide +kernel
theorem dX7_sins_10 : decode mX7_sins.2.1 10 = .ok (.invokevirtual 182, 3) := by decide +kernel
theorem dX7_sins_13 : decode mX7_sins.2.1 13 = .ok (.ifCond .ne 5, 3) := by decide +kernel
theorem dX7_sins_16 : decode mX7_sins.2.1 16 = .ok (.iconst (-1), 1) := by decide +kernel
theorem dX7_sins_17 : decode mX7_sins.2.1 17 = .ok (.ireturn, 1) := by decide +kernel
theorem dX7_sins_18 : decode mX7_sins.2.1 18 = .ok (.aload_n 0, 1) := by decide +kernel
theorem dX7_sins_19 : decode mX7_sins.2.1 19 = .ok (.getfield 26, 3) := by decide +kernel
theorem dX7_sins_22 : decode mX7_sins.2.1 22 = .ok (.bipush 15, 2) := by decide +kernel
theorem dX7_sins_24 : decode mX7_sins.2.1 24 = .ok (.iload_n 1, 1) := by decide +kernel
theorem dX7_sins_25 : decode mX7_sins.2.1 25 = .ok (.iadd, 1) := by decide +kernel
theorem dX7_sins_26 : decode mX7_sins.2.1 26 = .ok (.iaload, 1) := by decide +kernel
theorem dX7_sins_27 : decode mX7_sins.2.1 27 = .ok (.bipush (-9), 2) := by decide +kernel
theorem dX7_sins_29 : decode mX7_sins.2.1 29 = .ok (.if_icmp .ne 19, 3) := by decide +kernel
theorem dX7_sins_32 : decode mX7_sins.2.1 32 = .ok (.aload_n 0, 1) := by decide +kernel
theorem dX7_sins_33 : decode mX7_sins.2.1 33 = .ok (.getfield 26, 3) := by decide +kernel
theorem dX7_sins_36 : decode mX7_sins.2.1 36 = .ok (.bipush 9, 2) := by decide +kernel
theorem dX7_sins_38 : decode mX7_sins.2.1 38 = .ok (.iload_n 1, 1) := by decide +kernel
theorem dX7_sins_39 : decode mX7_sins.2.1 39 = .ok (.iadd, 1) := by decide +kernel
theorem dX7_sins_40 : decode mX7_sins.2.1 40 = .ok (.iaload, 1) := by decide +kernel
theorem dX7_sins_41 : decode mX7_sins.2.1 41 = .ok (.iload_n 2, 1) := by decide +kernel
theorem dX7_sins_42 : decode mX7_sins.2.1 42 = .ok (.invokestatic 119, 3) := by decide +kernel
theorem dX7_sins_45 : decode mX7_sins.2.1 45 = .ok (.ifCond .eq 6, 3) := by decide +kernel
theorem dX7_sins_48 : decode mX7_sins.2.1 48 = .ok (.bipush (-2), 2) := by decide +kernel
theorem dX7_sins_50 : decode mX7_sins.2.1 50 = .ok (.ireturn, 1) := by decide +kernel
theorem dX7_sins_51 : decode mX7_sins.2.1 51 = .ok (.aload_n 0, 1) := by decide +kernel
theorem dX7_sins_52 : decode mX7_sins.2.1 52 = .ok (.invokevirtual 199, 3) := by decide +kernel
theorem dX7_sins_55 : decode mX7_sins.2.1 55 = .ok (.aload_n 0, 1) := by decide +kernel
theorem dX7_sins_56 : decode mX7_sins.2.1 56 = .ok (.getfield 26, 3) := by decide +kernel
theorem dX7_sins_59 : decode mX7_sins.2.1 59 = .ok (.bipush 9, 2) := by decide +kernel
theorem dX7_sins_61 : decode mX7_sins.2.1 61 = .ok (.iload_n 1, 1) := by decide +kernel
theorem dX7_sins_62 : decode mX7_sins.2.1 62 = .ok (.iadd, 1) := by decide +kernel
theorem dX7_sins_63 : decode mX7_sins.2.1 63 = .ok (.dup2, 1) := by decide +kernel
theorem dX7_sins_64 : decode mX7_sins.2.1 64 = .ok (.iaload, 1) := by decide +kernel
theorem dX7_sins_65 : decode mX7_sins.2.1 65 = .ok (.iconst 1, 1) := by decide +kernel
theorem dX7_sins_66 : decode mX7_sins.2.1 66 = .ok (.iload_n 2, 1) := by decide +kernel
theorem dX7_sins_67 : decode mX7_sins.2.1 67 = .ok (.ishl, 1) := by decide +kernel
theorem dX7_sins_68 : decode mX7_sins.2.1 68 = .ok (.ior, 1) := by decide +kernel
theorem dX7_sins_69 : decode mX7_sins.2.1 69 = .ok (.iastore, 1) := by decide +kernel
theorem dX7_sins_70 : decode mX7_sins.2.1 70 = .ok (.aload_n 0, 1) := by decide +kernel
theorem dX7_sins_71 : decode mX7_sins.2.1 71 = .ok (.getfield 26, 3) := by decide +kernel
theorem dX7_sins_74 : decode mX7_sins.2.1 74 = .ok (.bipush 9, 2) := by decide +kernel
theorem dX7_sins_76 : decode mX7_sins.2.1 76 = .ok (.iload_n 1, 1) := by decide +kernel
theorem dX7_sins_77 : decode mX7_sins.2.1 77 = .ok (.iadd, 1) := by decide +kernel
theorem dX7_sins_78 : decode mX7_sins.2.1 78 = .ok (.iaload, 1) := by decide +kernel
theorem dX7_sins_79 : decode mX7_sins.2.1 79 = .ok (.invokestatic 202, 3) := by decide +kernel
theorem dX7_sins_82 : decode mX7_sins.2.1 82 = .ok (.ireturn, 1) := by decide +kernel
theorem dX7_oils_0 : decode mX7_oils.2.1 0 = .ok (.iload_n 1, 1) := by decide +kernel
theorem dX7_oils_1 : decode mX7_oils.2.1 1 = .ok (.iconst 0, 1) := by decide +kernel
theorem dX7_oils_2 : decode mX7_oils.2.1 2 = .ok (.bipush 9, 2) := by decide +kernel
theorem dX7_oils_4 : decode mX7_oils.2.1 4 = .ok (.invokestatic 72, 3) := by decide +kernel
theorem dX7_oils_7 : decode mX7_oils.2.1 7 = .ok (.ifCond .ne 5, 3) := by decide +kernel
theorem dX7_oils_10 : decode mX7_oils.2.1 10 = .ok (.iconst (-1), 1) := by decide +kernel
theorem dX7_oils_11 : decode mX7_oils.2.1 11 = .ok (.ireturn, 1) := by decide +kernel
theorem dX7_oils_12 : decode mX7_oils.2.1 12 = .ok (.aload_n 0, 1) := by decide +kernel
theorem dX7_oils_13 : decode mX7_oils.2.1 13 = .ok (.invokevirtual 199, 3) := by decide +kernel
theorem dX7_oils_16 : decode mX7_oils.2.1 16 = .ok (.aload_n 0, 1) := by decide +kernel
theorem dX7_oils_17 : decode mX7_oils.2.1 17 = .ok (.getfield 26, 3) := by decide +kernel
theorem dX7_oils_20 : decode mX7_oils.2.1 20 = .ok (.iconst 2, 1) := by decide +kernel
theorem dX7_oils_21 : decode mX7_oils.2.1 21 = .ok (.iaload, 1) := by decide +kernel
theorem dX7_oils_22 : decode mX7_oils.2.1 22 = .ok (.istore_n 2, 1) := by decide +kernel
theorem dX7_oils_23 : decode mX7_oils.2.1 23 = .ok (.aload_n 0, 1) := by decide +kernel
theorem dX7_oils_24 : decode mX7_oils.2.1 24 = .ok (.getfield 26, 3) := by decide +kernel
theorem dX7_oils_27 : decode mX7_oils.2.1 27 = .ok (.iconst 2, 1) := by decide +kernel
theorem dX7_oils_28 : decode mX7_oils.2.1 28 = .ok (.iload_n 1, 1) := by decide +kernel
theorem dX7_oils_29 : decode mX7_oils.2.1 29 = .ok (.iastore, 1) := by decide +kernel
theorem dX7_oils_30 : decode mX7_oils.2.1 30 = .ok (.iload_n 2, 1) := by decide +kernel
theorem dX7_oils_31 : decode mX7_oils.2.1 31 = .ok (.ireturn, 1) := by decide +kernel
theorem dX7_year_0 : decode mX7_year.2.1 0 = .ok (.aload_n 0, 1) := by decide +kernel
theorem dX7_year_1 : decode mX7_year.2.1 1 = .ok (.getfield 26, 3) := by decide +kernel
theorem dX7_year_4 : decode mX7_year.2.1 4 = .ok (.iconst 2, 1) := by decide +kernel
theorem dX7_year_5 : decode mX7_year.2.1 5 = .ok (.iaload, 1) := by decide +kernel
theorem dX7_year_6 : decode mX7_year.2.1 6 = .ok (.bipush 9, 2) := by decide +kernel
theorem dX7_year_8 : decode mX7_year.2.1 8 = .ok (.if_icmp .ne 6, 3) := by decide +kernel
theorem dX7_year_11 : decode mX7_year.2.1 11 = .ok (.bipush (-2), 2) := by decide +kernel
theorem dX7_year_13 : decode mX7_year.2.1 13 = .ok (.ireturn, 1) := by decide +kernel
theorem dX7_year_14 : decode mX7_year.2.1 14 = .ok (.aload_n 0, 1) := by decide +kernel
theorem dX7_year_15 : decode mX7_year.2.1 15 = .ok (.invokevirtual 199, 3) := by decide +kernel
theorem dX7_year_18 : decode mX7_year.2.1 18 = .ok (.aload_n 0, 1) := by decide +kernel
theorem dX7_year_19 : decode mX7_year.2.1 19 = .ok (.getfield 26, 3) := by decide +kernel
theorem dX7_year_22 : decode mX7_year.2.1 22 = .ok (.iconst 2, 1) := by decide +kernel
theorem dX7_year_23 : decode mX7_year.2.1 23 = .ok (.dup2, 1) := by decide +kernel
theorem dX7_year_24 : decode mX7_year.2.1 24 = .ok (.iaload, 1) := by decide +kernel
theorem dX7_year_25 : decode mX7_year.2.1 25 = .ok (.iconst 1, 1) := by decide +kernel
theorem dX7_year_26 : decode mX7_year.2.1 26 = .ok (.iadd, 1) := by decide +kernel
theorem dX7_year_27 : decode mX7_year.2.1 27 = .ok (.iastore, 1) := by decide +kernel
theorem dX7_year_28 : decode mX7_year.2.1 28 = .ok (.aload_n 0, 1) := by decide +kernel
theorem dX7_year_29 : decode mX7_year.2.1 29 = .ok (.getfield 26, 3) := by decide +kernel
theorem dX7_year_32 : decode mX7_year.2.1 32 = .ok (.iconst 2, 1) := by decide +kernel
theorem dX7_year_33 : decode mX7_year.2.1 33 = .ok (.iaload, 1) := by decide +kernel
theorem dX7_year_34 : decode mX7_year.2.1 34 = .ok (.ireturn, 1) := by decide +kernel
theorem dX7_undo_0 : decode mX7_undo.2.1 0 = .ok (.aload_n 0, 1) := by decide +kernel
theorem dX7_undo_1 : decode mX7_undo.2.1 1 = .ok (.getfield 154, 3) := by decide +kernel
theorem dX7_undo_4 : decode mX7_undo.2.1 4 = .ok (.ifCond .ne 6, 3) := by decide +kernel
theorem dX7_undo_7 : decode mX7_undo.2.1 7 = .ok (.bipush (-2), 2) := by decide +kernel
theorem dX7_undo_9 : decode mX7_undo.2.1 9 = .ok (.ireturn, 1) := by decide +kernel
theorem dX7_undo_10 : decode mX7_undo.2.1 10 = .ok (.aload_n 0, 1) := by decide +kernel
theorem dX7_undo_11 : decode mX7_undo.2.1 11 = .ok (.dup, 1) := by decide +kernel
theorem dX7_undo_12 : decode mX7_undo.2.1 12 = .ok (.getfield 154, 3) := by decide +kernel
theorem dX7_undo_15 : decode mX7_undo.2.1 15 = .ok (.iconst 1, 1) := by decide +kernel
theorem dX7_undo_16 : decode mX7_undo.2.1 16 = .ok (.isub, 1) := by decide +kernel
theorem dX7_undo_17 : decode mX7_undo.2.1 17 = .ok (.putfield 154, 3) := by decide +kernel
theorem dX7_undo_20 : decode mX7_undo.2.1 20 = .ok (.aload_n 0, 1) := by decide +kernel
theorem dX7_undo_21 : decode mX7_undo.2.1 21 = .ok (.getfield 26, 3) := by decide +kernel
theorem dX7_undo_24 : decode mX7_undo.2.1 24 = .ok (.iconst 0, 1) := by decide +kernel
theorem dX7_undo_25 : decode mX7_undo.2.1 25 = .ok (.aload_n 0, 1) := by decide +kernel
theorem dX7_undo_26 : decode mX7_undo.2.1 26 = .ok (.getfield 29, 3) := by decide +kernel
theorem dX7_undo_29 : decode mX7_undo.2.1 29 = .ok (.bipush 21, 2) := by decide +kernel
theorem dX7_undo_31 : decode mX7_undo.2.1 31 = .ok (.aload_n 0, 1) := by decide +kernel
theorem dX7_undo_32 : decode mX7_undo.2.1 32 = .ok (.getfield 154, 3) := by decide +kernel
theorem dX7_undo_35 : decode mX7_undo.2.1 35 = .ok (.imul, 1) := by decide +kernel
theorem dX7_undo_36 : decode mX7_undo.2.1 36 = .ok (.invokestatic 160, 3) := by decide +kernel
theorem dX7_undo_39 : decode mX7_undo.2.1 39 = .ok (.aload_n 0, 1) := by decide +kernel
theorem dX7_undo_40 : decode mX7_undo.2.1 40 = .ok (.getfield 154, 3) := by decide +kernel
theorem dX7_undo_43 : decode mX7_undo.2.1 43 = .ok (.ireturn, 1) := by decide +kernel
theorem dX7_isOrder_0 : decode mX7_isOrder.2.1 0 = .ok (.iload_n 1, 1) := by decide +kernel
theorem dX7_isOrder_1 : decode mX7_isOrder.2.1 1 = .ok (.istore 4, 2) := by decide +kernel
theorem dX7_isOrder_3 : decode mX7_isOrder.2.1 3 = .ok (.iconst 0, 1) := by decide +kernel
theorem dX7_isOrder_4 : decode mX7_isOrder.2.1 4 = .ok (.istore 5, 2) := by decide +kernel
theorem dX7_isOrder_6 : decode mX7_isOrder.2.1 6 = .ok (.iconst 1, 1) := by decide +kernel
theorem dX7_isOrder_7 : decode mX7_isOrder.2.1 7 = .ok (.istore 6, 2) := by decide +kernel
theorem dX7_isOrder_9 : decode mX7_isOrder.2.1 9 = .ok (.iload_n 2, 1) := by decide +kernel
theorem dX7_isOrder_10 : decode mX7_isOrder.2.1 10 = .ok (.iconst 1, 1) := by decide +kernel
theorem dX7_isOrder_11 : decode mX7_isOrder.2.1 11 = .ok (.isub, 1) := by decide +kernel
theorem dX7_isOrder_12 : decode mX7_isOrder.2.1 12 = .ok (.istore 7, 2) := by decide +kernel
theorem dX7_isOrder_14 : decode mX7_isOrder.2.1 14 = .ok (.iload 7, 2) := by decide +kernel
theorem dX7_isOrder_16 : decode mX7_isOrder.2.1 16 = .ok (.ifCond .lt 73, 3) := by decide +kernel
theorem dX7_isOrder_19 : decode mX7_isOrder.2.1 19 = .ok (.aload_n 0, 1) := by decide +kernel
theorem dX7_isOrder_20 : decode mX7_isOrder.2.1 20 = .ok (.getfield 63, 3) := by decide +kernel
theorem dX7_isOrder_23 : decode mX7_isOrder.2.1 23 = .ok (.iload 7, 2) := by decide +kernel
theorem dX7_isOrder_25 : decode mX7_isOrder.2.1 25 = .ok (.iload 4, 2) := by decide +kernel
theorem dX7_isOrder_27 : decode mX7_isOrder.2.1 27 = .ok (.bipush 6, 2) := by decide +kernel
theorem dX7_isOrder_29 : decode mX7_isOrder.2.1 29 = .ok (.irem, 1) := by decide +kernel
theorem dX7_isOrder_30 : decode mX7_isOrder.2.1 30 = .ok (.iastore, 1) := by decide +kernel
theorem dX7_isOrder_31 : decode mX7_isOrder.2.1 31 = .ok (.iload 4, 2) := by decide +kernel
theorem dX7_isOrder_33 : decode mX7_isOrder.2.1 33 = .ok (.bipush 6, 2) := by decide +kernel
theorem dX7_isOrder_35 : decode mX7_isOrder.2.1 35 = .ok (.idiv, 1) := by decide +kernel
theorem dX7_isOrder_36 : decode mX7_isOrder.2.1 36 = .ok (.istore 4, 2) := by decide +kernel
theorem dX7_isOrder_38 : decode mX7_isOrder.2.1 38 = .ok (.iload 6, 2) := by decide +kernel
theorem dX7_isOrder_40 : decode mX7_isOrder.2.1 40 = .ok (.ifCond .eq 26, 3) := by decide +kernel
theorem dX7_isOrder_43 : decode mX7_isOrder.2.1 43 = .ok (.iload_n 3, 1) := by decide +kernel
theorem dX7_isOrder_44 : decode mX7_isOrder.2.1 44 = .ok (.iload 5, 2) := by decide +kernel
theorem dX7_isOrder_46 : decode mX7_isOrder.2.1 46 = .ok (.iconst (-1), 1) := by decide +kernel
theorem dX7_isOrder_47 : decode mX7_isOrder.2.1 47 = .ok (.ixor, 1) := by decide +kernel
theorem dX7_isOrder_48 : decode mX7_isOrder.2.1 48 = .ok (.iand, 1) := by decide +kernel
theorem dX7_isOrder_49 : decode mX7_isOrder.2.1 49 = .ok (.aload_n 0, 1) := by decide +kernel
theorem dX7_isOrder_50 : decode mX7_isOrder.2.1 50 = .ok (.getfield 63, 3) := by decide +kernel
theorem dX7_isOrder_53 : decode mX7_isOrder.2.1 53 = .ok (.iload 7, 2) := by decide +kernel
theorem dX7_isOrder_55 : decode mX7_isOrder.2.1 55 = .ok (.iaload, 1) := by decide +kernel
theorem dX7_isOrder_56 : decode mX7_isOrder.2.1 56 = .ok (.invokestatic 119, 3) := by decide +kernel
theorem dX7_isOrder_59 : decode mX7_isOrder.2.1 59 = .ok (.ifCond .eq 7, 3) := by decide +kernel
theorem dX7_isOrder_62 : decode mX7_isOrder.2.1 62 = .ok (.iconst 1, 1) := by decide +kernel
theorem dX7_isOrder_63 : decode mX7_isOrder.2.1 63 = .ok (.goto 4, 3) := by decide +kernel
theorem dX7_isOrder_66 : decode mX7_isOrder.2.1 66 = .ok (.iconst 0, 1) := by decide +kernel
theorem dX7_isOrder_67 : decode mX7_isOrder.2.1 67 = .ok (.istore 6, 2) := by decide +kernel
theorem dX7_isOrder_69 : decode mX7_isOrder.2.1 69 = .ok (.iload 5, 2) := by decide +kernel
theorem dX7_isOrder_71 : decode mX7_isOrder.2.1 71 = .ok (.iconst 1, 1) := by decide +kernel
theorem dX7_isOrder_72 : decode mX7_isOrder.2.1 72 = .ok (.aload_n 0, 1) := by decide +kernel
theorem dX7_isOrder_73 : decode mX7_isOrder.2.1 73 = .ok (.getfield 63, 3) := by decide +kernel
theorem dX7_isOrder_76 : decode mX7_isOrder.2.1 76 = .ok (.iload 7, 2) := by decide +kernel
theorem dX7_isOrder_78 : decode mX7_isOrder.2.1 78 = .ok (.iaload, 1) := by decide +kernel
theorem dX7_isOrder_79 : decode mX7_isOrder.2.1 79 = .ok (.ishl, 1) := by decide +kernel
theorem dX7_isOrder_80 : decode mX7_isOrder.2.1 80 = .ok (.ior, 1) := by decide +kernel
theorem dX7_isOrder_81 : decode mX7_isOrder.2.1 81 = .ok (.istore 5, 2) := by decide +kernel
theorem dX7_isOrder_83 : decode mX7_isOrder.2.1 83 = .ok (.iinc 7 (-1), 3) := by decide +kernel
theorem dX7_isOrder_86 : decode mX7_isOrder.2.1 86 = .ok (.goto (-72), 3) := by decide +kernel
theorem dX7_isOrder_89 : decode mX7_isOrder.2.1 89 = .ok (.iload 6, 2) := by decide +kernel
theorem dX7_isOrder_91 : decode mX7_isOrder.2.1 91 = .ok (.ireturn, 1) := by decide +kernel
theorem dX7_sixes_0 : decode mX7_sixes.2.1 0 = .ok (.iconst 1, 1) := by decide +kernel
theorem dX7_sixes_1 : decode mX7_sixes.2.1 1 = .ok (.istore_n 1, 1) := by decide +kernel
theorem dX7_sixes_2 : decode mX7_sixes.2.1 2 = .ok (.iconst 0, 1) := by decide +kernel
theorem dX7_sixes_3 : decode mX7_sixes.2.1 3 = .ok (.istore_n 2, 1) := by decide +kernel
theorem dX7_sixes_4 : decode mX7_sixes.2.1 4 = .ok (.iload_n 2, 1) := by decide +kernel
theorem dX7_sixes_5 : decode mX7_sixes.2.1 5 = .ok (.iload_n 0, 1) := by decide +kernel
theorem dX7_sixes_6 : decode mX7_sixes.2.1 6 = .ok (.if_icmp .ge 14, 3) := by decide +kernel
theorem dX7_sixes_9 : decode mX7_sixes.2.1 9 = .ok (.iload_n 1, 1) := by decide +kernel
theorem dX7_sixes_10 : decode mX7_sixes.2.1 10 = .ok (.bipush 6, 2) := by decide +kernel
theorem dX7_sixes_12 : decode mX7_sixes.2.1 12 = .ok (.imul, 1) := by decide +kernel
theorem dX7_sixes_13 : decode mX7_sixes.2.1 13 = .ok (.istore_n 1, 1) := by decide +kernel
theorem dX7_sixes_14 : decode mX7_sixes.2.1 14 = .ok (.iinc 2 1, 3) := by decide +kernel
theorem dX7_sixes_17 : decode mX7_sixes.2.1 17 = .ok (.goto (-13), 3) := by decide +kernel
theorem dX7_sixes_20 : decode mX7_sixes.2.1 20 = .ok (.iload_n 1, 1) := by decide +kernel
theorem dX7_sixes_21 : decode mX7_sixes.2.1 21 = .ok (.ireturn, 1) := by decide +kernel
theorem dX7_differsBy_0 : decode mX7_differsBy.2.1 0 = .ok (.aload_n 0, 1) := by decide +kernel
theorem dX7_differsBy_1 : decode mX7_differsBy.2.1 1 = .ok (.invokevirtual 176, 3) := by decide +kernel
theorem dX7_differsBy_4 : decode mX7_differsBy.2.1 4 = .ok (.iconst 0, 1) := by decide +kernel
theorem dX7_differsBy_5 : decode mX7_differsBy.2.1 5 = .ok (.istore_n 2, 1) := by decide +kernel
theorem dX7_differsBy_6 : decode mX7_differsBy.2.1 6 = .ok (.iconst 0, 1) := by decide +kernel
theorem dX7_differsBy_7 : decode mX7_differsBy.2.1 7 = .ok (.istore_n 3, 1) := by decide +kernel
theorem dX7_differsBy_8 : decode mX7_differsBy.2.1 8 = .ok (.iload_n 3, 1) := by decide +kernel
theorem dX7_differsBy_9 : decode mX7_differsBy.2.1 9 = .ok (.iload_n 1, 1) := by decide +kernel
theorem dX7_differsBy_10 : decode mX7_differsBy.2.1 10 = .ok (.if_icmp .ge 40, 3) := by decide +kernel
theorem dX7_differsBy_13 : decode mX7_differsBy.2.1 13 = .ok (.aload_n 0, 1) := by decide +kernel
theorem dX7_differsBy_14 : decode mX7_differsBy.2.1 14 = .ok (.aload_n 0, 1) := by decide +kernel
theorem dX7_differsBy_15 : decode mX7_differsBy.2.1 15 = .ok (.getfield 63, 3) := by decide +kernel
theorem dX7_differsBy_18 : decode mX7_differsBy.2.1 18 = .ok (.iload_n 3, 1) := by decide +kernel
theorem dX7_differsBy_19 : decode mX7_differsBy.2.1 19 = .ok (.iaload, 1) := by decide +kernel
theorem dX7_differsBy_20 : decode mX7_differsBy.2.1 20 = .ok (.invokevirtual 170, 3) := by decide +kernel
theorem dX7_differsBy_23 : decode mX7_differsBy.2.1 23 = .ok (.istore 4, 2) := by decide +kernel
theorem dX7_differsBy_25 : decode mX7_differsBy.2.1 25 = .ok (.iload_n 2, 1) := by decide +kernel
theorem dX7_differsBy_26 : decode mX7_differsBy.2.1 26 = .ok (.aload_n 0, 1) := by decide +kernel
theorem dX7_differsBy_27 : decode mX7_differsBy.2.1 27 = .ok (.aload_n 0, 1) := by decide +kernel
theorem dX7_differsBy_28 : decode mX7_differsBy.2.1 28 = .ok (.getfield 63, 3) := by decide +kernel
theorem dX7_differsBy_31 : decode mX7_differsBy.2.1 31 = .ok (.iload_n 3, 1) := by decide +kernel
theorem dX7_differsBy_32 : decode mX7_differsBy.2.1 32 = .ok (.iaload, 1) := by decide +kernel
theorem dX7_differsBy_33 : decode mX7_differsBy.2.1 33 = .ok (.invokevirtual 179, 3) := by decide +kernel
theorem dX7_differsBy_36 : decode mX7_differsBy.2.1 36 = .ok (.iload 4, 2) := by decide +kernel
theorem dX7_differsBy_38 : decode mX7_differsBy.2.1 38 = .ok (.isub, 1) := by decide +kernel
theorem dX7_differsBy_39 : decode mX7_differsBy.2.1 39 = .ok (.invokestatic 205, 3) := by decide +kernel
theorem dX7_differsBy_42 : decode mX7_differsBy.2.1 42 = .ok (.iadd, 1) := by decide +kernel
theorem dX7_differsBy_43 : decode mX7_differsBy.2.1 43 = .ok (.istore_n 2, 1) := by decide +kernel
theorem dX7_differsBy_44 : decode mX7_differsBy.2.1 44 = .ok (.iinc 3 1, 3) := by decide +kernel
theorem dX7_differsBy_47 : decode mX7_differsBy.2.1 47 = .ok (.goto (-39), 3) := by decide +kernel
theorem dX7_differsBy_50 : decode mX7_differsBy.2.1 50 = .ok (.iload_n 2, 1) := by decide +kernel
theorem dX7_differsBy_51 : decode mX7_differsBy.2.1 51 = .ok (.ireturn, 1) := by decide +kernel
theorem dX7_order_0 : decode mX7_order.2.1 0 = .ok (.iload_n 1, 1) := by decide +kernel
theorem dX7_order_1 : decode mX7_order.2.1 1 = .ok (.iconst (-1), 1) := by decide +kernel
theorem dX7_order_2 : decode mX7_order.2.1 2 = .ok (.iconst 5, 1) := by decide +kernel
theorem dX7_order_3 : decode mX7_order.2.1 3 = .ok (.invokestatic 72, 3) := by decide +kernel
theorem dX7_order_6 : decode mX7_order.2.1 6 = .ok (.ifCond .ne 5, 3) := by decide +kernel
theorem dX7_order_9 : decode mX7_order.2.1 9 = .ok (.iconst (-1), 1) := by decide +kernel
theorem dX7_order_10 : decode mX7_order.2.1 10 = .ok (.ireturn, 1) := by decide +kernel
theorem dX7_order_11 : decode mX7_order.2.1 11 = .ok (.iconst 1, 1) := by decide +kernel
theorem dX7_order_12 : decode mX7_order.2.1 12 = .ok (.aload_n 0, 1) := by decide +kernel
theorem dX7_order_13 : decode mX7_order.2.1 13 = .ok (.getfield 76, 3) := by decide +kernel
theorem dX7_order_16 : decode mX7_order.2.1 16 = .ok (.ishl, 1) := by decide +kernel
theorem dX7_order_17 : decode mX7_order.2.1 17 = .ok (.iconst 1, 1) := by decide +kernel
theorem dX7_order_18 : decode mX7_order.2.1 18 = .ok (.isub, 1) := by decide +kernel
theorem dX7_order_19 : decode mX7_order.2.1 19 = .ok (.aload_n 0, 1) := by decide +kernel
theorem dX7_order_20 : decode mX7_order.2.1 20 = .ok (.invokevirtual 195, 3) := by decide +kernel
theorem dX7_order_23 : decode mX7_order.2.1 23 = .ok (.iconst (-1), 1) := by decide +kernel
theorem dX7_order_24 : decode mX7_order.2.1 24 = .ok (.ixor, 1) := by decide +kernel
theorem dX7_order_25 : decode mX7_order.2.1 25 = .ok (.iand, 1) := by decide +kernel
theorem dX7_order_26 : decode mX7_order.2.1 26 = .ok (.istore_n 2, 1) := by decide +kernel
theorem dX7_order_27 : decode mX7_order.2.1 27 = .ok (.iload_n 2, 1) := by decide +kernel
theorem dX7_order_28 : decode mX7_order.2.1 28 = .ok (.invokestatic 202, 3) := by decide +kernel
theorem dX7_order_31 : decode mX7_order.2.1 31 = .ok (.istore_n 3, 1) := by decide +kernel
theorem dX7_order_32 : decode mX7_order.2.1 32 = .ok (.iconst (-1), 1) := by decide +kernel
theorem dX7_order_33 : decode mX7_order.2.1 33 = .ok (.istore 4, 2) := by decide +kernel
theorem dX7_order_35 : decode mX7_order.2.1 35 = .ok (.iconst 0, 1) := by decide +kernel
theorem dX7_order_36 : decode mX7_order.2.1 36 = .ok (.istore 5, 2) := by decide +kernel
theorem dX7_order_38 : decode mX7_order.2.1 38 = .ok (.iload 5, 2) := by decide +kernel
theorem dX7_order_40 : decode mX7_order.2.1 40 = .ok (.iload_n 3, 1) := by decide +kernel
theorem dX7_order_41 : decode mX7_order.2.1 41 = .ok (.invokestatic 208, 3) := by decide +kernel
theorem dX7_order_44 : decode mX7_order.2.1 44 = .ok (.if_icmp .ge 73, 3) := by decide +kernel
theorem dX7_order_47 : decode mX7_order.2.1 47 = .ok (.aload_n 0, 1) := by decide +kernel
theorem dX7_order_48 : decode mX7_order.2.1 48 = .ok (.iload 5, 2) := by decide +kernel
theorem dX7_order_50 : decode mX7_order.2.1 50 = .ok (.iload_n 3, 1) := by decide +kernel
theorem dX7_order_51 : decode mX7_order.2.1 51 = .ok (.iload_n 2, 1) := by decide +kernel
theorem dX7_order_52 : decode mX7_order.2.1 52 = .ok (.invokevirtual 211, 3) := by decide +kernel
theorem dX7_order_55 : decode mX7_order.2.1 55 = .ok (.ifCond .eq 56, 3) := by decide +kernel
theorem dX7_order_58 : decode mX7_order.2.1 58 = .ok (.aload_n 0, 1) := by decide +kernel
theorem dX7_order_59 : decode mX7_order.2.1 59 = .ok (.iload_n 3, 1) := by decide +kernel
theorem dX7_order_60 : decode mX7_order.2.1 60 = .ok (.invokevirtual 214, 3) := by decide +kernel
theorem dX7_order_63 : decode mX7_order.2.1 63 = .ok (.istore 6, 2) := by decide +kernel
theorem dX7_order_65 : decode mX7_order.2.1 65 = .ok (.iload 4, 2) := by decide +kernel
theorem dX7_order_67 : decode mX7_order.2.1 67 = .ok (.ifCond .lt 10, 3) := by decide +kernel
theorem dX7_order_70 : decode mX7_order.2.1 70 = .ok (.iload 6, 2) := by decide +kernel
theorem dX7_order_72 : decode mX7_order.2.1 72 = .ok (.iload 4, 2) := by decide +kernel
theorem dX7_order_74 : decode mX7_order.2.1 74 = .ok (.if_icmp .ge 37, 3) := by decide +kernel
theorem dX7_order_77 : decode mX7_order.2.1 77 = .ok (.iload 6, 2) := by decide +kernel
theorem dX7_order_79 : decode mX7_order.2.1 79 = .ok (.istore 4, 2) := by decide +kernel
theorem dX7_order_81 : decode mX7_order.2.1 81 = .ok (.iconst 0, 1) := by decide +kernel
theorem dX7_order_82 : decode mX7_order.2.1 82 = .ok (.istore 7, 2) := by decide +kernel
theorem dX7_order_84 : decode mX7_order.2.1 84 = .ok (.iload 7, 2) := by decide +kernel
theorem dX7_order_86 : decode mX7_order.2.1 86 = .ok (.bipush 6, 2) := by decide +kernel
theorem dX7_order_88 : decode mX7_order.2.1 88 = .ok (.if_icmp .ge 23, 3) := by decide +kernel
theorem dX7_order_91 : decode mX7_order.2.1 91 = .ok (.aload_n 0, 1) := by decide +kernel
theorem dX7_order_92 : decode mX7_order.2.1 92 = .ok (.getfield 66, 3) := by decide +kernel
theorem dX7_order_95 : decode mX7_order.2.1 95 = .ok (.iload 7, 2) := by decide +kernel
theorem dX7_order_97 : decode mX7_order.2.1 97 = .ok (.aload_n 0, 1) := by decide +kernel
theorem dX7_order_98 : decode mX7_order.2.1 98 = .ok (.getfield 63, 3) := by decide +kernel
theorem dX7_order_101 : decode mX7_order.2.1 101 = .ok (.iload 7, 2) := by decide +kernel
theorem dX7_order_103 : decode mX7_order.2.1 103 = .ok (.iaload, 1) := by decide +kernel
theorem dX7_order_104 : decode mX7_order.2.1 104 = .ok (.iastore, 1) := by decide +kernel
theorem dX7_order_105 : decode mX7_order.2.1 105 = .ok (.iinc 7 1, 3) := by decide +kernel
theorem dX7_order_108 : decode mX7_order.2.1 108 = .ok (.goto (-24), 3) := by decide +kernel
theorem dX7_order_111 : decode mX7_order.2.1 111 = .ok (.iinc 5 1, 3) := by decide +kernel
theorem dX7_order_114 : decode mX7_order.2.1 114 = .ok (.goto (-76), 3) := by decide +kernel
theorem dX7_order_117 : decode mX7_order.2.1 117 = .ok (.iload_n 1, 1) := by decide +kernel
theorem dX7_order_118 : decode mX7_order.2.1 118 = .ok (.ifCond .ge 8, 3) := by decide +kernel
theorem dX7_order_121 : decode mX7_order.2.1 121 = .ok (.iload 4, 2) := by decide +kernel
theorem dX7_order_123 : decode mX7_order.2.1 123 = .ok (.goto 19, 3) := by decide +kernel
theorem dX7_order_126 : decode mX7_order.2.1 126 = .ok (.iload_n 1, 1) := by decide +kernel
theorem dX7_order_127 : decode mX7_order.2.1 127 = .ok (.iload_n 3, 1) := by decide +kernel
theorem dX7_order_128 : decode mX7_order.2.1 128 = .ok (.if_icmp .ge 12, 3) := by decide +kernel
theorem dX7_order_131 : decode mX7_order.2.1 131 = .ok (.aload_n 0, 1) := by decide +kernel
theorem dX7_order_132 : decode mX7_order.2.1 132 = .ok (.getfield 66, 3) := by decide +kernel
theorem dX7_order_135 : decode mX7_order.2.1 135 = .ok (.iload_n 1, 1) := by decide +kernel
theorem dX7_order_136 : decode mX7_order.2.1 136 = .ok (.iaload, 1) := by decide +kernel
theorem dX7_order_137 : decode mX7_order.2.1 137 = .ok (.goto 5, 3) := by decide +kernel
theorem dX7_order_140 : decode mX7_order.2.1 140 = .ok (.bipush (-9), 2) := by decide +kernel
theorem dX7_order_142 : decode mX7_order.2.1 142 = .ok (.ireturn, 1) := by decide +kernel
theorem dX7_tells_0 : decode mX7_tells.2.1 0 = .ok (.iload_n 1, 1) := by decide +kernel
theorem dX7_tells_1 : decode mX7_tells.2.1 1 = .ok (.iconst 1, 1) := by decide +kernel
theorem dX7_tells_2 : decode mX7_tells.2.1 2 = .ok (.bipush 40, 2) := by decide +kernel
theorem dX7_tells_4 : decode mX7_tells.2.1 4 = .ok (.invokestatic 72, 3) := by decide +kernel
theorem dX7_tells_7 : decode mX7_tells.2.1 7 = .ok (.ifCond .eq 13, 3) := by decide +kernel
theorem dX7_tells_10 : decode mX7_tells.2.1 10 = .ok (.iload_n 2, 1) := by decide +kernel
theorem dX7_tells_11 : decode mX7_tells.2.1 11 = .ok (.iconst 0, 1) := by decide +kernel
theorem dX7_tells_12 : decode mX7_tells.2.1 12 = .ok (.bipush 99, 2) := by decide +kernel
theorem dX7_tells_14 : decode mX7_tells.2.1 14 = .ok (.invokestatic 72, 3) := by decide +kernel
theorem dX7_tells_17 : decode mX7_tells.2.1 17 = .ok (.ifCond .ne 5, 3) := by decide +kernel
theorem dX7_tells_20 : decode mX7_tells.2.1 20 = .ok (.iconst (-1), 1) := by decide +kernel
theorem dX7_tells_21 : decode mX7_tells.2.1 21 = .ok (.ireturn, 1) := by decide +kernel
theorem dX7_tells_22 : decode mX7_tells.2.1 22 = .ok (.aload_n 0, 1) := by decide +kernel
theorem dX7_tells_23 : decode mX7_tells.2.1 23 = .ok (.getfield 157, 3) := by decide +kernel
theorem dX7_tells_26 : decode mX7_tells.2.1 26 = .ok (.bipush 6, 2) := by decide +kernel
theorem dX7_tells_28 : decode mX7_tells.2.1 28 = .ok (.if_icmp .ne 6, 3) := by decide +kernel
theorem dX7_tells_31 : decode mX7_tells.2.1 31 = .ok (.bipush (-3), 2) := by decide +kernel
theorem dX7_tells_33 : decode mX7_tells.2.1 33 = .ok (.ireturn, 1) := by decide +kernel
theorem dX7_tells_34 : decode mX7_tells.2.1 34 = .ok (.aload_n 0, 1) := by decide +kernel
theorem dX7_tells_35 : decode mX7_tells.2.1 35 = .ok (.getfield 39, 3) := by decide +kernel
theorem dX7_tells_38 : decode mX7_tells.2.1 38 = .ok (.iconst 2, 1) := by decide +kernel
theorem dX7_tells_39 : decode mX7_tells.2.1 39 = .ok (.aload_n 0, 1) := by decide +kernel
theorem dX7_tells_40 : decode mX7_tells.2.1 40 = .ok (.getfield 157, 3) := by decide +kernel
theorem dX7_tells_43 : decode mX7_tells.2.1 43 = .ok (.imul, 1) := by decide +kernel
theorem dX7_tells_44 : decode mX7_tells.2.1 44 = .ok (.iload_n 1, 1) := by decide +kernel
theorem dX7_tells_45 : decode mX7_tells.2.1 45 = .ok (.iastore, 1) := by decide +kernel
theorem dX7_tells_46 : decode mX7_tells.2.1 46 = .ok (.aload_n 0, 1) := by decide +kernel
theorem dX7_tells_47 : decode mX7_tells.2.1 47 = .ok (.getfield 39, 3) := by decide +kernel
theorem dX7_tells_50 : decode mX7_tells.2.1 50 = .ok (.iconst 2, 1) := by decide +kernel
theorem dX7_tells_51 : decode mX7_tells.2.1 51 = .ok (.aload_n 0, 1) := by decide +kernel
theorem dX7_tells_52 : decode mX7_tells.2.1 52 = .ok (.getfield 157, 3) := by decide +kernel
theorem dX7_tells_55 : decode mX7_tells.2.1 55 = .ok (.imul, 1) := by decide +kernel
theorem dX7_tells_56 : decode mX7_tells.2.1 56 = .ok (.iconst 1, 1) := by decide +kernel
theorem dX7_tells_57 : decode mX7_tells.2.1 57 = .ok (.iadd, 1) := by decide +kernel
theorem dX7_tells_58 : decode mX7_tells.2.1 58 = .ok (.iload_n 2, 1) := by decide +kernel
theorem dX7_tells_59 : decode mX7_tells.2.1 59 = .ok (.iastore, 1) := by decide +kernel
theorem dX7_tells_60 : decode mX7_tells.2.1 60 = .ok (.aload_n 0, 1) := by decide +kernel
theorem dX7_tells_61 : decode mX7_tells.2.1 61 = .ok (.dup, 1) := by decide +kernel
theorem dX7_tells_62 : decode mX7_tells.2.1 62 = .ok (.getfield 157, 3) := by decide +kernel
theorem dX7_tells_65 : decode mX7_tells.2.1 65 = .ok (.iconst 1, 1) := by decide +kernel
theorem dX7_tells_66 : decode mX7_tells.2.1 66 = .ok (.iadd, 1) := by decide +kernel
theorem dX7_tells_67 : decode mX7_tells.2.1 67 = .ok (.putfield 157, 3) := by decide +kernel
theorem dX7_tells_70 : decode mX7_tells.2.1 70 = .ok (.aload_n 0, 1) := by decide +kernel
theorem dX7_tells_71 : decode mX7_tells.2.1 71 = .ok (.getfield 157, 3) := by decide +kernel
theorem dX7_tells_74 : decode mX7_tells.2.1 74 = .ok (.ireturn, 1) := by decide +kernel
theorem dX7_forget_0 : decode mX7_forget.2.1 0 = .ok (.aload_n 0, 1) := by decide +kernel
theorem dX7_forget_1 : decode mX7_forget.2.1 1 = .ok (.getfield 157, 3) := by decide +kernel
theorem dX7_forget_4 : decode mX7_forget.2.1 4 = .ok (.istore_n 1, 1) := by decide +kernel
theorem dX7_forget_5 : decode mX7_forget.2.1 5 = .ok (.aload_n 0, 1) := by decide +kernel
theorem dX7_forget_6 : decode mX7_forget.2.1 6 = .ok (.iconst 0, 1) := by decide +kernel
theorem dX7_forget_7 : decode mX7_forget.2.1 7 = .ok (.putfield 157, 3) := by decide +kernel
theorem dX7_forget_10 : decode mX7_forget.2.1 10 = .ok (.iload_n 1, 1) := by decide +kernel
theorem dX7_forget_11 : decode mX7_forget.2.1 11 = .ok (.ireturn, 1) := by decide +kernel
theorem dX7_isSo_0 : decode mX7_isSo.2.1 0 = .ok (.iconst 1, 1) := by decide +kernel
theorem dX7_isSo_1 : decode mX7_isSo.2.1 1 = .ok (.istore_n 2, 1) := by decide +kernel
theorem dX7_isSo_2 : decode mX7_isSo.2.1 2 = .ok (.iconst 0, 1) := by decide +kernel
theorem dX7_isSo_3 : decode mX7_isSo.2.1 3 = .ok (.istore_n 3, 1) := by decide +kernel
theorem dX7_isSo_4 : decode mX7_isSo.2.1 4 = .ok (.iload_n 3, 1) := by decide +kernel
theorem dX7_isSo_5 : decode mX7_isSo.2.1 5 = .ok (.aload_n 0, 1) := by decide +kernel
theorem dX7_isSo_6 : decode mX7_isSo.2.1 6 = .ok (.getfield 157, 3) := by decide +kernel
theorem dX7_isSo_9 : decode mX7_isSo.2.1 9 = .ok (.if_icmp .ge 76, 3) := by decide +kernel
theorem dX7_isSo_12 : decode mX7_isSo.2.1 12 = .ok (.aload_n 0, 1) := by decide +kernel
theorem dX7_isSo_13 : decode mX7_isSo.2.1 13 = .ok (.getfield 39, 3) := by decide +kernel
theorem dX7_isSo_16 : decode mX7_isSo.2.1 16 = .ok (.iconst 2, 1) := by decide +kernel
theorem dX7_isSo_17 : decode mX7_isSo.2.1 17 = .ok (.iload_n 3, 1) := by decide +kernel
theorem dX7_isSo_18 : decode mX7_isSo.2.1 18 = .ok (.imul, 1) := by decide +kernel
theorem dX7_isSo_19 : decode mX7_isSo.2.1 19 = .ok (.iaload, 1) := by decide +kernel
theorem dX7_isSo_20 : decode mX7_isSo.2.1 20 = .ok (.aload_n 0, 1) := by decide +kernel
theorem dX7_isSo_21 : decode mX7_isSo.2.1 21 = .ok (.iload_n 1, 1) := by decide +kernel
theorem dX7_isSo_22 : decode mX7_isSo.2.1 22 = .ok (.invokevirtual 164, 3) := by decide +kernel
theorem dX7_isSo_25 : decode mX7_isSo.2.1 25 = .ok (.iadd, 1) := by decide +kernel
theorem dX7_isSo_26 : decode mX7_isSo.2.1 26 = .ok (.istore 4, 2) := by decide +kernel
theorem dX7_isSo_28 : decode mX7_isSo.2.1 28 = .ok (.aload_n 0, 1) := by decide +kernel
theorem dX7_isSo_29 : decode mX7_isSo.2.1 29 = .ok (.getfield 60, 3) := by decide +kernel
theorem dX7_isSo_32 : decode mX7_isSo.2.1 32 = .ok (.iconst 0, 1) := by decide +kernel
theorem dX7_isSo_33 : decode mX7_isSo.2.1 33 = .ok (.iconst 0, 1) := by decide +kernel
theorem dX7_isSo_34 : decode mX7_isSo.2.1 34 = .ok (.iastore, 1) := by decide +kernel
theorem dX7_isSo_35 : decode mX7_isSo.2.1 35 = .ok (.aload_n 0, 1) := by decide +kernel
theorem dX7_isSo_36 : decode mX7_isSo.2.1 36 = .ok (.iload 4, 2) := by decide +kernel
theorem dX7_isSo_38 : decode mX7_isSo.2.1 38 = .ok (.ifCond .ge 7, 3) := by decide +kernel
theorem dX7_isSo_41 : decode mX7_isSo.2.1 41 = .ok (.iconst 0, 1) := by decide +kernel
theorem dX7_isSo_42 : decode mX7_isSo.2.1 42 = .ok (.goto 5, 3) := by decide +kernel
theorem dX7_isSo_45 : decode mX7_isSo.2.1 45 = .ok (.iload 4, 2) := by decide +kernel
theorem dX7_isSo_47 : decode mX7_isSo.2.1 47 = .ok (.invokevirtual 173, 3) := by decide +kernel
theorem dX7_isSo_50 : decode mX7_isSo.2.1 50 = .ok (.iload_n 2, 1) := by decide +kernel
theorem dX7_isSo_51 : decode mX7_isSo.2.1 51 = .ok (.ifCond .eq 26, 3) := by decide +kernel
theorem dX7_isSo_54 : decode mX7_isSo.2.1 54 = .ok (.aload_n 0, 1) := by decide +kernel
theorem dX7_isSo_55 : decode mX7_isSo.2.1 55 = .ok (.getfield 60, 3) := by decide +kernel
theorem dX7_isSo_58 : decode mX7_isSo.2.1 58 = .ok (.iconst 0, 1) := by decide +kernel
theorem dX7_isSo_59 : decode mX7_isSo.2.1 59 = .ok (.iaload, 1) := by decide +kernel
theorem dX7_isSo_60 : decode mX7_isSo.2.1 60 = .ok (.aload_n 0, 1) := by decide +kernel
theorem dX7_isSo_61 : decode mX7_isSo.2.1 61 = .ok (.getfield 39, 3) := by decide +kernel
theorem dX7_isSo_64 : decode mX7_isSo.2.1 64 = .ok (.iconst 2, 1) := by decide +kernel
theorem dX7_isSo_65 : decode mX7_isSo.2.1 65 = .ok (.iload_n 3, 1) := by decide +kernel
theorem dX7_isSo_66 : decode mX7_isSo.2.1 66 = .ok (.imul, 1) := by decide +kernel
theorem dX7_isSo_67 : decode mX7_isSo.2.1 67 = .ok (.iconst 1, 1) := by decide +kernel
theorem dX7_isSo_68 : decode mX7_isSo.2.1 68 = .ok (.iadd, 1) := by decide +kernel
theorem dX7_isSo_69 : decode mX7_isSo.2.1 69 = .ok (.iaload, 1) := by decide +kernel
theorem dX7_isSo_70 : decode mX7_isSo.2.1 70 = .ok (.if_icmp .ne 7, 3) := by decide +kernel
theorem dX7_isSo_73 : decode mX7_isSo.2.1 73 = .ok (.iconst 1, 1) := by decide +kernel
theorem dX7_isSo_74 : decode mX7_isSo.2.1 74 = .ok (.goto 4, 3) := by decide +kernel
theorem dX7_isSo_77 : decode mX7_isSo.2.1 77 = .ok (.iconst 0, 1) := by decide +kernel
theorem dX7_isSo_78 : decode mX7_isSo.2.1 78 = .ok (.istore_n 2, 1) := by decide +kernel
theorem dX7_isSo_79 : decode mX7_isSo.2.1 79 = .ok (.iinc 3 1, 3) := by decide +kernel
theorem dX7_isSo_82 : decode mX7_isSo.2.1 82 = .ok (.goto (-78), 3) := by decide +kernel
theorem dX7_isSo_85 : decode mX7_isSo.2.1 85 = .ok (.iload_n 2, 1) := by decide +kernel
theorem dX7_isSo_86 : decode mX7_isSo.2.1 86 = .ok (.ireturn, 1) := by decide +kernel
theorem dX7_canBe_0 : decode mX7_canBe.2.1 0 = .ok (.aload_n 0, 1) := by decide +kernel
theorem dX7_canBe_1 : decode mX7_canBe.2.1 1 = .ok (.invokevirtual 176, 3) := by decide +kernel
theorem dX7_canBe_4 : decode mX7_canBe.2.1 4 = .ok (.iconst 0, 1) := by decide +kernel
theorem dX7_canBe_5 : decode mX7_canBe.2.1 5 = .ok (.istore_n 3, 1) := by decide +kernel
theorem dX7_canBe_6 : decode mX7_canBe.2.1 6 = .ok (.iconst 0, 1) := by decide +kernel
theorem dX7_canBe_7 : decode mX7_canBe.2.1 7 = .ok (.istore 4, 2) := by decide +kernel
theorem dX7_canBe_9 : decode mX7_canBe.2.1 9 = .ok (.iload 4, 2) := by decide +kernel
theorem dX7_canBe_11 : decode mX7_canBe.2.1 11 = .ok (.iconst 1, 1) := by decide +kernel
theorem dX7_canBe_12 : decode mX7_canBe.2.1 12 = .ok (.aload_n 0, 1) := by decide +kernel
theorem dX7_canBe_13 : decode mX7_canBe.2.1 13 = .ok (.getfield 69, 3) := by decide +kernel
theorem dX7_canBe_16 : decode mX7_canBe.2.1 16 = .ok (.ishl, 1) := by decide +kernel
theorem dX7_canBe_17 : decode mX7_canBe.2.1 17 = .ok (.if_icmp .ge 41, 3) := by decide +kernel
theorem dX7_canBe_20 : decode mX7_canBe.2.1 20 = .ok (.iload_n 3, 1) := by decide +kernel
theorem dX7_canBe_21 : decode mX7_canBe.2.1 21 = .ok (.iload 4, 2) := by decide +kernel
theorem dX7_canBe_23 : decode mX7_canBe.2.1 23 = .ok (.iload_n 1, 1) := by decide +kernel
theorem dX7_canBe_24 : decode mX7_canBe.2.1 24 = .ok (.iand, 1) := by decide +kernel
theorem dX7_canBe_25 : decode mX7_canBe.2.1 25 = .ok (.iload_n 1, 1) := by decide +kernel
theorem dX7_canBe_26 : decode mX7_canBe.2.1 26 = .ok (.if_icmp .ne 23, 3) := by decide +kernel
theorem dX7_canBe_29 : decode mX7_canBe.2.1 29 = .ok (.iload 4, 2) := by decide +kernel
theorem dX7_canBe_31 : decode mX7_canBe.2.1 31 = .ok (.iload_n 2, 1) := by decide +kernel
theorem dX7_canBe_32 : decode mX7_canBe.2.1 32 = .ok (.iand, 1) := by decide +kernel
theorem dX7_canBe_33 : decode mX7_canBe.2.1 33 = .ok (.ifCond .ne 16, 3) := by decide +kernel
theorem dX7_canBe_36 : decode mX7_canBe.2.1 36 = .ok (.aload_n 0, 1) := by decide +kernel
theorem dX7_canBe_37 : decode mX7_canBe.2.1 37 = .ok (.iload 4, 2) := by decide +kernel
theorem dX7_canBe_39 : decode mX7_canBe.2.1 39 = .ok (.invokevirtual 217, 3) := by decide +kernel
theorem dX7_canBe_42 : decode mX7_canBe.2.1 42 = .ok (.ifCond .eq 7, 3) := by decide +kernel
theorem dX7_canBe_45 : decode mX7_canBe.2.1 45 = .ok (.iconst 1, 1) := by decide +kernel
theorem dX7_canBe_46 : decode mX7_canBe.2.1 46 = .ok (.goto 4, 3) := by decide +kernel
theorem dX7_canBe_49 : decode mX7_canBe.2.1 49 = .ok (.iconst 0, 1) := by decide +kernel
theorem dX7_canBe_50 : decode mX7_canBe.2.1 50 = .ok (.iadd, 1) := by decide +kernel
theorem dX7_canBe_51 : decode mX7_canBe.2.1 51 = .ok (.istore_n 3, 1) := by decide +kernel
theorem dX7_canBe_52 : decode mX7_canBe.2.1 52 = .ok (.iinc 4 1, 3) := by decide +kernel
theorem dX7_canBe_55 : decode mX7_canBe.2.1 55 = .ok (.goto (-46), 3) := by decide +kernel
theorem dX7_canBe_58 : decode mX7_canBe.2.1 58 = .ok (.iload_n 3, 1) := by decide +kernel
theorem dX7_canBe_59 : decode mX7_canBe.2.1 59 = .ok (.ireturn, 1) := by decide +kernel
theorem dX7_can_0 : decode mX7_can.2.1 0 = .ok (.iload_n 1, 1) := by decide +kernel
theorem dX7_can_1 : decode mX7_can.2.1 1 = .ok (.iconst 0, 1) := by decide +kernel
theorem dX7_can_2 : decode mX7_can.2.1 2 = .ok (.iconst 2, 1) := by decide +kernel

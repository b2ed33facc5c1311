theorem dX7_dead_163 : decode cX7_dead 163 = .ok (.ireturn, 1) := by decide +kernel
theorem dX7_bearer_0 : decode cX7_bearer 0 = .ok (.iload_n 1, 1) := by decide +kernel
theorem dX7_bearer_1 : decode cX7_bearer 1 = .ok (.iconst 0, 1) := by decide +kernel
theorem dX7_bearer_2 : decode cX7_bearer 2 = .ok (.aload_n 0, 1) := by decide +kernel
theorem dX7_bearer_3 : decode cX7_bearer 3 = .ok (.getfield 151, 3) := by decide +kernel
theorem dX7_bearer_6 : decode cX7_bearer 6 = .ok (.iconst 1, 1) := by decide +kernel
theorem dX7_bearer_7 : decode cX7_bearer 7 = .ok (.isub, 1) := by decide +kernel
theorem dX7_bearer_8 : decode cX7_bearer 8 = .ok (.invokestatic 72, 3) := by decide +kernel
theorem dX7_bearer_11 : decode cX7_bearer 11 = .ok (.ifCond .eq 12, 3) := by decide +kernel
theorem dX7_bearer_14 : decode cX7_bearer 14 = .ok (.aload_n 0, 1) := by decide +kernel
theorem dX7_bearer_15 : decode cX7_bearer 15 = .ok (.getfield 16, 3) := by decide +kernel
theorem dX7_bearer_18 : decode cX7_bearer 18 = .ok (.iload_n 1, 1) := by decide +kernel
theorem dX7_bearer_19 : decode cX7_bearer 19 = .ok (.iaload, 1) := by decide +kernel
theorem dX7_bearer_20 : decode cX7_bearer 20 = .ok (.goto 4, 3) := by decide +kernel
theorem dX7_bearer_23 : decode cX7_bearer 23 = .ok (.iconst (-1), 1) := by decide +kernel
theorem dX7_bearer_24 : decode cX7_bearer 24 = .ok (.ireturn, 1) := by decide +kernel
theorem dX7_now_0 : decode cX7_now 0 = .ok (.iload_n 1, 1) := by decide +kernel
theorem dX7_now_1 : decode cX7_now 1 = .ok (.tableswitch 52 0 4 #[35, 35, 35, 42, 47], 35) := by decide +kernel
theorem dX7_now_36 : decode cX7_now 36 = .ok (.aload_n 0, 1) := by decide +kernel
theorem dX7_now_37 : decode cX7_now 37 = .ok (.getfield 26, 3) := by decide +kernel
theorem dX7_now_40 : decode cX7_now 40 = .ok (.iload_n 1, 1) := by decide +kernel
theorem dX7_now_41 : decode cX7_now 41 = .ok (.iaload, 1) := by decide +kernel
theorem dX7_now_42 : decode cX7_now 42 = .ok (.ireturn, 1) := by decide +kernel
theorem dX7_now_43 : decode cX7_now 43 = .ok (.aload_n 0, 1) := by decide +kernel
theorem dX7_now_44 : decode cX7_now 44 = .ok (.invokevirtual 195, 3) := by decide +kernel
theorem dX7_now_47 : decode cX7_now 47 = .ok (.ireturn, 1) := by decide +kernel
theorem dX7_now_48 : decode cX7_now 48 = .ok (.aload_n 0, 1) := by decide +kernel
theorem dX7_now_49 : decode cX7_now 49 = .ok (.getfield 154, 3) := by decide +kernel
theorem dX7_now_52 : decode cX7_now 52 = .ok (.ireturn, 1) := by decide +kernel
theorem dX7_now_53 : decode cX7_now 53 = .ok (.ldc 185, 2) := by decide +kernel
theorem dX7_now_55 : decode cX7_now 55 = .ok (.ireturn, 1) := by decide +kernel
theorem dX7_remembers_0 : decode cX7_remembers 0 = .ok (.aload_n 0, 1) := by decide +kernel
theorem dX7_remembers_1 : decode cX7_remembers 1 = .ok (.getfield 154, 3) := by decide +kernel
theorem dX7_remembers_4 : decode cX7_remembers 4 = .ok (.bipush 10, 2) := by decide +kernel
theorem dX7_remembers_6 : decode cX7_remembers 6 = .ok (.if_icmp .ne 43, 3) := by decide +kernel
theorem dX7_remembers_9 : decode cX7_remembers 9 = .ok (.iconst 0, 1) := by decide +kernel
theorem dX7_remembers_10 : decode cX7_remembers 10 = .ok (.istore_n 1, 1) := by decide +kernel
theorem dX7_remembers_11 : decode cX7_remembers 11 = .ok (.iload_n 1, 1) := by decide +kernel
theorem dX7_remembers_12 : decode cX7_remembers 12 = .ok (.sipush 189, 3) := by decide +kernel
theorem dX7_remembers_15 : decode cX7_remembers 15 = .ok (.if_icmp .ge 24, 3) := by decide +kernel
theorem dX7_remembers_18 : decode cX7_remembers 18 = .ok (.aload_n 0, 1) := by decide +kernel
theorem dX7_remembers_19 : decode cX7_remembers 19 = .ok (.getfield 29, 3) := by decide +kernel
theorem dX7_remembers_22 : decode cX7_remembers 22 = .ok (.iload_n 1, 1) := by decide +kernel
theorem dX7_remembers_23 : decode cX7_remembers 23 = .ok (.aload_n 0, 1) := by decide +kernel
theorem dX7_remembers_24 : decode cX7_remembers 24 = .ok (.getfield 29, 3) := by decide +kernel
theorem dX7_remembers_27 : decode cX7_remembers 27 = .ok (.iload_n 1, 1) := by decide +kernel
theorem dX7_remembers_28 : decode cX7_remembers 28 = .ok (.bipush 21, 2) := by decide +kernel
theorem dX7_remembers_30 : decode cX7_remembers 30 = .ok (.iadd, 1) := by decide +kernel
theorem dX7_remembers_31 : decode cX7_remembers 31 = .ok (.iaload, 1) := by decide +kernel
theorem dX7_remembers_32 : decode cX7_remembers 32 = .ok (.iastore, 1) := by decide +kernel
theorem dX7_remembers_33 : decode cX7_remembers 33 = .ok (.iinc 1 1, 3) := by decide +kernel
theorem dX7_remembers_36 : decode cX7_remembers 36 = .ok (.goto (-25), 3) := by decide +kernel
theorem dX7_remembers_39 : decode cX7_remembers 39 = .ok (.aload_n 0, 1) := by decide +kernel
theorem dX7_remembers_40 : decode cX7_remembers 40 = .ok (.dup, 1) := by decide +kernel
theorem dX7_remembers_41 : decode cX7_remembers 41 = .ok (.getfield 154, 3) := by decide +kernel
theorem dX7_remembers_44 : decode cX7_remembers 44 = .ok (.iconst 1, 1) := by decide +kernel
theorem dX7_remembers_45 : decode cX7_remembers 45 = .ok (.isub, 1) := by decide +kernel
theorem dX7_remembers_46 : decode cX7_remembers 46 = .ok (.putfield 154, 3) := by decide +kernel
theorem dX7_remembers_49 : decode cX7_remembers 49 = .ok (.aload_n 0, 1) := by decide +kernel
theorem dX7_remembers_50 : decode cX7_remembers 50 = .ok (.getfield 29, 3) := by decide +kernel
theorem dX7_remembers_53 : decode cX7_remembers 53 = .ok (.bipush 21, 2) := by decide +kernel
theorem dX7_remembers_55 : decode cX7_remembers 55 = .ok (.aload_n 0, 1) := by decide +kernel
theorem dX7_remembers_56 : decode cX7_remembers 56 = .ok (.getfield 154, 3) := by decide +kernel
theorem dX7_remembers_59 : decode cX7_remembers 59 = .ok (.imul, 1) := by decide +kernel
theorem dX7_remembers_60 : decode cX7_remembers 60 = .ok (.aload_n 0, 1) := by decide +kernel
theorem dX7_remembers_61 : decode cX7_remembers 61 = .ok (.getfield 26, 3) := by decide +kernel
theorem dX7_remembers_64 : decode cX7_remembers 64 = .ok (.iconst 0, 1) := by decide +kernel
theorem dX7_remembers_65 : decode cX7_remembers 65 = .ok (.invokestatic 160, 3) := by decide +kernel
theorem dX7_remembers_68 : decode cX7_remembers 68 = .ok (.aload_n 0, 1) := by decide +kernel
theorem dX7_remembers_69 : decode cX7_remembers 69 = .ok (.dup, 1) := by decide +kernel
theorem dX7_remembers_70 : decode cX7_remembers 70 = .ok (.getfield 154, 3) := by decide +kernel
theorem dX7_remembers_73 : decode cX7_remembers 73 = .ok (.iconst 1, 1) := by decide +kernel
theorem dX7_remembers_74 : decode cX7_remembers 74 = .ok (.iadd, 1) := by decide +kernel
theorem dX7_remembers_75 : decode cX7_remembers 75 = .ok (.putfield 154, 3) := by decide +kernel
theorem dX7_remembers_78 : decode cX7_remembers 78 = .ok (.return_, 1) := by decide +kernel
theorem dX7_lays_0 : decode cX7_lays 0 = .ok (.aload_n 0, 1) := by decide +kernel
theorem dX7_lays_1 : decode cX7_lays 1 = .ok (.iload_n 1, 1) := by decide +kernel
theorem dX7_lays_2 : decode cX7_lays 2 = .ok (.invokevirtual 189, 3) := by decide +kernel
theorem dX7_lays_5 : decode cX7_lays 5 = .ok (.ifCond .ne 5, 3) := by decide +kernel
theorem dX7_lays_8 : decode cX7_lays 8 = .ok (.iconst (-1), 1) := by decide +kernel
theorem dX7_lays_9 : decode cX7_lays 9 = .ok (.ireturn, 1) := by decide +kernel
theorem dX7_lays_10 : decode cX7_lays 10 = .ok (.aload_n 0, 1) := by decide +kernel
theorem dX7_lays_11 : decode cX7_lays 11 = .ok (.getfield 26, 3) := by decide +kernel
theorem dX7_lays_14 : decode cX7_lays 14 = .ok (.bipush 15, 2) := by decide +kernel
theorem dX7_lays_16 : decode cX7_lays 16 = .ok (.iload_n 1, 1) := by decide +kernel
theorem dX7_lays_17 : decode cX7_lays 17 = .ok (.iadd, 1) := by decide +kernel
theorem dX7_lays_18 : decode cX7_lays 18 = .ok (.iaload, 1) := by decide +kernel
theorem dX7_lays_19 : decode cX7_lays 19 = .ok (.bipush (-9), 2) := by decide +kernel
theorem dX7_lays_21 : decode cX7_lays 21 = .ok (.if_icmp .eq 6, 3) := by decide +kernel
theorem dX7_lays_24 : decode cX7_lays 24 = .ok (.bipush (-2), 2) := by decide +kernel
theorem dX7_lays_26 : decode cX7_lays 26 = .ok (.ireturn, 1) := by decide +kernel
theorem dX7_lays_27 : decode cX7_lays 27 = .ok (.aload_n 0, 1) := by decide +kernel
theorem dX7_lays_28 : decode cX7_lays 28 = .ok (.invokevirtual 199, 3) := by decide +kernel
theorem dX7_lays_31 : decode cX7_lays 31 = .ok (.aload_n 0, 1) := by decide +kernel
theorem dX7_lays_32 : decode cX7_lays 32 = .ok (.invokevirtual 176, 3) := by decide +kernel
theorem dX7_lays_35 : decode cX7_lays 35 = .ok (.aload_n 0, 1) := by decide +kernel
theorem dX7_lays_36 : decode cX7_lays 36 = .ok (.iload_n 1, 1) := by decide +kernel
theorem dX7_lays_37 : decode cX7_lays 37 = .ok (.invokevirtual 179, 3) := by decide +kernel
theorem dX7_lays_40 : decode cX7_lays 40 = .ok (.istore_n 2, 1) := by decide +kernel
theorem dX7_lays_41 : decode cX7_lays 41 = .ok (.aload_n 0, 1) := by decide +kernel
theorem dX7_lays_42 : decode cX7_lays 42 = .ok (.getfield 26, 3) := by decide +kernel
theorem dX7_lays_45 : decode cX7_lays 45 = .ok (.iconst 0, 1) := by decide +kernel
theorem dX7_lays_46 : decode cX7_lays 46 = .ok (.aload_n 0, 1) := by decide +kernel
theorem dX7_lays_47 : decode cX7_lays 47 = .ok (.getfield 60, 3) := by decide +kernel
theorem dX7_lays_50 : decode cX7_lays 50 = .ok (.iconst 0, 1) := by decide +kernel
theorem dX7_lays_51 : decode cX7_lays 51 = .ok (.invokestatic 160, 3) := by decide +kernel
theorem dX7_lays_54 : decode cX7_lays 54 = .ok (.iload_n 2, 1) := by decide +kernel
theorem dX7_lays_55 : decode cX7_lays 55 = .ok (.ireturn, 1) := by decide +kernel
theorem dX7_thumbs_0 : decode cX7_thumbs 0 = .ok (.iload_n 1, 1) := by decide +kernel
theorem dX7_thumbs_1 : decode cX7_thumbs 1 = .ok (.bipush (-9), 2) := by decide +kernel
theorem dX7_thumbs_3 : decode cX7_thumbs 3 = .ok (.bipush 9, 2) := by decide +kernel
theorem dX7_thumbs_5 : decode cX7_thumbs 5 = .ok (.invokestatic 72, 3) := by decide +kernel
theorem dX7_thumbs_8 : decode cX7_thumbs 8 = .ok (.ifCond .ne 6, 3) := by decide +kernel
theorem dX7_thumbs_11 : decode cX7_thumbs 11 = .ok (.ldc 185, 2) := by decide +kernel
theorem dX7_thumbs_13 : decode cX7_thumbs 13 = .ok (.ireturn, 1) := by decide +kernel
theorem dX7_thumbs_14 : decode cX7_thumbs 14 = .ok (.aload_n 0, 1) := by decide +kernel
theorem dX7_thumbs_15 : decode cX7_thumbs 15 = .ok (.invokevirtual 199, 3) := by decide +kernel
theorem dX7_thumbs_18 : decode cX7_thumbs 18 = .ok (.aload_n 0, 1) := by decide +kernel
theorem dX7_thumbs_19 : decode cX7_thumbs 19 = .ok (.getfield 26, 3) := by decide +kernel
theorem dX7_thumbs_22 : decode cX7_thumbs 22 = .ok (.iconst 1, 1) := by decide +kernel
theorem dX7_thumbs_23 : decode cX7_thumbs 23 = .ok (.iaload, 1) := by decide +kernel
theorem dX7_thumbs_24 : decode cX7_thumbs 24 = .ok (.istore_n 2, 1) := by decide +kernel
theorem dX7_thumbs_25 : decode cX7_thumbs 25 = .ok (.aload_n 0, 1) := by decide +kernel
theorem dX7_thumbs_26 : decode cX7_thumbs 26 = .ok (.getfield 26, 3) := by decide +kernel
theorem dX7_thumbs_29 : decode cX7_thumbs 29 = .ok (.iconst 1, 1) := by decide +kernel
theorem dX7_thumbs_30 : decode cX7_thumbs 30 = .ok (.iload_n 1, 1) := by decide +kernel
theorem dX7_thumbs_31 : decode cX7_thumbs 31 = .ok (.iastore, 1) := by decide +kernel
theorem dX7_thumbs_32 : decode cX7_thumbs 32 = .ok (.iload_n 2, 1) := by decide +kernel
theorem dX7_thumbs_33 : decode cX7_thumbs 33 = .ok (.ireturn, 1) := by decide +kernel
theorem dX7_adorns_0 : decode cX7_adorns 0 = .ok (.aload_n 0, 1) := by decide +kernel
theorem dX7_adorns_1 : decode cX7_adorns 1 = .ok (.iload_n 1, 1) := by decide +kernel
theorem dX7_adorns_2 : decode cX7_adorns 2 = .ok (.invokevirtual 189, 3) := by decide +kernel
theorem dX7_adorns_5 : decode cX7_adorns 5 = .ok (.ifCond .eq 13, 3) := by decide +kernel
theorem dX7_adorns_8 : decode cX7_adorns 8 = .ok (.iload_n 2, 1) := by decide +kernel
theorem dX7_adorns_9 : decode cX7_adorns 9 = .ok (.iconst 0, 1) := by decide +kernel
theorem dX7_adorns_10 : decode cX7_adorns 10 = .ok (.bipush 9, 2) := by decide +kernel
theorem dX7_adorns_12 : decode cX7_adorns 12 = .ok (.invokestatic 72, 3) := by decide +kernel
theorem dX7_adorns_15 : decode cX7_adorns 15 = .ok (.ifCond .ne 5, 3) := by decide +kernel
theorem dX7_adorns_18 : decode cX7_adorns 18 = .ok (.iconst (-1), 1) := by decide +kernel
theorem dX7_adorns_19 : decode cX7_adorns 19 = .ok (.ireturn, 1) := by decide +kernel
theorem dX7_adorns_20 : decode cX7_adorns 20 = .ok (.aload_n 0, 1) := by decide +kernel
theorem dX7_adorns_21 : decode cX7_adorns 21 = .ok (.invokevirtual 199, 3) := by decide +kernel
theorem dX7_adorns_24 : decode cX7_adorns 24 = .ok (.aload_n 0, 1) := by decide +kernel
theorem dX7_adorns_25 : decode cX7_adorns 25 = .ok (.getfield 26, 3) := by decide +kernel
theorem dX7_adorns_28 : decode cX7_adorns 28 = .ok (.iconst 3, 1) := by decide +kernel
theorem dX7_adorns_29 : decode cX7_adorns 29 = .ok (.iload_n 1, 1) := by decide +kernel
theorem dX7_adorns_30 : decode cX7_adorns 30 = .ok (.iadd, 1) := by decide +kernel
theorem dX7_adorns_31 : decode cX7_adorns 31 = .ok (.iaload, 1) := by decide +kernel
theorem dX7_adorns_32 : decode cX7_adorns 32 = .ok (.istore_n 3, 1) := by decide +kernel
theorem dX7_adorns_33 : decode cX7_adorns 33 = .ok (.aload_n 0, 1) := by decide +kernel
theorem dX7_adorns_34 : decode cX7_adorns 34 = .ok (.getfield 26, 3) := by decide +kernel
theorem dX7_adorns_37 : decode cX7_adorns 37 = .ok (.iconst 3, 1) := by decide +kernel
theorem dX7_adorns_38 : decode cX7_adorns 38 = .ok (.iload_n 1, 1) := by decide +kernel
theorem dX7_adorns_39 : decode cX7_adorns 39 = .ok (.iadd, 1) := by decide +kernel
theorem dX7_adorns_40 : decode cX7_adorns 40 = .ok (.iload_n 2, 1) := by decide +kernel
theorem dX7_adorns_41 : decode cX7_adorns 41 = .ok (.iastore, 1) := by decide +kernel
theorem dX7_adorns_42 : decode cX7_adorns 42 = .ok (.iload_n 3, 1) := by decide +kernel
theorem dX7_adorns_43 : decode cX7_adorns 43 = .ok (.ireturn, 1) := by decide +kernel
theorem dX7_sins_0 : decode cX7_sins 0 = .ok (.aload_n 0, 1) := by decide +kernel
theorem dX7_sins_1 : decode cX7_sins 1 = .ok (.iload_n 1, 1) := by decide +kernel
theorem dX7_sins_2 : decode cX7_sins 2 = .ok (.invokevirtual 189, 3) := by decide +kernel
theorem dX7_sins_5 : decode cX7_sins 5 = .ok (.ifCond .eq 11, 3) := by decide +kernel
theorem dX7_sins_8 : decode cX7_sins 8 = .ok (.aload_n 0, 1) := by decide +kernel
theorem dX7_sins_9 : decode cX7_sins 9 = .ok (.iload_n 2, 1) := by decide +kernel
theorem dX7_sins_10 : decode cX7_sins 10 = .ok (.invokevirtual 182, 3) := by decide +kernel
theorem dX7_sins_13 : decode cX7_sins 13 = .ok (.ifCond .ne 5, 3) := by decide +kernel
theorem dX7_sins_16 : decode cX7_sins 16 = .ok (.iconst (-1), 1) := by decide +kernel
theorem dX7_sins_17 : decode cX7_sins 17 = .ok (.ireturn, 1) := by decide +kernel
theorem dX7_sins_18 : decode cX7_sins 18 = .ok (.aload_n 0, 1) := by decide +kernel
theorem dX7_sins_19 : decode cX7_sins 19 = .ok (.getfield 26, 3) := by decide +kernel
theorem dX7_sins_22 : decode cX7_sins 22 = .ok (.bipush 15, 2) := by decide +kernel
theorem dX7_sins_24 : decode cX7_sins 24 = .ok (.iload_n 1, 1) := by decide +kernel
theorem dX7_sins_25 : decode cX7_sins 25 = .ok (.iadd, 1) := by decide +kernel
theorem dX7_sins_26 : decode cX7_sins 26 = .ok (.iaload, 1) := by decide +kernel
theorem dX7_sins_27 : decode cX7_sins 27 = .ok (.bipush (-9), 2) := by decide +kernel
theorem dX7_sins_29 : decode cX7_sins 29 = .ok (.if_icmp .ne 19, 3) := by decide +kernel
theorem dX7_sins_32 : decode cX7_sins 32 = .ok (.aload_n 0, 1) := by decide +kernel
theorem dX7_sins_33 : decode cX7_sins 33 = .ok (.getfield 26, 3) := by decide +kernel
theorem dX7_sins_36 : decode cX7_sins 36 = .ok (.bipush 9, 2) := by decide +kernel
theorem dX7_sins_38 : decode cX7_sins 38 = .ok (.iload_n 1, 1) := by decide +kernel
theorem dX7_sins_39 : decode cX7_sins 39 = .ok (.iadd, 1) := by decide +kernel
theorem dX7_sins_40 : decode cX7_sins 40 = .ok (.iaload, 1) := by decide +kernel
theorem dX7_sins_41 : decode cX7_sins 41 = .ok (.iload_n 2, 1) := by decide +kernel
theorem dX7_sins_42 : decode cX7_sins 42 = .ok (.invokestatic 119, 3) := by decide +kernel
theorem dX7_sins_45 : decode cX7_sins 45 = .ok (.ifCond .eq 6, 3) := by decide +kernel
theorem dX7_sins_48 : decode cX7_sins 48 = .ok (.bipush (-2), 2) := by decide +kernel
theorem dX7_sins_50 : decode cX7_sins 50 = .ok (.ireturn, 1) := by decide +kernel
theorem dX7_sins_51 : decode cX7_sins 51 = .ok (.aload_n 0, 1) := by decide +kernel
theorem dX7_sins_52 : decode cX7_sins 52 = .ok (.invokevirtual 199, 3) := by decide +kernel
theorem dX7_sins_55 : decode cX7_sins 55 = .ok (.aload_n 0, 1) := by decide +kernel
theorem dX7_sins_56 : decode cX7_sins 56 = .ok (.getfield 26, 3) := by decide +kernel
theorem dX7_sins_59 : decode cX7_sins 59 = .ok (.bipush 9, 2) := by decide +kernel
theorem dX7_sins_61 : decode cX7_sins 61 = .ok (.iload_n 1, 1) := by decide +kernel
theorem dX7_sins_62 : decode cX7_sins 62 = .ok (.iadd, 1) := by decide +kernel
theorem dX7_sins_63 : decode cX7_sins 63 = .ok (.dup2, 1) := by decide +kernel
theorem dX7_sins_64 : decode cX7_sins 64 = .ok (.iaload, 1) := by decide +kernel
theorem dX7_sins_65 : decode cX7_sins 65 = .ok (.iconst 1, 1) := by decide +kernel
theorem dX7_sins_66 : decode cX7_sins 66 = .ok (.iload_n 2, 1) := by decide +kernel
theorem dX7_sins_67 : decode cX7_sins 67 = .ok (.ishl, 1) := by decide +kernel
theorem dX7_sins_68 : decode cX7_sins 68 = .ok (.ior, 1) := by decide +kernel
theorem dX7_sins_69 : decode cX7_sins 69 = .ok (.iastore, 1) := by decide +kernel
theorem dX7_sins_70 : decode cX7_sins 70 = .ok (.aload_n 0, 1) := by decide +kernel
theorem dX7_sins_71 : decode cX7_sins 71 = .ok (.getfield 26, 3) := by decide +kernel
theorem dX7_sins_74 : decode cX7_sins 74 = .ok (.bipush 9, 2) := by decide +kernel
theorem dX7_sins_76 : decode cX7_sins 76 = .ok (.iload_n 1, 1) := by decide +kernel
theorem dX7_sins_77 : decode cX7_sins 77 = .ok (.iadd, 1) := by decide +kernel
theorem dX7_sins_78 : decode cX7_sins 78 = .ok (.iaload, 1) := by decide +kernel
theorem dX7_sins_79 : decode cX7_sins 79 = .ok (.invokestatic 202, 3) := by decide +kernel
theorem dX7_sins_82 : decode cX7_sins 82 = .ok (.ireturn, 1) := by decide +kernel
theorem dX7_oils_0 : decode cX7_oils 0 = .ok (.iload_n 1, 1) := by decide +kernel
theorem dX7_oils_1 : decode cX7_oils 1 = .ok (.iconst 0, 1) := by decide +kernel
theorem dX7_oils_2 : decode cX7_oils 2 = .ok (.bipush 9, 2) := by decide +kernel
theorem dX7_oils_4 : decode cX7_oils 4 = .ok (.invokestatic 72, 3) := by decide +kernel
theorem dX7_oils_7 : decode cX7_oils 7 = .ok (.ifCond .ne 5, 3) := by decide +kernel
theorem dX7_oils_10 : decode cX7_oils 10 = .ok (.iconst (-1), 1) := by decide +kernel
theorem dX7_oils_11 : decode cX7_oils 11 = .ok (.ireturn, 1) := by decide +kernel
theorem dX7_oils_12 : decode cX7_oils 12 = .ok (.aload_n 0, 1) := by decide +kernel
theorem dX7_oils_13 : decode cX7_oils 13 = .ok (.invokevirtual 199, 3) := by decide +kernel
theorem dX7_oils_16 : decode cX7_oils 16 = .ok (.aload_n 0, 1) := by decide +kernel
theorem dX7_oils_17 : decode cX7_oils 17 = .ok (.getfield 26, 3) := by decide +kernel
theorem dX7_oils_20 : decode cX7_oils 20 = .ok (.iconst 2, 1) := by decide +kernel
theorem dX7_oils_21 : decode cX7_oils 21 = .ok (.iaload, 1) := by decide +kernel
theorem dX7_oils_22 : decode cX7_oils 22 = .ok (.istore_n 2, 1) := by decide +kernel
theorem dX7_oils_23 : decode cX7_oils 23 = .ok (.aload_n 0, 1) := by decide +kernel
theorem dX7_oils_24 : decode cX7_oils 24 = .ok (.getfield 26, 3) := by decide +kernel
theorem dX7_oils_27 : decode cX7_oils 27 = .ok (.iconst 2, 1) := by decide +kernel
theorem dX7_oils_28 : decode cX7_oils 28 = .ok (.iload_n 1, 1) := by decide +kernel
theorem dX7_oils_29 : decode cX7_oils 29 = .ok (.iastore, 1) := by decide +kernel
theorem dX7_oils_30 : decode cX7_oils 30 = .ok (.iload_n 2, 1) := by decide +kernel
theorem dX7_oils_31 : decode cX7_oils 31 = .ok (.ireturn, 1) := by decide +kernel
theorem dX7_year_0 : decode cX7_year 0 = .ok (.aload_n 0, 1) := by decide +kernel
theorem dX7_year_1 : decode cX7_year 1 = .ok (.getfield 26, 3) := by decide +kernel
theorem dX7_year_4 : decode cX7_year 4 = .ok (.iconst 2, 1) := by decide +kernel
theorem dX7_year_5 : decode cX7_year 5 = .ok (.iaload, 1) := by decide +kernel
theorem dX7_year_6 : decode cX7_year 6 = .ok (.bipush 9, 2) := by decide +kernel
theorem dX7_year_8 : decode cX7_year 8 = .ok (.if_icmp .ne 6, 3) := by decide +kernel
theorem dX7_year_11 : decode cX7_year 11 = .ok (.bipush (-2), 2) := by decide +kernel
theorem dX7_year_13 : decode cX7_year 13 = .ok (.ireturn, 1) := by decide +kernel
theorem dX7_year_14 : decode cX7_year 14 = .ok (.aload_n 0, 1) := by decide +kernel
theorem dX7_year_15 : decode cX7_year 15 = .ok (.invokevirtual 199, 3) := by decide +kernel
theorem dX7_year_18 : decode cX7_year 18 = .ok (.aload_n 0, 1) := by decide +kernel
theorem dX7_year_19 : decode cX7_year 19 = .ok (.getfield 26, 3) := by decide +kernel
theorem dX7_year_22 : decode cX7_year 22 = .ok (.iconst 2, 1) := by decide +kernel
theorem dX7_year_23 : decode cX7_year 23 = .ok (.dup2, 1) := by decide +kernel
theorem dX7_year_24 : decode cX7_year 24 = .ok (.iaload, 1) := by decide +kernel
theorem dX7_year_25 : decode cX7_year 25 = .ok (.iconst 1, 1) := by decide +kernel
theorem dX7_year_26 : decode cX7_year 26 = .ok (.iadd, 1) := by decide +kernel
theorem dX7_year_27 : decode cX7_year 27 = .ok (.iastore, 1) := by decide +kernel
theorem dX7_year_28 : decode cX7_year 28 = .ok (.aload_n 0, 1) := by decide +kernel
theorem dX7_year_29 : decode cX7_year 29 = .ok (.getfield 26, 3) := by decide +kernel
theorem dX7_year_32 : decode cX7_year 32 = .ok (.iconst 2, 1) := by decide +kernel
theorem dX7_year_33 : decode cX7_year 33 = .ok (.iaload, 1) := by decide +kernel
theorem dX7_year_34 : decode cX7_year 34 = .ok (.ireturn, 1) := by decide +kernel
theorem dX7_undo_0 : decode cX7_undo 0 = .ok (.aload_n 0, 1) := by decide +kernel
theorem dX7_undo_1 : decode cX7_undo 1 = .ok (.getfield 154, 3) := by decide +kernel
theorem dX7_undo_4 : decode cX7_undo 4 = .ok (.ifCond .ne 6, 3) := by decide +kernel
theorem dX7_undo_7 : decode cX7_undo 7 = .ok (.bipush (-2), 2) := by decide +kernel
theorem dX7_undo_9 : decode cX7_undo 9 = .ok (.ireturn, 1) := by decide +kernel
theorem dX7_undo_10 : decode cX7_undo 10 = .ok (.aload_n 0, 1) := by decide +kernel
theorem dX7_undo_11 : decode cX7_undo 11 = .ok (.dup, 1) := by decide +kernel
theorem dX7_undo_12 : decode cX7_undo 12 = .ok (.getfield 154, 3) := by decide +kernel
theorem dX7_undo_15 : decode cX7_undo 15 = .ok (.iconst 1, 1) := by decide +kernel
theorem dX7_undo_16 : decode cX7_undo 16 = .ok (.isub, 1) := by decide +kernel
theorem dX7_undo_17 : decode cX7_undo 17 = .ok (.putfield 154, 3) := by decide +kernel
theorem dX7_undo_20 : decode cX7_undo 20 = .ok (.aload_n 0, 1) := by decide +kernel
theorem dX7_undo_21 : decode cX7_undo 21 = .ok (.getfield 26, 3) := by decide +kernel
theorem dX7_undo_24 : decode cX7_undo 24 = .ok (.iconst 0, 1) := by decide +kernel
theorem dX7_undo_25 : decode cX7_undo 25 = .ok (.aload_n 0, 1) := by decide +kernel
theorem dX7_undo_26 : decode cX7_undo 26 = .ok (.getfield 29, 3) := by decide +kernel
theorem dX7_undo_29 : decode cX7_undo 29 = .ok (.bipush 21, 2) := by decide +kernel
theorem dX7_undo_31 : decode cX7_undo 31 = .ok (.aload_n 0, 1) := by decide +kernel
theorem dX7_undo_32 : decode cX7_undo 32 = .ok (.getfield 154, 3) := by decide +kernel
theorem dX7_undo_35 : decode cX7_undo 35 = .ok (.imul, 1) := by decide +kernel
theorem dX7_undo_36 : decode cX7_undo 36 = .ok (.invokestatic 160, 3) := by decide +kernel
theorem dX7_undo_39 : decode cX7_undo 39 = .ok (.aload_n 0, 1) := by decide +kernel
theorem dX7_undo_40 : decode cX7_undo 40 = .ok (.getfield 154, 3) := by decide +kernel
theorem dX7_undo_43 : decode cX7_undo 43 = .ok (.ireturn, 1) := by decide +kernel
theorem dX7_isOrder_0 : decode cX7_isOrder 0 = .ok (.iload_n 1, 1) := by decide +kernel
theorem dX7_isOrder_1 : decode cX7_isOrder 1 = .ok (.istore 4, 2) := by decide +kernel
theorem dX7_isOrder_3 : decode cX7_isOrder 3 = .ok (.iconst 0, 1) := by decide +kernel
theorem dX7_isOrder_4 : decode cX7_isOrder 4 = .ok (.istore 5, 2) := by decide +kernel
theorem dX7_isOrder_6 : decode cX7_isOrder 6 = .ok (.iconst 1, 1) := by decide +kernel
theorem dX7_isOrder_7 : decode cX7_isOrder 7 = .ok (.istore 6, 2) := by decide +kernel
theorem dX7_isOrder_9 : decode cX7_isOrder 9 = .ok (.iload_n 2, 1) := by decide +kernel
theorem dX7_isOrder_10 : decode cX7_isOrder 10 = .ok (.iconst 1, 1) := by decide +kernel
theorem dX7_isOrder_11 : decode cX7_isOrder 11 = .ok (.isub, 1) := by decide +kernel
theorem dX7_isOrder_12 : decode cX7_isOrder 12 = .ok (.istore 7, 2) := by decide +kernel
theorem dX7_isOrder_14 : decode cX7_isOrder 14 = .ok (.iload 7, 2) := by decide +kernel
theorem dX7_isOrder_16 : decode cX7_isOrder 16 = .ok (.ifCond .lt 73, 3) := by decide +kernel
theorem dX7_isOrder_19 : decode cX7_isOrder 19 = .ok (.aload_n 0, 1) := by decide +kernel
theorem dX7_isOrder_20 : decode cX7_isOrder 20 = .ok (.getfield 63, 3) := by decide +kernel
theorem dX7_isOrder_23 : decode cX7_isOrder 23 = .ok (.iload 7, 2) := by decide +kernel
theorem dX7_isOrder_25 : decode cX7_isOrder 25 = .ok (.iload 4, 2) := by decide +kernel
theorem dX7_isOrder_27 : decode cX7_isOrder 27 = .ok (.bipush 6, 2) := by decide +kernel
theorem dX7_isOrder_29 : decode cX7_isOrder 29 = .ok (.irem, 1) := by decide +kernel
theorem dX7_isOrder_30 : decode cX7_isOrder 30 = .ok (.iastore, 1) := by decide +kernel
theorem dX7_isOrder_31 : decode cX7_isOrder 31 = .ok (.iload 4, 2) := by decide +kernel
theorem dX7_isOrder_33 : decode cX7_isOrder 33 = .ok (.bipush 6, 2) := by decide +kernel
theorem dX7_isOrder_35 : decode cX7_isOrder 35 = .ok (.idiv, 1) := by decide +kernel
theorem dX7_isOrder_36 : decode cX7_isOrder 36 = .ok (.istore 4, 2) := by decide +kernel
theorem dX7_isOrder_38 : decode cX7_isOrder 38 = .ok (.iload 6, 2) := by decide +kernel
theorem dX7_isOrder_40 : decode cX7_isOrder 40 = .ok (.ifCond .eq 26, 3) := by decide +kernel
theorem dX7_isOrder_43 : decode cX7_isOrder 43 = .ok (.iload_n 3, 1) := by decide +kernel
theorem dX7_isOrder_44 : decode cX7_isOrder 44 = .ok (.iload 5, 2) := by decide +kernel
theorem dX7_isOrder_46 : decode cX7_isOrder 46 = .ok (.iconst (-1), 1) := by decide +kernel
theorem dX7_isOrder_47 : decode cX7_isOrder 47 = .ok (.ixor, 1) := by decide +kernel
theorem dX7_isOrder_48 : decode cX7_isOrder 48 = .ok (.iand, 1) := by decide +kernel
theorem dX7_isOrder_49 : decode cX7_isOrder 49 = .ok (.aload_n 0, 1) := by decide +kernel
theorem dX7_isOrder_50 : decode cX7_isOrder 50 = .ok (.getfield 63, 3) := by decide +kernel
theorem dX7_isOrder_53 : decode cX7_isOrder 53 = .ok (.iload 7, 2) := by decide +kernel
theorem dX7_isOrder_55 : decode cX7_isOrder 55 = .ok (.iaload, 1) := by decide +kernel
theorem dX7_isOrder_56 : decode cX7_isOrder 56 = .ok (.invokestatic 119, 3) := by decide +kernel
theorem dX7_isOrder_59 : decode cX7_isOrder 59 = .ok (.ifCond .eq 7, 3) := by decide +kernel
theorem dX7_isOrder_62 : decode cX7_isOrder 62 = .ok (.iconst 1, 1) := by decide +kernel
theorem dX7_isOrder_63 : decode cX7_isOrder 63 = .ok (.goto 4, 3) := by decide +kernel
theorem dX7_isOrder_66 : decode cX7_isOrder 66 = .ok (.iconst 0, 1) := by decide +kernel
theorem dX7_isOrder_67 : decode cX7_isOrder 67 = .ok (.istore 6, 2) := by decide +kernel
theorem dX7_isOrder_69 : decode cX7_isOrder 69 = .ok (.iload 5, 2) := by decide +kernel
theorem dX7_isOrder_71 : decode cX7_isOrder 71 = .ok (.iconst 1, 1) := by decide +kernel
theorem dX7_isOrder_72 : decode cX7_isOrder 72 = .ok (.aload_n 0, 1) := by decide +kernel
theorem dX7_isOrder_73 : decode cX7_isOrder 73 = .ok (.getfield 63, 3) := by decide +kernel
theorem dX7_isOrder_76 : decode cX7_isOrder 76 = .ok (.iload 7, 2) := by decide +kernel
theorem dX7_isOrder_78 : decode cX7_isOrder 78 = .ok (.iaload, 1) := by decide +kernel
theorem dX7_isOrder_79 : decode cX7_isOrder 79 = .ok (.ishl, 1) := by decide +kernel
theorem dX7_isOrder_80 : decode cX7_isOrder 80 = .ok (.ior, 1) := by decide +kernel
theorem dX7_isOrder_81 : decode cX7_isOrder 81 = .ok (.istore 5, 2) := by decide +kernel
theorem dX7_isOrder_83 : decode cX7_isOrder 83 = .ok (.iinc 7 (-1), 3) := by decide +kernel
theorem dX7_isOrder_86 : decode cX7_isOrder 86 = .ok (.goto (-72), 3) := by decide +kernel
theorem dX7_isOrder_89 : decode cX7_isOrder 89 = .ok (.iload 6, 2) := by decide +kernel
theorem dX7_isOrder_91 : decode cX7_isOrder 91 = .ok (.ireturn, 1) := by decide +kernel
theorem dX7_sixes_0 : decode cX7_sixes 0 = .ok (.iconst 1, 1) := by decide +kernel
theorem dX7_sixes_1 : decode cX7_sixes 1 = .ok (.istore_n 1, 1) := by decide +kernel
theorem dX7_sixes_2 : decode cX7_sixes 2 = .ok (.iconst 0, 1) := by decide +kernel
theorem dX7_sixes_3 : decode cX7_sixes 3 = .ok (.istore_n 2, 1) := by decide +kernel
theorem dX7_sixes_4 : decode cX7_sixes 4 = .ok (.iload_n 2, 1) := by decide +kernel
theorem dX7_sixes_5 : decode cX7_sixes 5 = .ok (.iload_n 0, 1) := by decide +kernel
theorem dX7_sixes_6 : decode cX7_sixes 6 = .ok (.if_icmp .ge 14, 3) := by decide +kernel
theorem dX7_sixes_9 : decode cX7_sixes 9 = .ok (.iload_n 1, 1) := by decide +kernel
theorem dX7_sixes_10 : decode cX7_sixes 10 = .ok (.bipush 6, 2) := by decide +kernel
theorem dX7_sixes_12 : decode cX7_sixes 12 = .ok (.imul, 1) := by decide +kernel
theorem dX7_sixes_13 : decode cX7_sixes 13 = .ok (.istore_n 1, 1) := by decide +kernel
theorem dX7_sixes_14 : decode cX7_sixes 14 = .ok (.iinc 2 1, 3) := by decide +kernel
theorem dX7_sixes_17 : decode cX7_sixes 17 = .ok (.goto (-13), 3) := by decide +kernel
theorem dX7_sixes_20 : decode cX7_sixes 20 = .ok (.iload_n 1, 1) := by decide +kernel
theorem dX7_sixes_21 : decode cX7_sixes 21 = .ok (.ireturn, 1) := by decide +kernel
theorem dX7_differsBy_0 : decode cX7_differsBy 0 = .ok (.aload_n 0, 1) := by decide +kernel
theorem dX7_differsBy_1 : decode cX7_differsBy 1 = .ok (.invokevirtual 176, 3) := by decide +kernel
theorem dX7_differsBy_4 : decode cX7_differsBy 4 = .ok (.iconst 0, 1) := by decide +kernel
theorem dX7_differsBy_5 : decode cX7_differsBy 5 = .ok (.istore_n 2, 1) := by decide +kernel
theorem dX7_differsBy_6 : decode cX7_differsBy 6 = .ok (.iconst 0, 1) := by decide +kernel
theorem dX7_differsBy_7 : decode cX7_differsBy 7 = .ok (.istore_n 3, 1) := by decide +kernel
theorem dX7_differsBy_8 : decode cX7_differsBy 8 = .ok (.iload_n 3, 1) := by decide +kernel
theorem dX7_differsBy_9 : decode cX7_differsBy 9 = .ok (.iload_n 1, 1) := by decide +kernel
theorem dX7_differsBy_10 : decode cX7_differsBy 10 = .ok (.if_icmp .ge 40, 3) := by decide +kernel
theorem dX7_differsBy_13 : decode cX7_differsBy 13 = .ok (.aload_n 0, 1) := by decide +kernel
theorem dX7_differsBy_14 : decode cX7_differsBy 14 = .ok (.aload_n 0, 1) := by decide +kernel
theorem dX7_differsBy_15 : decode cX7_differsBy 15 = .ok (.getfield 63, 3) := by decide +kernel
theorem dX7_differsBy_18 : decode cX7_differsBy 18 = .ok (.iload_n 3, 1) := by decide +kernel
theorem dX7_differsBy_19 : decode cX7_differsBy 19 = .ok (.iaload, 1) := by decide +kernel
theorem dX7_differsBy_20 : decode cX7_differsBy 20 = .ok (.invokevirtual 170, 3) := by decide +kernel
theorem dX7_differsBy_23 : decode cX7_differsBy 23 = .ok (.istore 4, 2) := by decide +kernel
theorem dX7_differsBy_25 : decode cX7_differsBy 25 = .ok (.iload_n 2, 1) := by decide +kernel
theorem dX7_differsBy_26 : decode cX7_differsBy 26 = .ok (.aload_n 0, 1) := by decide +kernel
theorem dX7_differsBy_27 : decode cX7_differsBy 27 = .ok (.aload_n 0, 1) := by decide +kernel
theorem dX7_differsBy_28 : decode cX7_differsBy 28 = .ok (.getfield 63, 3) := by decide +kernel
theorem dX7_differsBy_31 : decode cX7_differsBy 31 = .ok (.iload_n 3, 1) := by decide +kernel
theorem dX7_differsBy_32 : decode cX7_differsBy 32 = .ok (.iaload, 1) := by decide +kernel
theorem dX7_differsBy_33 : decode cX7_differsBy 33 = .ok (.invokevirtual 179, 3) := by decide +kernel
theorem dX7_differsBy_36 : decode cX7_differsBy 36 = .ok (.iload 4, 2) := by decide +kernel
theorem dX7_differsBy_38 : decode cX7_differsBy 38 = .ok (.isub, 1) := by decide +kernel
theorem dX7_differsBy_39 : decode cX7_differsBy 39 = .ok (.invokestatic 205, 3) := by decide +kernel
theorem dX7_differsBy_42 : decode cX7_differsBy 42 = .ok (.iadd, 1) := by decide +kernel
theorem dX7_differsBy_43 : decode cX7_differsBy 43 = .ok (.istore_n 2, 1) := by decide +kernel
theorem dX7_differsBy_44 : decode cX7_differsBy 44 = .ok (.iinc 3 1, 3) := by decide +kernel
theorem dX7_differsBy_47 : decode cX7_differsBy 47 = .ok (.goto (-39), 3) := by decide +kernel
theorem dX7_differsBy_50 : decode cX7_differsBy 50 = .ok (.iload_n 2, 1) := by decide +kernel
theorem dX7_differsBy_51 : decode cX7_differsBy 51 = .ok (.ireturn, 1) := by decide +kernel
theorem dX7_order_0 : decode cX7_order 0 = .ok (.iload_n 1, 1) := by decide +kernel
theorem dX7_order_1 : decode cX7_order 1 = .ok (.iconst (-1), 1) := by decide +kernel
theorem dX7_order_2 : decode cX7_order 2 = .ok (.iconst 5, 1) := by decide +kernel
theorem dX7_order_3 : decode cX7_order 3 = .ok (.invokestatic 72, 3) := by decide +kernel
theorem dX7_order_6 : decode cX7_order 6 = .ok (.ifCond .ne 5, 3) := by decide +kernel
theorem dX7_order_9 : decode cX7_order 9 = .ok (.iconst (-1), 1) := by decide +kernel
theorem dX7_order_10 : decode cX7_order 10 = .ok (.ireturn, 1) := by decide +kernel
theorem dX7_order_11 : decode cX7_order 11 = .ok (.iconst 1, 1) := by decide +kernel
theorem dX7_order_12 : decode cX7_order 12 = .ok (.aload_n 0, 1) := by decide +kernel
theorem dX7_order_13 : decode cX7_order 13 = .ok (.getfield 76, 3) := by decide +kernel
theorem dX7_order_16 : decode cX7_order 16 = .ok (.ishl, 1) := by decide +kernel
theorem dX7_order_17 : decode cX7_order 17 = .ok (.iconst 1, 1) := by decide +kernel
theorem dX7_order_18 : decode cX7_order 18 = .ok (.isub, 1) := by decide +kernel
theorem dX7_order_19 : decode cX7_order 19 = .ok (.aload_n 0, 1) := by decide +kernel
theorem dX7_order_20 : decode cX7_order 20 = .ok (.invokevirtual 195, 3) := by decide +kernel
theorem dX7_order_23 : decode cX7_order 23 = .ok (.iconst (-1), 1) := by decide +kernel
theorem dX7_order_24 : decode cX7_order 24 = .ok (.ixor, 1) := by decide +kernel
theorem dX7_order_25 : decode cX7_order 25 = .ok (.iand, 1) := by decide +kernel
theorem dX7_order_26 : decode cX7_order 26 = .ok (.istore_n 2, 1) := by decide +kernel
theorem dX7_order_27 : decode cX7_order 27 = .ok (.iload_n 2, 1) := by decide +kernel
theorem dX7_order_28 : decode cX7_order 28 = .ok (.invokestatic 202, 3) := by decide +kernel
theorem dX7_order_31 : decode cX7_order 31 = .ok (.istore_n 3, 1) := by decide +kernel
theorem dX7_order_32 : decode cX7_order 32 = .ok (.iconst (-1), 1) := by decide +kernel
theorem dX7_order_33 : decode cX7_order 33 = .ok (.istore 4, 2) := by decide +kernel
theorem dX7_order_35 : decode cX7_order 35 = .ok (.iconst 0, 1) := by decide +kernel
theorem dX7_order_36 : decode cX7_order 36 = .ok (.istore 5, 2) := by decide +kernel
theorem dX7_order_38 : decode cX7_order 38 = .ok (.iload 5, 2) := by decide +kernel
theorem dX7_order_40 : decode cX7_order 40 = .ok (.iload_n 3, 1) := by decide +kernel
theorem dX7_order_41 : decode cX7_order 41 = .ok (.invokestatic 208, 3) := by decide +kernel
theorem dX7_order_44 : decode cX7_order 44 = .ok (.if_icmp .ge 73, 3) := by decide +kernel
theorem dX7_order_47 : decode cX7_order 47 = .ok (.aload_n 0, 1) := by decide +kernel
theorem dX7_order_48 : decode cX7_order 48 = .ok (.iload 5, 2) := by decide +kernel
theorem dX7_order_50 : decode cX7_order 50 = .ok (.iload_n 3, 1) := by decide +kernel
theorem dX7_order_51 : decode cX7_order 51 = .ok (.iload_n 2, 1) := by decide +kernel
theorem dX7_order_52 : decode cX7_order 52 = .ok (.invokevirtual 211, 3) := by decide +kernel
theorem dX7_order_55 : decode cX7_order 55 = .ok (.ifCond .eq 56, 3) := by decide +kernel
theorem dX7_order_58 : decode cX7_order 58 = .ok (.aload_n 0, 1) := by decide +kernel
theorem dX7_order_59 : decode cX7_order 59 = .ok (.iload_n 3, 1) := by decide +kernel
theorem dX7_order_60 : decode cX7_order 60 = .ok (.invokevirtual 214, 3) := by decide +kernel
theorem dX7_order_63 : decode cX7_order 63 = .ok (.istore 6, 2) := by decide +kernel
theorem dX7_order_65 : decode cX7_order 65 = .ok (.iload 4, 2) := by decide +kernel
theorem dX7_order_67 : decode cX7_order 67 = .ok (.ifCond .lt 10, 3) := by decide +kernel
theorem dX7_order_70 : decode cX7_order 70 = .ok (.iload 6, 2) := by decide +kernel
theorem dX7_order_72 : decode cX7_order 72 = .ok (.iload 4, 2) := by decide +kernel
theorem dX7_order_74 : decode cX7_order 74 = .ok (.if_icmp .ge 37, 3) := by decide +kernel
theorem dX7_order_77 : decode cX7_order 77 = .ok (.iload 6, 2) := by decide +kernel
theorem dX7_order_79 : decode cX7_order 79 = .ok (.istore 4, 2) := by decide +kernel
theorem dX7_order_81 : decode cX7_order 81 = .ok (.iconst 0, 1) := by decide +kernel
theorem dX7_order_82 : decode cX7_order 82 = .ok (.istore 7, 2) := by decide +kernel
theorem dX7_order_84 : decode cX7_order 84 = .ok (.iload 7, 2) := by decide +kernel
theorem dX7_order_86 : decode cX7_order 86 = .ok (.bipush 6, 2) := by decide +kernel
theorem dX7_order_88 : decode cX7_order 88 = .ok (.if_icmp .ge 23, 3) := by decide +kernel
theorem dX7_order_91 : decode cX7_order 91 = .ok (.aload_n 0, 1) := by decide +kernel
theorem dX7_order_92 : decode cX7_order 92 = .ok (.getfield 66, 3) := by decide +kernel
theorem dX7_order_95 : decode cX7_order 95 = .ok (.iload 7, 2) := by decide +kernel
theorem dX7_order_97 : decode cX7_order 97 = .ok (.aload_n 0, 1) := by decide +kernel
theorem dX7_order_98 : decode cX7_order 98 = .ok (.getfield 63, 3) := by decide +kernel
theorem dX7_order_101 : decode cX7_order 101 = .ok (.iload 7, 2) := by decide +kernel
theorem dX7_order_103 : decode cX7_order 103 = .ok (.iaload, 1) := by decide +kernel
theorem dX7_order_104 : decode cX7_order 104 = .ok (.iastore, 1) := by decide +kernel
theorem dX7_order_105 : decode cX7_order 105 = .ok (.iinc 7 1, 3) := by decide +kernel
theorem dX7_order_108 : decode cX7_order 108 = .ok (.goto (-24), 3) := by decide +kernel
theorem dX7_order_111 : decode cX7_order 111 = .ok (.iinc 5 1, 3) := by decide +kernel
theorem dX7_order_114 : decode cX7_order 114 = .ok (.goto (-76), 3) := by decide +kernel
theorem dX7_order_117 : decode cX7_order 117 = .ok (.iload_n 1, 1) := by decide +kernel
theorem dX7_order_118 : decode cX7_order 118 = .ok (.ifCond .ge 8, 3) := by decide +kernel
theorem dX7_order_121 : decode cX7_order 121 = .ok (.iload 4, 2) := by decide +kernel
theorem dX7_order_123 : decode cX7_order 123 = .ok (.goto 19, 3) := by decide +kernel
theorem dX7_order_126 : decode cX7_order 126 = .ok (.iload_n 1, 1) := by decide +kernel
theorem dX7_order_127 : decode cX7_order 127 = .ok (.iload_n 3, 1) := by decide +kernel
theorem dX7_order_128 : decode cX7_order 128 = .ok (.if_icmp .ge 12, 3) := by decide +kernel
theorem dX7_order_131 : decode cX7_order 131 = .ok (.aload_n 0, 1) := by decide +kernel
theorem dX7_order_132 : decode cX7_order 132 = .ok (.getfield 66, 3) := by decide +kernel
theorem dX7_order_135 : decode cX7_order 135 = .ok (.iload_n 1, 1) := by decide +kernel
theorem dX7_order_136 : decode cX7_order 136 = .ok (.iaload, 1) := by decide +kernel
theorem dX7_order_137 : decode cX7_order 137 = .ok (.goto 5, 3) := by decide +kernel
theorem dX7_order_140 : decode cX7_order 140 = .ok (.bipush (-9), 2) := by decide +kernel
theorem dX7_order_142 : decode cX7_order 142 = .ok (.ireturn, 1) := by decide +kernel
theorem dX7_tells_0 : decode cX7_tells 0 = .ok (.iload_n 1, 1) := by decide +kernel
theorem dX7_tells_1 : decode cX7_tells 1 = .ok (.iconst 1, 1) := by decide +kernel
theorem dX7_tells_2 : decode cX7_tells 2 = .ok (.bipush 40, 2) := by decide +kernel
theorem dX7_tells_4 : decode cX7_tells 4 = .ok (.invokestatic 72, 3) := by decide +kernel
theorem dX7_tells_7 : decode cX7_tells 7 = .ok (.ifCond .eq 13, 3) := by decide +kernel
theorem dX7_tells_10 : decode cX7_tells 10 = .ok (.iload_n 2, 1) := by decide +kernel
theorem dX7_tells_11 : decode cX7_tells 11 = .ok (.iconst 0, 1) := by decide +kernel
theorem dX7_tells_12 : decode cX7_tells 12 = .ok (.bipush 99, 2) := by decide +kernel
theorem dX7_tells_14 : decode cX7_tells 14 = .ok (.invokestatic 72, 3) := by decide +kernel
theorem dX7_tells_17 : decode cX7_tells 17 = .ok (.ifCond .ne 5, 3) := by decide +kernel
theorem dX7_tells_20 : decode cX7_tells 20 = .ok (.iconst (-1), 1) := by decide +kernel
theorem dX7_tells_21 : decode cX7_tells 21 = .ok (.ireturn, 1) := by decide +kernel
theorem dX7_tells_22 : decode cX7_tells 22 = .ok (.aload_n 0, 1) := by decide +kernel
theorem dX7_tells_23 : decode cX7_tells 23 = .ok (.getfield 157, 3) := by decide +kernel
theorem dX7_tells_26 : decode cX7_tells 26 = .ok (.bipush 6, 2) := by decide +kernel
theorem dX7_tells_28 : decode cX7_tells 28 = .ok (.if_icmp .ne 6, 3) := by decide +kernel
theorem dX7_tells_31 : decode cX7_tells 31 = .ok (.bipush (-3), 2) := by decide +kernel
theorem dX7_tells_33 : decode cX7_tells 33 = .ok (.ireturn, 1) := by decide +kernel
theorem dX7_tells_34 : decode cX7_tells 34 = .ok (.aload_n 0, 1) := by decide +kernel
theorem dX7_tells_35 : decode cX7_tells 35 = .ok (.getfield 39, 3) := by decide +kernel
theorem dX7_tells_38 : decode cX7_tells 38 = .ok (.iconst 2, 1) := by decide +kernel
theorem dX7_tells_39 : decode cX7_tells 39 = .ok (.aload_n 0, 1) := by decide +kernel
theorem dX7_tells_40 : decode cX7_tells 40 = .ok (.getfield 157, 3) := by decide +kernel
theorem dX7_tells_43 : decode cX7_tells 43 = .ok (.imul, 1) := by decide +kernel
theorem dX7_tells_44 : decode cX7_tells 44 = .ok (.iload_n 1, 1) := by decide +kernel
theorem dX7_tells_45 : decode cX7_tells 45 = .ok (.iastore, 1) := by decide +kernel
theorem dX7_tells_46 : decode cX7_tells 46 = .ok (.aload_n 0, 1) := by decide +kernel
theorem dX7_tells_47 : decode cX7_tells 47 = .ok (.getfield 39, 3) := by decide +kernel
theorem dX7_tells_50 : decode cX7_tells 50 = .ok (.iconst 2, 1) := by decide +kernel
theorem dX7_tells_51 : decode cX7_tells 51 = .ok (.aload_n 0, 1) := by decide +kernel
theorem dX7_tells_52 : decode cX7_tells 52 = .ok (.getfield 157, 3) := by decide +kernel
theorem dX7_tells_55 : decode cX7_tells 55 = .ok (.imul, 1) := by decide +kernel
theorem dX7_tells_56 : decode cX7_tells 56 = .ok (.iconst 1, 1) := by decide +kernel
theorem dX7_tells_57 : decode cX7_tells 57 = .ok (.iadd, 1) := by decide +kernel
theorem dX7_tells_58 : decode cX7_tells 58 = .ok (.iload_n 2, 1) := by decide +kernel
theorem dX7_tells_59 : decode cX7_tells 59 = .ok (.iastore, 1) := by decide +kernel
theorem dX7_tells_60 : decode cX7_tells 60 = .ok (.aload_n 0, 1) := by decide +kernel
theorem dX7_tells_61 : decode cX7_tells 61 = .ok (.dup, 1) := by decide +kernel
theorem dX7_tells_62 : decode cX7_tells 62 = .ok (.getfield 157, 3) := by decide +kernel
theorem dX7_tells_65 : decode cX7_tells 65 = .ok (.iconst 1, 1) := by decide +kernel
theorem dX7_tells_66 : decode cX7_tells 66 = .ok (.iadd, 1) := by decide +kernel
theorem dX7_tells_67 : decode cX7_tells 67 = .ok (.putfield 157, 3) := by decide +kernel
theorem dX7_tells_70 : decode cX7_tells 70 = .ok (.aload_n 0, 1) := by decide +kernel
theorem dX7_tells_71 : decode cX7_tells 71 = .ok (.getfield 157, 3) := by decide +kernel
theorem dX7_tells_74 : decode cX7_tells 74 = .ok (.ireturn, 1) := by decide +kernel
theorem dX7_forget_0 : decode cX7_forget 0 = .ok (.aload_n 0, 1) := by decide +kernel
theorem dX7_forget_1 : decode cX7_forget 1 = .ok (.getfield 157, 3) := by decide +kernel
theorem dX7_forget_4 : decode cX7_forget 4 = .ok (.istore_n 1, 1) := by decide +kernel
theorem dX7_forget_5 : decode cX7_forget 5 = .ok (.aload_n 0, 1) := by decide +kernel
theorem dX7_forget_6 : decode cX7_forget 6 = .ok (.iconst 0, 1) := by decide +kernel
theorem dX7_forget_7 : decode cX7_forget 7 = .ok (.putfield 157, 3) := by decide +kernel
theorem dX7_forget_10 : decode cX7_forget 10 = .ok (.iload_n 1, 1) := by decide +kernel
theorem dX7_forget_11 : decode cX7_forget 11 = .ok (.ireturn, 1) := by decide +kernel
theorem dX7_isSo_0 : decode cX7_isSo 0 = .ok (.iconst 1, 1) := by decide +kernel
theorem dX7_isSo_1 : decode cX7_isSo 1 = .ok (.istore_n 2, 1) := by decide +kernel
theorem dX7_isSo_2 : decode cX7_isSo 2 = .ok (.iconst 0, 1) := by decide +kernel
theorem dX7_isSo_3 : decode cX7_isSo 3 = .ok (.istore_n 3, 1) := by decide +kernel
theorem dX7_isSo_4 : decode cX7_isSo 4 = .ok (.iload_n 3, 1) := by decide +kernel
theorem dX7_isSo_5 : decode cX7_isSo 5 = .ok (.aload_n 0, 1) := by decide +kernel
theorem dX7_isSo_6 : decode cX7_isSo 6 = .ok (.getfield 157, 3) := by decide +kernel
theorem dX7_isSo_9 : decode cX7_isSo 9 = .ok (.if_icmp .ge 76, 3) := by decide +kernel
theorem dX7_isSo_12 : decode cX7_isSo 12 = .ok (.aload_n 0, 1) := by decide +kernel
theorem dX7_isSo_13 : decode cX7_isSo 13 = .ok (.getfield 39, 3) := by decide +kernel
theorem dX7_isSo_16 : decode cX7_isSo 16 = .ok (.iconst 2, 1) := by decide +kernel
theorem dX7_isSo_17 : decode cX7_isSo 17 = .ok (.iload_n 3, 1) := by decide +kernel
theorem dX7_isSo_18 : decode cX7_isSo 18 = .ok (.imul, 1) := by decide +kernel
theorem dX7_isSo_19 : decode cX7_isSo 19 = .ok (.iaload, 1) := by decide +kernel
theorem dX7_isSo_20 : decode cX7_isSo 20 = .ok (.aload_n 0, 1) := by decide +kernel
theorem dX7_isSo_21 : decode cX7_isSo 21 = .ok (.iload_n 1, 1) := by decide +kernel
theorem dX7_isSo_22 : decode cX7_isSo 22 = .ok (.invokevirtual 164, 3) := by decide +kernel
theorem dX7_isSo_25 : decode cX7_isSo 25 = .ok (.iadd, 1) := by decide +kernel
theorem dX7_isSo_26 : decode cX7_isSo 26 = .ok (.istore 4, 2) := by decide +kernel
theorem dX7_isSo_28 : decode cX7_isSo 28 = .ok (.aload_n 0, 1) := by decide +kernel
theorem dX7_isSo_29 : decode cX7_isSo 29 = .ok (.getfield 60, 3) := by decide +kernel
theorem dX7_isSo_32 : decode cX7_isSo 32 = .ok (.iconst 0, 1) := by decide +kernel
theorem dX7_isSo_33 : decode cX7_isSo 33 = .ok (.iconst 0, 1) := by decide +kernel
theorem dX7_isSo_34 : decode cX7_isSo 34 = .ok (.iastore, 1) := by decide +kernel
theorem dX7_isSo_35 : decode cX7_isSo 35 = .ok (.aload_n 0, 1) := by decide +kernel
theorem dX7_isSo_36 : decode cX7_isSo 36 = .ok (.iload 4, 2) := by decide +kernel
theorem dX7_isSo_38 : decode cX7_isSo 38 = .ok (.ifCond .ge 7, 3) := by decide +kernel
theorem dX7_isSo_41 : decode cX7_isSo 41 = .ok (.iconst 0, 1) := by decide +kernel
theorem dX7_isSo_42 : decode cX7_isSo 42 = .ok (.goto 5, 3) := by decide +kernel
theorem dX7_isSo_45 : decode cX7_isSo 45 = .ok (.iload 4, 2) := by decide +kernel
theorem dX7_isSo_47 : decode cX7_isSo 47 = .ok (.invokevirtual 173, 3) := by decide +kernel
theorem dX7_isSo_50 : decode cX7_isSo 50 = .ok (.iload_n 2, 1) := by decide +kernel
theorem dX7_isSo_51 : decode cX7_isSo 51 = .ok (.ifCond .eq 26, 3) := by decide +kernel
theorem dX7_isSo_54 : decode cX7_isSo 54 = .ok (.aload_n 0, 1) := by decide +kernel
theorem dX7_isSo_55 : decode cX7_isSo 55 = .ok (.getfield 60, 3) := by decide +kernel
theorem dX7_isSo_58 : decode cX7_isSo 58 = .ok (.iconst 0, 1) := by decide +kernel
theorem dX7_isSo_59 : decode cX7_isSo 59 = .ok (.iaload, 1) := by decide +kernel
theorem dX7_isSo_60 : decode cX7_isSo 60 = .ok (.aload_n 0, 1) := by decide +kernel
theorem dX7_isSo_61 : decode cX7_isSo 61 = .ok (.getfield 39, 3) := by decide +kernel
theorem dX7_isSo_64 : decode cX7_isSo 64 = .ok (.iconst 2, 1) := by decide +kernel
theorem dX7_isSo_65 : decode cX7_isSo 65 = .ok (.iload_n 3, 1) := by decide +kernel
theorem dX7_isSo_66 : decode cX7_isSo 66 = .ok (.imul, 1) := by decide +kernel
theorem dX7_isSo_67 : decode cX7_isSo 67 = .ok (.iconst 1, 1) := by decide +kernel
theorem dX7_isSo_68 : decode cX7_isSo 68 = .ok (.iadd, 1) := by decide +kernel
theorem dX7_isSo_69 : decode cX7_isSo 69 = .ok (.iaload, 1) := by decide +kernel
theorem dX7_isSo_70 : decode cX7_isSo 70 = .ok (.if_icmp .ne 7, 3) := by decide +kernel
theorem dX7_isSo_73 : decode cX7_isSo 73 = .ok (.iconst 1, 1) := by decide +kernel
theorem dX7_isSo_74 : decode cX7_isSo 74 = .ok (.goto 4, 3) := by decide +kernel
theorem dX7_isSo_77 : decode cX7_isSo 77 = .ok (.iconst 0, 1) := by decide +kernel
theorem dX7_isSo_78 : decode cX7_isSo 78 = .ok (.istore_n 2, 1) := by decide +kernel
theorem dX7_isSo_79 : decode cX7_isSo 79 = .ok (.iinc 3 1, 3) := by decide +kernel
theorem dX7_isSo_82 : decode cX7_isSo 82 = .ok (.goto (-78), 3) := by decide +kernel
theorem dX7_isSo_85 : decode cX7_isSo 85 = .ok (.iload_n 2, 1) := by decide +kernel
theorem dX7_isSo_86 : decode cX7_isSo 86 = .ok (.ireturn, 1) := by decide +kernel
theorem dX7_canBe_0 : decode cX7_canBe 0 = .ok (.aload_n 0, 1) := by decide +kernel
theorem dX7_canBe_1 : decode cX7_canBe 1 = .ok (.invokevirtual 176, 3) := by decide +kernel
theorem dX7_canBe_4 : decode cX7_canBe 4 = .ok (.iconst 0, 1) := by decide +kernel
theorem dX7_canBe_5 : decode cX7_canBe 5 = .ok (.istore_n 3, 1) := by decide +kernel
theorem dX7_canBe_6 : decode cX7_canBe 6 = .ok (.iconst 0, 1) := by decide +kernel
theorem dX7_canBe_7 : decode cX7_canBe 7 = .ok (.istore 4, 2) := by decide +kernel
theorem dX7_canBe_9 : decode cX7_canBe 9 = .ok (.iload 4, 2) := by decide +kernel
theorem dX7_canBe_11 : decode cX7_canBe 11 = .ok (.iconst 1, 1) := by decide +kernel
theorem dX7_canBe_12 : decode cX7_canBe 12 = .ok (.aload_n 0, 1) := by decide +kernel
theorem dX7_canBe_13 : decode cX7_canBe 13 = .ok (.getfield 69, 3) := by decide +kernel
theorem dX7_canBe_16 : decode cX7_canBe 16 = .ok (.ishl, 1) := by decide +kernel
theorem dX7_canBe_17 : decode cX7_canBe 17 = .ok (.if_icmp .ge 41, 3) := by decide +kernel
theorem dX7_canBe_20 : decode cX7_canBe 20 = .ok (.iload_n 3, 1) := by decide +kernel
theorem dX7_canBe_21 : decode cX7_canBe 21 = .ok (.iload 4, 2) := by decide +kernel
theorem dX7_canBe_23 : decode cX7_canBe 23 = .ok (.iload_n 1, 1) := by decide +kernel
theorem dX7_canBe_24 : decode cX7_canBe 24 = .ok (.iand, 1) := by decide +kernel
theorem dX7_canBe_25 : decode cX7_canBe 25 = .ok (.iload_n 1, 1) := by decide +kernel
theorem dX7_canBe_26 : decode cX7_canBe 26 = .ok (.if_icmp .ne 23, 3) := by decide +kernel
theorem dX7_canBe_29 : decode cX7_canBe 29 = .ok (.iload 4, 2) := by decide +kernel
theorem dX7_canBe_31 : decode cX7_canBe 31 = .ok (.iload_n 2, 1) := by decide +kernel
theorem dX7_canBe_32 : decode cX7_canBe 32 = .ok (.iand, 1) := by decide +kernel
theorem dX7_canBe_33 : decode cX7_canBe 33 = .ok (.ifCond .ne 16, 3) := by decide +kernel
theorem dX7_canBe_36 : decode cX7_canBe 36 = .ok (.aload_n 0, 1) := by decide +kernel
theorem dX7_canBe_37 : decode cX7_canBe 37 = .ok (.iload 4, 2) := by decide +kernel
theorem dX7_canBe_39 : decode cX7_canBe 39 = .ok (.invokevirtual 217, 3) := by decide +kernel
theorem dX7_canBe_42 : decode cX7_canBe 42 = .ok (.ifCond .eq 7, 3) := by decide +kernel
theorem dX7_canBe_45 : decode cX7_canBe 45 = .ok (.iconst 1, 1) := by decide +kernel
theorem dX7_canBe_46 : decode cX7_canBe 46 = .ok (.goto 4, 3) := by decide +kernel
theorem dX7_canBe_49 : decode cX7_canBe 49 = .ok (.iconst 0, 1) := by decide +kernel
theorem dX7_canBe_50 : decode cX7_canBe 50 = .ok (.iadd, 1) := by decide +kernel
theorem dX7_canBe_51 : decode cX7_canBe 51 = .ok (.istore_n 3, 1) := by decide +kernel
theorem dX7_canBe_52 : decode cX7_canBe 52 = .ok (.iinc 4 1, 3) := by decide +kernel
theorem dX7_canBe_55 : decode cX7_canBe 55 = .ok (.goto (-46), 3) := by decide +kernel
theorem dX7_canBe_58 : decode cX7_canBe 58 = .ok (.iload_n 3, 1) := by decide +kernel
theorem dX7_canBe_59 : decode cX7_canBe 59 = .ok (.ireturn, 1) := by decide +kernel
theorem dX7_can_0 : decode cX7_can 0 = .ok (.iload_n 1, 1) := by decide +kernel
theorem dX7_can_1 : decode cX7_can 1 = .ok (.iconst 0, 1) := by decide +kernel
theorem dX7_can_2 : decode cX7_can 2 = .ok (.iconst 2, 1) := by decide +kernel

theorem dX6_lays_61 : decode mX6_lays.2.1 61 = .ok (.iload_n 2, 1) := by decide +kernel
theorem dX6_lays_62 : decode mX6_lays.2.1 62 = .ok (.iconst 0, 1) := by decide +kernel
theorem dX6_lays_63 : decode mX6_lays.2.1 63 = .ok (.invokevirtual 170, 3) := by decide +kernel
theorem dX6_lays_66 : decode mX6_lays.2.1 66 = .ok (.putfield 147, 3) := by decide +kernel
theorem dX6_lays_69 : decode mX6_lays.2.1 69 = .ok (.aload_n 0, 1) := by decide +kernel
theorem dX6_lays_70 : decode mX6_lays.2.1 70 = .ok (.getfield 40, 3) := by decide +kernel
theorem dX6_lays_73 : decode mX6_lays.2.1 73 = .ok (.iconst 0, 1) := by decide +kernel
theorem dX6_lays_74 : decode mX6_lays.2.1 74 = .ok (.putfield 150, 3) := by decide +kernel
theorem dX6_lays_77 : decode mX6_lays.2.1 77 = .ok (.iload_n 2, 1) := by decide +kernel
theorem dX6_lays_78 : decode mX6_lays.2.1 78 = .ok (.ireturn, 1) := by decide +kernel
theorem dX6_thumbs_0 : decode mX6_thumbs.2.1 0 = .ok (.iload_n 1, 1) := by decide +kernel
theorem dX6_thumbs_1 : decode mX6_thumbs.2.1 1 = .ok (.bipush (-9), 2) := by decide +kernel
theorem dX6_thumbs_3 : decode mX6_thumbs.2.1 3 = .ok (.bipush 9, 2) := by decide +kernel
theorem dX6_thumbs_5 : decode mX6_thumbs.2.1 5 = .ok (.invokestatic 71, 3) := by decide +kernel
theorem dX6_thumbs_8 : decode mX6_thumbs.2.1 8 = .ok (.ifCond .ne 6, 3) := by decide +kernel
theorem dX6_thumbs_11 : decode mX6_thumbs.2.1 11 = .ok (.ldc 103, 2) := by decide +kernel
theorem dX6_thumbs_13 : decode mX6_thumbs.2.1 13 = .ok (.ireturn, 1) := by decide +kernel
theorem dX6_thumbs_14 : decode mX6_thumbs.2.1 14 = .ok (.aload_n 0, 1) := by decide +kernel
theorem dX6_thumbs_15 : decode mX6_thumbs.2.1 15 = .ok (.getfield 51, 3) := by decide +kernel
theorem dX6_thumbs_18 : decode mX6_thumbs.2.1 18 = .ok (.aload_n 0, 1) := by decide +kernel
theorem dX6_thumbs_19 : decode mX6_thumbs.2.1 19 = .ok (.getfield 40, 3) := by decide +kernel
theorem dX6_thumbs_22 : decode mX6_thumbs.2.1 22 = .ok (.invokevirtual 166, 3) := by decide +kernel
theorem dX6_thumbs_25 : decode mX6_thumbs.2.1 25 = .ok (.aload_n 0, 1) := by decide +kernel
theorem dX6_thumbs_26 : decode mX6_thumbs.2.1 26 = .ok (.getfield 40, 3) := by decide +kernel
theorem dX6_thumbs_29 : decode mX6_thumbs.2.1 29 = .ok (.getfield 150, 3) := by decide +kernel
theorem dX6_thumbs_32 : decode mX6_thumbs.2.1 32 = .ok (.istore_n 2, 1) := by decide +kernel
theorem dX6_thumbs_33 : decode mX6_thumbs.2.1 33 = .ok (.aload_n 0, 1) := by decide +kernel
theorem dX6_thumbs_34 : decode mX6_thumbs.2.1 34 = .ok (.getfield 40, 3) := by decide +kernel
theorem dX6_thumbs_37 : decode mX6_thumbs.2.1 37 = .ok (.iload_n 1, 1) := by decide +kernel
theorem dX6_thumbs_38 : decode mX6_thumbs.2.1 38 = .ok (.putfield 150, 3) := by decide +kernel
theorem dX6_thumbs_41 : decode mX6_thumbs.2.1 41 = .ok (.iload_n 2, 1) := by decide +kernel
theorem dX6_thumbs_42 : decode mX6_thumbs.2.1 42 = .ok (.ireturn, 1) := by decide +kernel
theorem dX6_adorns_0 : decode mX6_adorns.2.1 0 = .ok (.aload_n 0, 1) := by decide +kernel
theorem dX6_adorns_1 : decode mX6_adorns.2.1 1 = .ok (.getfield 30, 3) := by decide +kernel
theorem dX6_adorns_4 : decode mX6_adorns.2.1 4 = .ok (.iload_n 1, 1) := by decide +kernel
theorem dX6_adorns_5 : decode mX6_adorns.2.1 5 = .ok (.invokevirtual 114, 3) := by decide +kernel
theorem dX6_adorns_8 : decode mX6_adorns.2.1 8 = .ok (.ifCond .eq 13, 3) := by decide +kernel
theorem dX6_adorns_11 : decode mX6_adorns.2.1 11 = .ok (.iload_n 2, 1) := by decide +kernel
theorem dX6_adorns_12 : decode mX6_adorns.2.1 12 = .ok (.iconst 0, 1) := by decide +kernel
theorem dX6_adorns_13 : decode mX6_adorns.2.1 13 = .ok (.bipush 9, 2) := by decide +kernel
theorem dX6_adorns_15 : decode mX6_adorns.2.1 15 = .ok (.invokestatic 71, 3) := by decide +kernel
theorem dX6_adorns_18 : decode mX6_adorns.2.1 18 = .ok (.ifCond .ne 5, 3) := by decide +kernel
theorem dX6_adorns_21 : decode mX6_adorns.2.1 21 = .ok (.iconst (-1), 1) := by decide +kernel
theorem dX6_adorns_22 : decode mX6_adorns.2.1 22 = .ok (.ireturn, 1) := by decide +kernel
theorem dX6_adorns_23 : decode mX6_adorns.2.1 23 = .ok (.aload_n 0, 1) := by decide +kernel
theorem dX6_adorns_24 : decode mX6_adorns.2.1 24 = .ok (.getfield 51, 3) := by decide +kernel
theorem dX6_adorns_27 : decode mX6_adorns.2.1 27 = .ok (.aload_n 0, 1) := by decide +kernel
theorem dX6_adorns_28 : decode mX6_adorns.2.1 28 = .ok (.getfield 40, 3) := by decide +kernel
theorem dX6_adorns_31 : decode mX6_adorns.2.1 31 = .ok (.invokevirtual 166, 3) := by decide +kernel
theorem dX6_adorns_34 : decode mX6_adorns.2.1 34 = .ok (.aload_n 0, 1) := by decide +kernel
theorem dX6_adorns_35 : decode mX6_adorns.2.1 35 = .ok (.getfield 40, 3) := by decide +kernel
theorem dX6_adorns_38 : decode mX6_adorns.2.1 38 = .ok (.getfield 120, 3) := by decide +kernel
theorem dX6_adorns_41 : decode mX6_adorns.2.1 41 = .ok (.iload_n 1, 1) := by decide +kernel
theorem dX6_adorns_42 : decode mX6_adorns.2.1 42 = .ok (.invokevirtual 107, 3) := by decide +kernel
theorem dX6_adorns_45 : decode mX6_adorns.2.1 45 = .ok (.istore_n 3, 1) := by decide +kernel
theorem dX6_adorns_46 : decode mX6_adorns.2.1 46 = .ok (.aload_n 0, 1) := by decide +kernel
theorem dX6_adorns_47 : decode mX6_adorns.2.1 47 = .ok (.getfield 40, 3) := by decide +kernel
theorem dX6_adorns_50 : decode mX6_adorns.2.1 50 = .ok (.getfield 120, 3) := by decide +kernel
theorem dX6_adorns_53 : decode mX6_adorns.2.1 53 = .ok (.iload_n 1, 1) := by decide +kernel
theorem dX6_adorns_54 : decode mX6_adorns.2.1 54 = .ok (.iload_n 2, 1) := by decide +kernel
theorem dX6_adorns_55 : decode mX6_adorns.2.1 55 = .ok (.invokevirtual 79, 3) := by decide +kernel
theorem dX6_adorns_58 : decode mX6_adorns.2.1 58 = .ok (.iload_n 3, 1) := by decide +kernel
theorem dX6_adorns_59 : decode mX6_adorns.2.1 59 = .ok (.ireturn, 1) := by decide +kernel
theorem dX6_sins_0 : decode mX6_sins.2.1 0 = .ok (.aload_n 0, 1) := by decide +kernel
theorem dX6_sins_1 : decode mX6_sins.2.1 1 = .ok (.getfield 30, 3) := by decide +kernel
theorem dX6_sins_4 : decode mX6_sins.2.1 4 = .ok (.iload_n 1, 1) := by decide +kernel
theorem dX6_sins_5 : decode mX6_sins.2.1 5 = .ok (.invokevirtual 114, 3) := by decide +kernel
theorem dX6_sins_8 : decode mX6_sins.2.1 8 = .ok (.ifCond .eq 14, 3) := by decide +kernel
theorem dX6_sins_11 : decode mX6_sins.2.1 11 = .ok (.aload_n 0, 1) := by decide +kernel
theorem dX6_sins_12 : decode mX6_sins.2.1 12 = .ok (.getfield 30, 3) := by decide +kernel
theorem dX6_sins_15 : decode mX6_sins.2.1 15 = .ok (.iload_n 2, 1) := by decide +kernel
theorem dX6_sins_16 : decode mX6_sins.2.1 16 = .ok (.invokevirtual 99, 3) := by decide +kernel
theorem dX6_sins_19 : decode mX6_sins.2.1 19 = .ok (.ifCond .ne 5, 3) := by decide +kernel
theorem dX6_sins_22 : decode mX6_sins.2.1 22 = .ok (.iconst (-1), 1) := by decide +kernel
theorem dX6_sins_23 : decode mX6_sins.2.1 23 = .ok (.ireturn, 1) := by decide +kernel
theorem dX6_sins_24 : decode mX6_sins.2.1 24 = .ok (.aload_n 0, 1) := by decide +kernel
theorem dX6_sins_25 : decode mX6_sins.2.1 25 = .ok (.getfield 40, 3) := by decide +kernel
theorem dX6_sins_28 : decode mX6_sins.2.1 28 = .ok (.getfield 123, 3) := by decide +kernel
theorem dX6_sins_31 : decode mX6_sins.2.1 31 = .ok (.iload_n 1, 1) := by decide +kernel
theorem dX6_sins_32 : decode mX6_sins.2.1 32 = .ok (.invokevirtual 107, 3) := by decide +kernel
theorem dX6_sins_35 : decode mX6_sins.2.1 35 = .ok (.istore_n 3, 1) := by decide +kernel
theorem dX6_sins_36 : decode mX6_sins.2.1 36 = .ok (.aload_n 0, 1) := by decide +kernel
theorem dX6_sins_37 : decode mX6_sins.2.1 37 = .ok (.getfield 40, 3) := by decide +kernel
theorem dX6_sins_40 : decode mX6_sins.2.1 40 = .ok (.iload_n 1, 1) := by decide +kernel
theorem dX6_sins_41 : decode mX6_sins.2.1 41 = .ok (.invokevirtual 163, 3) := by decide +kernel
theorem dX6_sins_44 : decode mX6_sins.2.1 44 = .ok (.ifCond .ne 11, 3) := by decide +kernel
theorem dX6_sins_47 : decode mX6_sins.2.1 47 = .ok (.iload_n 3, 1) := by decide +kernel
theorem dX6_sins_48 : decode mX6_sins.2.1 48 = .ok (.iload_n 2, 1) := by decide +kernel
theorem dX6_sins_49 : decode mX6_sins.2.1 49 = .ok (.invokestatic 174, 3) := by decide +kernel
theorem dX6_sins_52 : decode mX6_sins.2.1 52 = .ok (.ifCond .eq 6, 3) := by decide +kernel
theorem dX6_sins_55 : decode mX6_sins.2.1 55 = .ok (.bipush (-2), 2) := by decide +kernel
theorem dX6_sins_57 : decode mX6_sins.2.1 57 = .ok (.ireturn, 1) := by decide +kernel
theorem dX6_sins_58 : decode mX6_sins.2.1 58 = .ok (.aload_n 0, 1) := by decide +kernel
theorem dX6_sins_59 : decode mX6_sins.2.1 59 = .ok (.getfield 51, 3) := by decide +kernel
theorem dX6_sins_62 : decode mX6_sins.2.1 62 = .ok (.aload_n 0, 1) := by decide +kernel
theorem dX6_sins_63 : decode mX6_sins.2.1 63 = .ok (.getfield 40, 3) := by decide +kernel
theorem dX6_sins_66 : decode mX6_sins.2.1 66 = .ok (.invokevirtual 166, 3) := by decide +kernel
theorem dX6_sins_69 : decode mX6_sins.2.1 69 = .ok (.aload_n 0, 1) := by decide +kernel
theorem dX6_sins_70 : decode mX6_sins.2.1 70 = .ok (.getfield 40, 3) := by decide +kernel
theorem dX6_sins_73 : decode mX6_sins.2.1 73 = .ok (.getfield 123, 3) := by decide +kernel
theorem dX6_sins_76 : decode mX6_sins.2.1 76 = .ok (.iload_n 1, 1) := by decide +kernel
theorem dX6_sins_77 : decode mX6_sins.2.1 77 = .ok (.iload_n 3, 1) := by decide +kernel
theorem dX6_sins_78 : decode mX6_sins.2.1 78 = .ok (.iload_n 2, 1) := by decide +kernel
theorem dX6_sins_79 : decode mX6_sins.2.1 79 = .ok (.invokestatic 178, 3) := by decide +kernel
theorem dX6_sins_82 : decode mX6_sins.2.1 82 = .ok (.ior, 1) := by decide +kernel
theorem dX6_sins_83 : decode mX6_sins.2.1 83 = .ok (.invokevirtual 79, 3) := by decide +kernel
theorem dX6_sins_86 : decode mX6_sins.2.1 86 = .ok (.iload_n 3, 1) := by decide +kernel
theorem dX6_sins_87 : decode mX6_sins.2.1 87 = .ok (.invokestatic 181, 3) := by decide +kernel
theorem dX6_sins_90 : decode mX6_sins.2.1 90 = .ok (.iconst 1, 1) := by decide +kernel
theorem dX6_sins_91 : decode mX6_sins.2.1 91 = .ok (.iadd, 1) := by decide +kernel
theorem dX6_sins_92 : decode mX6_sins.2.1 92 = .ok (.ireturn, 1) := by decide +kernel
theorem dX6_oils_0 : decode mX6_oils.2.1 0 = .ok (.iload_n 1, 1) := by decide +kernel
theorem dX6_oils_1 : decode mX6_oils.2.1 1 = .ok (.iconst 0, 1) := by decide +kernel
theorem dX6_oils_2 : decode mX6_oils.2.1 2 = .ok (.bipush 9, 2) := by decide +kernel
theorem dX6_oils_4 : decode mX6_oils.2.1 4 = .ok (.invokestatic 71, 3) := by decide +kernel
theorem dX6_oils_7 : decode mX6_oils.2.1 7 = .ok (.ifCond .ne 5, 3) := by decide +kernel
theorem dX6_oils_10 : decode mX6_oils.2.1 10 = .ok (.iconst (-1), 1) := by decide +kernel
theorem dX6_oils_11 : decode mX6_oils.2.1 11 = .ok (.ireturn, 1) := by decide +kernel
theorem dX6_oils_12 : decode mX6_oils.2.1 12 = .ok (.aload_n 0, 1) := by decide +kernel
theorem dX6_oils_13 : decode mX6_oils.2.1 13 = .ok (.getfield 51, 3) := by decide +kernel
theorem dX6_oils_16 : decode mX6_oils.2.1 16 = .ok (.aload_n 0, 1) := by decide +kernel
theorem dX6_oils_17 : decode mX6_oils.2.1 17 = .ok (.getfield 40, 3) := by decide +kernel
theorem dX6_oils_20 : decode mX6_oils.2.1 20 = .ok (.invokevirtual 166, 3) := by decide +kernel
theorem dX6_oils_23 : decode mX6_oils.2.1 23 = .ok (.aload_n 0, 1) := by decide +kernel
theorem dX6_oils_24 : decode mX6_oils.2.1 24 = .ok (.getfield 40, 3) := by decide +kernel
theorem dX6_oils_27 : decode mX6_oils.2.1 27 = .ok (.getfield 153, 3) := by decide +kernel
theorem dX6_oils_30 : decode mX6_oils.2.1 30 = .ok (.istore_n 2, 1) := by decide +kernel
theorem dX6_oils_31 : decode mX6_oils.2.1 31 = .ok (.aload_n 0, 1) := by decide +kernel
theorem dX6_oils_32 : decode mX6_oils.2.1 32 = .ok (.getfield 40, 3) := by decide +kernel
theorem dX6_oils_35 : decode mX6_oils.2.1 35 = .ok (.iload_n 1, 1) := by decide +kernel
theorem dX6_oils_36 : decode mX6_oils.2.1 36 = .ok (.putfield 153, 3) := by decide +kernel
theorem dX6_oils_39 : decode mX6_oils.2.1 39 = .ok (.iload_n 2, 1) := by decide +kernel
theorem dX6_oils_40 : decode mX6_oils.2.1 40 = .ok (.ireturn, 1) := by decide +kernel
theorem dX6_year_0 : decode mX6_year.2.1 0 = .ok (.aload_n 0, 1) := by decide +kernel
theorem dX6_year_1 : decode mX6_year.2.1 1 = .ok (.getfield 40, 3) := by decide +kernel
theorem dX6_year_4 : decode mX6_year.2.1 4 = .ok (.getfield 153, 3) := by decide +kernel
theorem dX6_year_7 : decode mX6_year.2.1 7 = .ok (.bipush 9, 2) := by decide +kernel
theorem dX6_year_9 : decode mX6_year.2.1 9 = .ok (.if_icmp .lt 6, 3) := by decide +kernel
theorem dX6_year_12 : decode mX6_year.2.1 12 = .ok (.bipush (-2), 2) := by decide +kernel
theorem dX6_year_14 : decode mX6_year.2.1 14 = .ok (.ireturn, 1) := by decide +kernel
theorem dX6_year_15 : decode mX6_year.2.1 15 = .ok (.aload_n 0, 1) := by decide +kernel
theorem dX6_year_16 : decode mX6_year.2.1 16 = .ok (.getfield 51, 3) := by decide +kernel
theorem dX6_year_19 : decode mX6_year.2.1 19 = .ok (.aload_n 0, 1) := by decide +kernel
theorem dX6_year_20 : decode mX6_year.2.1 20 = .ok (.getfield 40, 3) := by decide +kernel
theorem dX6_year_23 : decode mX6_year.2.1 23 = .ok (.invokevirtual 166, 3) := by decide +kernel
theorem dX6_year_26 : decode mX6_year.2.1 26 = .ok (.aload_n 0, 1) := by decide +kernel
theorem dX6_year_27 : decode mX6_year.2.1 27 = .ok (.getfield 40, 3) := by decide +kernel
theorem dX6_year_30 : decode mX6_year.2.1 30 = .ok (.dup, 1) := by decide +kernel
theorem dX6_year_31 : decode mX6_year.2.1 31 = .ok (.getfield 153, 3) := by decide +kernel
theorem dX6_year_34 : decode mX6_year.2.1 34 = .ok (.iconst 1, 1) := by decide +kernel
theorem dX6_year_35 : decode mX6_year.2.1 35 = .ok (.iadd, 1) := by decide +kernel
theorem dX6_year_36 : decode mX6_year.2.1 36 = .ok (.putfield 153, 3) := by decide +kernel
theorem dX6_year_39 : decode mX6_year.2.1 39 = .ok (.aload_n 0, 1) := by decide +kernel
theorem dX6_year_40 : decode mX6_year.2.1 40 = .ok (.getfield 40, 3) := by decide +kernel
theorem dX6_year_43 : decode mX6_year.2.1 43 = .ok (.getfield 153, 3) := by decide +kernel
theorem dX6_year_46 : decode mX6_year.2.1 46 = .ok (.ireturn, 1) := by decide +kernel
theorem dX6_undo_0 : decode mX6_undo.2.1 0 = .ok (.aload_n 0, 1) := by decide +kernel
theorem dX6_undo_1 : decode mX6_undo.2.1 1 = .ok (.getfield 51, 3) := by decide +kernel
theorem dX6_undo_4 : decode mX6_undo.2.1 4 = .ok (.getfield 160, 3) := by decide +kernel
theorem dX6_undo_7 : decode mX6_undo.2.1 7 = .ok (.ifCond .ne 6, 3) := by decide +kernel
theorem dX6_undo_10 : decode mX6_undo.2.1 10 = .ok (.bipush (-2), 2) := by decide +kernel
theorem dX6_undo_12 : decode mX6_undo.2.1 12 = .ok (.ireturn, 1) := by decide +kernel
theorem dX6_undo_13 : decode mX6_undo.2.1 13 = .ok (.aload_n 0, 1) := by decide +kernel
theorem dX6_undo_14 : decode mX6_undo.2.1 14 = .ok (.getfield 51, 3) := by decide +kernel
theorem dX6_undo_17 : decode mX6_undo.2.1 17 = .ok (.aload_n 0, 1) := by decide +kernel
theorem dX6_undo_18 : decode mX6_undo.2.1 18 = .ok (.getfield 40, 3) := by decide +kernel
theorem dX6_undo_21 : decode mX6_undo.2.1 21 = .ok (.invokevirtual 186, 3) := by decide +kernel
theorem dX6_undo_24 : decode mX6_undo.2.1 24 = .ok (.aload_n 0, 1) := by decide +kernel
theorem dX6_undo_25 : decode mX6_undo.2.1 25 = .ok (.getfield 51, 3) := by decide +kernel
theorem dX6_undo_28 : decode mX6_undo.2.1 28 = .ok (.getfield 160, 3) := by decide +kernel
theorem dX6_undo_31 : decode mX6_undo.2.1 31 = .ok (.ireturn, 1) := by decide +kernel
theorem dX6_order_0 : decode mX6_order.2.1 0 = .ok (.iload_n 1, 1) := by decide +kernel
theorem dX6_order_1 : decode mX6_order.2.1 1 = .ok (.iconst (-1), 1) := by decide +kernel
theorem dX6_order_2 : decode mX6_order.2.1 2 = .ok (.iconst 5, 1) := by decide +kernel
theorem dX6_order_3 : decode mX6_order.2.1 3 = .ok (.invokestatic 71, 3) := by decide +kernel
theorem dX6_order_6 : decode mX6_order.2.1 6 = .ok (.ifCond .ne 5, 3) := by decide +kernel
theorem dX6_order_9 : decode mX6_order.2.1 9 = .ok (.iconst (-1), 1) := by decide +kernel
theorem dX6_order_10 : decode mX6_order.2.1 10 = .ok (.ireturn, 1) := by decide +kernel
theorem dX6_order_11 : decode mX6_order.2.1 11 = .ok (.iconst 0, 1) := by decide +kernel
theorem dX6_order_12 : decode mX6_order.2.1 12 = .ok (.istore_n 2, 1) := by decide +kernel
theorem dX6_order_13 : decode mX6_order.2.1 13 = .ok (.iload_n 2, 1) := by decide +kernel
theorem dX6_order_14 : decode mX6_order.2.1 14 = .ok (.aload_n 0, 1) := by decide +kernel
theorem dX6_order_15 : decode mX6_order.2.1 15 = .ok (.getfield 30, 3) := by decide +kernel
theorem dX6_order_18 : decode mX6_order.2.1 18 = .ok (.getfield 189, 3) := by decide +kernel
theorem dX6_order_21 : decode mX6_order.2.1 21 = .ok (.if_icmp .ge 22, 3) := by decide +kernel
theorem dX6_order_24 : decode mX6_order.2.1 24 = .ok (.aload_n 0, 1) := by decide +kernel
theorem dX6_order_25 : decode mX6_order.2.1 25 = .ok (.getfield 55, 3) := by decide +kernel
theorem dX6_order_28 : decode mX6_order.2.1 28 = .ok (.iload_n 2, 1) := by decide +kernel
theorem dX6_order_29 : decode mX6_order.2.1 29 = .ok (.aload_n 0, 1) := by decide +kernel
theorem dX6_order_30 : decode mX6_order.2.1 30 = .ok (.iload_n 2, 1) := by decide +kernel
theorem dX6_order_31 : decode mX6_order.2.1 31 = .ok (.invokevirtual 192, 3) := by decide +kernel
theorem dX6_order_34 : decode mX6_order.2.1 34 = .ok (.invokevirtual 79, 3) := by decide +kernel
theorem dX6_order_37 : decode mX6_order.2.1 37 = .ok (.iinc 2 1, 3) := by decide +kernel
theorem dX6_order_40 : decode mX6_order.2.1 40 = .ok (.goto (-27), 3) := by decide +kernel
theorem dX6_order_43 : decode mX6_order.2.1 43 = .ok (.aload_n 0, 1) := by decide +kernel
theorem dX6_order_44 : decode mX6_order.2.1 44 = .ok (.getfield 30, 3) := by decide +kernel
theorem dX6_order_47 : decode mX6_order.2.1 47 = .ok (.getfield 189, 3) := by decide +kernel
theorem dX6_order_50 : decode mX6_order.2.1 50 = .ok (.invokestatic 195, 3) := by decide +kernel
theorem dX6_order_53 : decode mX6_order.2.1 53 = .ok (.aload_n 0, 1) := by decide +kernel
theorem dX6_order_54 : decode mX6_order.2.1 54 = .ok (.invokevirtual 156, 3) := by decide +kernel
theorem dX6_order_57 : decode mX6_order.2.1 57 = .ok (.iconst (-1), 1) := by decide +kernel
theorem dX6_order_58 : decode mX6_order.2.1 58 = .ok (.ixor, 1) := by decide +kernel
theorem dX6_order_59 : decode mX6_order.2.1 59 = .ok (.iand, 1) := by decide +kernel
theorem dX6_order_60 : decode mX6_order.2.1 60 = .ok (.istore_n 2, 1) := by decide +kernel
theorem dX6_order_61 : decode mX6_order.2.1 61 = .ok (.iload_n 1, 1) := by decide +kernel
theorem dX6_order_62 : decode mX6_order.2.1 62 = .ok (.ifCond .ge 24, 3) := by decide +kernel
theorem dX6_order_65 : decode mX6_order.2.1 65 = .ok (.aload_n 0, 1) := by decide +kernel
theorem dX6_order_66 : decode mX6_order.2.1 66 = .ok (.iload_n 2, 1) := by decide +kernel
theorem dX6_order_67 : decode mX6_order.2.1 67 = .ok (.aload_n 0, 1) := by decide +kernel
theorem dX6_order_68 : decode mX6_order.2.1 68 = .ok (.getfield 40, 3) := by decide +kernel
theorem dX6_order_71 : decode mX6_order.2.1 71 = .ok (.getfield 147, 3) := by decide +kernel
theorem dX6_order_74 : decode mX6_order.2.1 74 = .ok (.aload_n 0, 1) := by decide +kernel
theorem dX6_order_75 : decode mX6_order.2.1 75 = .ok (.getfield 40, 3) := by decide +kernel
theorem dX6_order_78 : decode mX6_order.2.1 78 = .ok (.getfield 150, 3) := by decide +kernel
theorem dX6_order_81 : decode mX6_order.2.1 81 = .ok (.iconst 0, 1) := by decide +kernel
theorem dX6_order_82 : decode mX6_order.2.1 82 = .ok (.invokevirtual 198, 3) := by decide +kernel
theorem dX6_order_85 : decode mX6_order.2.1 85 = .ok (.ireturn, 1) := by decide +kernel
theorem dX6_order_86 : decode mX6_order.2.1 86 = .ok (.aload_n 0, 1) := by decide +kernel
theorem dX6_order_87 : decode mX6_order.2.1 87 = .ok (.iload_n 1, 1) := by decide +kernel
theorem dX6_order_88 : decode mX6_order.2.1 88 = .ok (.iload_n 2, 1) := by decide +kernel
theorem dX6_order_89 : decode mX6_order.2.1 89 = .ok (.invokevirtual 202, 3) := by decide +kernel
theorem dX6_order_92 : decode mX6_order.2.1 92 = .ok (.ireturn, 1) := by decide +kernel
theorem dX6_tells_0 : decode mX6_tells.2.1 0 = .ok (.iload_n 1, 1) := by decide +kernel
theorem dX6_tells_1 : decode mX6_tells.2.1 1 = .ok (.iconst 1, 1) := by decide +kernel
theorem dX6_tells_2 : decode mX6_tells.2.1 2 = .ok (.bipush 40, 2) := by decide +kernel
theorem dX6_tells_4 : decode mX6_tells.2.1 4 = .ok (.invokestatic 71, 3) := by decide +kernel
theorem dX6_tells_7 : decode mX6_tells.2.1 7 = .ok (.ifCond .eq 13, 3) := by decide +kernel
theorem dX6_tells_10 : decode mX6_tells.2.1 10 = .ok (.iload_n 2, 1) := by decide +kernel
theorem dX6_tells_11 : decode mX6_tells.2.1 11 = .ok (.iconst 0, 1) := by decide +kernel
theorem dX6_tells_12 : decode mX6_tells.2.1 12 = .ok (.bipush 99, 2) := by decide +kernel
theorem dX6_tells_14 : decode mX6_tells.2.1 14 = .ok (.invokestatic 71, 3) := by decide +kernel
theorem dX6_tells_17 : decode mX6_tells.2.1 17 = .ok (.ifCond .ne 5, 3) := by decide +kernel
theorem dX6_tells_20 : decode mX6_tells.2.1 20 = .ok (.iconst (-1), 1) := by decide +kernel
theorem dX6_tells_21 : decode mX6_tells.2.1 21 = .ok (.ireturn, 1) := by decide +kernel
theorem dX6_tells_22 : decode mX6_tells.2.1 22 = .ok (.aload_n 0, 1) := by decide +kernel
theorem dX6_tells_23 : decode mX6_tells.2.1 23 = .ok (.getfield 93, 3) := by decide +kernel
theorem dX6_tells_26 : decode mX6_tells.2.1 26 = .ok (.bipush 6, 2) := by decide +kernel
theorem dX6_tells_28 : decode mX6_tells.2.1 28 = .ok (.if_icmp .lt 6, 3) := by decide +kernel
theorem dX6_tells_31 : decode mX6_tells.2.1 31 = .ok (.bipush (-3), 2) := by decide +kernel
theorem dX6_tells_33 : decode mX6_tells.2.1 33 = .ok (.ireturn, 1) := by decide +kernel
theorem dX6_tells_34 : decode mX6_tells.2.1 34 = .ok (.aload_n 0, 1) := by decide +kernel
theorem dX6_tells_35 : decode mX6_tells.2.1 35 = .ok (.getfield 65, 3) := by decide +kernel
theorem dX6_tells_38 : decode mX6_tells.2.1 38 = .ok (.aload_n 0, 1) := by decide +kernel
theorem dX6_tells_39 : decode mX6_tells.2.1 39 = .ok (.getfield 93, 3) := by decide +kernel
theorem dX6_tells_42 : decode mX6_tells.2.1 42 = .ok (.iload_n 1, 1) := by decide +kernel
theorem dX6_tells_43 : decode mX6_tells.2.1 43 = .ok (.invokevirtual 79, 3) := by decide +kernel
theorem dX6_tells_46 : decode mX6_tells.2.1 46 = .ok (.aload_n 0, 1) := by decide +kernel
theorem dX6_tells_47 : decode mX6_tells.2.1 47 = .ok (.getfield 68, 3) := by decide +kernel
theorem dX6_tells_50 : decode mX6_tells.2.1 50 = .ok (.aload_n 0, 1) := by decide +kernel
theorem dX6_tells_51 : decode mX6_tells.2.1 51 = .ok (.getfield 93, 3) := by decide +kernel
theorem dX6_tells_54 : decode mX6_tells.2.1 54 = .ok (.iload_n 2, 1) := by decide +kernel
theorem dX6_tells_55 : decode mX6_tells.2.1 55 = .ok (.invokevirtual 79, 3) := by decide +kernel
theorem dX6_tells_58 : decode mX6_tells.2.1 58 = .ok (.aload_n 0, 1) := by decide +kernel
theorem dX6_tells_59 : decode mX6_tells.2.1 59 = .ok (.dup, 1) := by decide +kernel
theorem dX6_tells_60 : decode mX6_tells.2.1 60 = .ok (.getfield 93, 3) := by decide +kernel
theorem dX6_tells_63 : decode mX6_tells.2.1 63 = .ok (.iconst 1, 1) := by decide +kernel
theorem dX6_tells_64 : decode mX6_tells.2.1 64 = .ok (.iadd, 1) := by decide +kernel
theorem dX6_tells_65 : decode mX6_tells.2.1 65 = .ok (.putfield 93, 3) := by decide +kernel
theorem dX6_tells_68 : decode mX6_tells.2.1 68 = .ok (.aload_n 0, 1) := by decide +kernel
theorem dX6_tells_69 : decode mX6_tells.2.1 69 = .ok (.getfield 93, 3) := by decide +kernel
theorem dX6_tells_72 : decode mX6_tells.2.1 72 = .ok (.ireturn, 1) := by decide +kernel
theorem dX6_forget_0 : decode mX6_forget.2.1 0 = .ok (.aload_n 0, 1) := by decide +kernel
theorem dX6_forget_1 : decode mX6_forget.2.1 1 = .ok (.getfield 93, 3) := by decide +kernel
theorem dX6_forget_4 : decode mX6_forget.2.1 4 = .ok (.istore_n 1, 1) := by decide +kernel
theorem dX6_forget_5 : decode mX6_forget.2.1 5 = .ok (.aload_n 0, 1) := by decide +kernel
theorem dX6_forget_6 : decode mX6_forget.2.1 6 = .ok (.iconst 0, 1) := by decide +kernel
theorem dX6_forget_7 : decode mX6_forget.2.1 7 = .ok (.putfield 93, 3) := by decide +kernel
theorem dX6_forget_10 : decode mX6_forget.2.1 10 = .ok (.iload_n 1, 1) := by decide +kernel
theorem dX6_forget_11 : decode mX6_forget.2.1 11 = .ok (.ireturn, 1) := by decide +kernel
theorem dX6_can_0 : decode mX6_can.2.1 0 = .ok (.iload_n 1, 1) := by decide +kernel
theorem dX6_can_1 : decode mX6_can.2.1 1 = .ok (.tableswitch 43 0 2 #[27, 33, 38], 27) := by decide +kernel
theorem dX6_can_28 : decode mX6_can.2.1 28 = .ok (.aload_n 0, 1) := by decide +kernel
theorem dX6_can_29 : decode mX6_can.2.1 29 = .ok (.iconst 0, 1) := by decide +kernel
theorem dX6_can_30 : decode mX6_can.2.1 30 = .ok (.invokevirtual 205, 3) := by decide +kernel
theorem dX6_can_33 : decode mX6_can.2.1 33 = .ok (.ireturn, 1) := by decide +kernel
theorem dX6_can_34 : decode mX6_can.2.1 34 = .ok (.aload_n 0, 1) := by decide +kernel
theorem dX6_can_35 : decode mX6_can.2.1 35 = .ok (.invokevirtual 208, 3) := by decide +kernel
theorem dX6_can_38 : decode mX6_can.2.1 38 = .ok (.ireturn, 1) := by decide +kernel
theorem dX6_can_39 : decode mX6_can.2.1 39 = .ok (.aload_n 0, 1) := by decide +kernel
theorem dX6_can_40 : decode mX6_can.2.1 40 = .ok (.invokevirtual 211, 3) := by decide +kernel
theorem dX6_can_43 : decode mX6_can.2.1 43 = .ok (.ireturn, 1) := by decide +kernel
theorem dX6_can_44 : decode mX6_can.2.1 44 = .ok (.iconst (-1), 1) := by decide +kernel
theorem dX6_can_45 : decode mX6_can.2.1 45 = .ok (.ireturn, 1) := by decide +kernel
theorem dX6_ask_0 : decode mX6_ask.2.1 0 = .ok (.aload_n 0, 1) := by decide +kernel
theorem dX6_ask_1 : decode mX6_ask.2.1 1 = .ok (.iconst 0, 1) := by decide +kernel
theorem dX6_ask_2 : decode mX6_ask.2.1 2 = .ok (.invokevirtual 205, 3) := by decide +kernel
theorem dX6_ask_5 : decode mX6_ask.2.1 5 = .ok (.istore_n 1, 1) := by decide +kernel
theorem dX6_ask_6 : decode mX6_ask.2.1 6 = .ok (.iload_n 1, 1) := by decide +kernel
theorem dX6_ask_7 : decode mX6_ask.2.1 7 = .ok (.iconst 1, 1) := by decide +kernel
theorem dX6_ask_8 : decode mX6_ask.2.1 8 = .ok (.if_icmp .gt 6, 3) := by decide +kernel
theorem dX6_ask_11 : decode mX6_ask.2.1 11 = .ok (.bipush (-9), 2) := by decide +kernel
theorem dX6_ask_13 : decode mX6_ask.2.1 13 = .ok (.ireturn, 1) := by decide +kernel
theorem dX6_ask_14 : decode mX6_ask.2.1 14 = .ok (.bipush (-9), 2) := by decide +kernel
theorem dX6_ask_16 : decode mX6_ask.2.1 16 = .ok (.istore_n 2, 1) := by decide +kernel
theorem dX6_ask_17 : decode mX6_ask.2.1 17 = .ok (.iload_n 1, 1) := by decide +kernel
theorem dX6_ask_18 : decode mX6_ask.2.1 18 = .ok (.iconst 1, 1) := by decide +kernel
theorem dX6_ask_19 : decode mX6_ask.2.1 19 = .ok (.iadd, 1) := by decide +kernel
theorem dX6_ask_20 : decode mX6_ask.2.1 20 = .ok (.istore_n 3, 1) := by decide +kernel
theorem dX6_ask_21 : decode mX6_ask.2.1 21 = .ok (.iconst 0, 1) := by decide +kernel
theorem dX6_ask_22 : decode mX6_ask.2.1 22 = .ok (.istore 4, 2) := by decide +kernel
theorem dX6_ask_24 : decode mX6_ask.2.1 24 = .ok (.iload 4, 2) := by decide +kernel
theorem dX6_ask_26 : decode mX6_ask.2.1 26 = .ok (.aload_n 0, 1) := by decide +kernel
theorem dX6_ask_27 : decode mX6_ask.2.1 27 = .ok (.getfield 30, 3) := by decide +kernel
theorem dX6_ask_30 : decode mX6_ask.2.1 30 = .ok (.getfield 214, 3) := by decide +kernel
theorem dX6_ask_33 : decode mX6_ask.2.1 33 = .ok (.if_icmp .ge 43, 3) := by decide +kernel
theorem dX6_ask_36 : decode mX6_ask.2.1 36 = .ok (.aload_n 0, 1) := by decide +kernel
theorem dX6_ask_37 : decode mX6_ask.2.1 37 = .ok (.iload 4, 2) := by decide +kernel
theorem dX6_ask_39 : decode mX6_ask.2.1 39 = .ok (.invokestatic 178, 3) := by decide +kernel
theorem dX6_ask_42 : decode mX6_ask.2.1 42 = .ok (.invokevirtual 205, 3) := by decide +kernel
theorem dX6_ask_45 : decode mX6_ask.2.1 45 = .ok (.istore 5, 2) := by decide +kernel
theorem dX6_ask_47 : decode mX6_ask.2.1 47 = .ok (.iload 5, 2) := by decide +kernel
theorem dX6_ask_49 : decode mX6_ask.2.1 49 = .ok (.iload_n 1, 1) := by decide +kernel
theorem dX6_ask_50 : decode mX6_ask.2.1 50 = .ok (.iload 5, 2) := by decide +kernel
theorem dX6_ask_52 : decode mX6_ask.2.1 52 = .ok (.isub, 1) := by decide +kernel
theorem dX6_ask_53 : decode mX6_ask.2.1 53 = .ok (.invokestatic 217, 3) := by decide +kernel
theorem dX6_ask_56 : decode mX6_ask.2.1 56 = .ok (.istore 6, 2) := by decide +kernel
theorem dX6_ask_58 : decode mX6_ask.2.1 58 = .ok (.iload 6, 2) := by decide +kernel
theorem dX6_ask_60 : decode mX6_ask.2.1 60 = .ok (.iload_n 3, 1) := by decide +kernel
theorem dX6_ask_61 : decode mX6_ask.2.1 61 = .ok (.if_icmp .ge 9, 3) := by decide +kernel
theorem dX6_ask_64 : decode mX6_ask.2.1 64 = .ok (.iload 6, 2) := by decide +kernel
theorem dX6_ask_66 : decode mX6_ask.2.1 66 = .ok (.istore_n 3, 1) := by decide +kernel
theorem dX6_ask_67 : decode mX6_ask.2.1 67 = .ok (.iload 4, 2) := by decide +kernel
theorem dX6_ask_69 : decode mX6_ask.2.1 69 = .ok (.istore_n 2, 1) := by decide +kernel
theorem dX6_ask_70 : decode mX6_ask.2.1 70 = .ok (.iinc 4 1, 3) := by decide +kernel
theorem dX6_ask_73 : decode mX6_ask.2.1 73 = .ok (.goto (-49), 3) := by decide +kernel
theorem dX6_ask_76 : decode mX6_ask.2.1 76 = .ok (.iload_n 2, 1) := by decide +kernel
theorem dX6_ask_77 : decode mX6_ask.2.1 77 = .ok (.ireturn, 1) := by decide +kernel
theorem dX6_life_0 : decode mX6_life.2.1 0 = .ok (.aload_n 0, 1) := by decide +kernel
theorem dX6_life_1 : decode mX6_life.2.1 1 = .ok (.getfield 30, 3) := by decide +kernel
theorem dX6_life_4 : decode mX6_life.2.1 4 = .ok (.iload_n 1, 1) := by decide +kernel
theorem dX6_life_5 : decode mX6_life.2.1 5 = .ok (.invokevirtual 114, 3) := by decide +kernel
theorem dX6_life_8 : decode mX6_life.2.1 8 = .ok (.ifCond .eq 14, 3) := by decide +kernel
theorem dX6_life_11 : decode mX6_life.2.1 11 = .ok (.iload_n 2, 1) := by decide +kernel
theorem dX6_life_12 : decode mX6_life.2.1 12 = .ok (.bipush (-99), 2) := by decide +kernel
theorem dX6_life_14 : decode mX6_life.2.1 14 = .ok (.bipush 99, 2) := by decide +kernel
theorem dX6_life_16 : decode mX6_life.2.1 16 = .ok (.invokestatic 71, 3) := by decide +kernel
theorem dX6_life_19 : decode mX6_life.2.1 19 = .ok (.ifCond .ne 5, 3) := by decide +kernel
theorem dX6_life_22 : decode mX6_life.2.1 22 = .ok (.iconst (-1), 1) := by decide +kernel
theorem dX6_life_23 : decode mX6_life.2.1 23 = .ok (.ireturn, 1) := by decide +kernel
theorem dX6_life_24 : decode mX6_life.2.1 24 = .ok (.aload_n 0, 1) := by decide +kernel
theorem dX6_life_25 : decode mX6_life.2.1 25 = .ok (.getfield 40, 3) := by decide +kernel
theorem dX6_life_28 : decode mX6_life.2.1 28 = .ok (.getfield 123, 3) := by decide +kernel
theorem dX6_life_31 : decode mX6_life.2.1 31 = .ok (.iload_n 1, 1) := by decide +kernel
theorem dX6_life_32 : decode mX6_life.2.1 32 = .ok (.invokevirtual 107, 3) := by decide +kernel
theorem dX6_life_35 : decode mX6_life.2.1 35 = .ok (.istore_n 3, 1) := by decide +kernel
theorem dX6_life_36 : decode mX6_life.2.1 36 = .ok (.bipush (-9), 2) := by decide +kernel
theorem dX6_life_38 : decode mX6_life.2.1 38 = .ok (.istore 4, 2) := by decide +kernel
theorem dX6_life_40 : decode mX6_life.2.1 40 = .ok (.bipush 7, 2) := by decide +kernel
theorem dX6_life_42 : decode mX6_life.2.1 42 = .ok (.istore 5, 2) := by decide +kernel
theorem dX6_life_44 : decode mX6_life.2.1 44 = .ok (.iconst 0, 1) := by decide +kernel
theorem dX6_life_45 : decode mX6_life.2.1 45 = .ok (.istore 6, 2) := by decide +kernel
theorem dX6_life_47 : decode mX6_life.2.1 47 = .ok (.iload 6, 2) := by decide +kernel
theorem dX6_life_49 : decode mX6_life.2.1 49 = .ok (.aload_n 0, 1) := by decide +kernel
theorem dX6_life_50 : decode mX6_life.2.1 50 = .ok (.getfield 30, 3) := by decide +kernel
theorem dX6_life_53 : decode mX6_life.2.1 53 = .ok (.getfield 214, 3) := by decide +kernel
theorem dX6_life_56 : decode mX6_life.2.1 56 = .ok (.invokestatic 195, 3) := by decide +kernel
theorem dX6_life_59 : decode mX6_life.2.1 59 = .ok (.if_icmp .gt 67, 3) := by decide +kernel
theorem dX6_life_62 : decode mX6_life.2.1 62 = .ok (.iload 6, 2) := by decide +kernel
theorem dX6_life_64 : decode mX6_life.2.1 64 = .ok (.iload_n 3, 1) := by decide +kernel
theorem dX6_life_65 : decode mX6_life.2.1 65 = .ok (.iand, 1) := by decide +kernel
theorem dX6_life_66 : decode mX6_life.2.1 66 = .ok (.ifCond .ne 25, 3) := by decide +kernel
theorem dX6_life_69 : decode mX6_life.2.1 69 = .ok (.aload_n 0, 1) := by decide +kernel
theorem dX6_life_70 : decode mX6_life.2.1 70 = .ok (.getfield 30, 3) := by decide +kernel
theorem dX6_life_73 : decode mX6_life.2.1 73 = .ok (.getfield 104, 3) := by decide +kernel
theorem dX6_life_76 : decode mX6_life.2.1 76 = .ok (.iload 6, 2) := by decide +kernel
theorem dX6_life_78 : decode mX6_life.2.1 78 = .ok (.iload_n 3, 1) := by decide +kernel
theorem dX6_life_79 : decode mX6_life.2.1 79 = .ok (.ior, 1) := by decide +kernel
theorem dX6_life_80 : decode mX6_life.2.1 80 = .ok (.invokevirtual 126, 3) := by decide +kernel
theorem dX6_life_83 : decode mX6_life.2.1 83 = .ok (.iload_n 2, 1) := by decide +kernel
theorem dX6_life_84 : decode mX6_life.2.1 84 = .ok (.if_icmp .gt 7, 3) := by decide +kernel
theorem dX6_life_87 : decode mX6_life.2.1 87 = .ok (.iconst 1, 1) := by decide +kernel
theorem dX6_life_88 : decode mX6_life.2.1 88 = .ok (.goto 4, 3) := by decide +kernel
theorem dX6_life_91 : decode mX6_life.2.1 91 = .ok (.iconst 0, 1) := by decide +kernel
theorem dX6_life_92 : decode mX6_life.2.1 92 = .ok (.istore 7, 2) := by decide +kernel
theorem dX6_life_94 : decode mX6_life.2.1 94 = .ok (.iload 7, 2) := by decide +kernel
theorem dX6_life_96 : decode mX6_life.2.1 96 = .ok (.ifCond .eq 24, 3) := by decide +kernel
theorem dX6_life_99 : decode mX6_life.2.1 99 = .ok (.iload 6, 2) := by decide +kernel
theorem dX6_life_101 : decode mX6_life.2.1 101 = .ok (.invokestatic 181, 3) := by decide +kernel
theorem dX6_life_104 : decode mX6_life.2.1 104 = .ok (.iload 5, 2) := by decide +kernel
theorem dX6_life_106 : decode mX6_life.2.1 106 = .ok (.if_icmp .ge 14, 3) := by decide +kernel
theorem dX6_life_109 : decode mX6_life.2.1 109 = .ok (.iload 6, 2) := by decide +kernel
theorem dX6_life_111 : decode mX6_life.2.1 111 = .ok (.invokestatic 181, 3) := by decide +kernel
theorem dX6_life_114 : decode mX6_life.2.1 114 = .ok (.istore 5, 2) := by decide +kernel
theorem dX6_life_116 : decode mX6_life.2.1 116 = .ok (.iload 6, 2) := by decide +kernel
theorem dX6_life_118 : decode mX6_life.2.1 118 = .ok (.istore 4, 2) := by decide +kernel
theorem dX6_life_120 : decode mX6_life.2.1 120 = .ok (.iinc 6 1, 3) := by decide +kernel
theorem dX6_life_123 : decode mX6_life.2.1 123 = .ok (.goto (-76), 3) := by decide +kernel
theorem dX6_life_126 : decode mX6_life.2.1 126 = .ok (.iload 4, 2) := by decide +kernel
theorem dX6_life_128 : decode mX6_life.2.1 128 = .ok (.ireturn, 1) := by decide +kernel
theorem dX6_carry_0 : decode mX6_carry.2.1 0 = .ok (.iload_n 1, 1) := by decide +kernel
theorem dX6_carry_1 : decode mX6_carry.2.1 1 = .ok (.iconst 1, 1) := by decide +kernel
theorem dX6_carry_2 : decode mX6_carry.2.1 2 = .ok (.sipush 240, 3) := by decide +kernel
theorem dX6_carry_5 : decode mX6_carry.2.1 5 = .ok (.invokestatic 71, 3) := by decide +kernel
theorem dX6_carry_8 : decode mX6_carry.2.1 8 = .ok (.ifCond .eq 12, 3) := by decide +kernel
theorem dX6_carry_11 : decode mX6_carry.2.1 11 = .ok (.iload_n 2, 1) := by decide +kernel
theorem dX6_carry_12 : decode mX6_carry.2.1 12 = .ok (.iconst 0, 1) := by decide +kernel
theorem dX6_carry_13 : decode mX6_carry.2.1 13 = .ok (.iconst 2, 1) := by decide +kernel
theorem dX6_carry_14 : decode mX6_carry.2.1 14 = .ok (.invokestatic 71, 3) := by decide +kernel
theorem dX6_carry_17 : decode mX6_carry.2.1 17 = .ok (.ifCond .ne 5, 3) := by decide +kernel
theorem dX6_carry_20 : decode mX6_carry.2.1 20 = .ok (.iconst (-1), 1) := by decide +kernel
theorem dX6_carry_21 : decode mX6_carry.2.1 21 = .ok (.ireturn, 1) := by decide +kernel
theorem dX6_carry_22 : decode mX6_carry.2.1 22 = .ok (.aload_n 0, 1) := by decide +kernel
theorem dX6_carry_23 : decode mX6_carry.2.1 23 = .ok (.iload_n 1, 1) := by decide +kernel
theorem dX6_carry_24 : decode mX6_carry.2.1 24 = .ok (.invokevirtual 222, 3) := by decide +kernel
theorem dX6_carry_27 : decode mX6_carry.2.1 27 = .ok (.istore_n 3, 1) := by decide +kernel
theorem dX6_carry_28 : decode mX6_carry.2.1 28 = .ok (.iload_n 3, 1) := by decide +kernel
theorem dX6_carry_29 : decode mX6_carry.2.1 29 = .ok (.bipush (-9), 2) := by decide +kernel
theorem dX6_carry_31 : decode mX6_carry.2.1 31 = .ok (.if_icmp .ne 6, 3) := by decide +kernel
theorem dX6_carry_34 : decode mX6_carry.2.1 34 = .ok (.bipush (-9), 2) := by decide +kernel
theorem dX6_carry_36 : decode mX6_carry.2.1 36 = .ok (.ireturn, 1) := by decide +kernel
theorem dX6_carry_37 : decode mX6_carry.2.1 37 = .ok (.iload_n 2, 1) := by decide +kernel
theorem dX6_carry_38 : decode mX6_carry.2.1 38 = .ok (.lookupswitch 36 #[(0, 26), (1, 31)], 26) := by decide +kernel
theorem dX6_carry_64 : decode mX6_carry.2.1 64 = .ok (.iload_n 3, 1) := by decide +kernel
theorem dX6_carry_65 : decode mX6_carry.2.1 65 = .ok (.invokestatic 225, 3) := by decide +kernel
theorem dX6_carry_68 : decode mX6_carry.2.1 68 = .ok (.ireturn, 1) := by decide +kernel
theorem dX6_carry_69 : decode mX6_carry.2.1 69 = .ok (.iload_n 3, 1) := by decide +kernel
theorem dX6_carry_70 : decode mX6_carry.2.1 70 = .ok (.invokestatic 228, 3) := by decide +kernel
theorem dX6_carry_73 : decode mX6_carry.2.1 73 = .ok (.ireturn, 1) := by decide +kernel
theorem dX6_carry_74 : decode mX6_carry.2.1 74 = .ok (.aload_n 0, 1) := by decide +kernel
theorem dX6_carry_75 : decode mX6_carry.2.1 75 = .ok (.iload_n 3, 1) := by decide +kernel
theorem dX6_carry_76 : decode mX6_carry.2.1 76 = .ok (.invokevirtual 231, 3) := by decide +kernel
theorem dX6_carry_79 : decode mX6_carry.2.1 79 = .ok (.ireturn, 1) := by decide +kernel
theorem dX6_odds_0 : decode mX6_odds.2.1 0 = .ok (.iload_n 1, 1) := by decide +kernel
theorem dX6_odds_1 : decode mX6_odds.2.1 1 = .ok (.iconst 0, 1) := by decide +kernel
theorem dX6_odds_2 : decode mX6_odds.2.1 2 = .ok (.bipush 10, 2) := by decide +kernel
theorem dX6_odds_4 : decode mX6_odds.2.1 4 = .ok (.invokestatic 71, 3) := by decide +kernel
theorem dX6_odds_7 : decode mX6_odds.2.1 7 = .ok (.ifCond .eq 22, 3) := by decide +kernel
theorem dX6_odds_10 : decode mX6_odds.2.1 10 = .ok (.iload_n 2, 1) := by decide +kernel
theorem dX6_odds_11 : decode mX6_odds.2.1 11 = .ok (.iconst 0, 1) := by decide +kernel
theorem dX6_odds_12 : decode mX6_odds.2.1 12 = .ok (.bipush 6, 2) := by decide +kernel
theorem dX6_odds_14 : decode mX6_odds.2.1 14 = .ok (.invokestatic 71, 3) := by decide +kernel
theorem dX6_odds_17 : decode mX6_odds.2.1 17 = .ok (.ifCond .eq 12, 3) := by decide +kernel
theorem dX6_odds_20 : decode mX6_odds.2.1 20 = .ok (.iload_n 3, 1) := by decide +kernel
theorem dX6_odds_21 : decode mX6_odds.2.1 21 = .ok (.iconst 0, 1) := by decide +kernel
theorem dX6_odds_22 : decode mX6_odds.2.1 22 = .ok (.iconst 1, 1) := by decide +kernel
theorem dX6_odds_23 : decode mX6_odds.2.1 23 = .ok (.invokestatic 71, 3) := by decide +kernel
theorem dX6_odds_26 : decode mX6_odds.2.1 26 = .ok (.ifCond .ne 5, 3) := by decide +kernel
theorem dX6_odds_29 : decode mX6_odds.2.1 29 = .ok (.iconst (-1), 1) := by decide +kernel
theorem dX6_odds_30 : decode mX6_odds.2.1 30 = .ok (.ireturn, 1) := by decide +kernel
theorem dX6_odds_31 : decode mX6_odds.2.1 31 = .ok (.aload_n 0, 1) := by decide +kernel
theorem dX6_odds_32 : decode mX6_odds.2.1 32 = .ok (.iload_n 1, 1) := by decide +kernel
theorem dX6_odds_33 : decode mX6_odds.2.1 33 = .ok (.iload_n 2, 1) := by decide +kernel
theorem dX6_odds_34 : decode mX6_odds.2.1 34 = .ok (.invokevirtual 234, 3) := by decide +kernel
theorem dX6_odds_37 : decode mX6_odds.2.1 37 = .ok (.istore 4, 2) := by decide +kernel
theorem dX6_odds_39 : decode mX6_odds.2.1 39 = .ok (.bipush 10, 2) := by decide +kernel
theorem dX6_odds_41 : decode mX6_odds.2.1 41 = .ok (.aload_n 0, 1) := by decide +kernel
theorem dX6_odds_42 : decode mX6_odds.2.1 42 = .ok (.getfield 30, 3) := by decide +kernel
theorem dX6_odds_45 : decode mX6_odds.2.1 45 = .ok (.getfield 237, 3) := by decide +kernel
theorem dX6_odds_48 : decode mX6_odds.2.1 48 = .ok (.invokestatic 240, 3) := by decide +kernel
theorem dX6_odds_51 : decode mX6_odds.2.1 51 = .ok (.istore 5, 2) := by decide +kernel
theorem dX6_odds_53 : decode mX6_odds.2.1 53 = .ok (.iload 4, 2) := by decide +kernel
theorem dX6_odds_55 : decode mX6_odds.2.1 55 = .ok (.iload 5, 2) := by decide +kernel
theorem dX6_odds_57 : decode mX6_odds.2.1 57 = .ok (.invokestatic 243, 3) := by decide +kernel
theorem dX6_odds_60 : decode mX6_odds.2.1 60 = .ok (.istore 6, 2) := by decide +kernel
theorem dX6_odds_62 : decode mX6_odds.2.1 62 = .ok (.iload_n 3, 1) := by decide +kernel
theorem dX6_odds_63 : decode mX6_odds.2.1 63 = .ok (.ifCond .ne 8, 3) := by decide +kernel
theorem dX6_odds_66 : decode mX6_odds.2.1 66 = .ok (.iload 4, 2) := by decide +kernel
theorem dX6_odds_68 : decode mX6_odds.2.1 68 = .ok (.goto 5, 3) := by decide +kernel
theorem dX6_odds_71 : decode mX6_odds.2.1 71 = .ok (.iload 5, 2) := by decide +kernel
theorem dX6_odds_73 : decode mX6_odds.2.1 73 = .ok (.iload 6, 2) := by decide +kernel
theorem dX6_odds_75 : decode mX6_odds.2.1 75 = .ok (.idiv, 1) := by decide +kernel
theorem dX6_odds_76 : decode mX6_odds.2.1 76 = .ok (.ireturn, 1) := by decide +kernel
theorem dX6_rate_0 : decode mX6_rate.2.1 0 = .ok (.aload_n 0, 1) := by decide +kernel
theorem dX6_rate_1 : decode mX6_rate.2.1 1 = .ok (.getfield 30, 3) := by decide +kernel
theorem dX6_rate_4 : decode mX6_rate.2.1 4 = .ok (.iload_n 2, 1) := by decide +kernel
theorem dX6_rate_5 : decode mX6_rate.2.1 5 = .ok (.invokevirtual 99, 3) := by decide +kernel
theorem dX6_rate_8 : decode mX6_rate.2.1 8 = .ok (.ifCond .ne 6, 3) := by decide +kernel
theorem dX6_rate_11 : decode mX6_rate.2.1 11 = .ok (.ldc 103, 2) := by decide +kernel
theorem dX6_rate_13 : decode mX6_rate.2.1 13 = .ok (.ireturn, 1) := by decide +kernel
theorem dX6_rate_14 : decode mX6_rate.2.1 14 = .ok (.iload_n 1, 1) := by decide +kernel
theorem dX6_rate_15 : decode mX6_rate.2.1 15 = .ok (.tableswitch 73 0 5 #[37, 43, 49, 55, 61, 67], 37) := by decide +kernel
theorem dX6_rate_52 : decode mX6_rate.2.1 52 = .ok (.aload_n 0, 1) := by decide +kernel
theorem dX6_rate_53 : decode mX6_rate.2.1 53 = .ok (.iload_n 2, 1) := by decide +kernel
theorem dX6_rate_54 : decode mX6_rate.2.1 54 = .ok (.invokevirtual 246, 3) := by decide +kernel
theorem dX6_rate_57 : decode mX6_rate.2.1 57 = .ok (.ireturn, 1) := by decide +kernel
theorem dX6_rate_58 : decode mX6_rate.2.1 58 = .ok (.aload_n 0, 1) := by decide +kernel
theorem dX6_rate_59 : decode mX6_rate.2.1 59 = .ok (.iload_n 2, 1) := by decide +kernel
theorem dX6_rate_60 : decode mX6_rate.2.1 60 = .ok (.invokevirtual 249, 3) := by decide +kernel
theorem dX6_rate_63 : decode mX6_rate.2.1 63 = .ok (.ireturn, 1) := by decide +kernel
theorem dX6_rate_64 : decode mX6_rate.2.1 64 = .ok (.aload_n 0, 1) := by decide +kernel
theorem dX6_rate_65 : decode mX6_rate.2.1 65 = .ok (.iload_n 2, 1) := by decide +kernel
theorem dX6_rate_66 : decode mX6_rate.2.1 66 = .ok (.invokevirtual 252, 3) := by decide +kernel
theorem dX6_rate_69 : decode mX6_rate.2.1 69 = .ok (.ireturn, 1) := by decide +kernel
theorem dX6_rate_70 : decode mX6_rate.2.1 70 = .ok (.aload_n 0, 1) := by decide +kernel
theorem dX6_rate_71 : decode mX6_rate.2.1 71 = .ok (.iload_n 2, 1) := by decide +kernel
theorem dX6_rate_72 : decode mX6_rate.2.1 72 = .ok (.invokevirtual 255, 3) := by decide +kernel
theorem dX6_rate_75 : decode mX6_rate.2.1 75 = .ok (.ireturn, 1) := by decide +kernel
theorem dX6_rate_76 : decode mX6_rate.2.1 76 = .ok (.aload_n 0, 1) := by decide +kernel
theorem dX6_rate_77 : decode mX6_rate.2.1 77 = .ok (.iload_n 2, 1) := by decide +kernel
theorem dX6_rate_78 : decode mX6_rate.2.1 78 = .ok (.invokevirtual 258, 3) := by decide +kernel
theorem dX6_rate_81 : decode mX6_rate.2.1 81 = .ok (.ireturn, 1) := by decide +kernel
theorem dX6_rate_82 : decode mX6_rate.2.1 82 = .ok (.aload_n 0, 1) := by decide +kernel
theorem dX6_rate_83 : decode mX6_rate.2.1 83 = .ok (.iload_n 2, 1) := by decide +kernel
theorem dX6_rate_84 : decode mX6_rate.2.1 84 = .ok (.invokevirtual 261, 3) := by decide +kernel
theorem dX6_rate_87 : decode mX6_rate.2.1 87 = .ok (.ireturn, 1) := by decide +kernel
theorem dX6_rate_88 : decode mX6_rate.2.1 88 = .ok (.ldc 103, 2) := by decide +kernel
theorem dX6_rate_90 : decode mX6_rate.2.1 90 = .ok (.ireturn, 1) := by decide +kernel
theorem dX6_keep_0 : decode mX6_keep.2.1 0 = .ok (.iload_n 1, 1) := by decide +kernel
theorem dX6_keep_1 : decode mX6_keep.2.1 1 = .ok (.iconst 0, 1) := by decide +kernel
theorem dX6_keep_2 : decode mX6_keep.2.1 2 = .ok (.iconst 1, 1) := by decide +kernel
theorem dX6_keep_3 : decode mX6_keep.2.1 3 = .ok (.invokestatic 71, 3) := by decide +kernel
theorem dX6_keep_6 : decode mX6_keep.2.1 6 = .ok (.ifCond .ne 5, 3) := by decide +kernel
theorem dX6_keep_9 : decode mX6_keep.2.1 9 = .ok (.iconst (-1), 1) := by decide +kernel
theorem dX6_keep_10 : decode mX6_keep.2.1 10 = .ok (.ireturn, 1) := by decide +kernel
theorem dX6_keep_11 : decode mX6_keep.2.1 11 = .ok (.aload_n 0, 1) := by decide +kernel
theorem dX6_keep_12 : decode mX6_keep.2.1 12 = .ok (.getfield 61, 3) := by decide +kernel
theorem dX6_keep_15 : decode mX6_keep.2.1 15 = .ok (.iload_n 1, 1) := by decide +kernel
theorem dX6_keep_16 : decode mX6_keep.2.1 16 = .ok (.aload_n 0, 1) := by decide +kernel
theorem dX6_keep_17 : decode mX6_keep.2.1 17 = .ok (.getfield 40, 3) := by decide +kernel
theorem dX6_keep_20 : decode mX6_keep.2.1 20 = .ok (.invokevirtual 264, 3) := by decide +kernel
theorem dX6_keep_23 : decode mX6_keep.2.1 23 = .ok (.aload_n 0, 1) := by decide +kernel
theorem dX6_keep_24 : decode mX6_keep.2.1 24 = .ok (.dup, 1) := by decide +kernel
theorem dX6_keep_25 : decode mX6_keep.2.1 25 = .ok (.getfield 90, 3) := by decide +kernel
theorem dX6_keep_28 : decode mX6_keep.2.1 28 = .ok (.iload_n 1, 1) := by decide +kernel
theorem dX6_keep_29 : decode mX6_keep.2.1 29 = .ok (.invokestatic 178, 3) := by decide +kernel
theorem dX6_keep_32 : decode mX6_keep.2.1 32 = .ok (.ior, 1) := by decide +kernel
theorem dX6_keep_33 : decode mX6_keep.2.1 33 = .ok (.putfield 90, 3) := by decide +kernel
theorem dX6_keep_36 : decode mX6_keep.2.1 36 = .ok (.aload_n 0, 1) := by decide +kernel
theorem dX6_keep_37 : decode mX6_keep.2.1 37 = .ok (.getfield 40, 3) := by decide +kernel
theorem dX6_keep_40 : decode mX6_keep.2.1 40 = .ok (.getfield 147, 3) := by decide +kernel
theorem dX6_keep_43 : decode mX6_keep.2.1 43 = .ok (.ireturn, 1) := by decide +kernel
theorem dX6_back_0 : decode mX6_back.2.1 0 = .ok (.iload_n 1, 1) := by decide +kernel
theorem dX6_back_1 : decode mX6_back.2.1 1 = .ok (.iconst 0, 1) := by decide +kernel
theorem dX6_back_2 : decode mX6_back.2.1 2 = .ok (.iconst 1, 1) := by decide +kernel
theorem dX6_back_3 : decode mX6_back.2.1 3 = .ok (.invokestatic 71, 3) := by decide +kernel
theorem dX6_back_6 : decode mX6_back.2.1 6 = .ok (.ifCond .ne 5, 3) := by decide +kernel
theorem dX6_back_9 : decode mX6_back.2.1 9 = .ok (.iconst (-1), 1) := by decide +kernel
theorem dX6_back_10 : decode mX6_back.2.1 10 = .ok (.ireturn, 1) := by decide +kernel
theorem dX6_back_11 : decode mX6_back.2.1 11 = .ok (.aload_n 0, 1) := by decide +kernel
theorem dX6_back_12 : decode mX6_back.2.1 12 = .ok (.getfield 90, 3) := by decide +kernel
theorem dX6_back_15 : decode mX6_back.2.1 15 = .ok (.iload_n 1, 1) := by decide +kernel
theorem dX6_back_16 : decode mX6_back.2.1 16 = .ok (.invokestatic 174, 3) := by decide +kernel
theorem dX6_back_19 : decode mX6_back.2.1 19 = .ok (.ifCond .ne 6, 3) := by decide +kernel
theorem dX6_back_22 : decode mX6_back.2.1 22 = .ok (.bipush (-2), 2) := by decide +kernel
theorem dX6_back_24 : decode mX6_back.2.1 24 = .ok (.ireturn, 1) := by decide +kernel
theorem dX6_back_25 : decode mX6_back.2.1 25 = .ok (.aload_n 0, 1) := by decide +kernel
theorem dX6_back_26 : decode mX6_back.2.1 26 = .ok (.getfield 61, 3) := by decide +kernel
theorem dX6_back_29 : decode mX6_back.2.1 29 = .ok (.iload_n 1, 1) := by decide +kernel
theorem dX6_back_30 : decode mX6_back.2.1 30 = .ok (.aload_n 0, 1) := by decide +kernel
theorem dX6_back_31 : decode mX6_back.2.1 31 = .ok (.getfield 40, 3) := by decide +kernel
theorem dX6_back_34 : decode mX6_back.2.1 34 = .ok (.invokevirtual 267, 3) := by decide +kernel
theorem dX6_back_37 : decode mX6_back.2.1 37 = .ok (.aload_n 0, 1) := by decide +kernel
theorem dX6_back_38 : decode mX6_back.2.1 38 = .ok (.getfield 51, 3) := by decide +kernel
theorem dX6_back_41 : decode mX6_back.2.1 41 = .ok (.invokevirtual 87, 3) := by decide +kernel
theorem dX6_back_44 : decode mX6_back.2.1 44 = .ok (.aload_n 0, 1) := by decide +kernel
theorem dX6_back_45 : decode mX6_back.2.1 45 = .ok (.getfield 40, 3) := by decide +kernel
theorem dX6_back_48 : decode mX6_back.2.1 48 = .ok (.getfield 147, 3) := by decide +kernel
theorem dX6_back_51 : decode mX6_back.2.1 51 = .ok (.ireturn, 1) := by decide +kernel
theorem dX6_count_0 : decode mX6_count.2.1 0 = .ok (.iload_n 1, 1) := by decide +kernel
theorem dX6_count_1 : decode mX6_count.2.1 1 = .ok (.tableswitch 93 0 6 #[43, 51, 59, 67, 75, 83, 88], 43) := by decide +kernel
theorem dX6_count_44 : decode mX6_count.2.1 44 = .ok (.aload_n 0, 1) := by decide +kernel
theorem dX6_count_45 : decode mX6_count.2.1 45 = .ok (.getfield 30, 3) := by decide +kernel
theorem dX6_count_48 : decode mX6_count.2.1 48 = .ok (.getfield 214, 3) := by decide +kernel
theorem dX6_count_51 : decode mX6_count.2.1 51 = .ok (.ireturn, 1) := by decide +kernel
theorem dX6_count_52 : decode mX6_count.2.1 52 = .ok (.aload_n 0, 1) := by decide +kernel
theorem dX6_count_53 : decode mX6_count.2.1 53 = .ok (.getfield 30, 3) := by decide +kernel
theorem dX6_count_56 : decode mX6_count.2.1 56 = .ok (.getfield 189, 3) := by decide +kernel
theorem dX6_count_59 : decode mX6_count.2.1 59 = .ok (.ireturn, 1) := by decide +kernel
theorem dX6_count_60 : decode mX6_count.2.1 60 = .ok (.aload_n 0, 1) := by decide +kernel
theorem dX6_count_61 : decode mX6_count.2.1 61 = .ok (.getfield 30, 3) := by decide +kernel
theorem dX6_count_64 : decode mX6_count.2.1 64 = .ok (.getfield 237, 3) := by decide +kernel
theorem dX6_count_67 : decode mX6_count.2.1 67 = .ok (.ireturn, 1) := by decide +kernel
theorem dX6_count_68 : decode mX6_count.2.1 68 = .ok (.aload_n 0, 1) := by decide +kernel
theorem dX6_count_69 : decode mX6_count.2.1 69 = .ok (.getfield 30, 3) := by decide +kernel
theorem dX6_count_72 : decode mX6_count.2.1 72 = .ok (.getfield 270, 3) := by decide +kernel
theorem dX6_count_75 : decode mX6_count.2.1 75 = .ok (.ireturn, 1) := by decide +kernel
theorem dX6_count_76 : decode mX6_count.2.1 76 = .ok (.aload_n 0, 1) := by decide +kernel
theorem dX6_count_77 : decode mX6_count.2.1 77 = .ok (.getfield 30, 3) := by decide +kernel
theorem dX6_count_80 : decode mX6_count.2.1 80 = .ok (.getfield 273, 3) := by decide +kernel
theorem dX6_count_83 : decode mX6_count.2.1 83 = .ok (.ireturn, 1) := by decide +kernel
theorem dX6_count_84 : decode mX6_count.2.1 84 = .ok (.aload_n 0, 1) := by decide +kernel
theorem dX6_count_85 : decode mX6_count.2.1 85 = .ok (.getfield 93, 3) := by decide +kernel
theorem dX6_count_88 : decode mX6_count.2.1 88 = .ok (.ireturn, 1) := by decide +kernel
theorem dX6_count_89 : decode mX6_count.2.1 89 = .ok (.aload_n 0, 1) := by decide +kernel
theorem dX6_count_90 : decode mX6_count.2.1 90 = .ok (.getfield 75, 3) := by decide +kernel
theorem dX6_count_93 : decode mX6_count.2.1 93 = .ok (.ireturn, 1) := by decide +kernel
theorem dX6_count_94 : decode mX6_count.2.1 94 = .ok (.iconst (-1), 1) := by decide +kernel
theorem dX6_count_95 : decode mX6_count.2.1 95 = .ok (.ireturn, 1) := by decide +kernel
theorem dX6_trace_0 : decode mX6_trace.2.1 0 = .ok (.aload_n 0, 1) := by decide +kernel
theorem dX6_trace_1 : decode mX6_trace.2.1 1 = .ok (.getfield 274, 3) := by decide +kernel
theorem dX6_trace_4 : decode mX6_trace.2.1 4 = .ok (.lreturn, 1) := by decide +kernel
theorem dX6_isWithin_0 : decode mX6_isWithin.2.1 0 = .ok (.iload_n 0, 1) := by decide +kernel
theorem dX6_isWithin_1 : decode mX6_isWithin.2.1 1 = .ok (.iload_n 1, 1) := by decide +kernel
theorem dX6_isWithin_2 : decode mX6_isWithin.2.1 2 = .ok (.if_icmp .lt 12, 3) := by decide +kernel
theorem dX6_isWithin_5 : decode mX6_isWithin.2.1 5 = .ok (.iload_n 0, 1) := by decide +kernel
theorem dX6_isWithin_6 : decode mX6_isWithin.2.1 6 = .ok (.iload_n 2, 1) := by decide +kernel
theorem dX6_isWithin_7 : decode mX6_isWithin.2.1 7 = .ok (.if_icmp .gt 7, 3) := by decide +kernel
theorem dX6_isWithin_10 : decode mX6_isWithin.2.1 10 = .ok (.iconst 1, 1) := by decide +kernel
theorem dX6_isWithin_11 : decode mX6_isWithin.2.1 11 = .ok (.goto 4, 3) := by decide +kernel
theorem dX6_isWithin_14 : decode mX6_isWithin.2.1 14 = .ok (.iconst 0, 1) := by decide +kernel
theorem dX6_isWithin_15 : decode mX6_isWithin.2.1 15 = .ok (.ireturn, 1) := by decide +kernel
theorem dX6_bit_0 : decode mX6_bit.2.1 0 = .ok (.iconst 1, 1) := by decide +kernel
theorem dX6_bit_1 : decode mX6_bit.2.1 1 = .ok (.iload_n 0, 1) := by decide +kernel
theorem dX6_bit_2 : decode mX6_bit.2.1 2 = .ok (.ishl, 1) := by decide +kernel
theorem dX6_bit_3 : decode mX6_bit.2.1 3 = .ok (.ireturn, 1) := by decide +kernel
theorem dX6_isIn_0 : decode mX6_isIn.2.1 0 = .ok (.iload_n 0, 1) := by decide +kernel
theorem dX6_isIn_1 : decode mX6_isIn.2.1 1 = .ok (.iconst 1, 1) := by decide +kernel
theorem dX6_isIn_2 : decode mX6_isIn.2.1 2 = .ok (.iload_n 1, 1) := by decide +kernel
theorem dX6_isIn_3 : decode mX6_isIn.2.1 3 = .ok (.ishl, 1) := by decide +kernel
theorem dX6_isIn_4 : decode mX6_isIn.2.1 4 = .ok (.iand, 1) := by decide +kernel

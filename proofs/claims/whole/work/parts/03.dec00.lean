theorem dX0_init_0 : decode mX0_init.2.1 0 = .ok (.aload_n 0, 1) := by decide +kernel
theorem dX0_init_1 : decode mX0_init.2.1 1 = .ok (.invokespecial 3, 3) := by decide +kernel
theorem dX0_init_4 : decode mX0_init.2.1 4 = .ok (.aload_n 0, 1) := by decide +kernel
theorem dX0_init_5 : decode mX0_init.2.1 5 = .ok (.new 9, 3) := by decide +kernel
theorem dX0_init_8 : decode mX0_init.2.1 8 = .ok (.dup, 1) := by decide +kernel
theorem dX0_init_9 : decode mX0_init.2.1 9 = .ok (.bipush 10, 2) := by decide +kernel
theorem dX0_init_11 : decode mX0_init.2.1 11 = .ok (.invokespecial 11, 3) := by decide +kernel
theorem dX0_init_14 : decode mX0_init.2.1 14 = .ok (.putfield 14, 3) := by decide +kernel
theorem dX0_init_17 : decode mX0_init.2.1 17 = .ok (.return_, 1) := by decide +kernel
theorem dX0_remember_0 : decode mX0_remember.2.1 0 = .ok (.aload_n 0, 1) := by decide +kernel
theorem dX0_remember_1 : decode mX0_remember.2.1 1 = .ok (.getfield 14, 3) := by decide +kernel
theorem dX0_remember_4 : decode mX0_remember.2.1 4 = .ok (.aload_n 0, 1) := by decide +kernel
theorem dX0_remember_5 : decode mX0_remember.2.1 5 = .ok (.getfield 20, 3) := by decide +kernel
theorem dX0_remember_8 : decode mX0_remember.2.1 8 = .ok (.aload_n 1, 1) := by decide +kernel
theorem dX0_remember_9 : decode mX0_remember.2.1 9 = .ok (.invokevirtual 24, 3) := by decide +kernel
theorem dX0_remember_12 : decode mX0_remember.2.1 12 = .ok (.aload_n 0, 1) := by decide +kernel
theorem dX0_remember_13 : decode mX0_remember.2.1 13 = .ok (.aload_n 0, 1) := by decide +kernel
theorem dX0_remember_14 : decode mX0_remember.2.1 14 = .ok (.getfield 20, 3) := by decide +kernel
theorem dX0_remember_17 : decode mX0_remember.2.1 17 = .ok (.iconst 1, 1) := by decide +kernel
theorem dX0_remember_18 : decode mX0_remember.2.1 18 = .ok (.iadd, 1) := by decide +kernel
theorem dX0_remember_19 : decode mX0_remember.2.1 19 = .ok (.bipush 10, 2) := by decide +kernel
theorem dX0_remember_21 : decode mX0_remember.2.1 21 = .ok (.if_icmp .ge 12, 3) := by decide +kernel
theorem dX0_remember_24 : decode mX0_remember.2.1 24 = .ok (.aload_n 0, 1) := by decide +kernel
theorem dX0_remember_25 : decode mX0_remember.2.1 25 = .ok (.getfield 20, 3) := by decide +kernel
theorem dX0_remember_28 : decode mX0_remember.2.1 28 = .ok (.iconst 1, 1) := by decide +kernel
theorem dX0_remember_29 : decode mX0_remember.2.1 29 = .ok (.iadd, 1) := by decide +kernel
theorem dX0_remember_30 : decode mX0_remember.2.1 30 = .ok (.goto 4, 3) := by decide +kernel
theorem dX0_remember_33 : decode mX0_remember.2.1 33 = .ok (.iconst 0, 1) := by decide +kernel
theorem dX0_remember_34 : decode mX0_remember.2.1 34 = .ok (.putfield 20, 3) := by decide +kernel
theorem dX0_remember_37 : decode mX0_remember.2.1 37 = .ok (.aload_n 0, 1) := by decide +kernel
theorem dX0_remember_38 : decode mX0_remember.2.1 38 = .ok (.aload_n 0, 1) := by decide +kernel
theorem dX0_remember_39 : decode mX0_remember.2.1 39 = .ok (.getfield 28, 3) := by decide +kernel
theorem dX0_remember_42 : decode mX0_remember.2.1 42 = .ok (.iconst 1, 1) := by decide +kernel
theorem dX0_remember_43 : decode mX0_remember.2.1 43 = .ok (.iadd, 1) := by decide +kernel
theorem dX0_remember_44 : decode mX0_remember.2.1 44 = .ok (.bipush 10, 2) := by decide +kernel
theorem dX0_remember_46 : decode mX0_remember.2.1 46 = .ok (.invokestatic 31, 3) := by decide +kernel
theorem dX0_remember_49 : decode mX0_remember.2.1 49 = .ok (.putfield 28, 3) := by decide +kernel
theorem dX0_remember_52 : decode mX0_remember.2.1 52 = .ok (.return_, 1) := by decide +kernel
theorem dX0_recall_0 : decode mX0_recall.2.1 0 = .ok (.aload_n 0, 1) := by decide +kernel
theorem dX0_recall_1 : decode mX0_recall.2.1 1 = .ok (.getfield 28, 3) := by decide +kernel
theorem dX0_recall_4 : decode mX0_recall.2.1 4 = .ok (.ifCond .le 47, 3) := by decide +kernel
theorem dX0_recall_7 : decode mX0_recall.2.1 7 = .ok (.aload_n 0, 1) := by decide +kernel
theorem dX0_recall_8 : decode mX0_recall.2.1 8 = .ok (.aload_n 0, 1) := by decide +kernel
theorem dX0_recall_9 : decode mX0_recall.2.1 9 = .ok (.getfield 20, 3) := by decide +kernel
theorem dX0_recall_12 : decode mX0_recall.2.1 12 = .ok (.ifCond .le 12, 3) := by decide +kernel
theorem dX0_recall_15 : decode mX0_recall.2.1 15 = .ok (.aload_n 0, 1) := by decide +kernel
theorem dX0_recall_16 : decode mX0_recall.2.1 16 = .ok (.getfield 20, 3) := by decide +kernel
theorem dX0_recall_19 : decode mX0_recall.2.1 19 = .ok (.iconst 1, 1) := by decide +kernel
theorem dX0_recall_20 : decode mX0_recall.2.1 20 = .ok (.isub, 1) := by decide +kernel
theorem dX0_recall_21 : decode mX0_recall.2.1 21 = .ok (.goto 5, 3) := by decide +kernel
theorem dX0_recall_24 : decode mX0_recall.2.1 24 = .ok (.bipush 9, 2) := by decide +kernel
theorem dX0_recall_26 : decode mX0_recall.2.1 26 = .ok (.putfield 20, 3) := by decide +kernel
theorem dX0_recall_29 : decode mX0_recall.2.1 29 = .ok (.aload_n 0, 1) := by decide +kernel
theorem dX0_recall_30 : decode mX0_recall.2.1 30 = .ok (.getfield 14, 3) := by decide +kernel
theorem dX0_recall_33 : decode mX0_recall.2.1 33 = .ok (.aload_n 0, 1) := by decide +kernel
theorem dX0_recall_34 : decode mX0_recall.2.1 34 = .ok (.getfield 20, 3) := by decide +kernel
theorem dX0_recall_37 : decode mX0_recall.2.1 37 = .ok (.aload_n 1, 1) := by decide +kernel
theorem dX0_recall_38 : decode mX0_recall.2.1 38 = .ok (.invokevirtual 37, 3) := by decide +kernel
theorem dX0_recall_41 : decode mX0_recall.2.1 41 = .ok (.aload_n 0, 1) := by decide +kernel
theorem dX0_recall_42 : decode mX0_recall.2.1 42 = .ok (.dup, 1) := by decide +kernel
theorem dX0_recall_43 : decode mX0_recall.2.1 43 = .ok (.getfield 28, 3) := by decide +kernel
theorem dX0_recall_46 : decode mX0_recall.2.1 46 = .ok (.iconst 1, 1) := by decide +kernel
theorem dX0_recall_47 : decode mX0_recall.2.1 47 = .ok (.isub, 1) := by decide +kernel
theorem dX0_recall_48 : decode mX0_recall.2.1 48 = .ok (.putfield 28, 3) := by decide +kernel
theorem dX0_recall_51 : decode mX0_recall.2.1 51 = .ok (.return_, 1) := by decide +kernel
theorem dX0_loseAll_0 : decode mX0_loseAll.2.1 0 = .ok (.aload_n 0, 1) := by decide +kernel
theorem dX0_loseAll_1 : decode mX0_loseAll.2.1 1 = .ok (.iconst 0, 1) := by decide +kernel
theorem dX0_loseAll_2 : decode mX0_loseAll.2.1 2 = .ok (.putfield 28, 3) := by decide +kernel
theorem dX0_loseAll_5 : decode mX0_loseAll.2.1 5 = .ok (.return_, 1) := by decide +kernel
theorem dX1_init_0 : decode mX1_init.2.1 0 = .ok (.aload_n 0, 1) := by decide +kernel
theorem dX1_init_1 : decode mX1_init.2.1 1 = .ok (.invokespecial 3, 3) := by decide +kernel
theorem dX1_init_4 : decode mX1_init.2.1 4 = .ok (.aload_n 0, 1) := by decide +kernel
theorem dX1_init_5 : decode mX1_init.2.1 5 = .ok (.new 9, 3) := by decide +kernel
theorem dX1_init_8 : decode mX1_init.2.1 8 = .ok (.dup, 1) := by decide +kernel
theorem dX1_init_9 : decode mX1_init.2.1 9 = .ok (.bipush 6, 2) := by decide +kernel
theorem dX1_init_11 : decode mX1_init.2.1 11 = .ok (.invokespecial 11, 3) := by decide +kernel
theorem dX1_init_14 : decode mX1_init.2.1 14 = .ok (.putfield 14, 3) := by decide +kernel
theorem dX1_init_17 : decode mX1_init.2.1 17 = .ok (.aload_n 0, 1) := by decide +kernel
theorem dX1_init_18 : decode mX1_init.2.1 18 = .ok (.new 9, 3) := by decide +kernel
theorem dX1_init_21 : decode mX1_init.2.1 21 = .ok (.dup, 1) := by decide +kernel
theorem dX1_init_22 : decode mX1_init.2.1 22 = .ok (.bipush 6, 2) := by decide +kernel
theorem dX1_init_24 : decode mX1_init.2.1 24 = .ok (.invokespecial 11, 3) := by decide +kernel
theorem dX1_init_27 : decode mX1_init.2.1 27 = .ok (.putfield 20, 3) := by decide +kernel
theorem dX1_init_30 : decode mX1_init.2.1 30 = .ok (.aload_n 0, 1) := by decide +kernel
theorem dX1_init_31 : decode mX1_init.2.1 31 = .ok (.new 9, 3) := by decide +kernel
theorem dX1_init_34 : decode mX1_init.2.1 34 = .ok (.dup, 1) := by decide +kernel
theorem dX1_init_35 : decode mX1_init.2.1 35 = .ok (.bipush 6, 2) := by decide +kernel
theorem dX1_init_37 : decode mX1_init.2.1 37 = .ok (.invokespecial 11, 3) := by decide +kernel
theorem dX1_init_40 : decode mX1_init.2.1 40 = .ok (.putfield 23, 3) := by decide +kernel
theorem dX1_init_43 : decode mX1_init.2.1 43 = .ok (.aload_n 0, 1) := by decide +kernel
theorem dX1_init_44 : decode mX1_init.2.1 44 = .ok (.new 9, 3) := by decide +kernel
theorem dX1_init_47 : decode mX1_init.2.1 47 = .ok (.dup, 1) := by decide +kernel
theorem dX1_init_48 : decode mX1_init.2.1 48 = .ok (.bipush 6, 2) := by decide +kernel
theorem dX1_init_50 : decode mX1_init.2.1 50 = .ok (.invokespecial 11, 3) := by decide +kernel
theorem dX1_init_53 : decode mX1_init.2.1 53 = .ok (.putfield 26, 3) := by decide +kernel
theorem dX1_init_56 : decode mX1_init.2.1 56 = .ok (.aload_n 0, 1) := by decide +kernel
theorem dX1_init_57 : decode mX1_init.2.1 57 = .ok (.new 9, 3) := by decide +kernel
theorem dX1_init_60 : decode mX1_init.2.1 60 = .ok (.dup, 1) := by decide +kernel
theorem dX1_init_61 : decode mX1_init.2.1 61 = .ok (.bipush 6, 2) := by decide +kernel
theorem dX1_init_63 : decode mX1_init.2.1 63 = .ok (.invokespecial 11, 3) := by decide +kernel
theorem dX1_init_66 : decode mX1_init.2.1 66 = .ok (.putfield 29, 3) := by decide +kernel
theorem dX1_init_69 : decode mX1_init.2.1 69 = .ok (.aload_n 0, 1) := by decide +kernel
theorem dX1_init_70 : decode mX1_init.2.1 70 = .ok (.invokevirtual 32, 3) := by decide +kernel
theorem dX1_init_73 : decode mX1_init.2.1 73 = .ok (.return_, 1) := by decide +kernel
theorem dX1_begin_0 : decode mX1_begin.2.1 0 = .ok (.aload_n 0, 1) := by decide +kernel
theorem dX1_begin_1 : decode mX1_begin.2.1 1 = .ok (.iconst 0, 1) := by decide +kernel
theorem dX1_begin_2 : decode mX1_begin.2.1 2 = .ok (.putfield 35, 3) := by decide +kernel
theorem dX1_begin_5 : decode mX1_begin.2.1 5 = .ok (.aload_n 0, 1) := by decide +kernel
theorem dX1_begin_6 : decode mX1_begin.2.1 6 = .ok (.iconst 0, 1) := by decide +kernel
theorem dX1_begin_7 : decode mX1_begin.2.1 7 = .ok (.putfield 39, 3) := by decide +kernel
theorem dX1_begin_10 : decode mX1_begin.2.1 10 = .ok (.aload_n 0, 1) := by decide +kernel
theorem dX1_begin_11 : decode mX1_begin.2.1 11 = .ok (.iconst 0, 1) := by decide +kernel
theorem dX1_begin_12 : decode mX1_begin.2.1 12 = .ok (.putfield 42, 3) := by decide +kernel
theorem dX1_begin_15 : decode mX1_begin.2.1 15 = .ok (.aload_n 0, 1) := by decide +kernel
theorem dX1_begin_16 : decode mX1_begin.2.1 16 = .ok (.iconst 0, 1) := by decide +kernel
theorem dX1_begin_17 : decode mX1_begin.2.1 17 = .ok (.putfield 45, 3) := by decide +kernel
theorem dX1_begin_20 : decode mX1_begin.2.1 20 = .ok (.aload_n 0, 1) := by decide +kernel
theorem dX1_begin_21 : decode mX1_begin.2.1 21 = .ok (.bipush 80, 2) := by decide +kernel
theorem dX1_begin_23 : decode mX1_begin.2.1 23 = .ok (.putfield 48, 3) := by decide +kernel
theorem dX1_begin_26 : decode mX1_begin.2.1 26 = .ok (.aload_n 0, 1) := by decide +kernel
theorem dX1_begin_27 : decode mX1_begin.2.1 27 = .ok (.iconst 2, 1) := by decide +kernel
theorem dX1_begin_28 : decode mX1_begin.2.1 28 = .ok (.putfield 51, 3) := by decide +kernel
theorem dX1_begin_31 : decode mX1_begin.2.1 31 = .ok (.return_, 1) := by decide +kernel
theorem dX1_hasDeed_0 : decode mX1_hasDeed.2.1 0 = .ok (.iload_n 1, 1) := by decide +kernel
theorem dX1_hasDeed_1 : decode mX1_hasDeed.2.1 1 = .ok (.ifCond .lt 15, 3) := by decide +kernel
theorem dX1_hasDeed_4 : decode mX1_hasDeed.2.1 4 = .ok (.iload_n 1, 1) := by decide +kernel
theorem dX1_hasDeed_5 : decode mX1_hasDeed.2.1 5 = .ok (.aload_n 0, 1) := by decide +kernel
theorem dX1_hasDeed_6 : decode mX1_hasDeed.2.1 6 = .ok (.getfield 39, 3) := by decide +kernel
theorem dX1_hasDeed_9 : decode mX1_hasDeed.2.1 9 = .ok (.if_icmp .ge 7, 3) := by decide +kernel
theorem dX1_hasDeed_12 : decode mX1_hasDeed.2.1 12 = .ok (.iconst 1, 1) := by decide +kernel
theorem dX1_hasDeed_13 : decode mX1_hasDeed.2.1 13 = .ok (.goto 4, 3) := by decide +kernel
theorem dX1_hasDeed_16 : decode mX1_hasDeed.2.1 16 = .ok (.iconst 0, 1) := by decide +kernel
theorem dX1_hasDeed_17 : decode mX1_hasDeed.2.1 17 = .ok (.ireturn, 1) := by decide +kernel
theorem dX1_hasDead_0 : decode mX1_hasDead.2.1 0 = .ok (.iload_n 1, 1) := by decide +kernel
theorem dX1_hasDead_1 : decode mX1_hasDead.2.1 1 = .ok (.ifCond .lt 15, 3) := by decide +kernel
theorem dX1_hasDead_4 : decode mX1_hasDead.2.1 4 = .ok (.iload_n 1, 1) := by decide +kernel
theorem dX1_hasDead_5 : decode mX1_hasDead.2.1 5 = .ok (.aload_n 0, 1) := by decide +kernel
theorem dX1_hasDead_6 : decode mX1_hasDead.2.1 6 = .ok (.getfield 42, 3) := by decide +kernel
theorem dX1_hasDead_9 : decode mX1_hasDead.2.1 9 = .ok (.if_icmp .ge 7, 3) := by decide +kernel
theorem dX1_hasDead_12 : decode mX1_hasDead.2.1 12 = .ok (.iconst 1, 1) := by decide +kernel
theorem dX1_hasDead_13 : decode mX1_hasDead.2.1 13 = .ok (.goto 4, 3) := by decide +kernel
theorem dX1_hasDead_16 : decode mX1_hasDead.2.1 16 = .ok (.iconst 0, 1) := by decide +kernel
theorem dX1_hasDead_17 : decode mX1_hasDead.2.1 17 = .ok (.ireturn, 1) := by decide +kernel
theorem dX1_hasBearer_0 : decode mX1_hasBearer.2.1 0 = .ok (.iload_n 1, 1) := by decide +kernel
theorem dX1_hasBearer_1 : decode mX1_hasBearer.2.1 1 = .ok (.ifCond .lt 15, 3) := by decide +kernel
theorem dX1_hasBearer_4 : decode mX1_hasBearer.2.1 4 = .ok (.iload_n 1, 1) := by decide +kernel
theorem dX1_hasBearer_5 : decode mX1_hasBearer.2.1 5 = .ok (.aload_n 0, 1) := by decide +kernel
theorem dX1_hasBearer_6 : decode mX1_hasBearer.2.1 6 = .ok (.getfield 45, 3) := by decide +kernel
theorem dX1_hasBearer_9 : decode mX1_hasBearer.2.1 9 = .ok (.if_icmp .ge 7, 3) := by decide +kernel
theorem dX1_hasBearer_12 : decode mX1_hasBearer.2.1 12 = .ok (.iconst 1, 1) := by decide +kernel
theorem dX1_hasBearer_13 : decode mX1_hasBearer.2.1 13 = .ok (.goto 4, 3) := by decide +kernel
theorem dX1_hasBearer_16 : decode mX1_hasBearer.2.1 16 = .ok (.iconst 0, 1) := by decide +kernel
theorem dX1_hasBearer_17 : decode mX1_hasBearer.2.1 17 = .ok (.ireturn, 1) := by decide +kernel
theorem dX1_addDeed_0 : decode mX1_addDeed.2.1 0 = .ok (.aload_n 0, 1) := by decide +kernel
theorem dX1_addDeed_1 : decode mX1_addDeed.2.1 1 = .ok (.getfield 14, 3) := by decide +kernel
theorem dX1_addDeed_4 : decode mX1_addDeed.2.1 4 = .ok (.aload_n 0, 1) := by decide +kernel
theorem dX1_addDeed_5 : decode mX1_addDeed.2.1 5 = .ok (.getfield 39, 3) := by decide +kernel
theorem dX1_addDeed_8 : decode mX1_addDeed.2.1 8 = .ok (.iload_n 1, 1) := by decide +kernel
theorem dX1_addDeed_9 : decode mX1_addDeed.2.1 9 = .ok (.invokevirtual 54, 3) := by decide +kernel
theorem dX1_addDeed_12 : decode mX1_addDeed.2.1 12 = .ok (.aload_n 0, 1) := by decide +kernel
theorem dX1_addDeed_13 : decode mX1_addDeed.2.1 13 = .ok (.dup, 1) := by decide +kernel
theorem dX1_addDeed_14 : decode mX1_addDeed.2.1 14 = .ok (.getfield 39, 3) := by decide +kernel
theorem dX1_addDeed_17 : decode mX1_addDeed.2.1 17 = .ok (.iconst 1, 1) := by decide +kernel
theorem dX1_addDeed_18 : decode mX1_addDeed.2.1 18 = .ok (.iadd, 1) := by decide +kernel
theorem dX1_addDeed_19 : decode mX1_addDeed.2.1 19 = .ok (.putfield 39, 3) := by decide +kernel
theorem dX1_addDeed_22 : decode mX1_addDeed.2.1 22 = .ok (.return_, 1) := by decide +kernel
theorem dX1_addDead_0 : decode mX1_addDead.2.1 0 = .ok (.aload_n 0, 1) := by decide +kernel
theorem dX1_addDead_1 : decode mX1_addDead.2.1 1 = .ok (.getfield 20, 3) := by decide +kernel
theorem dX1_addDead_4 : decode mX1_addDead.2.1 4 = .ok (.aload_n 0, 1) := by decide +kernel
theorem dX1_addDead_5 : decode mX1_addDead.2.1 5 = .ok (.getfield 42, 3) := by decide +kernel
theorem dX1_addDead_8 : decode mX1_addDead.2.1 8 = .ok (.iload_n 1, 1) := by decide +kernel
theorem dX1_addDead_9 : decode mX1_addDead.2.1 9 = .ok (.invokevirtual 54, 3) := by decide +kernel
theorem dX1_addDead_12 : decode mX1_addDead.2.1 12 = .ok (.aload_n 0, 1) := by decide +kernel
theorem dX1_addDead_13 : decode mX1_addDead.2.1 13 = .ok (.getfield 23, 3) := by decide +kernel
theorem dX1_addDead_16 : decode mX1_addDead.2.1 16 = .ok (.aload_n 0, 1) := by decide +kernel
theorem dX1_addDead_17 : decode mX1_addDead.2.1 17 = .ok (.getfield 42, 3) := by decide +kernel
theorem dX1_addDead_20 : decode mX1_addDead.2.1 20 = .ok (.iload_n 2, 1) := by decide +kernel
theorem dX1_addDead_21 : decode mX1_addDead.2.1 21 = .ok (.invokevirtual 54, 3) := by decide +kernel
theorem dX1_addDead_24 : decode mX1_addDead.2.1 24 = .ok (.aload_n 0, 1) := by decide +kernel
theorem dX1_addDead_25 : decode mX1_addDead.2.1 25 = .ok (.getfield 26, 3) := by decide +kernel
theorem dX1_addDead_28 : decode mX1_addDead.2.1 28 = .ok (.aload_n 0, 1) := by decide +kernel
theorem dX1_addDead_29 : decode mX1_addDead.2.1 29 = .ok (.getfield 42, 3) := by decide +kernel
theorem dX1_addDead_32 : decode mX1_addDead.2.1 32 = .ok (.iload_n 3, 1) := by decide +kernel
theorem dX1_addDead_33 : decode mX1_addDead.2.1 33 = .ok (.invokevirtual 54, 3) := by decide +kernel
theorem dX1_addDead_36 : decode mX1_addDead.2.1 36 = .ok (.aload_n 0, 1) := by decide +kernel
theorem dX1_addDead_37 : decode mX1_addDead.2.1 37 = .ok (.dup, 1) := by decide +kernel
theorem dX1_addDead_38 : decode mX1_addDead.2.1 38 = .ok (.getfield 42, 3) := by decide +kernel
theorem dX1_addDead_41 : decode mX1_addDead.2.1 41 = .ok (.iconst 1, 1) := by decide +kernel
theorem dX1_addDead_42 : decode mX1_addDead.2.1 42 = .ok (.iadd, 1) := by decide +kernel
theorem dX1_addDead_43 : decode mX1_addDead.2.1 43 = .ok (.putfield 42, 3) := by decide +kernel
theorem dX1_addDead_46 : decode mX1_addDead.2.1 46 = .ok (.return_, 1) := by decide +kernel
theorem dX1_addBearer_0 : decode mX1_addBearer.2.1 0 = .ok (.aload_n 0, 1) := by decide +kernel
theorem dX1_addBearer_1 : decode mX1_addBearer.2.1 1 = .ok (.getfield 29, 3) := by decide +kernel
theorem dX1_addBearer_4 : decode mX1_addBearer.2.1 4 = .ok (.aload_n 0, 1) := by decide +kernel
theorem dX1_addBearer_5 : decode mX1_addBearer.2.1 5 = .ok (.getfield 45, 3) := by decide +kernel
theorem dX1_addBearer_8 : decode mX1_addBearer.2.1 8 = .ok (.iload_n 1, 1) := by decide +kernel
theorem dX1_addBearer_9 : decode mX1_addBearer.2.1 9 = .ok (.invokevirtual 54, 3) := by decide +kernel
theorem dX1_addBearer_12 : decode mX1_addBearer.2.1 12 = .ok (.aload_n 0, 1) := by decide +kernel
theorem dX1_addBearer_13 : decode mX1_addBearer.2.1 13 = .ok (.dup, 1) := by decide +kernel
theorem dX1_addBearer_14 : decode mX1_addBearer.2.1 14 = .ok (.getfield 45, 3) := by decide +kernel
theorem dX1_addBearer_17 : decode mX1_addBearer.2.1 17 = .ok (.iconst 1, 1) := by decide +kernel
theorem dX1_addBearer_18 : decode mX1_addBearer.2.1 18 = .ok (.iadd, 1) := by decide +kernel
theorem dX1_addBearer_19 : decode mX1_addBearer.2.1 19 = .ok (.putfield 45, 3) := by decide +kernel
theorem dX1_addBearer_22 : decode mX1_addBearer.2.1 22 = .ok (.return_, 1) := by decide +kernel
theorem dX2_init_0 : decode mX2_init.2.1 0 = .ok (.aload_n 0, 1) := by decide +kernel
theorem dX2_init_1 : decode mX2_init.2.1 1 = .ok (.invokespecial 3, 3) := by decide +kernel
theorem dX2_init_4 : decode mX2_init.2.1 4 = .ok (.aload_n 0, 1) := by decide +kernel
theorem dX2_init_5 : decode mX2_init.2.1 5 = .ok (.aload_n 1, 1) := by decide +kernel
theorem dX2_init_6 : decode mX2_init.2.1 6 = .ok (.putfield 9, 3) := by decide +kernel
theorem dX2_init_9 : decode mX2_init.2.1 9 = .ok (.return_, 1) := by decide +kernel
theorem dX2_read_0 : decode mX2_read.2.1 0 = .ok (.aload_n 0, 1) := by decide +kernel
theorem dX2_read_1 : decode mX2_read.2.1 1 = .ok (.iload_n 1, 1) := by decide +kernel
theorem dX2_read_2 : decode mX2_read.2.1 2 = .ok (.putfield 15, 3) := by decide +kernel
theorem dX2_read_5 : decode mX2_read.2.1 5 = .ok (.aload_n 0, 1) := by decide +kernel
theorem dX2_read_6 : decode mX2_read.2.1 6 = .ok (.iconst 0, 1) := by decide +kernel
theorem dX2_read_7 : decode mX2_read.2.1 7 = .ok (.putfield 19, 3) := by decide +kernel
theorem dX2_read_10 : decode mX2_read.2.1 10 = .ok (.aload_n 0, 1) := by decide +kernel
theorem dX2_read_11 : decode mX2_read.2.1 11 = .ok (.iconst 0, 1) := by decide +kernel
theorem dX2_read_12 : decode mX2_read.2.1 12 = .ok (.putfield 22, 3) := by decide +kernel
theorem dX2_read_15 : decode mX2_read.2.1 15 = .ok (.aload_n 0, 1) := by decide +kernel
theorem dX2_read_16 : decode mX2_read.2.1 16 = .ok (.iconst 0, 1) := by decide +kernel
theorem dX2_read_17 : decode mX2_read.2.1 17 = .ok (.putfield 26, 3) := by decide +kernel
theorem dX2_read_20 : decode mX2_read.2.1 20 = .ok (.aload_n 0, 1) := by decide +kernel
theorem dX2_read_21 : decode mX2_read.2.1 21 = .ok (.iconst 0, 1) := by decide +kernel
theorem dX2_read_22 : decode mX2_read.2.1 22 = .ok (.putfield 29, 3) := by decide +kernel
theorem dX2_read_25 : decode mX2_read.2.1 25 = .ok (.aload_n 2, 1) := by decide +kernel
theorem dX2_read_26 : decode mX2_read.2.1 26 = .ok (.invokevirtual 32, 3) := by decide +kernel
theorem dX2_read_29 : decode mX2_read.2.1 29 = .ok (.aload_n 0, 1) := by decide +kernel
theorem dX2_read_30 : decode mX2_read.2.1 30 = .ok (.invokevirtual 37, 3) := by decide +kernel
theorem dX2_read_33 : decode mX2_read.2.1 33 = .ok (.iconst 0, 1) := by decide +kernel
theorem dX2_read_34 : decode mX2_read.2.1 34 = .ok (.istore_n 3, 1) := by decide +kernel
theorem dX2_read_35 : decode mX2_read.2.1 35 = .ok (.iload_n 3, 1) := by decide +kernel
theorem dX2_read_36 : decode mX2_read.2.1 36 = .ok (.sipush 150, 3) := by decide +kernel
theorem dX2_read_39 : decode mX2_read.2.1 39 = .ok (.if_icmp .ge 124, 3) := by decide +kernel
theorem dX2_read_42 : decode mX2_read.2.1 42 = .ok (.aload_n 0, 1) := by decide +kernel
theorem dX2_read_43 : decode mX2_read.2.1 43 = .ok (.getfield 22, 3) := by decide +kernel
theorem dX2_read_46 : decode mX2_read.2.1 46 = .ok (.ifCond .ne 117, 3) := by decide +kernel
theorem dX2_read_49 : decode mX2_read.2.1 49 = .ok (.aload_n 0, 1) := by decide +kernel
theorem dX2_read_50 : decode mX2_read.2.1 50 = .ok (.getfield 40, 3) := by decide +kernel
theorem dX2_read_53 : decode mX2_read.2.1 53 = .ok (.ifCond .eq 110, 3) := by decide +kernel
theorem dX2_read_56 : decode mX2_read.2.1 56 = .ok (.aload_n 0, 1) := by decide +kernel
theorem dX2_read_57 : decode mX2_read.2.1 57 = .ok (.getfield 40, 3) := by decide +kernel
theorem dX2_read_60 : decode mX2_read.2.1 60 = .ok (.lookupswitch 92 #[(98, 68), (100, 52), (108, 60), (112, 76), (114, 84)], 52) := by decide +kernel
theorem dX2_read_112 : decode mX2_read.2.1 112 = .ok (.aload_n 0, 1) := by decide +kernel
theorem dX2_read_113 : decode mX2_read.2.1 113 = .ok (.aload_n 2, 1) := by decide +kernel
theorem dX2_read_114 : decode mX2_read.2.1 114 = .ok (.invokevirtual 43, 3) := by decide +kernel
theorem dX2_read_117 : decode mX2_read.2.1 117 = .ok (.goto 40, 3) := by decide +kernel
theorem dX2_read_120 : decode mX2_read.2.1 120 = .ok (.aload_n 0, 1) := by decide +kernel
theorem dX2_read_121 : decode mX2_read.2.1 121 = .ok (.aload_n 2, 1) := by decide +kernel
theorem dX2_read_122 : decode mX2_read.2.1 122 = .ok (.invokevirtual 47, 3) := by decide +kernel
theorem dX2_read_125 : decode mX2_read.2.1 125 = .ok (.goto 32, 3) := by decide +kernel
theorem dX2_read_128 : decode mX2_read.2.1 128 = .ok (.aload_n 0, 1) := by decide +kernel
theorem dX2_read_129 : decode mX2_read.2.1 129 = .ok (.aload_n 2, 1) := by decide +kernel
theorem dX2_read_130 : decode mX2_read.2.1 130 = .ok (.invokevirtual 50, 3) := by decide +kernel
theorem dX2_read_133 : decode mX2_read.2.1 133 = .ok (.goto 24, 3) := by decide +kernel
theorem dX2_read_136 : decode mX2_read.2.1 136 = .ok (.aload_n 0, 1) := by decide +kernel
theorem dX2_read_137 : decode mX2_read.2.1 137 = .ok (.aload_n 2, 1) := by decide +kernel
theorem dX2_read_138 : decode mX2_read.2.1 138 = .ok (.invokevirtual 53, 3) := by decide +kernel
theorem dX2_read_141 : decode mX2_read.2.1 141 = .ok (.goto 16, 3) := by decide +kernel
theorem dX2_read_144 : decode mX2_read.2.1 144 = .ok (.aload_n 0, 1) := by decide +kernel
theorem dX2_read_145 : decode mX2_read.2.1 145 = .ok (.aload_n 2, 1) := by decide +kernel
theorem dX2_read_146 : decode mX2_read.2.1 146 = .ok (.invokevirtual 56, 3) := by decide +kernel
theorem dX2_read_149 : decode mX2_read.2.1 149 = .ok (.goto 8, 3) := by decide +kernel
theorem dX2_read_152 : decode mX2_read.2.1 152 = .ok (.aload_n 0, 1) := by decide +kernel
theorem dX2_read_153 : decode mX2_read.2.1 153 = .ok (.iconst 1, 1) := by decide +kernel
theorem dX2_read_154 : decode mX2_read.2.1 154 = .ok (.putfield 22, 3) := by decide +kernel
theorem dX2_read_157 : decode mX2_read.2.1 157 = .ok (.iinc 3 1, 3) := by decide +kernel
theorem dX2_read_160 : decode mX2_read.2.1 160 = .ok (.goto (-125), 3) := by decide +kernel
theorem dX2_read_163 : decode mX2_read.2.1 163 = .ok (.aload_n 0, 1) := by decide +kernel
theorem dX2_read_164 : decode mX2_read.2.1 164 = .ok (.getfield 22, 3) := by decide +kernel
theorem dX2_read_167 : decode mX2_read.2.1 167 = .ok (.ifCond .eq 10, 3) := by decide +kernel
theorem dX2_read_170 : decode mX2_read.2.1 170 = .ok (.aload_n 0, 1) := by decide +kernel
theorem dX2_read_171 : decode mX2_read.2.1 171 = .ok (.getfield 59, 3) := by decide +kernel
theorem dX2_read_174 : decode mX2_read.2.1 174 = .ok (.goto 4, 3) := by decide +kernel
theorem dX2_read_177 : decode mX2_read.2.1 177 = .ok (.iconst (-1), 1) := by decide +kernel
theorem dX2_read_178 : decode mX2_read.2.1 178 = .ok (.ireturn, 1) := by decide +kernel
theorem dX2_readDeed_0 : decode mX2_readDeed.2.1 0 = .ok (.aload_n 0, 1) := by decide +kernel
theorem dX2_readDeed_1 : decode mX2_readDeed.2.1 1 = .ok (.aload_n 1, 1) := by decide +kernel
theorem dX2_readDeed_2 : decode mX2_readDeed.2.1 2 = .ok (.getfield 62, 3) := by decide +kernel
theorem dX2_readDeed_5 : decode mX2_readDeed.2.1 5 = .ok (.bipush 6, 2) := by decide +kernel
theorem dX2_readDeed_7 : decode mX2_readDeed.2.1 7 = .ok (.if_icmp .ge 7, 3) := by decide +kernel
theorem dX2_readDeed_10 : decode mX2_readDeed.2.1 10 = .ok (.iconst 1, 1) := by decide +kernel
theorem dX2_readDeed_11 : decode mX2_readDeed.2.1 11 = .ok (.goto 4, 3) := by decide +kernel
theorem dX2_readDeed_14 : decode mX2_readDeed.2.1 14 = .ok (.iconst 0, 1) := by decide +kernel
theorem dX2_readDeed_15 : decode mX2_readDeed.2.1 15 = .ok (.invokevirtual 65, 3) := by decide +kernel
theorem dX2_readDeed_18 : decode mX2_readDeed.2.1 18 = .ok (.aload_n 0, 1) := by decide +kernel
theorem dX2_readDeed_19 : decode mX2_readDeed.2.1 19 = .ok (.iconst 0, 1) := by decide +kernel
theorem dX2_readDeed_20 : decode mX2_readDeed.2.1 20 = .ok (.bipush 40, 2) := by decide +kernel
theorem dX2_readDeed_22 : decode mX2_readDeed.2.1 22 = .ok (.invokevirtual 69, 3) := by decide +kernel
theorem dX2_readDeed_25 : decode mX2_readDeed.2.1 25 = .ok (.istore_n 2, 1) := by decide +kernel
theorem dX2_readDeed_26 : decode mX2_readDeed.2.1 26 = .ok (.aload_n 0, 1) := by decide +kernel
theorem dX2_readDeed_27 : decode mX2_readDeed.2.1 27 = .ok (.aload_n 1, 1) := by decide +kernel
theorem dX2_readDeed_28 : decode mX2_readDeed.2.1 28 = .ok (.invokevirtual 73, 3) := by decide +kernel
theorem dX2_readDeed_31 : decode mX2_readDeed.2.1 31 = .ok (.aload_n 0, 1) := by decide +kernel
theorem dX2_readDeed_32 : decode mX2_readDeed.2.1 32 = .ok (.getfield 22, 3) := by decide +kernel
theorem dX2_readDeed_35 : decode mX2_readDeed.2.1 35 = .ok (.ifCond .ne 11, 3) := by decide +kernel
theorem dX2_readDeed_38 : decode mX2_readDeed.2.1 38 = .ok (.aload_n 1, 1) := by decide +kernel
theorem dX2_readDeed_39 : decode mX2_readDeed.2.1 39 = .ok (.iload_n 2, 1) := by decide +kernel
theorem dX2_readDeed_40 : decode mX2_readDeed.2.1 40 = .ok (.bipush 20, 2) := by decide +kernel
theorem dX2_readDeed_42 : decode mX2_readDeed.2.1 42 = .ok (.isub, 1) := by decide +kernel
theorem dX2_readDeed_43 : decode mX2_readDeed.2.1 43 = .ok (.invokevirtual 76, 3) := by decide +kernel
theorem dX2_readDeed_46 : decode mX2_readDeed.2.1 46 = .ok (.return_, 1) := by decide +kernel
theorem dX2_readDead_0 : decode mX2_readDead.2.1 0 = .ok (.aload_n 0, 1) := by decide +kernel
theorem dX2_readDead_1 : decode mX2_readDead.2.1 1 = .ok (.aload_n 1, 1) := by decide +kernel
theorem dX2_readDead_2 : decode mX2_readDead.2.1 2 = .ok (.getfield 80, 3) := by decide +kernel
theorem dX2_readDead_5 : decode mX2_readDead.2.1 5 = .ok (.bipush 6, 2) := by decide +kernel
theorem dX2_readDead_7 : decode mX2_readDead.2.1 7 = .ok (.if_icmp .ge 7, 3) := by decide +kernel
theorem dX2_readDead_10 : decode mX2_readDead.2.1 10 = .ok (.iconst 1, 1) := by decide +kernel
theorem dX2_readDead_11 : decode mX2_readDead.2.1 11 = .ok (.goto 4, 3) := by decide +kernel
theorem dX2_readDead_14 : decode mX2_readDead.2.1 14 = .ok (.iconst 0, 1) := by decide +kernel
theorem dX2_readDead_15 : decode mX2_readDead.2.1 15 = .ok (.invokevirtual 65, 3) := by decide +kernel
theorem dX2_readDead_18 : decode mX2_readDead.2.1 18 = .ok (.aload_n 0, 1) := by decide +kernel
theorem dX2_readDead_19 : decode mX2_readDead.2.1 19 = .ok (.iconst 1, 1) := by decide +kernel
theorem dX2_readDead_20 : decode mX2_readDead.2.1 20 = .ok (.bipush 40, 2) := by decide +kernel
theorem dX2_readDead_22 : decode mX2_readDead.2.1 22 = .ok (.invokevirtual 69, 3) := by decide +kernel
theorem dX2_readDead_25 : decode mX2_readDead.2.1 25 = .ok (.istore_n 2, 1) := by decide +kernel
theorem dX2_readDead_26 : decode mX2_readDead.2.1 26 = .ok (.aload_n 0, 1) := by decide +kernel
theorem dX2_readDead_27 : decode mX2_readDead.2.1 27 = .ok (.iconst 0, 1) := by decide +kernel
theorem dX2_readDead_28 : decode mX2_readDead.2.1 28 = .ok (.bipush 9, 2) := by decide +kernel
theorem dX2_readDead_30 : decode mX2_readDead.2.1 30 = .ok (.invokevirtual 69, 3) := by decide +kernel
theorem dX2_readDead_33 : decode mX2_readDead.2.1 33 = .ok (.istore_n 3, 1) := by decide +kernel
theorem dX2_readDead_34 : decode mX2_readDead.2.1 34 = .ok (.aload_n 0, 1) := by decide +kernel
theorem dX2_readDead_35 : decode mX2_readDead.2.1 35 = .ok (.aload_n 1, 1) := by decide +kernel
theorem dX2_readDead_36 : decode mX2_readDead.2.1 36 = .ok (.invokevirtual 83, 3) := by decide +kernel
theorem dX2_readDead_39 : decode mX2_readDead.2.1 39 = .ok (.istore 4, 2) := by decide +kernel
theorem dX2_readDead_41 : decode mX2_readDead.2.1 41 = .ok (.aload_n 0, 1) := by decide +kernel
theorem dX2_readDead_42 : decode mX2_readDead.2.1 42 = .ok (.aload_n 1, 1) := by decide +kernel
theorem dX2_readDead_43 : decode mX2_readDead.2.1 43 = .ok (.invokevirtual 73, 3) := by decide +kernel
theorem dX2_readDead_46 : decode mX2_readDead.2.1 46 = .ok (.aload_n 0, 1) := by decide +kernel
theorem dX2_readDead_47 : decode mX2_readDead.2.1 47 = .ok (.getfield 22, 3) := by decide +kernel
theorem dX2_readDead_50 : decode mX2_readDead.2.1 50 = .ok (.ifCond .ne 11, 3) := by decide +kernel
theorem dX2_readDead_53 : decode mX2_readDead.2.1 53 = .ok (.aload_n 1, 1) := by decide +kernel
theorem dX2_readDead_54 : decode mX2_readDead.2.1 54 = .ok (.iload_n 2, 1) := by decide +kernel
theorem dX2_readDead_55 : decode mX2_readDead.2.1 55 = .ok (.iload_n 3, 1) := by decide +kernel
theorem dX2_readDead_56 : decode mX2_readDead.2.1 56 = .ok (.iload 4, 2) := by decide +kernel
theorem dX2_readDead_58 : decode mX2_readDead.2.1 58 = .ok (.invokevirtual 87, 3) := by decide +kernel
theorem dX2_readDead_61 : decode mX2_readDead.2.1 61 = .ok (.return_, 1) := by decide +kernel
theorem dX2_readDone_0 : decode mX2_readDone.2.1 0 = .ok (.iconst 0, 1) := by decide +kernel
theorem dX2_readDone_1 : decode mX2_readDone.2.1 1 = .ok (.istore_n 2, 1) := by decide +kernel
theorem dX2_readDone_2 : decode mX2_readDone.2.1 2 = .ok (.iconst 0, 1) := by decide +kernel
theorem dX2_readDone_3 : decode mX2_readDone.2.1 3 = .ok (.istore_n 3, 1) := by decide +kernel
theorem dX2_readDone_4 : decode mX2_readDone.2.1 4 = .ok (.iload_n 3, 1) := by decide +kernel
theorem dX2_readDone_5 : decode mX2_readDone.2.1 5 = .ok (.bipush 6, 2) := by decide +kernel
theorem dX2_readDone_7 : decode mX2_readDone.2.1 7 = .ok (.if_icmp .ge 39, 3) := by decide +kernel
theorem dX2_readDone_10 : decode mX2_readDone.2.1 10 = .ok (.aload_n 0, 1) := by decide +kernel
theorem dX2_readDone_11 : decode mX2_readDone.2.1 11 = .ok (.getfield 22, 3) := by decide +kernel
theorem dX2_readDone_14 : decode mX2_readDone.2.1 14 = .ok (.ifCond .ne 32, 3) := by decide +kernel
theorem dX2_readDone_17 : decode mX2_readDone.2.1 17 = .ok (.aload_n 0, 1) := by decide +kernel
theorem dX2_readDone_18 : decode mX2_readDone.2.1 18 = .ok (.aload_n 1, 1) := by decide +kernel
theorem dX2_readDone_19 : decode mX2_readDone.2.1 19 = .ok (.iload_n 2, 1) := by decide +kernel
theorem dX2_readDone_20 : decode mX2_readDone.2.1 20 = .ok (.invokevirtual 91, 3) := by decide +kernel
theorem dX2_readDone_23 : decode mX2_readDone.2.1 23 = .ok (.ifCond .eq 23, 3) := by decide +kernel
theorem dX2_readDone_26 : decode mX2_readDone.2.1 26 = .ok (.iload_n 2, 1) := by decide +kernel
theorem dX2_readDone_27 : decode mX2_readDone.2.1 27 = .ok (.aload_n 0, 1) := by decide +kernel
theorem dX2_readDone_28 : decode mX2_readDone.2.1 28 = .ok (.getfield 95, 3) := by decide +kernel
theorem dX2_readDone_31 : decode mX2_readDone.2.1 31 = .ok (.invokestatic 98, 3) := by decide +kernel
theorem dX2_readDone_34 : decode mX2_readDone.2.1 34 = .ok (.ior, 1) := by decide +kernel
theorem dX2_readDone_35 : decode mX2_readDone.2.1 35 = .ok (.istore_n 2, 1) := by decide +kernel
theorem dX2_readDone_36 : decode mX2_readDone.2.1 36 = .ok (.aload_n 0, 1) := by decide +kernel
theorem dX2_readDone_37 : decode mX2_readDone.2.1 37 = .ok (.invokevirtual 37, 3) := by decide +kernel
theorem dX2_readDone_40 : decode mX2_readDone.2.1 40 = .ok (.iinc 3 1, 3) := by decide +kernel
theorem dX2_readDone_43 : decode mX2_readDone.2.1 43 = .ok (.goto (-39), 3) := by decide +kernel
theorem dX2_readDone_46 : decode mX2_readDone.2.1 46 = .ok (.iload_n 2, 1) := by decide +kernel
theorem dX2_readDone_47 : decode mX2_readDone.2.1 47 = .ok (.ireturn, 1) := by decide +kernel
theorem dX2_mayBeDone_0 : decode mX2_mayBeDone.2.1 0 = .ok (.aload_n 0, 1) := by decide +kernel
theorem dX2_mayBeDone_1 : decode mX2_mayBeDone.2.1 1 = .ok (.getfield 40, 3) := by decide +kernel
theorem dX2_mayBeDone_4 : decode mX2_mayBeDone.2.1 4 = .ok (.iconst 1, 1) := by decide +kernel
theorem dX2_mayBeDone_5 : decode mX2_mayBeDone.2.1 5 = .ok (.if_icmp .ne 29, 3) := by decide +kernel
theorem dX2_mayBeDone_8 : decode mX2_mayBeDone.2.1 8 = .ok (.aload_n 1, 1) := by decide +kernel
theorem dX2_mayBeDone_9 : decode mX2_mayBeDone.2.1 9 = .ok (.aload_n 0, 1) := by decide +kernel
theorem dX2_mayBeDone_10 : decode mX2_mayBeDone.2.1 10 = .ok (.getfield 95, 3) := by decide +kernel
theorem dX2_mayBeDone_13 : decode mX2_mayBeDone.2.1 13 = .ok (.invokevirtual 102, 3) := by decide +kernel
theorem dX2_mayBeDone_16 : decode mX2_mayBeDone.2.1 16 = .ok (.ifCond .eq 18, 3) := by decide +kernel
theorem dX2_mayBeDone_19 : decode mX2_mayBeDone.2.1 19 = .ok (.iload_n 2, 1) := by decide +kernel
theorem dX2_mayBeDone_20 : decode mX2_mayBeDone.2.1 20 = .ok (.aload_n 0, 1) := by decide +kernel
theorem dX2_mayBeDone_21 : decode mX2_mayBeDone.2.1 21 = .ok (.getfield 95, 3) := by decide +kernel
theorem dX2_mayBeDone_24 : decode mX2_mayBeDone.2.1 24 = .ok (.invokestatic 106, 3) := by decide +kernel
theorem dX2_mayBeDone_27 : decode mX2_mayBeDone.2.1 27 = .ok (.ifCond .ne 7, 3) := by decide +kernel
theorem dX2_mayBeDone_30 : decode mX2_mayBeDone.2.1 30 = .ok (.iconst 1, 1) := by decide +kernel
theorem dX2_mayBeDone_31 : decode mX2_mayBeDone.2.1 31 = .ok (.goto 4, 3) := by decide +kernel
theorem dX2_mayBeDone_34 : decode mX2_mayBeDone.2.1 34 = .ok (.iconst 0, 1) := by decide +kernel
theorem dX2_mayBeDone_35 : decode mX2_mayBeDone.2.1 35 = .ok (.ireturn, 1) := by decide +kernel
theorem dX2_readBearer_0 : decode mX2_readBearer.2.1 0 = .ok (.aload_n 0, 1) := by decide +kernel
theorem dX2_readBearer_1 : decode mX2_readBearer.2.1 1 = .ok (.aload_n 1, 1) := by decide +kernel
theorem dX2_readBearer_2 : decode mX2_readBearer.2.1 2 = .ok (.getfield 110, 3) := by decide +kernel
theorem dX2_readBearer_5 : decode mX2_readBearer.2.1 5 = .ok (.bipush 6, 2) := by decide +kernel
theorem dX2_readBearer_7 : decode mX2_readBearer.2.1 7 = .ok (.if_icmp .ge 7, 3) := by decide +kernel
theorem dX2_readBearer_10 : decode mX2_readBearer.2.1 10 = .ok (.iconst 1, 1) := by decide +kernel
theorem dX2_readBearer_11 : decode mX2_readBearer.2.1 11 = .ok (.goto 4, 3) := by decide +kernel
theorem dX2_readBearer_14 : decode mX2_readBearer.2.1 14 = .ok (.iconst 0, 1) := by decide +kernel
theorem dX2_readBearer_15 : decode mX2_readBearer.2.1 15 = .ok (.invokevirtual 65, 3) := by decide +kernel
theorem dX2_readBearer_18 : decode mX2_readBearer.2.1 18 = .ok (.aload_n 0, 1) := by decide +kernel
theorem dX2_readBearer_19 : decode mX2_readBearer.2.1 19 = .ok (.iconst 1, 1) := by decide +kernel
theorem dX2_readBearer_20 : decode mX2_readBearer.2.1 20 = .ok (.bipush 60, 2) := by decide +kernel
theorem dX2_readBearer_22 : decode mX2_readBearer.2.1 22 = .ok (.invokevirtual 69, 3) := by decide +kernel
theorem dX2_readBearer_25 : decode mX2_readBearer.2.1 25 = .ok (.istore_n 2, 1) := by decide +kernel
theorem dX2_readBearer_26 : decode mX2_readBearer.2.1 26 = .ok (.aload_n 0, 1) := by decide +kernel
theorem dX2_readBearer_27 : decode mX2_readBearer.2.1 27 = .ok (.aload_n 1, 1) := by decide +kernel
theorem dX2_readBearer_28 : decode mX2_readBearer.2.1 28 = .ok (.invokevirtual 73, 3) := by decide +kernel
theorem dX2_readBearer_31 : decode mX2_readBearer.2.1 31 = .ok (.aload_n 0, 1) := by decide +kernel
theorem dX2_readBearer_32 : decode mX2_readBearer.2.1 32 = .ok (.getfield 22, 3) := by decide +kernel
theorem dX2_readBearer_35 : decode mX2_readBearer.2.1 35 = .ok (.ifCond .ne 8, 3) := by decide +kernel
theorem dX2_readBearer_38 : decode mX2_readBearer.2.1 38 = .ok (.aload_n 1, 1) := by decide +kernel
theorem dX2_readBearer_39 : decode mX2_readBearer.2.1 39 = .ok (.iload_n 2, 1) := by decide +kernel
theorem dX2_readBearer_40 : decode mX2_readBearer.2.1 40 = .ok (.invokevirtual 113, 3) := by decide +kernel
theorem dX2_readBearer_43 : decode mX2_readBearer.2.1 43 = .ok (.return_, 1) := by decide +kernel
theorem dX2_readPin_0 : decode mX2_readPin.2.1 0 = .ok (.aload_n 0, 1) := by decide +kernel
theorem dX2_readPin_1 : decode mX2_readPin.2.1 1 = .ok (.aload_n 0, 1) := by decide +kernel
theorem dX2_readPin_2 : decode mX2_readPin.2.1 2 = .ok (.getfield 26, 3) := by decide +kernel
theorem dX2_readPin_5 : decode mX2_readPin.2.1 5 = .ok (.ifCond .ne 7, 3) := by decide +kernel
theorem dX2_readPin_8 : decode mX2_readPin.2.1 8 = .ok (.iconst 1, 1) := by decide +kernel
theorem dX2_readPin_9 : decode mX2_readPin.2.1 9 = .ok (.goto 4, 3) := by decide +kernel
theorem dX2_readPin_12 : decode mX2_readPin.2.1 12 = .ok (.iconst 0, 1) := by decide +kernel
theorem dX2_readPin_13 : decode mX2_readPin.2.1 13 = .ok (.invokevirtual 65, 3) := by decide +kernel
theorem dX2_readPin_16 : decode mX2_readPin.2.1 16 = .ok (.aload_n 1, 1) := by decide +kernel
theorem dX2_readPin_17 : decode mX2_readPin.2.1 17 = .ok (.aload_n 0, 1) := by decide +kernel
theorem dX2_readPin_18 : decode mX2_readPin.2.1 18 = .ok (.bipush 10, 2) := by decide +kernel
theorem dX2_readPin_20 : decode mX2_readPin.2.1 20 = .ok (.bipush 99, 2) := by decide +kernel
theorem dX2_readPin_22 : decode mX2_readPin.2.1 22 = .ok (.invokevirtual 69, 3) := by decide +kernel
theorem dX2_readPin_25 : decode mX2_readPin.2.1 25 = .ok (.putfield 116, 3) := by decide +kernel
theorem dX2_readPin_28 : decode mX2_readPin.2.1 28 = .ok (.aload_n 0, 1) := by decide +kernel
theorem dX2_readPin_29 : decode mX2_readPin.2.1 29 = .ok (.aload_n 1, 1) := by decide +kernel
theorem dX2_readPin_30 : decode mX2_readPin.2.1 30 = .ok (.invokevirtual 73, 3) := by decide +kernel
theorem dX2_readPin_33 : decode mX2_readPin.2.1 33 = .ok (.aload_n 0, 1) := by decide +kernel
theorem dX2_readPin_34 : decode mX2_readPin.2.1 34 = .ok (.iconst 1, 1) := by decide +kernel
theorem dX2_readPin_35 : decode mX2_readPin.2.1 35 = .ok (.putfield 26, 3) := by decide +kernel
theorem dX2_readPin_38 : decode mX2_readPin.2.1 38 = .ok (.return_, 1) := by decide +kernel
theorem dX2_readRust_0 : decode mX2_readRust.2.1 0 = .ok (.aload_n 0, 1) := by decide +kernel
theorem dX2_readRust_1 : decode mX2_readRust.2.1 1 = .ok (.aload_n 0, 1) := by decide +kernel
theorem dX2_readRust_2 : decode mX2_readRust.2.1 2 = .ok (.getfield 29, 3) := by decide +kernel
theorem dX2_readRust_5 : decode mX2_readRust.2.1 5 = .ok (.ifCond .ne 7, 3) := by decide +kernel
theorem dX2_readRust_8 : decode mX2_readRust.2.1 8 = .ok (.iconst 1, 1) := by decide +kernel
theorem dX2_readRust_9 : decode mX2_readRust.2.1 9 = .ok (.goto 4, 3) := by decide +kernel
theorem dX2_readRust_12 : decode mX2_readRust.2.1 12 = .ok (.iconst 0, 1) := by decide +kernel
theorem dX2_readRust_13 : decode mX2_readRust.2.1 13 = .ok (.invokevirtual 65, 3) := by decide +kernel
theorem dX2_readRust_16 : decode mX2_readRust.2.1 16 = .ok (.aload_n 1, 1) := by decide +kernel
theorem dX2_readRust_17 : decode mX2_readRust.2.1 17 = .ok (.aload_n 0, 1) := by decide +kernel
theorem dX2_readRust_18 : decode mX2_readRust.2.1 18 = .ok (.iconst 0, 1) := by decide +kernel
theorem dX2_readRust_19 : decode mX2_readRust.2.1 19 = .ok (.bipush 9, 2) := by decide +kernel
theorem dX2_readRust_21 : decode mX2_readRust.2.1 21 = .ok (.invokevirtual 69, 3) := by decide +kernel
theorem dX2_readRust_24 : decode mX2_readRust.2.1 24 = .ok (.putfield 119, 3) := by decide +kernel
theorem dX2_readRust_27 : decode mX2_readRust.2.1 27 = .ok (.aload_n 0, 1) := by decide +kernel
theorem dX2_readRust_28 : decode mX2_readRust.2.1 28 = .ok (.aload_n 1, 1) := by decide +kernel
theorem dX2_readRust_29 : decode mX2_readRust.2.1 29 = .ok (.invokevirtual 73, 3) := by decide +kernel
theorem dX2_readRust_32 : decode mX2_readRust.2.1 32 = .ok (.aload_n 0, 1) := by decide +kernel
theorem dX2_readRust_33 : decode mX2_readRust.2.1 33 = .ok (.iconst 1, 1) := by decide +kernel
theorem dX2_readRust_34 : decode mX2_readRust.2.1 34 = .ok (.putfield 29, 3) := by decide +kernel
theorem dX2_readRust_37 : decode mX2_readRust.2.1 37 = .ok (.return_, 1) := by decide +kernel
theorem dX2_open_0 : decode mX2_open.2.1 0 = .ok (.iload_n 1, 1) := by decide +kernel
theorem dX2_open_1 : decode mX2_open.2.1 1 = .ok (.ifCond .eq 10, 3) := by decide +kernel
theorem dX2_open_4 : decode mX2_open.2.1 4 = .ok (.aload_n 0, 1) := by decide +kernel
theorem dX2_open_5 : decode mX2_open.2.1 5 = .ok (.invokevirtual 37, 3) := by decide +kernel
theorem dX2_open_8 : decode mX2_open.2.1 8 = .ok (.goto 8, 3) := by decide +kernel
theorem dX2_open_11 : decode mX2_open.2.1 11 = .ok (.aload_n 0, 1) := by decide +kernel
theorem dX2_open_12 : decode mX2_open.2.1 12 = .ok (.iconst 1, 1) := by decide +kernel
theorem dX2_open_13 : decode mX2_open.2.1 13 = .ok (.putfield 22, 3) := by decide +kernel
theorem dX2_open_16 : decode mX2_open.2.1 16 = .ok (.return_, 1) := by decide +kernel
theorem dX2_number_0 : decode mX2_number.2.1 0 = .ok (.aload_n 0, 1) := by decide +kernel
theorem dX2_number_1 : decode mX2_number.2.1 1 = .ok (.getfield 95, 3) := by decide +kernel
theorem dX2_number_4 : decode mX2_number.2.1 4 = .ok (.istore_n 3, 1) := by decide +kernel
theorem dX2_number_5 : decode mX2_number.2.1 5 = .ok (.aload_n 0, 1) := by decide +kernel
theorem dX2_number_6 : decode mX2_number.2.1 6 = .ok (.getfield 22, 3) := by decide +kernel
theorem dX2_number_9 : decode mX2_number.2.1 9 = .ok (.ifCond .ne 20, 3) := by decide +kernel
theorem dX2_number_12 : decode mX2_number.2.1 12 = .ok (.aload_n 0, 1) := by decide +kernel
theorem dX2_number_13 : decode mX2_number.2.1 13 = .ok (.getfield 40, 3) := by decide +kernel
theorem dX2_number_16 : decode mX2_number.2.1 16 = .ok (.iconst 1, 1) := by decide +kernel
theorem dX2_number_17 : decode mX2_number.2.1 17 = .ok (.if_icmp .ne 12, 3) := by decide +kernel
theorem dX2_number_20 : decode mX2_number.2.1 20 = .ok (.iload_n 3, 1) := by decide +kernel
theorem dX2_number_21 : decode mX2_number.2.1 21 = .ok (.iload_n 1, 1) := by decide +kernel
theorem dX2_number_22 : decode mX2_number.2.1 22 = .ok (.iload_n 2, 1) := by decide +kernel
theorem dX2_number_23 : decode mX2_number.2.1 23 = .ok (.invokestatic 122, 3) := by decide +kernel
theorem dX2_number_26 : decode mX2_number.2.1 26 = .ok (.ifCond .ne 10, 3) := by decide +kernel
theorem dX2_number_29 : decode mX2_number.2.1 29 = .ok (.aload_n 0, 1) := by decide +kernel
theorem dX2_number_30 : decode mX2_number.2.1 30 = .ok (.iconst 1, 1) := by decide +kernel
theorem dX2_number_31 : decode mX2_number.2.1 31 = .ok (.putfield 22, 3) := by decide +kernel
theorem dX2_number_34 : decode mX2_number.2.1 34 = .ok (.iload_n 1, 1) := by decide +kernel
theorem dX2_number_35 : decode mX2_number.2.1 35 = .ok (.ireturn, 1) := by decide +kernel
theorem dX2_number_36 : decode mX2_number.2.1 36 = .ok (.aload_n 0, 1) := by decide +kernel
theorem dX2_number_37 : decode mX2_number.2.1 37 = .ok (.invokevirtual 37, 3) := by decide +kernel
theorem dX2_number_40 : decode mX2_number.2.1 40 = .ok (.iload_n 3, 1) := by decide +kernel
theorem dX2_number_41 : decode mX2_number.2.1 41 = .ok (.ireturn, 1) := by decide +kernel
theorem dX2_close_0 : decode mX2_close.2.1 0 = .ok (.aload_n 0, 1) := by decide +kernel
theorem dX2_close_1 : decode mX2_close.2.1 1 = .ok (.getfield 22, 3) := by decide +kernel
theorem dX2_close_4 : decode mX2_close.2.1 4 = .ok (.ifCond .ne 29, 3) := by decide +kernel
theorem dX2_close_7 : decode mX2_close.2.1 7 = .ok (.aload_n 0, 1) := by decide +kernel
theorem dX2_close_8 : decode mX2_close.2.1 8 = .ok (.getfield 40, 3) := by decide +kernel
theorem dX2_close_11 : decode mX2_close.2.1 11 = .ok (.bipush 59, 2) := by decide +kernel
theorem dX2_close_13 : decode mX2_close.2.1 13 = .ok (.if_icmp .ne 20, 3) := by decide +kernel
theorem dX2_close_16 : decode mX2_close.2.1 16 = .ok (.aload_n 1, 1) := by decide +kernel
theorem dX2_close_17 : decode mX2_close.2.1 17 = .ok (.dup, 1) := by decide +kernel
theorem dX2_close_18 : decode mX2_close.2.1 18 = .ok (.getfield 126, 3) := by decide +kernel
theorem dX2_close_21 : decode mX2_close.2.1 21 = .ok (.iconst 1, 1) := by decide +kernel
theorem dX2_close_22 : decode mX2_close.2.1 22 = .ok (.iadd, 1) := by decide +kernel
theorem dX2_close_23 : decode mX2_close.2.1 23 = .ok (.putfield 126, 3) := by decide +kernel
theorem dX2_close_26 : decode mX2_close.2.1 26 = .ok (.aload_n 0, 1) := by decide +kernel
theorem dX2_close_27 : decode mX2_close.2.1 27 = .ok (.invokevirtual 37, 3) := by decide +kernel
theorem dX2_close_30 : decode mX2_close.2.1 30 = .ok (.goto 8, 3) := by decide +kernel
theorem dX2_close_33 : decode mX2_close.2.1 33 = .ok (.aload_n 0, 1) := by decide +kernel
theorem dX2_close_34 : decode mX2_close.2.1 34 = .ok (.iconst 1, 1) := by decide +kernel
theorem dX2_close_35 : decode mX2_close.2.1 35 = .ok (.putfield 22, 3) := by decide +kernel
theorem dX2_close_38 : decode mX2_close.2.1 38 = .ok (.return_, 1) := by decide +kernel
theorem dX2_step_0 : decode mX2_step.2.1 0 = .ok (.aload_n 0, 1) := by decide +kernel
theorem dX2_step_1 : decode mX2_step.2.1 1 = .ok (.getfield 19, 3) := by decide +kernel
theorem dX2_step_4 : decode mX2_step.2.1 4 = .ok (.aload_n 0, 1) := by decide +kernel
theorem dX2_step_5 : decode mX2_step.2.1 5 = .ok (.getfield 15, 3) := by decide +kernel
theorem dX2_step_8 : decode mX2_step.2.1 8 = .ok (.if_icmp .ge 32, 3) := by decide +kernel
theorem dX2_step_11 : decode mX2_step.2.1 11 = .ok (.aload_n 0, 1) := by decide +kernel
theorem dX2_step_12 : decode mX2_step.2.1 12 = .ok (.getfield 9, 3) := by decide +kernel
theorem dX2_step_15 : decode mX2_step.2.1 15 = .ok (.aload_n 0, 1) := by decide +kernel
theorem dX2_step_16 : decode mX2_step.2.1 16 = .ok (.getfield 19, 3) := by decide +kernel
theorem dX2_step_19 : decode mX2_step.2.1 19 = .ok (.invokevirtual 129, 3) := by decide +kernel
theorem dX2_step_22 : decode mX2_step.2.1 22 = .ok (.bipush 32, 2) := by decide +kernel
theorem dX2_step_24 : decode mX2_step.2.1 24 = .ok (.if_icmp .ne 16, 3) := by decide +kernel
theorem dX2_step_27 : decode mX2_step.2.1 27 = .ok (.aload_n 0, 1) := by decide +kernel
theorem dX2_step_28 : decode mX2_step.2.1 28 = .ok (.dup, 1) := by decide +kernel
theorem dX2_step_29 : decode mX2_step.2.1 29 = .ok (.getfield 19, 3) := by decide +kernel
theorem dX2_step_32 : decode mX2_step.2.1 32 = .ok (.iconst 1, 1) := by decide +kernel
theorem dX2_step_33 : decode mX2_step.2.1 33 = .ok (.iadd, 1) := by decide +kernel
theorem dX2_step_34 : decode mX2_step.2.1 34 = .ok (.putfield 19, 3) := by decide +kernel
theorem dX2_step_37 : decode mX2_step.2.1 37 = .ok (.goto (-37), 3) := by decide +kernel
theorem dX2_step_40 : decode mX2_step.2.1 40 = .ok (.aload_n 0, 1) := by decide +kernel
theorem dX2_step_41 : decode mX2_step.2.1 41 = .ok (.aload_n 0, 1) := by decide +kernel
theorem dX2_step_42 : decode mX2_step.2.1 42 = .ok (.getfield 19, 3) := by decide +kernel
theorem dX2_step_45 : decode mX2_step.2.1 45 = .ok (.putfield 59, 3) := by decide +kernel
theorem dX2_step_48 : decode mX2_step.2.1 48 = .ok (.aload_n 0, 1) := by decide +kernel
theorem dX2_step_49 : decode mX2_step.2.1 49 = .ok (.getfield 59, 3) := by decide +kernel
theorem dX2_step_52 : decode mX2_step.2.1 52 = .ok (.aload_n 0, 1) := by decide +kernel
theorem dX2_step_53 : decode mX2_step.2.1 53 = .ok (.getfield 15, 3) := by decide +kernel
theorem dX2_step_56 : decode mX2_step.2.1 56 = .ok (.if_icmp .lt 11, 3) := by decide +kernel
theorem dX2_step_59 : decode mX2_step.2.1 59 = .ok (.aload_n 0, 1) := by decide +kernel
theorem dX2_step_60 : decode mX2_step.2.1 60 = .ok (.iconst 0, 1) := by decide +kernel
theorem dX2_step_61 : decode mX2_step.2.1 61 = .ok (.putfield 40, 3) := by decide +kernel
theorem dX2_step_64 : decode mX2_step.2.1 64 = .ok (.goto 73, 3) := by decide +kernel
theorem dX2_step_67 : decode mX2_step.2.1 67 = .ok (.aload_n 0, 1) := by decide +kernel
theorem dX2_step_68 : decode mX2_step.2.1 68 = .ok (.getfield 9, 3) := by decide +kernel
theorem dX2_step_71 : decode mX2_step.2.1 71 = .ok (.aload_n 0, 1) := by decide +kernel
theorem dX2_step_72 : decode mX2_step.2.1 72 = .ok (.getfield 59, 3) := by decide +kernel
theorem dX2_step_75 : decode mX2_step.2.1 75 = .ok (.invokevirtual 129, 3) := by decide +kernel
theorem dX2_step_78 : decode mX2_step.2.1 78 = .ok (.invokestatic 134, 3) := by decide +kernel
theorem dX2_step_81 : decode mX2_step.2.1 81 = .ok (.ifCond .eq 10, 3) := by decide +kernel
theorem dX2_step_84 : decode mX2_step.2.1 84 = .ok (.aload_n 0, 1) := by decide +kernel
theorem dX2_step_85 : decode mX2_step.2.1 85 = .ok (.invokevirtual 137, 3) := by decide +kernel
theorem dX2_step_88 : decode mX2_step.2.1 88 = .ok (.goto 49, 3) := by decide +kernel
theorem dX2_step_91 : decode mX2_step.2.1 91 = .ok (.aload_n 0, 1) := by decide +kernel
theorem dX2_step_92 : decode mX2_step.2.1 92 = .ok (.aload_n 0, 1) := by decide +kernel
theorem dX2_step_93 : decode mX2_step.2.1 93 = .ok (.getfield 9, 3) := by decide +kernel
theorem dX2_step_96 : decode mX2_step.2.1 96 = .ok (.aload_n 0, 1) := by decide +kernel
theorem dX2_step_97 : decode mX2_step.2.1 97 = .ok (.getfield 59, 3) := by decide +kernel
theorem dX2_step_100 : decode mX2_step.2.1 100 = .ok (.invokevirtual 129, 3) := by decide +kernel
theorem dX2_step_103 : decode mX2_step.2.1 103 = .ok (.invokestatic 140, 3) := by decide +kernel
theorem dX2_step_106 : decode mX2_step.2.1 106 = .ok (.ifCond .eq 17, 3) := by decide +kernel
theorem dX2_step_109 : decode mX2_step.2.1 109 = .ok (.aload_n 0, 1) := by decide +kernel
theorem dX2_step_110 : decode mX2_step.2.1 110 = .ok (.getfield 9, 3) := by decide +kernel
theorem dX2_step_113 : decode mX2_step.2.1 113 = .ok (.aload_n 0, 1) := by decide +kernel
theorem dX2_step_114 : decode mX2_step.2.1 114 = .ok (.getfield 59, 3) := by decide +kernel
theorem dX2_step_117 : decode mX2_step.2.1 117 = .ok (.invokevirtual 129, 3) := by decide +kernel
theorem dX2_step_120 : decode mX2_step.2.1 120 = .ok (.goto 4, 3) := by decide +kernel
theorem dX2_step_123 : decode mX2_step.2.1 123 = .ok (.iconst 2, 1) := by decide +kernel
theorem dX2_step_124 : decode mX2_step.2.1 124 = .ok (.putfield 40, 3) := by decide +kernel
theorem dX2_step_127 : decode mX2_step.2.1 127 = .ok (.aload_n 0, 1) := by decide +kernel
theorem dX2_step_128 : decode mX2_step.2.1 128 = .ok (.dup, 1) := by decide +kernel
theorem dX2_step_129 : decode mX2_step.2.1 129 = .ok (.getfield 19, 3) := by decide +kernel
theorem dX2_step_132 : decode mX2_step.2.1 132 = .ok (.iconst 1, 1) := by decide +kernel
theorem dX2_step_133 : decode mX2_step.2.1 133 = .ok (.iadd, 1) := by decide +kernel
theorem dX2_step_134 : decode mX2_step.2.1 134 = .ok (.putfield 19, 3) := by decide +kernel
theorem dX2_step_137 : decode mX2_step.2.1 137 = .ok (.return_, 1) := by decide +kernel
theorem dX2_stepNumber_0 : decode mX2_stepNumber.2.1 0 = .ok (.aload_n 0, 1) := by decide +kernel
theorem dX2_stepNumber_1 : decode mX2_stepNumber.2.1 1 = .ok (.iconst 0, 1) := by decide +kernel
theorem dX2_stepNumber_2 : decode mX2_stepNumber.2.1 2 = .ok (.putfield 95, 3) := by decide +kernel
theorem dX2_stepNumber_5 : decode mX2_stepNumber.2.1 5 = .ok (.aload_n 0, 1) := by decide +kernel
theorem dX2_stepNumber_6 : decode mX2_stepNumber.2.1 6 = .ok (.getfield 19, 3) := by decide +kernel
theorem dX2_stepNumber_9 : decode mX2_stepNumber.2.1 9 = .ok (.aload_n 0, 1) := by decide +kernel
theorem dX2_stepNumber_10 : decode mX2_stepNumber.2.1 10 = .ok (.getfield 15, 3) := by decide +kernel
theorem dX2_stepNumber_13 : decode mX2_stepNumber.2.1 13 = .ok (.if_icmp .ge 59, 3) := by decide +kernel
theorem dX2_stepNumber_16 : decode mX2_stepNumber.2.1 16 = .ok (.aload_n 0, 1) := by decide +kernel
theorem dX2_stepNumber_17 : decode mX2_stepNumber.2.1 17 = .ok (.getfield 9, 3) := by decide +kernel
theorem dX2_stepNumber_20 : decode mX2_stepNumber.2.1 20 = .ok (.aload_n 0, 1) := by decide +kernel
theorem dX2_stepNumber_21 : decode mX2_stepNumber.2.1 21 = .ok (.getfield 19, 3) := by decide +kernel
theorem dX2_stepNumber_24 : decode mX2_stepNumber.2.1 24 = .ok (.invokevirtual 129, 3) := by decide +kernel
theorem dX2_stepNumber_27 : decode mX2_stepNumber.2.1 27 = .ok (.invokestatic 134, 3) := by decide +kernel
theorem dX2_stepNumber_30 : decode mX2_stepNumber.2.1 30 = .ok (.ifCond .eq 42, 3) := by decide +kernel
theorem dX2_stepNumber_33 : decode mX2_stepNumber.2.1 33 = .ok (.aload_n 0, 1) := by decide +kernel
theorem dX2_stepNumber_34 : decode mX2_stepNumber.2.1 34 = .ok (.bipush 10, 2) := by decide +kernel
theorem dX2_stepNumber_36 : decode mX2_stepNumber.2.1 36 = .ok (.aload_n 0, 1) := by decide +kernel
theorem dX2_stepNumber_37 : decode mX2_stepNumber.2.1 37 = .ok (.getfield 95, 3) := by decide +kernel
theorem dX2_stepNumber_40 : decode mX2_stepNumber.2.1 40 = .ok (.imul, 1) := by decide +kernel
theorem dX2_stepNumber_41 : decode mX2_stepNumber.2.1 41 = .ok (.aload_n 0, 1) := by decide +kernel
theorem dX2_stepNumber_42 : decode mX2_stepNumber.2.1 42 = .ok (.getfield 9, 3) := by decide +kernel
theorem dX2_stepNumber_45 : decode mX2_stepNumber.2.1 45 = .ok (.aload_n 0, 1) := by decide +kernel
theorem dX2_stepNumber_46 : decode mX2_stepNumber.2.1 46 = .ok (.getfield 19, 3) := by decide +kernel
theorem dX2_stepNumber_49 : decode mX2_stepNumber.2.1 49 = .ok (.invokevirtual 129, 3) := by decide +kernel
theorem dX2_stepNumber_52 : decode mX2_stepNumber.2.1 52 = .ok (.iadd, 1) := by decide +kernel
theorem dX2_stepNumber_53 : decode mX2_stepNumber.2.1 53 = .ok (.bipush 48, 2) := by decide +kernel
theorem dX2_stepNumber_55 : decode mX2_stepNumber.2.1 55 = .ok (.isub, 1) := by decide +kernel
theorem dX2_stepNumber_56 : decode mX2_stepNumber.2.1 56 = .ok (.putfield 95, 3) := by decide +kernel
theorem dX2_stepNumber_59 : decode mX2_stepNumber.2.1 59 = .ok (.aload_n 0, 1) := by decide +kernel
theorem dX2_stepNumber_60 : decode mX2_stepNumber.2.1 60 = .ok (.dup, 1) := by decide +kernel
theorem dX2_stepNumber_61 : decode mX2_stepNumber.2.1 61 = .ok (.getfield 19, 3) := by decide +kernel
theorem dX2_stepNumber_64 : decode mX2_stepNumber.2.1 64 = .ok (.iconst 1, 1) := by decide +kernel
theorem dX2_stepNumber_65 : decode mX2_stepNumber.2.1 65 = .ok (.iadd, 1) := by decide +kernel

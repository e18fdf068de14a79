theorem dX5_put_0 : decode cX5_put 0 = .ok (.aload_n 0, 1) := by decide +kernel
theorem dX5_put_1 : decode cX5_put 1 = .ok (.getfield 19, 3) := by decide +kernel
theorem dX5_put_4 : decode cX5_put 4 = .ok (.aload_n 0, 1) := by decide +kernel
theorem dX5_put_5 : decode cX5_put 5 = .ok (.getfield 9, 3) := by decide +kernel
theorem dX5_put_8 : decode cX5_put 8 = .ok (.arraylength, 1) := by decide +kernel
theorem dX5_put_9 : decode cX5_put 9 = .ok (.if_icmp .ge 23, 3) := by decide +kernel
theorem dX5_put_12 : decode cX5_put 12 = .ok (.aload_n 0, 1) := by decide +kernel
theorem dX5_put_13 : decode cX5_put 13 = .ok (.getfield 9, 3) := by decide +kernel
theorem dX5_put_16 : decode cX5_put 16 = .ok (.aload_n 0, 1) := by decide +kernel
theorem dX5_put_17 : decode cX5_put 17 = .ok (.getfield 19, 3) := by decide +kernel
theorem dX5_put_20 : decode cX5_put 20 = .ok (.iload_n 1, 1) := by decide +kernel
theorem dX5_put_21 : decode cX5_put 21 = .ok (.iastore, 1) := by decide +kernel
theorem dX5_put_22 : decode cX5_put 22 = .ok (.aload_n 0, 1) := by decide +kernel
theorem dX5_put_23 : decode cX5_put 23 = .ok (.dup, 1) := by decide +kernel
theorem dX5_put_24 : decode cX5_put 24 = .ok (.getfield 19, 3) := by decide +kernel
theorem dX5_put_27 : decode cX5_put 27 = .ok (.iconst 1, 1) := by decide +kernel
theorem dX5_put_28 : decode cX5_put 28 = .ok (.iadd, 1) := by decide +kernel
theorem dX5_put_29 : decode cX5_put 29 = .ok (.putfield 19, 3) := by decide +kernel
theorem dX5_put_32 : decode cX5_put 32 = .ok (.return_, 1) := by decide +kernel
theorem dX6_init_0 : decode cX6_init 0 = .ok (.aload_n 0, 1) := by decide +kernel
theorem dX6_init_1 : decode cX6_init 1 = .ok (.invokespecial 3, 3) := by decide +kernel
theorem dX6_init_4 : decode cX6_init 4 = .ok (.aload_n 0, 1) := by decide +kernel
theorem dX6_init_5 : decode cX6_init 5 = .ok (.sipush 1200, 3) := by decide +kernel
theorem dX6_init_8 : decode cX6_init 8 = .ok (.newarray .int, 2) := by decide +kernel
theorem dX6_init_10 : decode cX6_init 10 = .ok (.putfield 9, 3) := by decide +kernel
theorem dX6_init_13 : decode cX6_init 13 = .ok (.aload_n 0, 1) := by decide +kernel
theorem dX6_init_14 : decode cX6_init 14 = .ok (.bipush 8, 2) := by decide +kernel
theorem dX6_init_16 : decode cX6_init 16 = .ok (.newarray .int, 2) := by decide +kernel
theorem dX6_init_18 : decode cX6_init 18 = .ok (.putfield 15, 3) := by decide +kernel
theorem dX6_init_21 : decode cX6_init 21 = .ok (.aload_n 0, 1) := by decide +kernel
theorem dX6_init_22 : decode cX6_init 22 = .ok (.bipush 11, 2) := by decide +kernel
theorem dX6_init_24 : decode cX6_init 24 = .ok (.newarray .int, 2) := by decide +kernel
theorem dX6_init_26 : decode cX6_init 26 = .ok (.putfield 18, 3) := by decide +kernel
theorem dX6_init_29 : decode cX6_init 29 = .ok (.aload_n 0, 1) := by decide +kernel
theorem dX6_init_30 : decode cX6_init 30 = .ok (.bipush 40, 2) := by decide +kernel
theorem dX6_init_32 : decode cX6_init 32 = .ok (.newarray .int, 2) := by decide +kernel
theorem dX6_init_34 : decode cX6_init 34 = .ok (.putfield 21, 3) := by decide +kernel
theorem dX6_init_37 : decode cX6_init 37 = .ok (.return_, 1) := by decide +kernel
theorem dX6_clear_0 : decode cX6_clear 0 = .ok (.aload_n 0, 1) := by decide +kernel
theorem dX6_clear_1 : decode cX6_clear 1 = .ok (.iconst 0, 1) := by decide +kernel
theorem dX6_clear_2 : decode cX6_clear 2 = .ok (.putfield 24, 3) := by decide +kernel
theorem dX6_clear_5 : decode cX6_clear 5 = .ok (.iconst 0, 1) := by decide +kernel
theorem dX6_clear_6 : decode cX6_clear 6 = .ok (.istore_n 1, 1) := by decide +kernel
theorem dX6_clear_7 : decode cX6_clear 7 = .ok (.iload_n 1, 1) := by decide +kernel
theorem dX6_clear_8 : decode cX6_clear 8 = .ok (.bipush 8, 2) := by decide +kernel
theorem dX6_clear_10 : decode cX6_clear 10 = .ok (.if_icmp .ge 28, 3) := by decide +kernel
theorem dX6_clear_13 : decode cX6_clear 13 = .ok (.aload_n 0, 1) := by decide +kernel
theorem dX6_clear_14 : decode cX6_clear 14 = .ok (.getfield 9, 3) := by decide +kernel
theorem dX6_clear_17 : decode cX6_clear 17 = .ok (.iload_n 1, 1) := by decide +kernel
theorem dX6_clear_18 : decode cX6_clear 18 = .ok (.sipush 150, 3) := by decide +kernel
theorem dX6_clear_21 : decode cX6_clear 21 = .ok (.imul, 1) := by decide +kernel
theorem dX6_clear_22 : decode cX6_clear 22 = .ok (.bipush 108, 2) := by decide +kernel
theorem dX6_clear_24 : decode cX6_clear 24 = .ok (.iastore, 1) := by decide +kernel
theorem dX6_clear_25 : decode cX6_clear 25 = .ok (.aload_n 0, 1) := by decide +kernel
theorem dX6_clear_26 : decode cX6_clear 26 = .ok (.getfield 15, 3) := by decide +kernel
theorem dX6_clear_29 : decode cX6_clear 29 = .ok (.iload_n 1, 1) := by decide +kernel
theorem dX6_clear_30 : decode cX6_clear 30 = .ok (.iconst 1, 1) := by decide +kernel
theorem dX6_clear_31 : decode cX6_clear 31 = .ok (.iastore, 1) := by decide +kernel
theorem dX6_clear_32 : decode cX6_clear 32 = .ok (.iinc 1 1, 3) := by decide +kernel
theorem dX6_clear_35 : decode cX6_clear 35 = .ok (.goto (-28), 3) := by decide +kernel
theorem dX6_clear_38 : decode cX6_clear 38 = .ok (.return_, 1) := by decide +kernel
theorem dX6_keep_0 : decode cX6_keep 0 = .ok (.aload_n 2, 1) := by decide +kernel
theorem dX6_keep_1 : decode cX6_keep 1 = .ok (.getfield 28, 3) := by decide +kernel
theorem dX6_keep_4 : decode cX6_keep 4 = .ok (.iconst 0, 1) := by decide +kernel
theorem dX6_keep_5 : decode cX6_keep 5 = .ok (.aload_n 0, 1) := by decide +kernel
theorem dX6_keep_6 : decode cX6_keep 6 = .ok (.getfield 9, 3) := by decide +kernel
theorem dX6_keep_9 : decode cX6_keep 9 = .ok (.iload_n 1, 1) := by decide +kernel
theorem dX6_keep_10 : decode cX6_keep 10 = .ok (.sipush 150, 3) := by decide +kernel
theorem dX6_keep_13 : decode cX6_keep 13 = .ok (.imul, 1) := by decide +kernel
theorem dX6_keep_14 : decode cX6_keep 14 = .ok (.aload_n 2, 1) := by decide +kernel
theorem dX6_keep_15 : decode cX6_keep 15 = .ok (.getfield 31, 3) := by decide +kernel
theorem dX6_keep_18 : decode cX6_keep 18 = .ok (.invokestatic 34, 3) := by decide +kernel
theorem dX6_keep_21 : decode cX6_keep 21 = .ok (.aload_n 0, 1) := by decide +kernel
theorem dX6_keep_22 : decode cX6_keep 22 = .ok (.getfield 15, 3) := by decide +kernel
theorem dX6_keep_25 : decode cX6_keep 25 = .ok (.iload_n 1, 1) := by decide +kernel
theorem dX6_keep_26 : decode cX6_keep 26 = .ok (.aload_n 2, 1) := by decide +kernel
theorem dX6_keep_27 : decode cX6_keep 27 = .ok (.getfield 31, 3) := by decide +kernel
theorem dX6_keep_30 : decode cX6_keep 30 = .ok (.iastore, 1) := by decide +kernel
theorem dX6_keep_31 : decode cX6_keep 31 = .ok (.aload_n 0, 1) := by decide +kernel
theorem dX6_keep_32 : decode cX6_keep 32 = .ok (.aload_n 2, 1) := by decide +kernel
theorem dX6_keep_33 : decode cX6_keep 33 = .ok (.getfield 40, 3) := by decide +kernel
theorem dX6_keep_36 : decode cX6_keep 36 = .ok (.ifCond .eq 14, 3) := by decide +kernel
theorem dX6_keep_39 : decode cX6_keep 39 = .ok (.aload_n 0, 1) := by decide +kernel
theorem dX6_keep_40 : decode cX6_keep 40 = .ok (.getfield 24, 3) := by decide +kernel
theorem dX6_keep_43 : decode cX6_keep 43 = .ok (.iconst 1, 1) := by decide +kernel
theorem dX6_keep_44 : decode cX6_keep 44 = .ok (.iload_n 1, 1) := by decide +kernel
theorem dX6_keep_45 : decode cX6_keep 45 = .ok (.ishl, 1) := by decide +kernel
theorem dX6_keep_46 : decode cX6_keep 46 = .ok (.ior, 1) := by decide +kernel
theorem dX6_keep_47 : decode cX6_keep 47 = .ok (.goto 13, 3) := by decide +kernel
theorem dX6_keep_50 : decode cX6_keep 50 = .ok (.aload_n 0, 1) := by decide +kernel
theorem dX6_keep_51 : decode cX6_keep 51 = .ok (.getfield 24, 3) := by decide +kernel
theorem dX6_keep_54 : decode cX6_keep 54 = .ok (.iconst 1, 1) := by decide +kernel
theorem dX6_keep_55 : decode cX6_keep 55 = .ok (.iload_n 1, 1) := by decide +kernel
theorem dX6_keep_56 : decode cX6_keep 56 = .ok (.ishl, 1) := by decide +kernel
theorem dX6_keep_57 : decode cX6_keep 57 = .ok (.iconst (-1), 1) := by decide +kernel
theorem dX6_keep_58 : decode cX6_keep 58 = .ok (.ixor, 1) := by decide +kernel
theorem dX6_keep_59 : decode cX6_keep 59 = .ok (.iand, 1) := by decide +kernel
theorem dX6_keep_60 : decode cX6_keep 60 = .ok (.putfield 24, 3) := by decide +kernel
theorem dX6_keep_63 : decode cX6_keep 63 = .ok (.return_, 1) := by decide +kernel
theorem dX6_setCommon_0 : decode cX6_setCommon 0 = .ok (.aload_n 0, 1) := by decide +kernel
theorem dX6_setCommon_1 : decode cX6_setCommon 1 = .ok (.getfield 18, 3) := by decide +kernel
theorem dX6_setCommon_4 : decode cX6_setCommon 4 = .ok (.iconst 1, 1) := by decide +kernel
theorem dX6_setCommon_5 : decode cX6_setCommon 5 = .ok (.iload_n 2, 1) := by decide +kernel
theorem dX6_setCommon_6 : decode cX6_setCommon 6 = .ok (.iastore, 1) := by decide +kernel
theorem dX6_setCommon_7 : decode cX6_setCommon 7 = .ok (.aload_n 0, 1) := by decide +kernel
theorem dX6_setCommon_8 : decode cX6_setCommon 8 = .ok (.getfield 18, 3) := by decide +kernel
theorem dX6_setCommon_11 : decode cX6_setCommon 11 = .ok (.iconst 2, 1) := by decide +kernel
theorem dX6_setCommon_12 : decode cX6_setCommon 12 = .ok (.iload_n 3, 1) := by decide +kernel
theorem dX6_setCommon_13 : decode cX6_setCommon 13 = .ok (.iastore, 1) := by decide +kernel
theorem dX6_setCommon_14 : decode cX6_setCommon 14 = .ok (.aload_n 0, 1) := by decide +kernel
theorem dX6_setCommon_15 : decode cX6_setCommon 15 = .ok (.getfield 18, 3) := by decide +kernel
theorem dX6_setCommon_18 : decode cX6_setCommon 18 = .ok (.bipush 6, 2) := by decide +kernel
theorem dX6_setCommon_20 : decode cX6_setCommon 20 = .ok (.iload 4, 2) := by decide +kernel
theorem dX6_setCommon_22 : decode cX6_setCommon 22 = .ok (.iastore, 1) := by decide +kernel
theorem dX6_setCommon_23 : decode cX6_setCommon 23 = .ok (.aload_n 0, 1) := by decide +kernel
theorem dX6_setCommon_24 : decode cX6_setCommon 24 = .ok (.getfield 18, 3) := by decide +kernel
theorem dX6_setCommon_27 : decode cX6_setCommon 27 = .ok (.bipush 9, 2) := by decide +kernel
theorem dX6_setCommon_29 : decode cX6_setCommon 29 = .ok (.aload_n 1, 1) := by decide +kernel
theorem dX6_setCommon_30 : decode cX6_setCommon 30 = .ok (.getfield 44, 3) := by decide +kernel
theorem dX6_setCommon_33 : decode cX6_setCommon 33 = .ok (.iastore, 1) := by decide +kernel
theorem dX6_setCommon_34 : decode cX6_setCommon 34 = .ok (.aload_n 0, 1) := by decide +kernel
theorem dX6_setCommon_35 : decode cX6_setCommon 35 = .ok (.getfield 18, 3) := by decide +kernel
theorem dX6_setCommon_38 : decode cX6_setCommon 38 = .ok (.bipush 10, 2) := by decide +kernel
theorem dX6_setCommon_40 : decode cX6_setCommon 40 = .ok (.aload_n 1, 1) := by decide +kernel
theorem dX6_setCommon_41 : decode cX6_setCommon 41 = .ok (.getfield 49, 3) := by decide +kernel
theorem dX6_setCommon_44 : decode cX6_setCommon 44 = .ok (.iastore, 1) := by decide +kernel
theorem dX6_setCommon_45 : decode cX6_setCommon 45 = .ok (.return_, 1) := by decide +kernel
theorem dX6_setOwn_0 : decode cX6_setOwn 0 = .ok (.aload_n 0, 1) := by decide +kernel
theorem dX6_setOwn_1 : decode cX6_setOwn 1 = .ok (.getfield 18, 3) := by decide +kernel
theorem dX6_setOwn_4 : decode cX6_setOwn 4 = .ok (.iconst 0, 1) := by decide +kernel
theorem dX6_setOwn_5 : decode cX6_setOwn 5 = .ok (.iload_n 1, 1) := by decide +kernel
theorem dX6_setOwn_6 : decode cX6_setOwn 6 = .ok (.iastore, 1) := by decide +kernel
theorem dX6_setOwn_7 : decode cX6_setOwn 7 = .ok (.aload_n 0, 1) := by decide +kernel
theorem dX6_setOwn_8 : decode cX6_setOwn 8 = .ok (.getfield 18, 3) := by decide +kernel
theorem dX6_setOwn_11 : decode cX6_setOwn 11 = .ok (.iconst 3, 1) := by decide +kernel
theorem dX6_setOwn_12 : decode cX6_setOwn 12 = .ok (.iload_n 2, 1) := by decide +kernel
theorem dX6_setOwn_13 : decode cX6_setOwn 13 = .ok (.iastore, 1) := by decide +kernel
theorem dX6_setOwn_14 : decode cX6_setOwn 14 = .ok (.aload_n 0, 1) := by decide +kernel
theorem dX6_setOwn_15 : decode cX6_setOwn 15 = .ok (.getfield 18, 3) := by decide +kernel
theorem dX6_setOwn_18 : decode cX6_setOwn 18 = .ok (.iconst 4, 1) := by decide +kernel
theorem dX6_setOwn_19 : decode cX6_setOwn 19 = .ok (.iload_n 3, 1) := by decide +kernel
theorem dX6_setOwn_20 : decode cX6_setOwn 20 = .ok (.iastore, 1) := by decide +kernel
theorem dX6_setOwn_21 : decode cX6_setOwn 21 = .ok (.aload_n 0, 1) := by decide +kernel
theorem dX6_setOwn_22 : decode cX6_setOwn 22 = .ok (.getfield 18, 3) := by decide +kernel
theorem dX6_setOwn_25 : decode cX6_setOwn 25 = .ok (.iconst 5, 1) := by decide +kernel
theorem dX6_setOwn_26 : decode cX6_setOwn 26 = .ok (.iload 4, 2) := by decide +kernel
theorem dX6_setOwn_28 : decode cX6_setOwn 28 = .ok (.iastore, 1) := by decide +kernel
theorem dX6_setOwn_29 : decode cX6_setOwn 29 = .ok (.return_, 1) := by decide +kernel
theorem dX6_setGuest_0 : decode cX6_setGuest 0 = .ok (.aload_n 0, 1) := by decide +kernel
theorem dX6_setGuest_1 : decode cX6_setGuest 1 = .ok (.getfield 18, 3) := by decide +kernel
theorem dX6_setGuest_4 : decode cX6_setGuest 4 = .ok (.bipush 7, 2) := by decide +kernel
theorem dX6_setGuest_6 : decode cX6_setGuest 6 = .ok (.aload_n 1, 1) := by decide +kernel
theorem dX6_setGuest_7 : decode cX6_setGuest 7 = .ok (.getfield 52, 3) := by decide +kernel
theorem dX6_setGuest_10 : decode cX6_setGuest 10 = .ok (.iload_n 2, 1) := by decide +kernel
theorem dX6_setGuest_11 : decode cX6_setGuest 11 = .ok (.iaload, 1) := by decide +kernel
theorem dX6_setGuest_12 : decode cX6_setGuest 12 = .ok (.iastore, 1) := by decide +kernel
theorem dX6_setGuest_13 : decode cX6_setGuest 13 = .ok (.aload_n 0, 1) := by decide +kernel
theorem dX6_setGuest_14 : decode cX6_setGuest 14 = .ok (.getfield 18, 3) := by decide +kernel
theorem dX6_setGuest_17 : decode cX6_setGuest 17 = .ok (.bipush 8, 2) := by decide +kernel
theorem dX6_setGuest_19 : decode cX6_setGuest 19 = .ok (.aload_n 1, 1) := by decide +kernel
theorem dX6_setGuest_20 : decode cX6_setGuest 20 = .ok (.getfield 55, 3) := by decide +kernel
theorem dX6_setGuest_23 : decode cX6_setGuest 23 = .ok (.iload_n 2, 1) := by decide +kernel
theorem dX6_setGuest_24 : decode cX6_setGuest 24 = .ok (.iaload, 1) := by decide +kernel
theorem dX6_setGuest_25 : decode cX6_setGuest 25 = .ok (.iastore, 1) := by decide +kernel
theorem dX6_setGuest_26 : decode cX6_setGuest 26 = .ok (.return_, 1) := by decide +kernel
theorem dX6_nextMorning_0 : decode cX6_nextMorning 0 = .ok (.aload_n 0, 1) := by decide +kernel
theorem dX6_nextMorning_1 : decode cX6_nextMorning 1 = .ok (.aload_n 1, 1) := by decide +kernel
theorem dX6_nextMorning_2 : decode cX6_nextMorning 2 = .ok (.getfield 58, 3) := by decide +kernel
theorem dX6_nextMorning_5 : decode cX6_nextMorning 5 = .ok (.aload_n 1, 1) := by decide +kernel
theorem dX6_nextMorning_6 : decode cX6_nextMorning 6 = .ok (.invokevirtual 64, 3) := by decide +kernel
theorem dX6_nextMorning_9 : decode cX6_nextMorning 9 = .ok (.aload_n 1, 1) := by decide +kernel
theorem dX6_nextMorning_10 : decode cX6_nextMorning 10 = .ok (.getfield 68, 3) := by decide +kernel
theorem dX6_nextMorning_13 : decode cX6_nextMorning 13 = .ok (.iload_n 3, 1) := by decide +kernel
theorem dX6_nextMorning_14 : decode cX6_nextMorning 14 = .ok (.invokevirtual 71, 3) := by decide +kernel
theorem dX6_nextMorning_17 : decode cX6_nextMorning 17 = .ok (.iconst 0, 1) := by decide +kernel
theorem dX6_nextMorning_18 : decode cX6_nextMorning 18 = .ok (.istore 5, 2) := by decide +kernel
theorem dX6_nextMorning_20 : decode cX6_nextMorning 20 = .ok (.iload 5, 2) := by decide +kernel
theorem dX6_nextMorning_22 : decode cX6_nextMorning 22 = .ok (.aload_n 1, 1) := by decide +kernel
theorem dX6_nextMorning_23 : decode cX6_nextMorning 23 = .ok (.getfield 58, 3) := by decide +kernel
theorem dX6_nextMorning_26 : decode cX6_nextMorning 26 = .ok (.getfield 49, 3) := by decide +kernel
theorem dX6_nextMorning_29 : decode cX6_nextMorning 29 = .ok (.if_icmp .ge 104, 3) := by decide +kernel
theorem dX6_nextMorning_32 : decode cX6_nextMorning 32 = .ok (.iload 5, 2) := by decide +kernel
theorem dX6_nextMorning_34 : decode cX6_nextMorning 34 = .ok (.bipush 8, 2) := by decide +kernel
theorem dX6_nextMorning_36 : decode cX6_nextMorning 36 = .ok (.imul, 1) := by decide +kernel
theorem dX6_nextMorning_37 : decode cX6_nextMorning 37 = .ok (.istore 6, 2) := by decide +kernel
theorem dX6_nextMorning_39 : decode cX6_nextMorning 39 = .ok (.aload_n 1, 1) := by decide +kernel
theorem dX6_nextMorning_40 : decode cX6_nextMorning 40 = .ok (.getfield 75, 3) := by decide +kernel
theorem dX6_nextMorning_43 : decode cX6_nextMorning 43 = .ok (.iload 6, 2) := by decide +kernel
theorem dX6_nextMorning_45 : decode cX6_nextMorning 45 = .ok (.iconst 5, 1) := by decide +kernel
theorem dX6_nextMorning_46 : decode cX6_nextMorning 46 = .ok (.iadd, 1) := by decide +kernel
theorem dX6_nextMorning_47 : decode cX6_nextMorning 47 = .ok (.iaload, 1) := by decide +kernel
theorem dX6_nextMorning_48 : decode cX6_nextMorning 48 = .ok (.ifCond .le 7, 3) := by decide +kernel
theorem dX6_nextMorning_51 : decode cX6_nextMorning 51 = .ok (.iconst 1, 1) := by decide +kernel
theorem dX6_nextMorning_52 : decode cX6_nextMorning 52 = .ok (.goto 4, 3) := by decide +kernel
theorem dX6_nextMorning_55 : decode cX6_nextMorning 55 = .ok (.iconst 0, 1) := by decide +kernel
theorem dX6_nextMorning_56 : decode cX6_nextMorning 56 = .ok (.istore 7, 2) := by decide +kernel
theorem dX6_nextMorning_58 : decode cX6_nextMorning 58 = .ok (.aload_n 1, 1) := by decide +kernel
theorem dX6_nextMorning_59 : decode cX6_nextMorning 59 = .ok (.getfield 75, 3) := by decide +kernel
theorem dX6_nextMorning_62 : decode cX6_nextMorning 62 = .ok (.iload 6, 2) := by decide +kernel
theorem dX6_nextMorning_64 : decode cX6_nextMorning 64 = .ok (.bipush 6, 2) := by decide +kernel
theorem dX6_nextMorning_66 : decode cX6_nextMorning 66 = .ok (.iadd, 1) := by decide +kernel
theorem dX6_nextMorning_67 : decode cX6_nextMorning 67 = .ok (.iaload, 1) := by decide +kernel
theorem dX6_nextMorning_68 : decode cX6_nextMorning 68 = .ok (.ifCond .le 7, 3) := by decide +kernel
theorem dX6_nextMorning_71 : decode cX6_nextMorning 71 = .ok (.iconst 1, 1) := by decide +kernel
theorem dX6_nextMorning_72 : decode cX6_nextMorning 72 = .ok (.goto 4, 3) := by decide +kernel
theorem dX6_nextMorning_75 : decode cX6_nextMorning 75 = .ok (.iconst 0, 1) := by decide +kernel
theorem dX6_nextMorning_76 : decode cX6_nextMorning 76 = .ok (.istore 8, 2) := by decide +kernel
theorem dX6_nextMorning_78 : decode cX6_nextMorning 78 = .ok (.aload_n 0, 1) := by decide +kernel
theorem dX6_nextMorning_79 : decode cX6_nextMorning 79 = .ok (.aload_n 1, 1) := by decide +kernel
theorem dX6_nextMorning_80 : decode cX6_nextMorning 80 = .ok (.getfield 75, 3) := by decide +kernel
theorem dX6_nextMorning_83 : decode cX6_nextMorning 83 = .ok (.iload 6, 2) := by decide +kernel
theorem dX6_nextMorning_85 : decode cX6_nextMorning 85 = .ok (.iconst 0, 1) := by decide +kernel
theorem dX6_nextMorning_86 : decode cX6_nextMorning 86 = .ok (.iadd, 1) := by decide +kernel
theorem dX6_nextMorning_87 : decode cX6_nextMorning 87 = .ok (.iaload, 1) := by decide +kernel
theorem dX6_nextMorning_88 : decode cX6_nextMorning 88 = .ok (.iload 7, 2) := by decide +kernel
theorem dX6_nextMorning_90 : decode cX6_nextMorning 90 = .ok (.aload_n 1, 1) := by decide +kernel
theorem dX6_nextMorning_91 : decode cX6_nextMorning 91 = .ok (.getfield 75, 3) := by decide +kernel
theorem dX6_nextMorning_94 : decode cX6_nextMorning 94 = .ok (.iload 6, 2) := by decide +kernel
theorem dX6_nextMorning_96 : decode cX6_nextMorning 96 = .ok (.iconst 2, 1) := by decide +kernel
theorem dX6_nextMorning_97 : decode cX6_nextMorning 97 = .ok (.iadd, 1) := by decide +kernel
theorem dX6_nextMorning_98 : decode cX6_nextMorning 98 = .ok (.iaload, 1) := by decide +kernel
theorem dX6_nextMorning_99 : decode cX6_nextMorning 99 = .ok (.iload 8, 2) := by decide +kernel
theorem dX6_nextMorning_101 : decode cX6_nextMorning 101 = .ok (.invokevirtual 78, 3) := by decide +kernel
theorem dX6_nextMorning_104 : decode cX6_nextMorning 104 = .ok (.aload_n 0, 1) := by decide +kernel
theorem dX6_nextMorning_105 : decode cX6_nextMorning 105 = .ok (.aload_n 1, 1) := by decide +kernel
theorem dX6_nextMorning_106 : decode cX6_nextMorning 106 = .ok (.getfield 58, 3) := by decide +kernel
theorem dX6_nextMorning_109 : decode cX6_nextMorning 109 = .ok (.iload 5, 2) := by decide +kernel
theorem dX6_nextMorning_111 : decode cX6_nextMorning 111 = .ok (.invokevirtual 82, 3) := by decide +kernel
theorem dX6_nextMorning_114 : decode cX6_nextMorning 114 = .ok (.aload 4, 2) := by decide +kernel
theorem dX6_nextMorning_116 : decode cX6_nextMorning 116 = .ok (.iload 5, 2) := by decide +kernel
theorem dX6_nextMorning_118 : decode cX6_nextMorning 118 = .ok (.aload_n 0, 1) := by decide +kernel
theorem dX6_nextMorning_119 : decode cX6_nextMorning 119 = .ok (.aload_n 2, 1) := by decide +kernel
theorem dX6_nextMorning_120 : decode cX6_nextMorning 120 = .ok (.iload 5, 2) := by decide +kernel
theorem dX6_nextMorning_122 : decode cX6_nextMorning 122 = .ok (.iaload, 1) := by decide +kernel
theorem dX6_nextMorning_123 : decode cX6_nextMorning 123 = .ok (.invokevirtual 86, 3) := by decide +kernel
theorem dX6_nextMorning_126 : decode cX6_nextMorning 126 = .ok (.iastore, 1) := by decide +kernel
theorem dX6_nextMorning_127 : decode cX6_nextMorning 127 = .ok (.iinc 5 1, 3) := by decide +kernel
theorem dX6_nextMorning_130 : decode cX6_nextMorning 130 = .ok (.goto (-110), 3) := by decide +kernel
theorem dX6_nextMorning_133 : decode cX6_nextMorning 133 = .ok (.return_, 1) := by decide +kernel
theorem dX6_comes_0 : decode cX6_comes 0 = .ok (.aload_n 0, 1) := by decide +kernel
theorem dX6_comes_1 : decode cX6_comes 1 = .ok (.iconst 0, 1) := by decide +kernel
theorem dX6_comes_2 : decode cX6_comes 2 = .ok (.putfield 90, 3) := by decide +kernel
theorem dX6_comes_5 : decode cX6_comes 5 = .ok (.iload_n 1, 1) := by decide +kernel
theorem dX6_comes_6 : decode cX6_comes 6 = .ok (.sipush 150, 3) := by decide +kernel
theorem dX6_comes_9 : decode cX6_comes 9 = .ok (.imul, 1) := by decide +kernel
theorem dX6_comes_10 : decode cX6_comes 10 = .ok (.istore_n 2, 1) := by decide +kernel
theorem dX6_comes_11 : decode cX6_comes 11 = .ok (.iconst 0, 1) := by decide +kernel
theorem dX6_comes_12 : decode cX6_comes 12 = .ok (.istore_n 3, 1) := by decide +kernel
theorem dX6_comes_13 : decode cX6_comes 13 = .ok (.iload_n 3, 1) := by decide +kernel
theorem dX6_comes_14 : decode cX6_comes 14 = .ok (.aload_n 0, 1) := by decide +kernel
theorem dX6_comes_15 : decode cX6_comes 15 = .ok (.getfield 15, 3) := by decide +kernel
theorem dX6_comes_18 : decode cX6_comes 18 = .ok (.iload_n 1, 1) := by decide +kernel
theorem dX6_comes_19 : decode cX6_comes 19 = .ok (.iaload, 1) := by decide +kernel
theorem dX6_comes_20 : decode cX6_comes 20 = .ok (.if_icmp .ge 21, 3) := by decide +kernel
theorem dX6_comes_23 : decode cX6_comes 23 = .ok (.aload_n 0, 1) := by decide +kernel
theorem dX6_comes_24 : decode cX6_comes 24 = .ok (.aload_n 0, 1) := by decide +kernel
theorem dX6_comes_25 : decode cX6_comes 25 = .ok (.getfield 9, 3) := by decide +kernel
theorem dX6_comes_28 : decode cX6_comes 28 = .ok (.iload_n 2, 1) := by decide +kernel
theorem dX6_comes_29 : decode cX6_comes 29 = .ok (.iload_n 3, 1) := by decide +kernel
theorem dX6_comes_30 : decode cX6_comes 30 = .ok (.iadd, 1) := by decide +kernel
theorem dX6_comes_31 : decode cX6_comes 31 = .ok (.iaload, 1) := by decide +kernel
theorem dX6_comes_32 : decode cX6_comes 32 = .ok (.invokevirtual 93, 3) := by decide +kernel
theorem dX6_comes_35 : decode cX6_comes 35 = .ok (.iinc 3 1, 3) := by decide +kernel
theorem dX6_comes_38 : decode cX6_comes 38 = .ok (.goto (-25), 3) := by decide +kernel
theorem dX6_comes_41 : decode cX6_comes 41 = .ok (.aload_n 0, 1) := by decide +kernel
theorem dX6_comes_42 : decode cX6_comes 42 = .ok (.invokevirtual 97, 3) := by decide +kernel
theorem dX6_comes_45 : decode cX6_comes 45 = .ok (.istore_n 3, 1) := by decide +kernel
theorem dX6_comes_46 : decode cX6_comes 46 = .ok (.iload_n 3, 1) := by decide +kernel
theorem dX6_comes_47 : decode cX6_comes 47 = .ok (.ifCond .ge 7, 3) := by decide +kernel
theorem dX6_comes_50 : decode cX6_comes 50 = .ok (.iconst 0, 1) := by decide +kernel
theorem dX6_comes_51 : decode cX6_comes 51 = .ok (.goto 15, 3) := by decide +kernel
theorem dX6_comes_54 : decode cX6_comes 54 = .ok (.iload_n 3, 1) := by decide +kernel
theorem dX6_comes_55 : decode cX6_comes 55 = .ok (.bipush 23, 2) := by decide +kernel
theorem dX6_comes_57 : decode cX6_comes 57 = .ok (.if_icmp .le 8, 3) := by decide +kernel
theorem dX6_comes_60 : decode cX6_comes 60 = .ok (.bipush 23, 2) := by decide +kernel
theorem dX6_comes_62 : decode cX6_comes 62 = .ok (.goto 4, 3) := by decide +kernel
theorem dX6_comes_65 : decode cX6_comes 65 = .ok (.iload_n 3, 1) := by decide +kernel
theorem dX6_comes_66 : decode cX6_comes 66 = .ok (.ireturn, 1) := by decide +kernel
theorem dX6_take_0 : decode cX6_take 0 = .ok (.iload_n 1, 1) := by decide +kernel
theorem dX6_take_1 : decode cX6_take 1 = .ok (.bipush 100, 2) := by decide +kernel
theorem dX6_take_3 : decode cX6_take 3 = .ok (.if_icmp .ge 11, 3) := by decide +kernel
theorem dX6_take_6 : decode cX6_take 6 = .ok (.aload_n 0, 1) := by decide +kernel
theorem dX6_take_7 : decode cX6_take 7 = .ok (.iload_n 1, 1) := by decide +kernel
theorem dX6_take_8 : decode cX6_take 8 = .ok (.invokevirtual 100, 3) := by decide +kernel
theorem dX6_take_11 : decode cX6_take 11 = .ok (.goto 72, 3) := by decide +kernel
theorem dX6_take_14 : decode cX6_take 14 = .ok (.iload_n 1, 1) := by decide +kernel
theorem dX6_take_15 : decode cX6_take 15 = .ok (.sipush 200, 3) := by decide +kernel
theorem dX6_take_18 : decode cX6_take 18 = .ok (.if_icmp .ge 19, 3) := by decide +kernel
theorem dX6_take_21 : decode cX6_take 21 = .ok (.aload_n 0, 1) := by decide +kernel
theorem dX6_take_22 : decode cX6_take 22 = .ok (.aload_n 0, 1) := by decide +kernel
theorem dX6_take_23 : decode cX6_take 23 = .ok (.getfield 18, 3) := by decide +kernel
theorem dX6_take_26 : decode cX6_take 26 = .ok (.iload_n 1, 1) := by decide +kernel
theorem dX6_take_27 : decode cX6_take 27 = .ok (.bipush 100, 2) := by decide +kernel
theorem dX6_take_29 : decode cX6_take 29 = .ok (.isub, 1) := by decide +kernel
theorem dX6_take_30 : decode cX6_take 30 = .ok (.iaload, 1) := by decide +kernel
theorem dX6_take_31 : decode cX6_take 31 = .ok (.invokevirtual 100, 3) := by decide +kernel
theorem dX6_take_34 : decode cX6_take 34 = .ok (.goto 49, 3) := by decide +kernel
theorem dX6_take_37 : decode cX6_take 37 = .ok (.aload_n 0, 1) := by decide +kernel
theorem dX6_take_38 : decode cX6_take 38 = .ok (.invokevirtual 97, 3) := by decide +kernel
theorem dX6_take_41 : decode cX6_take 41 = .ok (.istore_n 2, 1) := by decide +kernel
theorem dX6_take_42 : decode cX6_take 42 = .ok (.aload_n 0, 1) := by decide +kernel
theorem dX6_take_43 : decode cX6_take 43 = .ok (.invokevirtual 97, 3) := by decide +kernel
theorem dX6_take_46 : decode cX6_take 46 = .ok (.istore_n 3, 1) := by decide +kernel
theorem dX6_take_47 : decode cX6_take 47 = .ok (.iload_n 1, 1) := by decide +kernel
theorem dX6_take_48 : decode cX6_take 48 = .ok (.sipush 210, 3) := by decide +kernel
theorem dX6_take_51 : decode cX6_take 51 = .ok (.if_icmp .ne 22, 3) := by decide +kernel
theorem dX6_take_54 : decode cX6_take 54 = .ok (.aload_n 0, 1) := by decide +kernel
theorem dX6_take_55 : decode cX6_take 55 = .ok (.aload_n 0, 1) := by decide +kernel
theorem dX6_take_56 : decode cX6_take 56 = .ok (.invokevirtual 97, 3) := by decide +kernel
theorem dX6_take_59 : decode cX6_take 59 = .ok (.ifCond .eq 7, 3) := by decide +kernel
theorem dX6_take_62 : decode cX6_take 62 = .ok (.iload_n 3, 1) := by decide +kernel
theorem dX6_take_63 : decode cX6_take 63 = .ok (.goto 4, 3) := by decide +kernel
theorem dX6_take_66 : decode cX6_take 66 = .ok (.iload_n 2, 1) := by decide +kernel
theorem dX6_take_67 : decode cX6_take 67 = .ok (.invokevirtual 100, 3) := by decide +kernel
theorem dX6_take_70 : decode cX6_take 70 = .ok (.goto 13, 3) := by decide +kernel
theorem dX6_take_73 : decode cX6_take 73 = .ok (.aload_n 0, 1) := by decide +kernel
theorem dX6_take_74 : decode cX6_take 74 = .ok (.iload_n 1, 1) := by decide +kernel
theorem dX6_take_75 : decode cX6_take 75 = .ok (.iload_n 3, 1) := by decide +kernel
theorem dX6_take_76 : decode cX6_take 76 = .ok (.iload_n 2, 1) := by decide +kernel
theorem dX6_take_77 : decode cX6_take 77 = .ok (.invokestatic 103, 3) := by decide +kernel
theorem dX6_take_80 : decode cX6_take 80 = .ok (.invokevirtual 100, 3) := by decide +kernel
theorem dX6_take_83 : decode cX6_take 83 = .ok (.return_, 1) := by decide +kernel
theorem dX6_join_0 : decode cX6_join 0 = .ok (.iload_n 0, 1) := by decide +kernel
theorem dX6_join_1 : decode cX6_join 1 = .ok (.tableswitch 131 200 208 #[51, 55, 59, 63, 75, 87, 98, 109, 120], 51) := by decide +kernel
theorem dX6_join_52 : decode cX6_join 52 = .ok (.iload_n 1, 1) := by decide +kernel
theorem dX6_join_53 : decode cX6_join 53 = .ok (.iload_n 2, 1) := by decide +kernel
theorem dX6_join_54 : decode cX6_join 54 = .ok (.iadd, 1) := by decide +kernel
theorem dX6_join_55 : decode cX6_join 55 = .ok (.ireturn, 1) := by decide +kernel
theorem dX6_join_56 : decode cX6_join 56 = .ok (.iload_n 1, 1) := by decide +kernel
theorem dX6_join_57 : decode cX6_join 57 = .ok (.iload_n 2, 1) := by decide +kernel
theorem dX6_join_58 : decode cX6_join 58 = .ok (.isub, 1) := by decide +kernel
theorem dX6_join_59 : decode cX6_join 59 = .ok (.ireturn, 1) := by decide +kernel
theorem dX6_join_60 : decode cX6_join 60 = .ok (.iload_n 1, 1) := by decide +kernel
theorem dX6_join_61 : decode cX6_join 61 = .ok (.iload_n 2, 1) := by decide +kernel
theorem dX6_join_62 : decode cX6_join 62 = .ok (.imul, 1) := by decide +kernel
theorem dX6_join_63 : decode cX6_join 63 = .ok (.ireturn, 1) := by decide +kernel
theorem dX6_join_64 : decode cX6_join 64 = .ok (.iload_n 2, 1) := by decide +kernel
theorem dX6_join_65 : decode cX6_join 65 = .ok (.ifCond .ne 7, 3) := by decide +kernel
theorem dX6_join_68 : decode cX6_join 68 = .ok (.iconst 0, 1) := by decide +kernel
theorem dX6_join_69 : decode cX6_join 69 = .ok (.goto 6, 3) := by decide +kernel
theorem dX6_join_72 : decode cX6_join 72 = .ok (.iload_n 1, 1) := by decide +kernel
theorem dX6_join_73 : decode cX6_join 73 = .ok (.iload_n 2, 1) := by decide +kernel
theorem dX6_join_74 : decode cX6_join 74 = .ok (.idiv, 1) := by decide +kernel
theorem dX6_join_75 : decode cX6_join 75 = .ok (.ireturn, 1) := by decide +kernel
theorem dX6_join_76 : decode cX6_join 76 = .ok (.iload_n 2, 1) := by decide +kernel
theorem dX6_join_77 : decode cX6_join 77 = .ok (.ifCond .ne 7, 3) := by decide +kernel
theorem dX6_join_80 : decode cX6_join 80 = .ok (.iconst 0, 1) := by decide +kernel
theorem dX6_join_81 : decode cX6_join 81 = .ok (.goto 6, 3) := by decide +kernel
theorem dX6_join_84 : decode cX6_join 84 = .ok (.iload_n 1, 1) := by decide +kernel
theorem dX6_join_85 : decode cX6_join 85 = .ok (.iload_n 2, 1) := by decide +kernel
theorem dX6_join_86 : decode cX6_join 86 = .ok (.irem, 1) := by decide +kernel
theorem dX6_join_87 : decode cX6_join 87 = .ok (.ireturn, 1) := by decide +kernel
theorem dX6_join_88 : decode cX6_join 88 = .ok (.iload_n 1, 1) := by decide +kernel
theorem dX6_join_89 : decode cX6_join 89 = .ok (.iload_n 2, 1) := by decide +kernel
theorem dX6_join_90 : decode cX6_join 90 = .ok (.if_icmp .ge 7, 3) := by decide +kernel
theorem dX6_join_93 : decode cX6_join 93 = .ok (.iload_n 1, 1) := by decide +kernel
theorem dX6_join_94 : decode cX6_join 94 = .ok (.goto 4, 3) := by decide +kernel
theorem dX6_join_97 : decode cX6_join 97 = .ok (.iload_n 2, 1) := by decide +kernel
theorem dX6_join_98 : decode cX6_join 98 = .ok (.ireturn, 1) := by decide +kernel
theorem dX6_join_99 : decode cX6_join 99 = .ok (.iload_n 1, 1) := by decide +kernel
theorem dX6_join_100 : decode cX6_join 100 = .ok (.iload_n 2, 1) := by decide +kernel
theorem dX6_join_101 : decode cX6_join 101 = .ok (.if_icmp .le 7, 3) := by decide +kernel
theorem dX6_join_104 : decode cX6_join 104 = .ok (.iload_n 1, 1) := by decide +kernel
theorem dX6_join_105 : decode cX6_join 105 = .ok (.goto 4, 3) := by decide +kernel
theorem dX6_join_108 : decode cX6_join 108 = .ok (.iload_n 2, 1) := by decide +kernel
theorem dX6_join_109 : decode cX6_join 109 = .ok (.ireturn, 1) := by decide +kernel
theorem dX6_join_110 : decode cX6_join 110 = .ok (.iload_n 1, 1) := by decide +kernel
theorem dX6_join_111 : decode cX6_join 111 = .ok (.iload_n 2, 1) := by decide +kernel
theorem dX6_join_112 : decode cX6_join 112 = .ok (.if_icmp .ge 7, 3) := by decide +kernel
theorem dX6_join_115 : decode cX6_join 115 = .ok (.iconst 1, 1) := by decide +kernel
theorem dX6_join_116 : decode cX6_join 116 = .ok (.goto 4, 3) := by decide +kernel
theorem dX6_join_119 : decode cX6_join 119 = .ok (.iconst 0, 1) := by decide +kernel
theorem dX6_join_120 : decode cX6_join 120 = .ok (.ireturn, 1) := by decide +kernel
theorem dX6_join_121 : decode cX6_join 121 = .ok (.iload_n 1, 1) := by decide +kernel
theorem dX6_join_122 : decode cX6_join 122 = .ok (.iload_n 2, 1) := by decide +kernel
theorem dX6_join_123 : decode cX6_join 123 = .ok (.if_icmp .le 7, 3) := by decide +kernel
theorem dX6_join_126 : decode cX6_join 126 = .ok (.iconst 1, 1) := by decide +kernel
theorem dX6_join_127 : decode cX6_join 127 = .ok (.goto 4, 3) := by decide +kernel
theorem dX6_join_130 : decode cX6_join 130 = .ok (.iconst 0, 1) := by decide +kernel
theorem dX6_join_131 : decode cX6_join 131 = .ok (.ireturn, 1) := by decide +kernel
theorem dX6_join_132 : decode cX6_join 132 = .ok (.iload_n 1, 1) := by decide +kernel
theorem dX6_join_133 : decode cX6_join 133 = .ok (.iload_n 2, 1) := by decide +kernel
theorem dX6_join_134 : decode cX6_join 134 = .ok (.if_icmp .ne 7, 3) := by decide +kernel
theorem dX6_join_137 : decode cX6_join 137 = .ok (.iconst 1, 1) := by decide +kernel
theorem dX6_join_138 : decode cX6_join 138 = .ok (.goto 4, 3) := by decide +kernel
theorem dX6_join_141 : decode cX6_join 141 = .ok (.iconst 0, 1) := by decide +kernel
theorem dX6_join_142 : decode cX6_join 142 = .ok (.ireturn, 1) := by decide +kernel
theorem dX6_push_0 : decode cX6_push 0 = .ok (.aload_n 0, 1) := by decide +kernel
theorem dX6_push_1 : decode cX6_push 1 = .ok (.getfield 90, 3) := by decide +kernel
theorem dX6_push_4 : decode cX6_push 4 = .ok (.aload_n 0, 1) := by decide +kernel
theorem dX6_push_5 : decode cX6_push 5 = .ok (.getfield 21, 3) := by decide +kernel
theorem dX6_push_8 : decode cX6_push 8 = .ok (.arraylength, 1) := by decide +kernel
theorem dX6_push_9 : decode cX6_push 9 = .ok (.if_icmp .ge 23, 3) := by decide +kernel
theorem dX6_push_12 : decode cX6_push 12 = .ok (.aload_n 0, 1) := by decide +kernel
theorem dX6_push_13 : decode cX6_push 13 = .ok (.getfield 21, 3) := by decide +kernel
theorem dX6_push_16 : decode cX6_push 16 = .ok (.aload_n 0, 1) := by decide +kernel
theorem dX6_push_17 : decode cX6_push 17 = .ok (.getfield 90, 3) := by decide +kernel
theorem dX6_push_20 : decode cX6_push 20 = .ok (.iload_n 1, 1) := by decide +kernel
theorem dX6_push_21 : decode cX6_push 21 = .ok (.iastore, 1) := by decide +kernel
theorem dX6_push_22 : decode cX6_push 22 = .ok (.aload_n 0, 1) := by decide +kernel
theorem dX6_push_23 : decode cX6_push 23 = .ok (.dup, 1) := by decide +kernel
theorem dX6_push_24 : decode cX6_push 24 = .ok (.getfield 90, 3) := by decide +kernel
theorem dX6_push_27 : decode cX6_push 27 = .ok (.iconst 1, 1) := by decide +kernel
theorem dX6_push_28 : decode cX6_push 28 = .ok (.iadd, 1) := by decide +kernel
theorem dX6_push_29 : decode cX6_push 29 = .ok (.putfield 90, 3) := by decide +kernel
theorem dX6_push_32 : decode cX6_push 32 = .ok (.return_, 1) := by decide +kernel
theorem dX6_pop_0 : decode cX6_pop 0 = .ok (.aload_n 0, 1) := by decide +kernel
theorem dX6_pop_1 : decode cX6_pop 1 = .ok (.getfield 90, 3) := by decide +kernel
theorem dX6_pop_4 : decode cX6_pop 4 = .ok (.ifCond .ne 5, 3) := by decide +kernel
theorem dX6_pop_7 : decode cX6_pop 7 = .ok (.iconst 0, 1) := by decide +kernel
theorem dX6_pop_8 : decode cX6_pop 8 = .ok (.ireturn, 1) := by decide +kernel
theorem dX6_pop_9 : decode cX6_pop 9 = .ok (.aload_n 0, 1) := by decide +kernel
theorem dX6_pop_10 : decode cX6_pop 10 = .ok (.dup, 1) := by decide +kernel
theorem dX6_pop_11 : decode cX6_pop 11 = .ok (.getfield 90, 3) := by decide +kernel
theorem dX6_pop_14 : decode cX6_pop 14 = .ok (.iconst 1, 1) := by decide +kernel
theorem dX6_pop_15 : decode cX6_pop 15 = .ok (.isub, 1) := by decide +kernel
theorem dX6_pop_16 : decode cX6_pop 16 = .ok (.putfield 90, 3) := by decide +kernel
theorem dX6_pop_19 : decode cX6_pop 19 = .ok (.aload_n 0, 1) := by decide +kernel
theorem dX6_pop_20 : decode cX6_pop 20 = .ok (.getfield 21, 3) := by decide +kernel
theorem dX6_pop_23 : decode cX6_pop 23 = .ok (.aload_n 0, 1) := by decide +kernel
theorem dX6_pop_24 : decode cX6_pop 24 = .ok (.getfield 90, 3) := by decide +kernel
theorem dX6_pop_27 : decode cX6_pop 27 = .ok (.iaload, 1) := by decide +kernel
theorem dX6_pop_28 : decode cX6_pop 28 = .ok (.ireturn, 1) := by decide +kernel
theorem dX7_init_0 : decode cX7_init 0 = .ok (.aload_n 0, 1) := by decide +kernel
theorem dX7_init_1 : decode cX7_init 1 = .ok (.invokespecial 3, 3) := by decide +kernel
theorem dX7_init_4 : decode cX7_init 4 = .ok (.aload_n 0, 1) := by decide +kernel
theorem dX7_init_5 : decode cX7_init 5 = .ok (.bipush 8, 2) := by decide +kernel
theorem dX7_init_7 : decode cX7_init 7 = .ok (.newarray .int, 2) := by decide +kernel
theorem dX7_init_9 : decode cX7_init 9 = .ok (.putfield 9, 3) := by decide +kernel
theorem dX7_init_12 : decode cX7_init 12 = .ok (.aload_n 0, 1) := by decide +kernel
theorem dX7_init_13 : decode cX7_init 13 = .ok (.bipush 60, 2) := by decide +kernel
theorem dX7_init_15 : decode cX7_init 15 = .ok (.newarray .int, 2) := by decide +kernel
theorem dX7_init_17 : decode cX7_init 17 = .ok (.putfield 17, 3) := by decide +kernel
theorem dX7_init_20 : decode cX7_init 20 = .ok (.return_, 1) := by decide +kernel
theorem dX7_keep_0 : decode cX7_keep 0 = .ok (.aload_n 1, 1) := by decide +kernel
theorem dX7_keep_1 : decode cX7_keep 1 = .ok (.getfield 20, 3) := by decide +kernel
theorem dX7_keep_4 : decode cX7_keep 4 = .ok (.iconst 0, 1) := by decide +kernel
theorem dX7_keep_5 : decode cX7_keep 5 = .ok (.aload_n 0, 1) := by decide +kernel
theorem dX7_keep_6 : decode cX7_keep 6 = .ok (.getfield 9, 3) := by decide +kernel
theorem dX7_keep_9 : decode cX7_keep 9 = .ok (.iconst 0, 1) := by decide +kernel
theorem dX7_keep_10 : decode cX7_keep 10 = .ok (.aload_n 0, 1) := by decide +kernel
theorem dX7_keep_11 : decode cX7_keep 11 = .ok (.getfield 9, 3) := by decide +kernel
theorem dX7_keep_14 : decode cX7_keep 14 = .ok (.arraylength, 1) := by decide +kernel
theorem dX7_keep_15 : decode cX7_keep 15 = .ok (.invokestatic 23, 3) := by decide +kernel
theorem dX7_keep_18 : decode cX7_keep 18 = .ok (.aload_n 2, 1) := by decide +kernel
theorem dX7_keep_19 : decode cX7_keep 19 = .ok (.getfield 29, 3) := by decide +kernel
theorem dX7_keep_22 : decode cX7_keep 22 = .ok (.iconst 0, 1) := by decide +kernel
theorem dX7_keep_23 : decode cX7_keep 23 = .ok (.aload_n 0, 1) := by decide +kernel
theorem dX7_keep_24 : decode cX7_keep 24 = .ok (.getfield 17, 3) := by decide +kernel
theorem dX7_keep_27 : decode cX7_keep 27 = .ok (.iconst 0, 1) := by decide +kernel
theorem dX7_keep_28 : decode cX7_keep 28 = .ok (.aload_n 0, 1) := by decide +kernel
theorem dX7_keep_29 : decode cX7_keep 29 = .ok (.getfield 17, 3) := by decide +kernel
theorem dX7_keep_32 : decode cX7_keep 32 = .ok (.arraylength, 1) := by decide +kernel
theorem dX7_keep_33 : decode cX7_keep 33 = .ok (.invokestatic 23, 3) := by decide +kernel
theorem dX7_keep_36 : decode cX7_keep 36 = .ok (.aload_n 0, 1) := by decide +kernel
theorem dX7_keep_37 : decode cX7_keep 37 = .ok (.aload_n 2, 1) := by decide +kernel
theorem dX7_keep_38 : decode cX7_keep 38 = .ok (.getfield 30, 3) := by decide +kernel
theorem dX7_keep_41 : decode cX7_keep 41 = .ok (.putfield 34, 3) := by decide +kernel
theorem dX7_keep_44 : decode cX7_keep 44 = .ok (.aload_n 0, 1) := by decide +kernel
theorem dX7_keep_45 : decode cX7_keep 45 = .ok (.aload_n 1, 1) := by decide +kernel
theorem dX7_keep_46 : decode cX7_keep 46 = .ok (.getfield 35, 3) := by decide +kernel
theorem dX7_keep_49 : decode cX7_keep 49 = .ok (.putfield 38, 3) := by decide +kernel
theorem dX7_keep_52 : decode cX7_keep 52 = .ok (.aload_n 0, 1) := by decide +kernel
theorem dX7_keep_53 : decode cX7_keep 53 = .ok (.aload_n 1, 1) := by decide +kernel
theorem dX7_keep_54 : decode cX7_keep 54 = .ok (.getfield 39, 3) := by decide +kernel
theorem dX7_keep_57 : decode cX7_keep 57 = .ok (.putfield 42, 3) := by decide +kernel
theorem dX7_keep_60 : decode cX7_keep 60 = .ok (.aload_n 0, 1) := by decide +kernel
theorem dX7_keep_61 : decode cX7_keep 61 = .ok (.aload_n 1, 1) := by decide +kernel
theorem dX7_keep_62 : decode cX7_keep 62 = .ok (.getfield 43, 3) := by decide +kernel
theorem dX7_keep_65 : decode cX7_keep 65 = .ok (.putfield 46, 3) := by decide +kernel
theorem dX7_keep_68 : decode cX7_keep 68 = .ok (.aload_n 0, 1) := by decide +kernel
theorem dX7_keep_69 : decode cX7_keep 69 = .ok (.iload_n 3, 1) := by decide +kernel
theorem dX7_keep_70 : decode cX7_keep 70 = .ok (.putfield 47, 3) := by decide +kernel
theorem dX7_keep_73 : decode cX7_keep 73 = .ok (.return_, 1) := by decide +kernel
theorem dX7_giveBack_0 : decode cX7_giveBack 0 = .ok (.aload_n 0, 1) := by decide +kernel
theorem dX7_giveBack_1 : decode cX7_giveBack 1 = .ok (.getfield 9, 3) := by decide +kernel
theorem dX7_giveBack_4 : decode cX7_giveBack 4 = .ok (.iconst 0, 1) := by decide +kernel
theorem dX7_giveBack_5 : decode cX7_giveBack 5 = .ok (.aload_n 1, 1) := by decide +kernel
theorem dX7_giveBack_6 : decode cX7_giveBack 6 = .ok (.getfield 20, 3) := by decide +kernel
theorem dX7_giveBack_9 : decode cX7_giveBack 9 = .ok (.iconst 0, 1) := by decide +kernel
theorem dX7_giveBack_10 : decode cX7_giveBack 10 = .ok (.aload_n 0, 1) := by decide +kernel
theorem dX7_giveBack_11 : decode cX7_giveBack 11 = .ok (.getfield 9, 3) := by decide +kernel
theorem dX7_giveBack_14 : decode cX7_giveBack 14 = .ok (.arraylength, 1) := by decide +kernel
theorem dX7_giveBack_15 : decode cX7_giveBack 15 = .ok (.invokestatic 23, 3) := by decide +kernel
theorem dX7_giveBack_18 : decode cX7_giveBack 18 = .ok (.aload_n 0, 1) := by decide +kernel
theorem dX7_giveBack_19 : decode cX7_giveBack 19 = .ok (.getfield 17, 3) := by decide +kernel
theorem dX7_giveBack_22 : decode cX7_giveBack 22 = .ok (.iconst 0, 1) := by decide +kernel
theorem dX7_giveBack_23 : decode cX7_giveBack 23 = .ok (.aload_n 2, 1) := by decide +kernel
theorem dX7_giveBack_24 : decode cX7_giveBack 24 = .ok (.getfield 29, 3) := by decide +kernel
theorem dX7_giveBack_27 : decode cX7_giveBack 27 = .ok (.iconst 0, 1) := by decide +kernel
theorem dX7_giveBack_28 : decode cX7_giveBack 28 = .ok (.aload_n 0, 1) := by decide +kernel
theorem dX7_giveBack_29 : decode cX7_giveBack 29 = .ok (.getfield 17, 3) := by decide +kernel
theorem dX7_giveBack_32 : decode cX7_giveBack 32 = .ok (.arraylength, 1) := by decide +kernel
theorem dX7_giveBack_33 : decode cX7_giveBack 33 = .ok (.invokestatic 23, 3) := by decide +kernel
theorem dX7_giveBack_36 : decode cX7_giveBack 36 = .ok (.aload_n 2, 1) := by decide +kernel
theorem dX7_giveBack_37 : decode cX7_giveBack 37 = .ok (.aload_n 0, 1) := by decide +kernel
theorem dX7_giveBack_38 : decode cX7_giveBack 38 = .ok (.getfield 34, 3) := by decide +kernel
theorem dX7_giveBack_41 : decode cX7_giveBack 41 = .ok (.putfield 30, 3) := by decide +kernel
theorem dX7_giveBack_44 : decode cX7_giveBack 44 = .ok (.aload_n 1, 1) := by decide +kernel
theorem dX7_giveBack_45 : decode cX7_giveBack 45 = .ok (.aload_n 0, 1) := by decide +kernel
theorem dX7_giveBack_46 : decode cX7_giveBack 46 = .ok (.getfield 38, 3) := by decide +kernel
theorem dX7_giveBack_49 : decode cX7_giveBack 49 = .ok (.putfield 35, 3) := by decide +kernel
theorem dX7_giveBack_52 : decode cX7_giveBack 52 = .ok (.aload_n 1, 1) := by decide +kernel
theorem dX7_giveBack_53 : decode cX7_giveBack 53 = .ok (.aload_n 0, 1) := by decide +kernel
theorem dX7_giveBack_54 : decode cX7_giveBack 54 = .ok (.getfield 42, 3) := by decide +kernel
theorem dX7_giveBack_57 : decode cX7_giveBack 57 = .ok (.putfield 39, 3) := by decide +kernel
theorem dX7_giveBack_60 : decode cX7_giveBack 60 = .ok (.aload_n 1, 1) := by decide +kernel
theorem dX7_giveBack_61 : decode cX7_giveBack 61 = .ok (.aload_n 0, 1) := by decide +kernel
theorem dX7_giveBack_62 : decode cX7_giveBack 62 = .ok (.getfield 46, 3) := by decide +kernel
theorem dX7_giveBack_65 : decode cX7_giveBack 65 = .ok (.putfield 43, 3) := by decide +kernel
theorem dX7_giveBack_68 : decode cX7_giveBack 68 = .ok (.return_, 1) := by decide +kernel
theorem dX8_init_0 : decode cX8_init 0 = .ok (.aload_n 0, 1) := by decide +kernel
theorem dX8_init_1 : decode cX8_init 1 = .ok (.invokespecial 3, 3) := by decide +kernel
theorem dX8_init_4 : decode cX8_init 4 = .ok (.aload_n 0, 1) := by decide +kernel
theorem dX8_init_5 : decode cX8_init 5 = .ok (.bipush 8, 2) := by decide +kernel
theorem dX8_init_7 : decode cX8_init 7 = .ok (.newarray .int, 2) := by decide +kernel
theorem dX8_init_9 : decode cX8_init 9 = .ok (.putfield 9, 3) := by decide +kernel
theorem dX8_init_12 : decode cX8_init 12 = .ok (.aload_n 0, 1) := by decide +kernel
theorem dX8_init_13 : decode cX8_init 13 = .ok (.bipush 8, 2) := by decide +kernel
theorem dX8_init_15 : decode cX8_init 15 = .ok (.newarray .int, 2) := by decide +kernel
theorem dX8_init_17 : decode cX8_init 17 = .ok (.putfield 15, 3) := by decide +kernel
theorem dX8_init_20 : decode cX8_init 20 = .ok (.aload_n 0, 1) := by decide +kernel
theorem dX8_init_21 : decode cX8_init 21 = .ok (.bipush 8, 2) := by decide +kernel
theorem dX8_init_23 : decode cX8_init 23 = .ok (.newarray .int, 2) := by decide +kernel
theorem dX8_init_25 : decode cX8_init 25 = .ok (.putfield 18, 3) := by decide +kernel
theorem dX8_init_28 : decode cX8_init 28 = .ok (.aload_n 0, 1) := by decide +kernel
theorem dX8_init_29 : decode cX8_init 29 = .ok (.bipush 8, 2) := by decide +kernel
theorem dX8_init_31 : decode cX8_init 31 = .ok (.newarray .int, 2) := by decide +kernel
theorem dX8_init_33 : decode cX8_init 33 = .ok (.putfield 21, 3) := by decide +kernel
theorem dX8_init_36 : decode cX8_init 36 = .ok (.aload_n 0, 1) := by decide +kernel
theorem dX8_init_37 : decode cX8_init 37 = .ok (.bipush 8, 2) := by decide +kernel
theorem dX8_init_39 : decode cX8_init 39 = .ok (.newarray .int, 2) := by decide +kernel
theorem dX8_init_41 : decode cX8_init 41 = .ok (.putfield 24, 3) := by decide +kernel
theorem dX8_init_44 : decode cX8_init 44 = .ok (.aload_n 0, 1) := by decide +kernel
theorem dX8_init_45 : decode cX8_init 45 = .ok (.bipush 8, 2) := by decide +kernel
theorem dX8_init_47 : decode cX8_init 47 = .ok (.newarray .int, 2) := by decide +kernel
theorem dX8_init_49 : decode cX8_init 49 = .ok (.putfield 27, 3) := by decide +kernel
theorem dX8_init_52 : decode cX8_init 52 = .ok (.return_, 1) := by decide +kernel
theorem dX8_clear_0 : decode cX8_clear 0 = .ok (.aload_n 0, 1) := by decide +kernel
theorem dX8_clear_1 : decode cX8_clear 1 = .ok (.iconst 0, 1) := by decide +kernel
theorem dX8_clear_2 : decode cX8_clear 2 = .ok (.putfield 30, 3) := by decide +kernel
theorem dX8_clear_5 : decode cX8_clear 5 = .ok (.aload_n 0, 1) := by decide +kernel
theorem dX8_clear_6 : decode cX8_clear 6 = .ok (.iconst 0, 1) := by decide +kernel
theorem dX8_clear_7 : decode cX8_clear 7 = .ok (.putfield 34, 3) := by decide +kernel
theorem dX8_clear_10 : decode cX8_clear 10 = .ok (.aload_n 0, 1) := by decide +kernel
theorem dX8_clear_11 : decode cX8_clear 11 = .ok (.iconst 0, 1) := by decide +kernel
theorem dX8_clear_12 : decode cX8_clear 12 = .ok (.putfield 37, 3) := by decide +kernel
theorem dX8_clear_15 : decode cX8_clear 15 = .ok (.aload_n 0, 1) := by decide +kernel
theorem dX8_clear_16 : decode cX8_clear 16 = .ok (.iconst 2, 1) := by decide +kernel
theorem dX8_clear_17 : decode cX8_clear 17 = .ok (.putfield 40, 3) := by decide +kernel
theorem dX8_clear_20 : decode cX8_clear 20 = .ok (.aload_n 0, 1) := by decide +kernel
theorem dX8_clear_21 : decode cX8_clear 21 = .ok (.iconst 0, 1) := by decide +kernel
theorem dX8_clear_22 : decode cX8_clear 22 = .ok (.putfield 43, 3) := by decide +kernel
theorem dX8_clear_25 : decode cX8_clear 25 = .ok (.return_, 1) := by decide +kernel
theorem dX8_copy_0 : decode cX8_copy 0 = .ok (.aload_n 1, 1) := by decide +kernel
theorem dX8_copy_1 : decode cX8_copy 1 = .ok (.getfield 9, 3) := by decide +kernel
theorem dX8_copy_4 : decode cX8_copy 4 = .ok (.iconst 0, 1) := by decide +kernel
theorem dX8_copy_5 : decode cX8_copy 5 = .ok (.aload_n 0, 1) := by decide +kernel
theorem dX8_copy_6 : decode cX8_copy 6 = .ok (.getfield 9, 3) := by decide +kernel
theorem dX8_copy_9 : decode cX8_copy 9 = .ok (.iconst 0, 1) := by decide +kernel
theorem dX8_copy_10 : decode cX8_copy 10 = .ok (.bipush 8, 2) := by decide +kernel
theorem dX8_copy_12 : decode cX8_copy 12 = .ok (.invokestatic 46, 3) := by decide +kernel
theorem dX8_copy_15 : decode cX8_copy 15 = .ok (.aload_n 1, 1) := by decide +kernel
theorem dX8_copy_16 : decode cX8_copy 16 = .ok (.getfield 15, 3) := by decide +kernel
theorem dX8_copy_19 : decode cX8_copy 19 = .ok (.iconst 0, 1) := by decide +kernel
theorem dX8_copy_20 : decode cX8_copy 20 = .ok (.aload_n 0, 1) := by decide +kernel
theorem dX8_copy_21 : decode cX8_copy 21 = .ok (.getfield 15, 3) := by decide +kernel
theorem dX8_copy_24 : decode cX8_copy 24 = .ok (.iconst 0, 1) := by decide +kernel
theorem dX8_copy_25 : decode cX8_copy 25 = .ok (.bipush 8, 2) := by decide +kernel
theorem dX8_copy_27 : decode cX8_copy 27 = .ok (.invokestatic 46, 3) := by decide +kernel
theorem dX8_copy_30 : decode cX8_copy 30 = .ok (.aload_n 1, 1) := by decide +kernel
theorem dX8_copy_31 : decode cX8_copy 31 = .ok (.getfield 18, 3) := by decide +kernel
theorem dX8_copy_34 : decode cX8_copy 34 = .ok (.iconst 0, 1) := by decide +kernel
theorem dX8_copy_35 : decode cX8_copy 35 = .ok (.aload_n 0, 1) := by decide +kernel
theorem dX8_copy_36 : decode cX8_copy 36 = .ok (.getfield 18, 3) := by decide +kernel
theorem dX8_copy_39 : decode cX8_copy 39 = .ok (.iconst 0, 1) := by decide +kernel
theorem dX8_copy_40 : decode cX8_copy 40 = .ok (.bipush 8, 2) := by decide +kernel
theorem dX8_copy_42 : decode cX8_copy 42 = .ok (.invokestatic 46, 3) := by decide +kernel
theorem dX8_copy_45 : decode cX8_copy 45 = .ok (.aload_n 1, 1) := by decide +kernel
theorem dX8_copy_46 : decode cX8_copy 46 = .ok (.getfield 21, 3) := by decide +kernel
theorem dX8_copy_49 : decode cX8_copy 49 = .ok (.iconst 0, 1) := by decide +kernel
theorem dX8_copy_50 : decode cX8_copy 50 = .ok (.aload_n 0, 1) := by decide +kernel
theorem dX8_copy_51 : decode cX8_copy 51 = .ok (.getfield 21, 3) := by decide +kernel
theorem dX8_copy_54 : decode cX8_copy 54 = .ok (.iconst 0, 1) := by decide +kernel
theorem dX8_copy_55 : decode cX8_copy 55 = .ok (.bipush 8, 2) := by decide +kernel
theorem dX8_copy_57 : decode cX8_copy 57 = .ok (.invokestatic 46, 3) := by decide +kernel
theorem dX8_copy_60 : decode cX8_copy 60 = .ok (.aload_n 1, 1) := by decide +kernel
theorem dX8_copy_61 : decode cX8_copy 61 = .ok (.getfield 24, 3) := by decide +kernel
theorem dX8_copy_64 : decode cX8_copy 64 = .ok (.iconst 0, 1) := by decide +kernel
theorem dX8_copy_65 : decode cX8_copy 65 = .ok (.aload_n 0, 1) := by decide +kernel
theorem dX8_copy_66 : decode cX8_copy 66 = .ok (.getfield 24, 3) := by decide +kernel
theorem dX8_copy_69 : decode cX8_copy 69 = .ok (.iconst 0, 1) := by decide +kernel
theorem dX8_copy_70 : decode cX8_copy 70 = .ok (.bipush 8, 2) := by decide +kernel
theorem dX8_copy_72 : decode cX8_copy 72 = .ok (.invokestatic 46, 3) := by decide +kernel
theorem dX8_copy_75 : decode cX8_copy 75 = .ok (.aload_n 1, 1) := by decide +kernel
theorem dX8_copy_76 : decode cX8_copy 76 = .ok (.getfield 27, 3) := by decide +kernel
theorem dX8_copy_79 : decode cX8_copy 79 = .ok (.iconst 0, 1) := by decide +kernel
theorem dX8_copy_80 : decode cX8_copy 80 = .ok (.aload_n 0, 1) := by decide +kernel
theorem dX8_copy_81 : decode cX8_copy 81 = .ok (.getfield 27, 3) := by decide +kernel
theorem dX8_copy_84 : decode cX8_copy 84 = .ok (.iconst 0, 1) := by decide +kernel
theorem dX8_copy_85 : decode cX8_copy 85 = .ok (.bipush 8, 2) := by decide +kernel
theorem dX8_copy_87 : decode cX8_copy 87 = .ok (.invokestatic 46, 3) := by decide +kernel
theorem dX8_copy_90 : decode cX8_copy 90 = .ok (.aload_n 0, 1) := by decide +kernel
theorem dX8_copy_91 : decode cX8_copy 91 = .ok (.aload_n 1, 1) := by decide +kernel
theorem dX8_copy_92 : decode cX8_copy 92 = .ok (.getfield 30, 3) := by decide +kernel
theorem dX8_copy_95 : decode cX8_copy 95 = .ok (.putfield 30, 3) := by decide +kernel
theorem dX8_copy_98 : decode cX8_copy 98 = .ok (.aload_n 0, 1) := by decide +kernel
theorem dX8_copy_99 : decode cX8_copy 99 = .ok (.aload_n 1, 1) := by decide +kernel
theorem dX8_copy_100 : decode cX8_copy 100 = .ok (.getfield 34, 3) := by decide +kernel
theorem dX8_copy_103 : decode cX8_copy 103 = .ok (.putfield 34, 3) := by decide +kernel
theorem dX8_copy_106 : decode cX8_copy 106 = .ok (.aload_n 0, 1) := by decide +kernel
theorem dX8_copy_107 : decode cX8_copy 107 = .ok (.aload_n 1, 1) := by decide +kernel
theorem dX8_copy_108 : decode cX8_copy 108 = .ok (.getfield 37, 3) := by decide +kernel
theorem dX8_copy_111 : decode cX8_copy 111 = .ok (.putfield 37, 3) := by decide +kernel
theorem dX8_copy_114 : decode cX8_copy 114 = .ok (.aload_n 0, 1) := by decide +kernel
theorem dX8_copy_115 : decode cX8_copy 115 = .ok (.aload_n 1, 1) := by decide +kernel
theorem dX8_copy_116 : decode cX8_copy 116 = .ok (.getfield 40, 3) := by decide +kernel
theorem dX8_copy_119 : decode cX8_copy 119 = .ok (.putfield 40, 3) := by decide +kernel
theorem dX8_copy_122 : decode cX8_copy 122 = .ok (.aload_n 0, 1) := by decide +kernel
theorem dX8_copy_123 : decode cX8_copy 123 = .ok (.aload_n 1, 1) := by decide +kernel
theorem dX8_copy_124 : decode cX8_copy 124 = .ok (.getfield 43, 3) := by decide +kernel
theorem dX8_copy_127 : decode cX8_copy 127 = .ok (.putfield 43, 3) := by decide +kernel
theorem dX8_copy_130 : decode cX8_copy 130 = .ok (.return_, 1) := by decide +kernel
theorem dX8_read_0 : decode cX8_read 0 = .ok (.aload_n 0, 1) := by decide +kernel
theorem dX8_read_1 : decode cX8_read 1 = .ok (.invokevirtual 52, 3) := by decide +kernel
theorem dX8_read_4 : decode cX8_read 4 = .ok (.iconst 0, 1) := by decide +kernel
theorem dX8_read_5 : decode cX8_read 5 = .ok (.istore_n 2, 1) := by decide +kernel
theorem dX8_read_6 : decode cX8_read 6 = .ok (.iload_n 2, 1) := by decide +kernel
theorem dX8_read_7 : decode cX8_read 7 = .ok (.bipush 60, 2) := by decide +kernel
theorem dX8_read_9 : decode cX8_read 9 = .ok (.if_icmp .gt 30, 3) := by decide +kernel
theorem dX8_read_12 : decode cX8_read 12 = .ok (.aload_n 1, 1) := by decide +kernel
theorem dX8_read_13 : decode cX8_read 13 = .ok (.invokevirtual 55, 3) := by decide +kernel
theorem dX8_read_16 : decode cX8_read 16 = .ok (.iconst (-1), 1) := by decide +kernel
theorem dX8_read_17 : decode cX8_read 17 = .ok (.if_icmp .ne 5, 3) := by decide +kernel
theorem dX8_read_20 : decode cX8_read 20 = .ok (.iconst 1, 1) := by decide +kernel
theorem dX8_read_21 : decode cX8_read 21 = .ok (.ireturn, 1) := by decide +kernel
theorem dX8_read_22 : decode cX8_read 22 = .ok (.aload_n 0, 1) := by decide +kernel
theorem dX8_read_23 : decode cX8_read 23 = .ok (.aload_n 1, 1) := by decide +kernel
theorem dX8_read_24 : decode cX8_read 24 = .ok (.iload_n 2, 1) := by decide +kernel
theorem dX8_read_25 : decode cX8_read 25 = .ok (.invokevirtual 61, 3) := by decide +kernel
theorem dX8_read_28 : decode cX8_read 28 = .ok (.ifCond .ne 5, 3) := by decide +kernel
theorem dX8_read_31 : decode cX8_read 31 = .ok (.iconst 0, 1) := by decide +kernel
theorem dX8_read_32 : decode cX8_read 32 = .ok (.ireturn, 1) := by decide +kernel
theorem dX8_read_33 : decode cX8_read 33 = .ok (.iinc 2 1, 3) := by decide +kernel
theorem dX8_read_36 : decode cX8_read 36 = .ok (.goto (-30), 3) := by decide +kernel
theorem dX8_read_39 : decode cX8_read 39 = .ok (.iconst 0, 1) := by decide +kernel
theorem dX8_read_40 : decode cX8_read 40 = .ok (.ireturn, 1) := by decide +kernel
theorem dX8_readClause_0 : decode cX8_readClause 0 = .ok (.aload_n 1, 1) := by decide +kernel
theorem dX8_readClause_1 : decode cX8_readClause 1 = .ok (.ldc 65, 2) := by decide +kernel
theorem dX8_readClause_3 : decode cX8_readClause 3 = .ok (.invokevirtual 67, 3) := by decide +kernel
theorem dX8_readClause_6 : decode cX8_readClause 6 = .ok (.istore_n 3, 1) := by decide +kernel
theorem dX8_readClause_7 : decode cX8_readClause 7 = .ok (.iload_n 3, 1) := by decide +kernel
theorem dX8_readClause_8 : decode cX8_readClause 8 = .ok (.iconst (-1), 1) := by decide +kernel
theorem dX8_readClause_9 : decode cX8_readClause 9 = .ok (.if_icmp .ne 13, 3) := by decide +kernel
theorem dX8_readClause_12 : decode cX8_readClause 12 = .ok (.aload_n 1, 1) := by decide +kernel
theorem dX8_readClause_13 : decode cX8_readClause 13 = .ok (.iconst 1, 1) := by decide +kernel
theorem dX8_readClause_14 : decode cX8_readClause 14 = .ok (.aload_n 1, 1) := by decide +kernel
theorem dX8_readClause_15 : decode cX8_readClause 15 = .ok (.getfield 71, 3) := by decide +kernel
theorem dX8_readClause_18 : decode cX8_readClause 18 = .ok (.invokevirtual 74, 3) := by decide +kernel
theorem dX8_readClause_21 : decode cX8_readClause 21 = .ok (.ireturn, 1) := by decide +kernel
theorem dX8_readClause_22 : decode cX8_readClause 22 = .ok (.iload_n 3, 1) := by decide +kernel
theorem dX8_readClause_23 : decode cX8_readClause 23 = .ok (.ifCond .ne 12, 3) := by decide +kernel
theorem dX8_readClause_26 : decode cX8_readClause 26 = .ok (.aload_n 0, 1) := by decide +kernel
theorem dX8_readClause_27 : decode cX8_readClause 27 = .ok (.getfield 30, 3) := by decide +kernel
theorem dX8_readClause_30 : decode cX8_readClause 30 = .ok (.bipush 8, 2) := by decide +kernel
theorem dX8_readClause_32 : decode cX8_readClause 32 = .ok (.if_icmp .eq 17, 3) := by decide +kernel
theorem dX8_readClause_35 : decode cX8_readClause 35 = .ok (.iload_n 3, 1) := by decide +kernel
theorem dX8_readClause_36 : decode cX8_readClause 36 = .ok (.iconst 1, 1) := by decide +kernel
theorem dX8_readClause_37 : decode cX8_readClause 37 = .ok (.if_icmp .ne 16, 3) := by decide +kernel
theorem dX8_readClause_40 : decode cX8_readClause 40 = .ok (.aload_n 0, 1) := by decide +kernel
theorem dX8_readClause_41 : decode cX8_readClause 41 = .ok (.getfield 34, 3) := by decide +kernel
theorem dX8_readClause_44 : decode cX8_readClause 44 = .ok (.bipush 8, 2) := by decide +kernel
theorem dX8_readClause_46 : decode cX8_readClause 46 = .ok (.if_icmp .ne 7, 3) := by decide +kernel
theorem dX8_readClause_49 : decode cX8_readClause 49 = .ok (.iconst 1, 1) := by decide +kernel
theorem dX8_readClause_50 : decode cX8_readClause 50 = .ok (.goto 4, 3) := by decide +kernel
theorem dX8_readClause_53 : decode cX8_readClause 53 = .ok (.iconst 0, 1) := by decide +kernel
theorem dX8_readClause_54 : decode cX8_readClause 54 = .ok (.istore 4, 2) := by decide +kernel
theorem dX8_readClause_56 : decode cX8_readClause 56 = .ok (.iload 4, 2) := by decide +kernel
theorem dX8_readClause_58 : decode cX8_readClause 58 = .ok (.ifCond .ne 9, 3) := by decide +kernel
theorem dX8_readClause_61 : decode cX8_readClause 61 = .ok (.iload_n 2, 1) := by decide +kernel
theorem dX8_readClause_62 : decode cX8_readClause 62 = .ok (.bipush 60, 2) := by decide +kernel
theorem dX8_readClause_64 : decode cX8_readClause 64 = .ok (.if_icmp .ne 13, 3) := by decide +kernel
theorem dX8_readClause_67 : decode cX8_readClause 67 = .ok (.aload_n 1, 1) := by decide +kernel
theorem dX8_readClause_68 : decode cX8_readClause 68 = .ok (.iconst 3, 1) := by decide +kernel
theorem dX8_readClause_69 : decode cX8_readClause 69 = .ok (.aload_n 1, 1) := by decide +kernel
theorem dX8_readClause_70 : decode cX8_readClause 70 = .ok (.getfield 71, 3) := by decide +kernel
theorem dX8_readClause_73 : decode cX8_readClause 73 = .ok (.invokevirtual 74, 3) := by decide +kernel
theorem dX8_readClause_76 : decode cX8_readClause 76 = .ok (.ireturn, 1) := by decide +kernel
theorem dX8_readClause_77 : decode cX8_readClause 77 = .ok (.aload_n 1, 1) := by decide +kernel
theorem dX8_readClause_78 : decode cX8_readClause 78 = .ok (.invokevirtual 78, 3) := by decide +kernel
theorem dX8_readClause_81 : decode cX8_readClause 81 = .ok (.aload_n 0, 1) := by decide +kernel
theorem dX8_readClause_82 : decode cX8_readClause 82 = .ok (.aload_n 1, 1) := by decide +kernel
theorem dX8_readClause_83 : decode cX8_readClause 83 = .ok (.iload_n 3, 1) := by decide +kernel
theorem dX8_readClause_84 : decode cX8_readClause 84 = .ok (.invokevirtual 81, 3) := by decide +kernel
theorem dX8_readClause_87 : decode cX8_readClause 87 = .ok (.ifCond .eq 16, 3) := by decide +kernel
theorem dX8_readClause_90 : decode cX8_readClause 90 = .ok (.aload_n 1, 1) := by decide +kernel
theorem dX8_readClause_91 : decode cX8_readClause 91 = .ok (.bipush 59, 2) := by decide +kernel
theorem dX8_readClause_93 : decode cX8_readClause 93 = .ok (.invokevirtual 84, 3) := by decide +kernel
theorem dX8_readClause_96 : decode cX8_readClause 96 = .ok (.ifCond .eq 7, 3) := by decide +kernel
theorem dX8_readClause_99 : decode cX8_readClause 99 = .ok (.iconst 1, 1) := by decide +kernel
theorem dX8_readClause_100 : decode cX8_readClause 100 = .ok (.goto 4, 3) := by decide +kernel
theorem dX8_readClause_103 : decode cX8_readClause 103 = .ok (.iconst 0, 1) := by decide +kernel
theorem dX8_readClause_104 : decode cX8_readClause 104 = .ok (.ireturn, 1) := by decide +kernel
theorem dX8_readNumbers_0 : decode cX8_readNumbers 0 = .ok (.iload_n 2, 1) := by decide +kernel
theorem dX8_readNumbers_1 : decode cX8_readNumbers 1 = .ok (.tableswitch 93 0 3 #[31, 37, 43, 68], 31) := by decide +kernel
theorem dX8_readNumbers_32 : decode cX8_readNumbers 32 = .ok (.aload_n 0, 1) := by decide +kernel
theorem dX8_readNumbers_33 : decode cX8_readNumbers 33 = .ok (.aload_n 1, 1) := by decide +kernel
theorem dX8_readNumbers_34 : decode cX8_readNumbers 34 = .ok (.invokevirtual 88, 3) := by decide +kernel
theorem dX8_readNumbers_37 : decode cX8_readNumbers 37 = .ok (.ireturn, 1) := by decide +kernel
theorem dX8_readNumbers_38 : decode cX8_readNumbers 38 = .ok (.aload_n 0, 1) := by decide +kernel
theorem dX8_readNumbers_39 : decode cX8_readNumbers 39 = .ok (.aload_n 1, 1) := by decide +kernel
theorem dX8_readNumbers_40 : decode cX8_readNumbers 40 = .ok (.invokevirtual 92, 3) := by decide +kernel
theorem dX8_readNumbers_43 : decode cX8_readNumbers 43 = .ok (.ireturn, 1) := by decide +kernel
theorem dX8_readNumbers_44 : decode cX8_readNumbers 44 = .ok (.aload_n 0, 1) := by decide +kernel
theorem dX8_readNumbers_45 : decode cX8_readNumbers 45 = .ok (.aload_n 1, 1) := by decide +kernel
theorem dX8_readNumbers_46 : decode cX8_readNumbers 46 = .ok (.iconst 0, 1) := by decide +kernel
theorem dX8_readNumbers_47 : decode cX8_readNumbers 47 = .ok (.bipush 23, 2) := by decide +kernel
theorem dX8_readNumbers_49 : decode cX8_readNumbers 49 = .ok (.invokevirtual 95, 3) := by decide +kernel
theorem dX8_readNumbers_52 : decode cX8_readNumbers 52 = .ok (.putfield 37, 3) := by decide +kernel
theorem dX8_readNumbers_55 : decode cX8_readNumbers 55 = .ok (.aload_n 0, 1) := by decide +kernel
theorem dX8_readNumbers_56 : decode cX8_readNumbers 56 = .ok (.getfield 37, 3) := by decide +kernel
theorem dX8_readNumbers_59 : decode cX8_readNumbers 59 = .ok (.iconst (-1), 1) := by decide +kernel
theorem dX8_readNumbers_60 : decode cX8_readNumbers 60 = .ok (.if_icmp .eq 7, 3) := by decide +kernel
theorem dX8_readNumbers_63 : decode cX8_readNumbers 63 = .ok (.iconst 1, 1) := by decide +kernel
theorem dX8_readNumbers_64 : decode cX8_readNumbers 64 = .ok (.goto 4, 3) := by decide +kernel
theorem dX8_readNumbers_67 : decode cX8_readNumbers 67 = .ok (.iconst 0, 1) := by decide +kernel
theorem dX8_readNumbers_68 : decode cX8_readNumbers 68 = .ok (.ireturn, 1) := by decide +kernel
theorem dX8_readNumbers_69 : decode cX8_readNumbers 69 = .ok (.aload_n 0, 1) := by decide +kernel
theorem dX8_readNumbers_70 : decode cX8_readNumbers 70 = .ok (.aload_n 1, 1) := by decide +kernel
theorem dX8_readNumbers_71 : decode cX8_readNumbers 71 = .ok (.iconst 1, 1) := by decide +kernel
theorem dX8_readNumbers_72 : decode cX8_readNumbers 72 = .ok (.bipush 23, 2) := by decide +kernel
theorem dX8_readNumbers_74 : decode cX8_readNumbers 74 = .ok (.invokevirtual 95, 3) := by decide +kernel
theorem dX8_readNumbers_77 : decode cX8_readNumbers 77 = .ok (.putfield 40, 3) := by decide +kernel
theorem dX8_readNumbers_80 : decode cX8_readNumbers 80 = .ok (.aload_n 0, 1) := by decide +kernel
theorem dX8_readNumbers_81 : decode cX8_readNumbers 81 = .ok (.getfield 40, 3) := by decide +kernel
theorem dX8_readNumbers_84 : decode cX8_readNumbers 84 = .ok (.iconst (-1), 1) := by decide +kernel
theorem dX8_readNumbers_85 : decode cX8_readNumbers 85 = .ok (.if_icmp .eq 7, 3) := by decide +kernel
theorem dX8_readNumbers_88 : decode cX8_readNumbers 88 = .ok (.iconst 1, 1) := by decide +kernel
theorem dX8_readNumbers_89 : decode cX8_readNumbers 89 = .ok (.goto 4, 3) := by decide +kernel
theorem dX8_readNumbers_92 : decode cX8_readNumbers 92 = .ok (.iconst 0, 1) := by decide +kernel
theorem dX8_readNumbers_93 : decode cX8_readNumbers 93 = .ok (.ireturn, 1) := by decide +kernel
theorem dX8_readNumbers_94 : decode cX8_readNumbers 94 = .ok (.aload_n 0, 1) := by decide +kernel
theorem dX8_readNumbers_95 : decode cX8_readNumbers 95 = .ok (.aload_n 1, 1) := by decide +kernel
theorem dX8_readNumbers_96 : decode cX8_readNumbers 96 = .ok (.iconst 0, 1) := by decide +kernel
theorem dX8_readNumbers_97 : decode cX8_readNumbers 97 = .ok (.bipush 99, 2) := by decide +kernel
theorem dX8_readNumbers_99 : decode cX8_readNumbers 99 = .ok (.invokevirtual 95, 3) := by decide +kernel
theorem dX8_readNumbers_102 : decode cX8_readNumbers 102 = .ok (.putfield 43, 3) := by decide +kernel
theorem dX8_readNumbers_105 : decode cX8_readNumbers 105 = .ok (.aload_n 0, 1) := by decide +kernel
theorem dX8_readNumbers_106 : decode cX8_readNumbers 106 = .ok (.getfield 43, 3) := by decide +kernel
theorem dX8_readNumbers_109 : decode cX8_readNumbers 109 = .ok (.iconst (-1), 1) := by decide +kernel
theorem dX8_readNumbers_110 : decode cX8_readNumbers 110 = .ok (.if_icmp .eq 7, 3) := by decide +kernel
theorem dX8_readNumbers_113 : decode cX8_readNumbers 113 = .ok (.iconst 1, 1) := by decide +kernel
theorem dX8_readNumbers_114 : decode cX8_readNumbers 114 = .ok (.goto 4, 3) := by decide +kernel
theorem dX8_readNumbers_117 : decode cX8_readNumbers 117 = .ok (.iconst 0, 1) := by decide +kernel
theorem dX8_readNumbers_118 : decode cX8_readNumbers 118 = .ok (.ireturn, 1) := by decide +kernel
theorem dX8_readChair_0 : decode cX8_readChair 0 = .ok (.aload_n 1, 1) := by decide +kernel
theorem dX8_readChair_1 : decode cX8_readChair 1 = .ok (.iconst 0, 1) := by decide +kernel
theorem dX8_readChair_2 : decode cX8_readChair 2 = .ok (.bipush 9, 2) := by decide +kernel
theorem dX8_readChair_4 : decode cX8_readChair 4 = .ok (.invokevirtual 95, 3) := by decide +kernel
theorem dX8_readChair_7 : decode cX8_readChair 7 = .ok (.istore_n 2, 1) := by decide +kernel
theorem dX8_readChair_8 : decode cX8_readChair 8 = .ok (.iload_n 2, 1) := by decide +kernel
theorem dX8_readChair_9 : decode cX8_readChair 9 = .ok (.iconst (-1), 1) := by decide +kernel
theorem dX8_readChair_10 : decode cX8_readChair 10 = .ok (.if_icmp .ne 7, 3) := by decide +kernel
theorem dX8_readChair_13 : decode cX8_readChair 13 = .ok (.iconst (-1), 1) := by decide +kernel
theorem dX8_readChair_14 : decode cX8_readChair 14 = .ok (.goto 10, 3) := by decide +kernel
theorem dX8_readChair_17 : decode cX8_readChair 17 = .ok (.aload_n 1, 1) := by decide +kernel
theorem dX8_readChair_18 : decode cX8_readChair 18 = .ok (.iconst 0, 1) := by decide +kernel
theorem dX8_readChair_19 : decode cX8_readChair 19 = .ok (.bipush 9, 2) := by decide +kernel
theorem dX8_readChair_21 : decode cX8_readChair 21 = .ok (.invokevirtual 95, 3) := by decide +kernel
theorem dX8_readChair_24 : decode cX8_readChair 24 = .ok (.istore_n 3, 1) := by decide +kernel
theorem dX8_readChair_25 : decode cX8_readChair 25 = .ok (.iload_n 3, 1) := by decide +kernel
theorem dX8_readChair_26 : decode cX8_readChair 26 = .ok (.iconst (-1), 1) := by decide +kernel
theorem dX8_readChair_27 : decode cX8_readChair 27 = .ok (.if_icmp .eq 12, 3) := by decide +kernel
theorem dX8_readChair_30 : decode cX8_readChair 30 = .ok (.aload_n 0, 1) := by decide +kernel
theorem dX8_readChair_31 : decode cX8_readChair 31 = .ok (.getfield 30, 3) := by decide +kernel
theorem dX8_readChair_34 : decode cX8_readChair 34 = .ok (.bipush 8, 2) := by decide +kernel
theorem dX8_readChair_36 : decode cX8_readChair 36 = .ok (.if_icmp .lt 5, 3) := by decide +kernel
theorem dX8_readChair_39 : decode cX8_readChair 39 = .ok (.iconst 0, 1) := by decide +kernel
theorem dX8_readChair_40 : decode cX8_readChair 40 = .ok (.ireturn, 1) := by decide +kernel
theorem dX8_readChair_41 : decode cX8_readChair 41 = .ok (.aload_n 0, 1) := by decide +kernel
theorem dX8_readChair_42 : decode cX8_readChair 42 = .ok (.getfield 9, 3) := by decide +kernel
theorem dX8_readChair_45 : decode cX8_readChair 45 = .ok (.aload_n 0, 1) := by decide +kernel
theorem dX8_readChair_46 : decode cX8_readChair 46 = .ok (.getfield 30, 3) := by decide +kernel
theorem dX8_readChair_49 : decode cX8_readChair 49 = .ok (.iload_n 2, 1) := by decide +kernel
theorem dX8_readChair_50 : decode cX8_readChair 50 = .ok (.iastore, 1) := by decide +kernel
theorem dX8_readChair_51 : decode cX8_readChair 51 = .ok (.aload_n 0, 1) := by decide +kernel
theorem dX8_readChair_52 : decode cX8_readChair 52 = .ok (.getfield 15, 3) := by decide +kernel
theorem dX8_readChair_55 : decode cX8_readChair 55 = .ok (.aload_n 0, 1) := by decide +kernel
theorem dX8_readChair_56 : decode cX8_readChair 56 = .ok (.getfield 30, 3) := by decide +kernel
theorem dX8_readChair_59 : decode cX8_readChair 59 = .ok (.iload_n 3, 1) := by decide +kernel
theorem dX8_readChair_60 : decode cX8_readChair 60 = .ok (.iastore, 1) := by decide +kernel
theorem dX8_readChair_61 : decode cX8_readChair 61 = .ok (.aload_n 0, 1) := by decide +kernel
theorem dX8_readChair_62 : decode cX8_readChair 62 = .ok (.dup, 1) := by decide +kernel
theorem dX8_readChair_63 : decode cX8_readChair 63 = .ok (.getfield 30, 3) := by decide +kernel
theorem dX8_readChair_66 : decode cX8_readChair 66 = .ok (.iconst 1, 1) := by decide +kernel
theorem dX8_readChair_67 : decode cX8_readChair 67 = .ok (.iadd, 1) := by decide +kernel
theorem dX8_readChair_68 : decode cX8_readChair 68 = .ok (.putfield 30, 3) := by decide +kernel
theorem dX8_readChair_71 : decode cX8_readChair 71 = .ok (.iconst 1, 1) := by decide +kernel
theorem dX8_readChair_72 : decode cX8_readChair 72 = .ok (.ireturn, 1) := by decide +kernel
theorem dX8_readGuest_0 : decode cX8_readGuest 0 = .ok (.aload_n 1, 1) := by decide +kernel
theorem dX8_readGuest_1 : decode cX8_readGuest 1 = .ok (.iconst 0, 1) := by decide +kernel
theorem dX8_readGuest_2 : decode cX8_readGuest 2 = .ok (.bipush 23, 2) := by decide +kernel
theorem dX8_readGuest_4 : decode cX8_readGuest 4 = .ok (.invokevirtual 95, 3) := by decide +kernel
theorem dX8_readGuest_7 : decode cX8_readGuest 7 = .ok (.istore_n 2, 1) := by decide +kernel
theorem dX8_readGuest_8 : decode cX8_readGuest 8 = .ok (.iload_n 2, 1) := by decide +kernel
theorem dX8_readGuest_9 : decode cX8_readGuest 9 = .ok (.iconst (-1), 1) := by decide +kernel
theorem dX8_readGuest_10 : decode cX8_readGuest 10 = .ok (.if_icmp .ne 7, 3) := by decide +kernel
theorem dX8_readGuest_13 : decode cX8_readGuest 13 = .ok (.iconst (-1), 1) := by decide +kernel
theorem dX8_readGuest_14 : decode cX8_readGuest 14 = .ok (.goto 10, 3) := by decide +kernel
theorem dX8_readGuest_17 : decode cX8_readGuest 17 = .ok (.aload_n 1, 1) := by decide +kernel
theorem dX8_readGuest_18 : decode cX8_readGuest 18 = .ok (.iconst 0, 1) := by decide +kernel
theorem dX8_readGuest_19 : decode cX8_readGuest 19 = .ok (.bipush 22, 2) := by decide +kernel
theorem dX8_readGuest_21 : decode cX8_readGuest 21 = .ok (.invokevirtual 95, 3) := by decide +kernel
theorem dX8_readGuest_24 : decode cX8_readGuest 24 = .ok (.istore_n 3, 1) := by decide +kernel
theorem dX8_readGuest_25 : decode cX8_readGuest 25 = .ok (.iload_n 3, 1) := by decide +kernel
theorem dX8_readGuest_26 : decode cX8_readGuest 26 = .ok (.iconst (-1), 1) := by decide +kernel
theorem dX8_readGuest_27 : decode cX8_readGuest 27 = .ok (.if_icmp .ne 7, 3) := by decide +kernel
theorem dX8_readGuest_30 : decode cX8_readGuest 30 = .ok (.iconst (-1), 1) := by decide +kernel
theorem dX8_readGuest_31 : decode cX8_readGuest 31 = .ok (.goto 12, 3) := by decide +kernel
theorem dX8_readGuest_34 : decode cX8_readGuest 34 = .ok (.aload_n 1, 1) := by decide +kernel
theorem dX8_readGuest_35 : decode cX8_readGuest 35 = .ok (.iload_n 3, 1) := by decide +kernel
theorem dX8_readGuest_36 : decode cX8_readGuest 36 = .ok (.iconst 1, 1) := by decide +kernel
theorem dX8_readGuest_37 : decode cX8_readGuest 37 = .ok (.iadd, 1) := by decide +kernel
theorem dX8_readGuest_38 : decode cX8_readGuest 38 = .ok (.bipush 23, 2) := by decide +kernel
theorem dX8_readGuest_40 : decode cX8_readGuest 40 = .ok (.invokevirtual 95, 3) := by decide +kernel
theorem dX8_readGuest_43 : decode cX8_readGuest 43 = .ok (.istore 4, 2) := by decide +kernel
theorem dX8_readGuest_45 : decode cX8_readGuest 45 = .ok (.iload 4, 2) := by decide +kernel
theorem dX8_readGuest_47 : decode cX8_readGuest 47 = .ok (.iconst (-1), 1) := by decide +kernel
theorem dX8_readGuest_48 : decode cX8_readGuest 48 = .ok (.if_icmp .ne 7, 3) := by decide +kernel
theorem dX8_readGuest_51 : decode cX8_readGuest 51 = .ok (.iconst (-1), 1) := by decide +kernel
theorem dX8_readGuest_52 : decode cX8_readGuest 52 = .ok (.goto 10, 3) := by decide +kernel
theorem dX8_readGuest_55 : decode cX8_readGuest 55 = .ok (.aload_n 1, 1) := by decide +kernel
theorem dX8_readGuest_56 : decode cX8_readGuest 56 = .ok (.iconst 0, 1) := by decide +kernel
theorem dX8_readGuest_57 : decode cX8_readGuest 57 = .ok (.bipush 9, 2) := by decide +kernel
theorem dX8_readGuest_59 : decode cX8_readGuest 59 = .ok (.invokevirtual 95, 3) := by decide +kernel
theorem dX8_readGuest_62 : decode cX8_readGuest 62 = .ok (.istore 5, 2) := by decide +kernel
theorem dX8_readGuest_64 : decode cX8_readGuest 64 = .ok (.iload 5, 2) := by decide +kernel
theorem dX8_readGuest_66 : decode cX8_readGuest 66 = .ok (.iconst (-1), 1) := by decide +kernel
theorem dX8_readGuest_67 : decode cX8_readGuest 67 = .ok (.if_icmp .eq 12, 3) := by decide +kernel
theorem dX8_readGuest_70 : decode cX8_readGuest 70 = .ok (.aload_n 0, 1) := by decide +kernel
theorem dX8_readGuest_71 : decode cX8_readGuest 71 = .ok (.getfield 34, 3) := by decide +kernel
theorem dX8_readGuest_74 : decode cX8_readGuest 74 = .ok (.bipush 8, 2) := by decide +kernel
theorem dX8_readGuest_76 : decode cX8_readGuest 76 = .ok (.if_icmp .lt 5, 3) := by decide +kernel
theorem dX8_readGuest_79 : decode cX8_readGuest 79 = .ok (.iconst 0, 1) := by decide +kernel
theorem dX8_readGuest_80 : decode cX8_readGuest 80 = .ok (.ireturn, 1) := by decide +kernel
theorem dX8_readGuest_81 : decode cX8_readGuest 81 = .ok (.aload_n 0, 1) := by decide +kernel
theorem dX8_readGuest_82 : decode cX8_readGuest 82 = .ok (.getfield 18, 3) := by decide +kernel
theorem dX8_readGuest_85 : decode cX8_readGuest 85 = .ok (.aload_n 0, 1) := by decide +kernel
theorem dX8_readGuest_86 : decode cX8_readGuest 86 = .ok (.getfield 34, 3) := by decide +kernel
theorem dX8_readGuest_89 : decode cX8_readGuest 89 = .ok (.iload_n 2, 1) := by decide +kernel
theorem dX8_readGuest_90 : decode cX8_readGuest 90 = .ok (.iastore, 1) := by decide +kernel
theorem dX8_readGuest_91 : decode cX8_readGuest 91 = .ok (.aload_n 0, 1) := by decide +kernel
theorem dX8_readGuest_92 : decode cX8_readGuest 92 = .ok (.getfield 21, 3) := by decide +kernel
theorem dX8_readGuest_95 : decode cX8_readGuest 95 = .ok (.aload_n 0, 1) := by decide +kernel
theorem dX8_readGuest_96 : decode cX8_readGuest 96 = .ok (.getfield 34, 3) := by decide +kernel
theorem dX8_readGuest_99 : decode cX8_readGuest 99 = .ok (.iload_n 3, 1) := by decide +kernel
theorem dX8_readGuest_100 : decode cX8_readGuest 100 = .ok (.iastore, 1) := by decide +kernel
theorem dX8_readGuest_101 : decode cX8_readGuest 101 = .ok (.aload_n 0, 1) := by decide +kernel
theorem dX8_readGuest_102 : decode cX8_readGuest 102 = .ok (.getfield 24, 3) := by decide +kernel
theorem dX8_readGuest_105 : decode cX8_readGuest 105 = .ok (.aload_n 0, 1) := by decide +kernel
theorem dX8_readGuest_106 : decode cX8_readGuest 106 = .ok (.getfield 34, 3) := by decide +kernel
theorem dX8_readGuest_109 : decode cX8_readGuest 109 = .ok (.iload 4, 2) := by decide +kernel
theorem dX8_readGuest_111 : decode cX8_readGuest 111 = .ok (.iastore, 1) := by decide +kernel
theorem dX8_readGuest_112 : decode cX8_readGuest 112 = .ok (.aload_n 0, 1) := by decide +kernel
theorem dX8_readGuest_113 : decode cX8_readGuest 113 = .ok (.getfield 27, 3) := by decide +kernel
theorem dX8_readGuest_116 : decode cX8_readGuest 116 = .ok (.aload_n 0, 1) := by decide +kernel
theorem dX8_readGuest_117 : decode cX8_readGuest 117 = .ok (.getfield 34, 3) := by decide +kernel
theorem dX8_readGuest_120 : decode cX8_readGuest 120 = .ok (.iload 5, 2) := by decide +kernel
theorem dX8_readGuest_122 : decode cX8_readGuest 122 = .ok (.iastore, 1) := by decide +kernel
theorem dX8_readGuest_123 : decode cX8_readGuest 123 = .ok (.aload_n 0, 1) := by decide +kernel
theorem dX8_readGuest_124 : decode cX8_readGuest 124 = .ok (.dup, 1) := by decide +kernel
theorem dX8_readGuest_125 : decode cX8_readGuest 125 = .ok (.getfield 34, 3) := by decide +kernel
theorem dX8_readGuest_128 : decode cX8_readGuest 128 = .ok (.iconst 1, 1) := by decide +kernel
theorem dX8_readGuest_129 : decode cX8_readGuest 129 = .ok (.iadd, 1) := by decide +kernel
theorem dX8_readGuest_130 : decode cX8_readGuest 130 = .ok (.putfield 34, 3) := by decide +kernel
theorem dX8_readGuest_133 : decode cX8_readGuest 133 = .ok (.iconst 1, 1) := by decide +kernel
theorem dX8_readGuest_134 : decode cX8_readGuest 134 = .ok (.ireturn, 1) := by decide +kernel
theorem dX8_tellWaking_0 : decode cX8_tellWaking 0 = .ok (.aload_n 0, 1) := by decide +kernel
theorem dX8_tellWaking_1 : decode cX8_tellWaking 1 = .ok (.getfield 18, 3) := by decide +kernel
theorem dX8_tellWaking_4 : decode cX8_tellWaking 4 = .ok (.iconst 0, 1) := by decide +kernel
theorem dX8_tellWaking_5 : decode cX8_tellWaking 5 = .ok (.aload_n 1, 1) := by decide +kernel
theorem dX8_tellWaking_6 : decode cX8_tellWaking 6 = .ok (.iconst 0, 1) := by decide +kernel
theorem dX8_tellWaking_7 : decode cX8_tellWaking 7 = .ok (.bipush 8, 2) := by decide +kernel
theorem dX8_tellWaking_9 : decode cX8_tellWaking 9 = .ok (.invokestatic 46, 3) := by decide +kernel
theorem dX8_tellWaking_12 : decode cX8_tellWaking 12 = .ok (.return_, 1) := by decide +kernel
theorem dX8_goesBy_0 : decode cX8_goesBy 0 = .ok (.aload_n 0, 1) := by decide +kernel
theorem dX8_goesBy_1 : decode cX8_goesBy 1 = .ok (.getfield 37, 3) := by decide +kernel
theorem dX8_goesBy_4 : decode cX8_goesBy 4 = .ok (.ifCond .le 20, 3) := by decide +kernel
theorem dX8_goesBy_7 : decode cX8_goesBy 7 = .ok (.iload_n 1, 1) := by decide +kernel
theorem dX8_goesBy_8 : decode cX8_goesBy 8 = .ok (.ifCond .le 16, 3) := by decide +kernel
theorem dX8_goesBy_11 : decode cX8_goesBy 11 = .ok (.iload_n 1, 1) := by decide +kernel
theorem dX8_goesBy_12 : decode cX8_goesBy 12 = .ok (.aload_n 0, 1) := by decide +kernel
theorem dX8_goesBy_13 : decode cX8_goesBy 13 = .ok (.getfield 37, 3) := by decide +kernel
theorem dX8_goesBy_16 : decode cX8_goesBy 16 = .ok (.irem, 1) := by decide +kernel
theorem dX8_goesBy_17 : decode cX8_goesBy 17 = .ok (.ifCond .ne 7, 3) := by decide +kernel
theorem dX8_goesBy_20 : decode cX8_goesBy 20 = .ok (.iconst 1, 1) := by decide +kernel
theorem dX8_goesBy_21 : decode cX8_goesBy 21 = .ok (.goto 4, 3) := by decide +kernel
theorem dX8_goesBy_24 : decode cX8_goesBy 24 = .ok (.iconst 0, 1) := by decide +kernel
theorem dX8_goesBy_25 : decode cX8_goesBy 25 = .ok (.ireturn, 1) := by decide +kernel
theorem dX8_value_0 : decode cX8_value 0 = .ok (.iload_n 3, 1) := by decide +kernel
theorem dX8_value_1 : decode cX8_value 1 = .ok (.aload_n 0, 1) := by decide +kernel
theorem dX8_value_2 : decode cX8_value 2 = .ok (.getfield 21, 3) := by decide +kernel
theorem dX8_value_5 : decode cX8_value 5 = .ok (.iload_n 1, 1) := by decide +kernel
theorem dX8_value_6 : decode cX8_value 6 = .ok (.iaload, 1) := by decide +kernel
theorem dX8_value_7 : decode cX8_value 7 = .ok (.if_icmp .ge 12, 3) := by decide +kernel
theorem dX8_value_10 : decode cX8_value 10 = .ok (.aload_n 0, 1) := by decide +kernel
theorem dX8_value_11 : decode cX8_value 11 = .ok (.getfield 21, 3) := by decide +kernel
theorem dX8_value_14 : decode cX8_value 14 = .ok (.iload_n 1, 1) := by decide +kernel
theorem dX8_value_15 : decode cX8_value 15 = .ok (.iaload, 1) := by decide +kernel
theorem dX8_value_16 : decode cX8_value 16 = .ok (.goto 4, 3) := by decide +kernel
theorem dX8_value_19 : decode cX8_value 19 = .ok (.iload_n 3, 1) := by decide +kernel
theorem dX8_value_20 : decode cX8_value 20 = .ok (.istore 4, 2) := by decide +kernel
theorem dX8_value_22 : decode cX8_value 22 = .ok (.aload_n 0, 1) := by decide +kernel
theorem dX8_value_23 : decode cX8_value 23 = .ok (.getfield 9, 3) := by decide +kernel
theorem dX8_value_26 : decode cX8_value 26 = .ok (.iload_n 2, 1) := by decide +kernel
theorem dX8_value_27 : decode cX8_value 27 = .ok (.iaload, 1) := by decide +kernel
theorem dX8_value_28 : decode cX8_value 28 = .ok (.aload_n 0, 1) := by decide +kernel
theorem dX8_value_29 : decode cX8_value 29 = .ok (.getfield 15, 3) := by decide +kernel
theorem dX8_value_32 : decode cX8_value 32 = .ok (.iload_n 2, 1) := by decide +kernel
theorem dX8_value_33 : decode cX8_value 33 = .ok (.iaload, 1) := by decide +kernel
theorem dX8_value_34 : decode cX8_value 34 = .ok (.iload 4, 2) := by decide +kernel
theorem dX8_value_36 : decode cX8_value 36 = .ok (.aload_n 0, 1) := by decide +kernel
theorem dX8_value_37 : decode cX8_value 37 = .ok (.getfield 24, 3) := by decide +kernel
theorem dX8_value_40 : decode cX8_value 40 = .ok (.iload_n 1, 1) := by decide +kernel
theorem dX8_value_41 : decode cX8_value 41 = .ok (.iaload, 1) := by decide +kernel
theorem dX8_value_42 : decode cX8_value 42 = .ok (.invokestatic 99, 3) := by decide +kernel
theorem dX8_value_45 : decode cX8_value 45 = .ok (.ireturn, 1) := by decide +kernel
theorem dX8_stretch_0 : decode cX8_stretch 0 = .ok (.iconst 0, 1) := by decide +kernel
theorem dX8_stretch_1 : decode cX8_stretch 1 = .ok (.istore 4, 2) := by decide +kernel
theorem dX8_stretch_3 : decode cX8_stretch 3 = .ok (.iload_n 2, 1) := by decide +kernel
theorem dX8_stretch_4 : decode cX8_stretch 4 = .ok (.bipush 12, 2) := by decide +kernel
theorem dX8_stretch_6 : decode cX8_stretch 6 = .ok (.if_icmp .ge 29, 3) := by decide +kernel
theorem dX8_stretch_9 : decode cX8_stretch 9 = .ok (.iload_n 2, 1) := by decide +kernel
theorem dX8_stretch_10 : decode cX8_stretch 10 = .ok (.iload_n 3, 1) := by decide +kernel
theorem dX8_stretch_11 : decode cX8_stretch 11 = .ok (.if_icmp .ge 24, 3) := by decide +kernel
theorem dX8_stretch_14 : decode cX8_stretch 14 = .ok (.iload 4, 2) := by decide +kernel
theorem dX8_stretch_16 : decode cX8_stretch 16 = .ok (.iload_n 0, 1) := by decide +kernel
theorem dX8_stretch_17 : decode cX8_stretch 17 = .ok (.iload_n 3, 1) := by decide +kernel
theorem dX8_stretch_18 : decode cX8_stretch 18 = .ok (.bipush 12, 2) := by decide +kernel
theorem dX8_stretch_20 : decode cX8_stretch 20 = .ok (.if_icmp .ge 7, 3) := by decide +kernel
theorem dX8_stretch_23 : decode cX8_stretch 23 = .ok (.iload_n 3, 1) := by decide +kernel
theorem dX8_stretch_24 : decode cX8_stretch 24 = .ok (.goto 5, 3) := by decide +kernel
theorem dX8_stretch_27 : decode cX8_stretch 27 = .ok (.bipush 12, 2) := by decide +kernel
theorem dX8_stretch_29 : decode cX8_stretch 29 = .ok (.iload_n 2, 1) := by decide +kernel
theorem dX8_stretch_30 : decode cX8_stretch 30 = .ok (.isub, 1) := by decide +kernel
theorem dX8_stretch_31 : decode cX8_stretch 31 = .ok (.imul, 1) := by decide +kernel
theorem dX8_stretch_32 : decode cX8_stretch 32 = .ok (.iadd, 1) := by decide +kernel
theorem dX8_stretch_33 : decode cX8_stretch 33 = .ok (.istore 4, 2) := by decide +kernel
theorem dX8_stretch_35 : decode cX8_stretch 35 = .ok (.iload_n 3, 1) := by decide +kernel
theorem dX8_stretch_36 : decode cX8_stretch 36 = .ok (.bipush 12, 2) := by decide +kernel
theorem dX8_stretch_38 : decode cX8_stretch 38 = .ok (.if_icmp .le 29, 3) := by decide +kernel
theorem dX8_stretch_41 : decode cX8_stretch 41 = .ok (.iload_n 2, 1) := by decide +kernel
theorem dX8_stretch_42 : decode cX8_stretch 42 = .ok (.iload_n 3, 1) := by decide +kernel
theorem dX8_stretch_43 : decode cX8_stretch 43 = .ok (.if_icmp .ge 24, 3) := by decide +kernel
theorem dX8_stretch_46 : decode cX8_stretch 46 = .ok (.iload 4, 2) := by decide +kernel
theorem dX8_stretch_48 : decode cX8_stretch 48 = .ok (.iload_n 1, 1) := by decide +kernel
theorem dX8_stretch_49 : decode cX8_stretch 49 = .ok (.iload_n 3, 1) := by decide +kernel
theorem dX8_stretch_50 : decode cX8_stretch 50 = .ok (.iload_n 2, 1) := by decide +kernel
theorem dX8_stretch_51 : decode cX8_stretch 51 = .ok (.bipush 12, 2) := by decide +kernel
theorem dX8_stretch_53 : decode cX8_stretch 53 = .ok (.if_icmp .le 7, 3) := by decide +kernel
theorem dX8_stretch_56 : decode cX8_stretch 56 = .ok (.iload_n 2, 1) := by decide +kernel
theorem dX8_stretch_57 : decode cX8_stretch 57 = .ok (.goto 5, 3) := by decide +kernel
theorem dX8_stretch_60 : decode cX8_stretch 60 = .ok (.bipush 12, 2) := by decide +kernel
theorem dX8_stretch_62 : decode cX8_stretch 62 = .ok (.isub, 1) := by decide +kernel
theorem dX8_stretch_63 : decode cX8_stretch 63 = .ok (.imul, 1) := by decide +kernel
theorem dX8_stretch_64 : decode cX8_stretch 64 = .ok (.iadd, 1) := by decide +kernel
theorem dX8_stretch_65 : decode cX8_stretch 65 = .ok (.istore 4, 2) := by decide +kernel
theorem dX8_stretch_67 : decode cX8_stretch 67 = .ok (.iload 4, 2) := by decide +kernel
theorem dX8_stretch_69 : decode cX8_stretch 69 = .ok (.ireturn, 1) := by decide +kernel
theorem dX9_init_0 : decode cX9_init 0 = .ok (.aload_n 0, 1) := by decide +kernel
theorem dX9_init_1 : decode cX9_init 1 = .ok (.invokespecial 3, 3) := by decide +kernel
theorem dX9_init_4 : decode cX9_init 4 = .ok (.aload_n 0, 1) := by decide +kernel
theorem dX9_init_5 : decode cX9_init 5 = .ok (.sipush 2048, 3) := by decide +kernel
theorem dX9_init_8 : decode cX9_init 8 = .ok (.newarray .int, 2) := by decide +kernel
theorem dX9_init_10 : decode cX9_init 10 = .ok (.putfield 11, 3) := by decide +kernel
theorem dX9_init_13 : decode cX9_init 13 = .ok (.aload_n 0, 1) := by decide +kernel
theorem dX9_init_14 : decode cX9_init 14 = .ok (.sipush 2048, 3) := by decide +kernel
theorem dX9_init_17 : decode cX9_init 17 = .ok (.newarray .int, 2) := by decide +kernel
theorem dX9_init_19 : decode cX9_init 19 = .ok (.putfield 15, 3) := by decide +kernel
theorem dX9_init_22 : decode cX9_init 22 = .ok (.aload_n 0, 1) := by decide +kernel
theorem dX9_init_23 : decode cX9_init 23 = .ok (.bipush 8, 2) := by decide +kernel
theorem dX9_init_25 : decode cX9_init 25 = .ok (.newarray .int, 2) := by decide +kernel
theorem dX9_init_27 : decode cX9_init 27 = .ok (.putfield 18, 3) := by decide +kernel
theorem dX9_init_30 : decode cX9_init 30 = .ok (.aload_n 0, 1) := by decide +kernel
theorem dX9_init_31 : decode cX9_init 31 = .ok (.aload_n 1, 1) := by decide +kernel
theorem dX9_init_32 : decode cX9_init 32 = .ok (.putfield 21, 3) := by decide +kernel
theorem dX9_init_35 : decode cX9_init 35 = .ok (.aload_n 0, 1) := by decide +kernel
theorem dX9_init_36 : decode cX9_init 36 = .ok (.aload_n 2, 1) := by decide +kernel
theorem dX9_init_37 : decode cX9_init 37 = .ok (.putfield 25, 3) := by decide +kernel
theorem dX9_init_40 : decode cX9_init 40 = .ok (.return_, 1) := by decide +kernel
theorem dX9_forget_0 : decode cX9_forget 0 = .ok (.aload_n 0, 1) := by decide +kernel
theorem dX9_forget_1 : decode cX9_forget 1 = .ok (.iconst 0, 1) := by decide +kernel
theorem dX9_forget_2 : decode cX9_forget 2 = .ok (.putfield 29, 3) := by decide +kernel
theorem dX9_forget_5 : decode cX9_forget 5 = .ok (.return_, 1) := by decide +kernel
theorem dX9_find_0 : decode cX9_find 0 = .ok (.aload_n 0, 1) := by decide +kernel
theorem dX9_find_1 : decode cX9_find 1 = .ok (.getfield 29, 3) := by decide +kernel
theorem dX9_find_4 : decode cX9_find 4 = .ok (.iload_n 1, 1) := by decide +kernel
theorem dX9_find_5 : decode cX9_find 5 = .ok (.if_icmp .ne 4, 3) := by decide +kernel
theorem dX9_find_8 : decode cX9_find 8 = .ok (.return_, 1) := by decide +kernel
theorem dX9_find_9 : decode cX9_find 9 = .ok (.iconst 0, 1) := by decide +kernel
theorem dX9_find_10 : decode cX9_find 10 = .ok (.istore_n 2, 1) := by decide +kernel
theorem dX9_find_11 : decode cX9_find 11 = .ok (.iload_n 2, 1) := by decide +kernel
theorem dX9_find_12 : decode cX9_find 12 = .ok (.aload_n 0, 1) := by decide +kernel
theorem dX9_find_13 : decode cX9_find 13 = .ok (.getfield 15, 3) := by decide +kernel
theorem dX9_find_16 : decode cX9_find 16 = .ok (.arraylength, 1) := by decide +kernel
theorem dX9_find_17 : decode cX9_find 17 = .ok (.if_icmp .ge 16, 3) := by decide +kernel
theorem dX9_find_20 : decode cX9_find 20 = .ok (.aload_n 0, 1) := by decide +kernel
theorem dX9_find_21 : decode cX9_find 21 = .ok (.getfield 15, 3) := by decide +kernel
theorem dX9_find_24 : decode cX9_find 24 = .ok (.iload_n 2, 1) := by decide +kernel
theorem dX9_find_25 : decode cX9_find 25 = .ok (.iconst 0, 1) := by decide +kernel
theorem dX9_find_26 : decode cX9_find 26 = .ok (.iastore, 1) := by decide +kernel
theorem dX9_find_27 : decode cX9_find 27 = .ok (.iinc 2 1, 3) := by decide +kernel
theorem dX9_find_30 : decode cX9_find 30 = .ok (.goto (-19), 3) := by decide +kernel
theorem dX9_find_33 : decode cX9_find 33 = .ok (.iconst 1, 1) := by decide +kernel
theorem dX9_find_34 : decode cX9_find 34 = .ok (.istore_n 2, 1) := by decide +kernel
theorem dX9_find_35 : decode cX9_find 35 = .ok (.iconst 0, 1) := by decide +kernel
theorem dX9_find_36 : decode cX9_find 36 = .ok (.istore_n 3, 1) := by decide +kernel
theorem dX9_find_37 : decode cX9_find 37 = .ok (.iload_n 3, 1) := by decide +kernel
theorem dX9_find_38 : decode cX9_find 38 = .ok (.aload_n 0, 1) := by decide +kernel
theorem dX9_find_39 : decode cX9_find 39 = .ok (.getfield 21, 3) := by decide +kernel
theorem dX9_find_42 : decode cX9_find 42 = .ok (.getfield 33, 3) := by decide +kernel
theorem dX9_find_45 : decode cX9_find 45 = .ok (.if_icmp .ge 13, 3) := by decide +kernel
theorem dX9_find_48 : decode cX9_find 48 = .ok (.iload_n 2, 1) := by decide +kernel
theorem dX9_find_49 : decode cX9_find 49 = .ok (.iload_n 1, 1) := by decide +kernel
theorem dX9_find_50 : decode cX9_find 50 = .ok (.imul, 1) := by decide +kernel
theorem dX9_find_51 : decode cX9_find 51 = .ok (.istore_n 2, 1) := by decide +kernel
theorem dX9_find_52 : decode cX9_find 52 = .ok (.iinc 3 1, 3) := by decide +kernel
theorem dX9_find_55 : decode cX9_find 55 = .ok (.goto (-18), 3) := by decide +kernel
theorem dX9_find_58 : decode cX9_find 58 = .ok (.aload_n 0, 1) := by decide +kernel
theorem dX9_find_59 : decode cX9_find 59 = .ok (.getfield 25, 3) := by decide +kernel
theorem dX9_find_62 : decode cX9_find 62 = .ok (.invokevirtual 38, 3) := by decide +kernel
theorem dX9_find_65 : decode cX9_find 65 = .ok (.iconst 0, 1) := by decide +kernel
theorem dX9_find_66 : decode cX9_find 66 = .ok (.istore_n 3, 1) := by decide +kernel
theorem dX9_find_67 : decode cX9_find 67 = .ok (.iload_n 3, 1) := by decide +kernel
theorem dX9_find_68 : decode cX9_find 68 = .ok (.iload_n 2, 1) := by decide +kernel
theorem dX9_find_69 : decode cX9_find 69 = .ok (.if_icmp .ge 15, 3) := by decide +kernel
theorem dX9_find_72 : decode cX9_find 72 = .ok (.aload_n 0, 1) := by decide +kernel
theorem dX9_find_73 : decode cX9_find 73 = .ok (.iload_n 3, 1) := by decide +kernel
theorem dX9_find_74 : decode cX9_find 74 = .ok (.iload_n 1, 1) := by decide +kernel
theorem dX9_find_75 : decode cX9_find 75 = .ok (.invokevirtual 43, 3) := by decide +kernel
theorem dX9_find_78 : decode cX9_find 78 = .ok (.iinc 3 1, 3) := by decide +kernel
theorem dX9_find_81 : decode cX9_find 81 = .ok (.goto (-14), 3) := by decide +kernel
theorem dX9_find_84 : decode cX9_find 84 = .ok (.aload_n 0, 1) := by decide +kernel
theorem dX9_find_85 : decode cX9_find 85 = .ok (.iconst 0, 1) := by decide +kernel
theorem dX9_find_86 : decode cX9_find 86 = .ok (.putfield 47, 3) := by decide +kernel
theorem dX9_find_89 : decode cX9_find 89 = .ok (.aload_n 0, 1) := by decide +kernel
theorem dX9_find_90 : decode cX9_find 90 = .ok (.iconst (-1), 1) := by decide +kernel
theorem dX9_find_91 : decode cX9_find 91 = .ok (.putfield 50, 3) := by decide +kernel
theorem dX9_find_94 : decode cX9_find 94 = .ok (.iconst 0, 1) := by decide +kernel
theorem dX9_find_95 : decode cX9_find 95 = .ok (.istore_n 3, 1) := by decide +kernel
theorem dX9_find_96 : decode cX9_find 96 = .ok (.iload_n 3, 1) := by decide +kernel
theorem dX9_find_97 : decode cX9_find 97 = .ok (.iload_n 2, 1) := by decide +kernel
theorem dX9_find_98 : decode cX9_find 98 = .ok (.if_icmp .ge 51, 3) := by decide +kernel
theorem dX9_find_101 : decode cX9_find 101 = .ok (.aload_n 0, 1) := by decide +kernel
theorem dX9_find_102 : decode cX9_find 102 = .ok (.iload_n 3, 1) := by decide +kernel
theorem dX9_find_103 : decode cX9_find 103 = .ok (.iload_n 1, 1) := by decide +kernel
theorem dX9_find_104 : decode cX9_find 104 = .ok (.invokevirtual 53, 3) := by decide +kernel
theorem dX9_find_107 : decode cX9_find 107 = .ok (.ifCond .eq 36, 3) := by decide +kernel
theorem dX9_find_110 : decode cX9_find 110 = .ok (.aload_n 0, 1) := by decide +kernel
theorem dX9_find_111 : decode cX9_find 111 = .ok (.dup, 1) := by decide +kernel
theorem dX9_find_112 : decode cX9_find 112 = .ok (.getfield 47, 3) := by decide +kernel
theorem dX9_find_115 : decode cX9_find 115 = .ok (.iconst 1, 1) := by decide +kernel
theorem dX9_find_116 : decode cX9_find 116 = .ok (.iadd, 1) := by decide +kernel
theorem dX9_find_117 : decode cX9_find 117 = .ok (.putfield 47, 3) := by decide +kernel
theorem dX9_find_120 : decode cX9_find 120 = .ok (.aload_n 0, 1) := by decide +kernel
theorem dX9_find_121 : decode cX9_find 121 = .ok (.aload_n 0, 1) := by decide +kernel
theorem dX9_find_122 : decode cX9_find 122 = .ok (.getfield 50, 3) := by decide +kernel
theorem dX9_find_125 : decode cX9_find 125 = .ok (.iconst (-1), 1) := by decide +kernel
theorem dX9_find_126 : decode cX9_find 126 = .ok (.if_icmp .ne 10, 3) := by decide +kernel
theorem dX9_find_129 : decode cX9_find 129 = .ok (.aload_n 0, 1) := by decide +kernel
theorem dX9_find_130 : decode cX9_find 130 = .ok (.invokevirtual 57, 3) := by decide +kernel
theorem dX9_find_133 : decode cX9_find 133 = .ok (.goto 7, 3) := by decide +kernel
theorem dX9_find_136 : decode cX9_find 136 = .ok (.aload_n 0, 1) := by decide +kernel
theorem dX9_find_137 : decode cX9_find 137 = .ok (.getfield 50, 3) := by decide +kernel
theorem dX9_find_140 : decode cX9_find 140 = .ok (.putfield 50, 3) := by decide +kernel
theorem dX9_find_143 : decode cX9_find 143 = .ok (.iinc 3 1, 3) := by decide +kernel
theorem dX9_find_146 : decode cX9_find 146 = .ok (.goto (-50), 3) := by decide +kernel
theorem dX9_find_149 : decode cX9_find 149 = .ok (.aload_n 0, 1) := by decide +kernel
theorem dX9_find_150 : decode cX9_find 150 = .ok (.iload_n 1, 1) := by decide +kernel
theorem dX9_find_151 : decode cX9_find 151 = .ok (.putfield 29, 3) := by decide +kernel
theorem dX9_find_154 : decode cX9_find 154 = .ok (.return_, 1) := by decide +kernel
theorem dX9_weigh_0 : decode cX9_weigh 0 = .ok (.aload_n 0, 1) := by decide +kernel
theorem dX9_weigh_1 : decode cX9_weigh 1 = .ok (.iload_n 1, 1) := by decide +kernel
theorem dX9_weigh_2 : decode cX9_weigh 2 = .ok (.iload_n 2, 1) := by decide +kernel
theorem dX9_weigh_3 : decode cX9_weigh 3 = .ok (.invokevirtual 61, 3) := by decide +kernel
theorem dX9_weigh_6 : decode cX9_weigh 6 = .ok (.aload_n 0, 1) := by decide +kernel
theorem dX9_weigh_7 : decode cX9_weigh 7 = .ok (.getfield 25, 3) := by decide +kernel
theorem dX9_weigh_10 : decode cX9_weigh 10 = .ok (.aload_n 0, 1) := by decide +kernel
theorem dX9_weigh_11 : decode cX9_weigh 11 = .ok (.getfield 18, 3) := by decide +kernel
theorem dX9_weigh_14 : decode cX9_weigh 14 = .ok (.aload_n 0, 1) := by decide +kernel
theorem dX9_weigh_15 : decode cX9_weigh 15 = .ok (.getfield 21, 3) := by decide +kernel
theorem dX9_weigh_18 : decode cX9_weigh 18 = .ok (.getfield 64, 3) := by decide +kernel
theorem dX9_weigh_21 : decode cX9_weigh 21 = .ok (.invokevirtual 67, 3) := by decide +kernel
theorem dX9_weigh_24 : decode cX9_weigh 24 = .ok (.iconst 1, 1) := by decide +kernel
theorem dX9_weigh_25 : decode cX9_weigh 25 = .ok (.istore_n 3, 1) := by decide +kernel
theorem dX9_weigh_26 : decode cX9_weigh 26 = .ok (.aload_n 0, 1) := by decide +kernel
theorem dX9_weigh_27 : decode cX9_weigh 27 = .ok (.getfield 21, 3) := by decide +kernel
theorem dX9_weigh_30 : decode cX9_weigh 30 = .ok (.getfield 33, 3) := by decide +kernel
theorem dX9_weigh_33 : decode cX9_weigh 33 = .ok (.iconst 1, 1) := by decide +kernel
theorem dX9_weigh_34 : decode cX9_weigh 34 = .ok (.isub, 1) := by decide +kernel
theorem dX9_weigh_35 : decode cX9_weigh 35 = .ok (.istore 4, 2) := by decide +kernel
theorem dX9_weigh_37 : decode cX9_weigh 37 = .ok (.iload 4, 2) := by decide +kernel
theorem dX9_weigh_39 : decode cX9_weigh 39 = .ok (.ifCond .lt 121, 3) := by decide +kernel
theorem dX9_weigh_42 : decode cX9_weigh 42 = .ok (.iload 4, 2) := by decide +kernel
theorem dX9_weigh_44 : decode cX9_weigh 44 = .ok (.iload_n 1, 1) := by decide +kernel
theorem dX9_weigh_45 : decode cX9_weigh 45 = .ok (.iload_n 3, 1) := by decide +kernel
theorem dX9_weigh_46 : decode cX9_weigh 46 = .ok (.iload_n 2, 1) := by decide +kernel
theorem dX9_weigh_47 : decode cX9_weigh 47 = .ok (.invokestatic 71, 3) := by decide +kernel
theorem dX9_weigh_50 : decode cX9_weigh 50 = .ok (.istore 5, 2) := by decide +kernel
theorem dX9_weigh_52 : decode cX9_weigh 52 = .ok (.aload_n 0, 1) := by decide +kernel
theorem dX9_weigh_53 : decode cX9_weigh 53 = .ok (.getfield 25, 3) := by decide +kernel
theorem dX9_weigh_56 : decode cX9_weigh 56 = .ok (.getfield 75, 3) := by decide +kernel
theorem dX9_weigh_59 : decode cX9_weigh 59 = .ok (.iload 4, 2) := by decide +kernel
theorem dX9_weigh_61 : decode cX9_weigh 61 = .ok (.bipush 8, 2) := by decide +kernel
theorem dX9_weigh_63 : decode cX9_weigh 63 = .ok (.imul, 1) := by decide +kernel
theorem dX9_weigh_64 : decode cX9_weigh 64 = .ok (.iconst 4, 1) := by decide +kernel
theorem dX9_weigh_65 : decode cX9_weigh 65 = .ok (.iadd, 1) := by decide +kernel
theorem dX9_weigh_66 : decode cX9_weigh 66 = .ok (.iaload, 1) := by decide +kernel
theorem dX9_weigh_67 : decode cX9_weigh 67 = .ok (.istore 6, 2) := by decide +kernel
theorem dX9_weigh_69 : decode cX9_weigh 69 = .ok (.aload_n 0, 1) := by decide +kernel
theorem dX9_weigh_70 : decode cX9_weigh 70 = .ok (.getfield 15, 3) := by decide +kernel
theorem dX9_weigh_73 : decode cX9_weigh 73 = .ok (.iload 5, 2) := by decide +kernel
theorem dX9_weigh_75 : decode cX9_weigh 75 = .ok (.iaload, 1) := by decide +kernel
theorem dX9_weigh_76 : decode cX9_weigh 76 = .ok (.ifCond .eq 15, 3) := by decide +kernel
theorem dX9_weigh_79 : decode cX9_weigh 79 = .ok (.iload 6, 2) := by decide +kernel
theorem dX9_weigh_81 : decode cX9_weigh 81 = .ok (.aload_n 0, 1) := by decide +kernel
theorem dX9_weigh_82 : decode cX9_weigh 82 = .ok (.getfield 11, 3) := by decide +kernel
theorem dX9_weigh_85 : decode cX9_weigh 85 = .ok (.iload 5, 2) := by decide +kernel
theorem dX9_weigh_87 : decode cX9_weigh 87 = .ok (.iaload, 1) := by decide +kernel
theorem dX9_weigh_88 : decode cX9_weigh 88 = .ok (.if_icmp .le 31, 3) := by decide +kernel
theorem dX9_weigh_91 : decode cX9_weigh 91 = .ok (.aload_n 0, 1) := by decide +kernel
theorem dX9_weigh_92 : decode cX9_weigh 92 = .ok (.getfield 11, 3) := by decide +kernel
theorem dX9_weigh_95 : decode cX9_weigh 95 = .ok (.iload 5, 2) := by decide +kernel
theorem dX9_weigh_97 : decode cX9_weigh 97 = .ok (.iload 6, 2) := by decide +kernel
theorem dX9_weigh_99 : decode cX9_weigh 99 = .ok (.iastore, 1) := by decide +kernel
theorem dX9_weigh_100 : decode cX9_weigh 100 = .ok (.aload_n 0, 1) := by decide +kernel
theorem dX9_weigh_101 : decode cX9_weigh 101 = .ok (.getfield 15, 3) := by decide +kernel
theorem dX9_weigh_104 : decode cX9_weigh 104 = .ok (.iload 5, 2) := by decide +kernel
theorem dX9_weigh_106 : decode cX9_weigh 106 = .ok (.iconst 1, 1) := by decide +kernel
theorem dX9_weigh_107 : decode cX9_weigh 107 = .ok (.aload_n 0, 1) := by decide +kernel
theorem dX9_weigh_108 : decode cX9_weigh 108 = .ok (.getfield 18, 3) := by decide +kernel
theorem dX9_weigh_111 : decode cX9_weigh 111 = .ok (.iload 4, 2) := by decide +kernel
theorem dX9_weigh_113 : decode cX9_weigh 113 = .ok (.iaload, 1) := by decide +kernel
theorem dX9_weigh_114 : decode cX9_weigh 114 = .ok (.ishl, 1) := by decide +kernel
theorem dX9_weigh_115 : decode cX9_weigh 115 = .ok (.iastore, 1) := by decide +kernel
theorem dX9_weigh_116 : decode cX9_weigh 116 = .ok (.goto 34, 3) := by decide +kernel
theorem dX9_weigh_119 : decode cX9_weigh 119 = .ok (.iload 6, 2) := by decide +kernel
theorem dX9_weigh_121 : decode cX9_weigh 121 = .ok (.aload_n 0, 1) := by decide +kernel
theorem dX9_weigh_122 : decode cX9_weigh 122 = .ok (.getfield 11, 3) := by decide +kernel
theorem dX9_weigh_125 : decode cX9_weigh 125 = .ok (.iload 5, 2) := by decide +kernel
theorem dX9_weigh_127 : decode cX9_weigh 127 = .ok (.iaload, 1) := by decide +kernel
theorem dX9_weigh_128 : decode cX9_weigh 128 = .ok (.if_icmp .ne 22, 3) := by decide +kernel
theorem dX9_weigh_131 : decode cX9_weigh 131 = .ok (.aload_n 0, 1) := by decide +kernel
theorem dX9_weigh_132 : decode cX9_weigh 132 = .ok (.getfield 15, 3) := by decide +kernel
theorem dX9_weigh_135 : decode cX9_weigh 135 = .ok (.iload 5, 2) := by decide +kernel
theorem dX9_weigh_137 : decode cX9_weigh 137 = .ok (.dup2, 1) := by decide +kernel
theorem dX9_weigh_138 : decode cX9_weigh 138 = .ok (.iaload, 1) := by decide +kernel
theorem dX9_weigh_139 : decode cX9_weigh 139 = .ok (.iconst 1, 1) := by decide +kernel
theorem dX9_weigh_140 : decode cX9_weigh 140 = .ok (.aload_n 0, 1) := by decide +kernel
theorem dX9_weigh_141 : decode cX9_weigh 141 = .ok (.getfield 18, 3) := by decide +kernel
theorem dX9_weigh_144 : decode cX9_weigh 144 = .ok (.iload 4, 2) := by decide +kernel
theorem dX9_weigh_146 : decode cX9_weigh 146 = .ok (.iaload, 1) := by decide +kernel
theorem dX9_weigh_147 : decode cX9_weigh 147 = .ok (.ishl, 1) := by decide +kernel
theorem dX9_weigh_148 : decode cX9_weigh 148 = .ok (.ior, 1) := by decide +kernel
theorem dX9_weigh_149 : decode cX9_weigh 149 = .ok (.iastore, 1) := by decide +kernel
theorem dX9_weigh_150 : decode cX9_weigh 150 = .ok (.iload_n 3, 1) := by decide +kernel
theorem dX9_weigh_151 : decode cX9_weigh 151 = .ok (.iload_n 2, 1) := by decide +kernel
theorem dX9_weigh_152 : decode cX9_weigh 152 = .ok (.imul, 1) := by decide +kernel
theorem dX9_weigh_153 : decode cX9_weigh 153 = .ok (.istore_n 3, 1) := by decide +kernel
theorem dX9_weigh_154 : decode cX9_weigh 154 = .ok (.iinc 4 (-1), 3) := by decide +kernel
theorem dX9_weigh_157 : decode cX9_weigh 157 = .ok (.goto (-120), 3) := by decide +kernel
theorem dX9_weigh_160 : decode cX9_weigh 160 = .ok (.return_, 1) := by decide +kernel
theorem dX9_isStill_0 : decode cX9_isStill 0 = .ok (.aload_n 0, 1) := by decide +kernel
theorem dX9_isStill_1 : decode cX9_isStill 1 = .ok (.iload_n 1, 1) := by decide +kernel
theorem dX9_isStill_2 : decode cX9_isStill 2 = .ok (.iload_n 2, 1) := by decide +kernel
theorem dX9_isStill_3 : decode cX9_isStill 3 = .ok (.invokevirtual 61, 3) := by decide +kernel
theorem dX9_isStill_6 : decode cX9_isStill 6 = .ok (.iconst 1, 1) := by decide +kernel
theorem dX9_isStill_7 : decode cX9_isStill 7 = .ok (.istore_n 3, 1) := by decide +kernel
theorem dX9_isStill_8 : decode cX9_isStill 8 = .ok (.aload_n 0, 1) := by decide +kernel
theorem dX9_isStill_9 : decode cX9_isStill 9 = .ok (.getfield 21, 3) := by decide +kernel
theorem dX9_isStill_12 : decode cX9_isStill 12 = .ok (.getfield 33, 3) := by decide +kernel
theorem dX9_isStill_15 : decode cX9_isStill 15 = .ok (.iconst 1, 1) := by decide +kernel
theorem dX9_isStill_16 : decode cX9_isStill 16 = .ok (.isub, 1) := by decide +kernel
theorem dX9_isStill_17 : decode cX9_isStill 17 = .ok (.istore 4, 2) := by decide +kernel
theorem dX9_isStill_19 : decode cX9_isStill 19 = .ok (.iload 4, 2) := by decide +kernel
theorem dX9_isStill_21 : decode cX9_isStill 21 = .ok (.ifCond .lt 41, 3) := by decide +kernel
theorem dX9_isStill_24 : decode cX9_isStill 24 = .ok (.aload_n 0, 1) := by decide +kernel
theorem dX9_isStill_25 : decode cX9_isStill 25 = .ok (.getfield 15, 3) := by decide +kernel
theorem dX9_isStill_28 : decode cX9_isStill 28 = .ok (.iload 4, 2) := by decide +kernel
theorem dX9_isStill_30 : decode cX9_isStill 30 = .ok (.iload_n 1, 1) := by decide +kernel
theorem dX9_isStill_31 : decode cX9_isStill 31 = .ok (.iload_n 3, 1) := by decide +kernel
theorem dX9_isStill_32 : decode cX9_isStill 32 = .ok (.iload_n 2, 1) := by decide +kernel
theorem dX9_isStill_33 : decode cX9_isStill 33 = .ok (.invokestatic 71, 3) := by decide +kernel
theorem dX9_isStill_36 : decode cX9_isStill 36 = .ok (.iaload, 1) := by decide +kernel
theorem dX9_isStill_37 : decode cX9_isStill 37 = .ok (.aload_n 0, 1) := by decide +kernel
theorem dX9_isStill_38 : decode cX9_isStill 38 = .ok (.getfield 18, 3) := by decide +kernel
theorem dX9_isStill_41 : decode cX9_isStill 41 = .ok (.iload 4, 2) := by decide +kernel
theorem dX9_isStill_43 : decode cX9_isStill 43 = .ok (.iaload, 1) := by decide +kernel
theorem dX9_isStill_44 : decode cX9_isStill 44 = .ok (.ishr, 1) := by decide +kernel
theorem dX9_isStill_45 : decode cX9_isStill 45 = .ok (.iconst 1, 1) := by decide +kernel
theorem dX9_isStill_46 : decode cX9_isStill 46 = .ok (.iand, 1) := by decide +kernel
theorem dX9_isStill_47 : decode cX9_isStill 47 = .ok (.ifCond .ne 5, 3) := by decide +kernel
theorem dX9_isStill_50 : decode cX9_isStill 50 = .ok (.iconst 0, 1) := by decide +kernel
theorem dX9_isStill_51 : decode cX9_isStill 51 = .ok (.ireturn, 1) := by decide +kernel
theorem dX9_isStill_52 : decode cX9_isStill 52 = .ok (.iload_n 3, 1) := by decide +kernel
theorem dX9_isStill_53 : decode cX9_isStill 53 = .ok (.iload_n 2, 1) := by decide +kernel
theorem dX9_isStill_54 : decode cX9_isStill 54 = .ok (.imul, 1) := by decide +kernel
theorem dX9_isStill_55 : decode cX9_isStill 55 = .ok (.istore_n 3, 1) := by decide +kernel
theorem dX9_isStill_56 : decode cX9_isStill 56 = .ok (.iinc 4 (-1), 3) := by decide +kernel
theorem dX9_isStill_59 : decode cX9_isStill 59 = .ok (.goto (-40), 3) := by decide +kernel
theorem dX9_isStill_62 : decode cX9_isStill 62 = .ok (.iconst 1, 1) := by decide +kernel
theorem dX9_isStill_63 : decode cX9_isStill 63 = .ok (.ireturn, 1) := by decide +kernel
theorem dX9_setHalves_0 : decode cX9_setHalves 0 = .ok (.iload_n 1, 1) := by decide +kernel
theorem dX9_setHalves_1 : decode cX9_setHalves 1 = .ok (.istore_n 3, 1) := by decide +kernel
theorem dX9_setHalves_2 : decode cX9_setHalves 2 = .ok (.aload_n 0, 1) := by decide +kernel
theorem dX9_setHalves_3 : decode cX9_setHalves 3 = .ok (.getfield 21, 3) := by decide +kernel
theorem dX9_setHalves_6 : decode cX9_setHalves 6 = .ok (.getfield 33, 3) := by decide +kernel
theorem dX9_setHalves_9 : decode cX9_setHalves 9 = .ok (.iconst 1, 1) := by decide +kernel
theorem dX9_setHalves_10 : decode cX9_setHalves 10 = .ok (.isub, 1) := by decide +kernel
theorem dX9_setHalves_11 : decode cX9_setHalves 11 = .ok (.istore 4, 2) := by decide +kernel
theorem dX9_setHalves_13 : decode cX9_setHalves 13 = .ok (.iload 4, 2) := by decide +kernel
theorem dX9_setHalves_15 : decode cX9_setHalves 15 = .ok (.ifCond .lt 23, 3) := by decide +kernel
theorem dX9_setHalves_18 : decode cX9_setHalves 18 = .ok (.aload_n 0, 1) := by decide +kernel
theorem dX9_setHalves_19 : decode cX9_setHalves 19 = .ok (.getfield 18, 3) := by decide +kernel
theorem dX9_setHalves_22 : decode cX9_setHalves 22 = .ok (.iload 4, 2) := by decide +kernel
theorem dX9_setHalves_24 : decode cX9_setHalves 24 = .ok (.iload_n 3, 1) := by decide +kernel
theorem dX9_setHalves_25 : decode cX9_setHalves 25 = .ok (.iload_n 2, 1) := by decide +kernel
theorem dX9_setHalves_26 : decode cX9_setHalves 26 = .ok (.irem, 1) := by decide +kernel
theorem dX9_setHalves_27 : decode cX9_setHalves 27 = .ok (.iastore, 1) := by decide +kernel
theorem dX9_setHalves_28 : decode cX9_setHalves 28 = .ok (.iload_n 3, 1) := by decide +kernel
theorem dX9_setHalves_29 : decode cX9_setHalves 29 = .ok (.iload_n 2, 1) := by decide +kernel
theorem dX9_setHalves_30 : decode cX9_setHalves 30 = .ok (.idiv, 1) := by decide +kernel
theorem dX9_setHalves_31 : decode cX9_setHalves 31 = .ok (.istore_n 3, 1) := by decide +kernel
theorem dX9_setHalves_32 : decode cX9_setHalves 32 = .ok (.iinc 4 (-1), 3) := by decide +kernel
theorem dX9_setHalves_35 : decode cX9_setHalves 35 = .ok (.goto (-22), 3) := by decide +kernel
theorem dX9_setHalves_38 : decode cX9_setHalves 38 = .ok (.return_, 1) := by decide +kernel
theorem dX9_place_0 : decode cX9_place 0 = .ok (.iload_n 0, 1) := by decide +kernel
theorem dX9_place_1 : decode cX9_place 1 = .ok (.sipush 512, 3) := by decide +kernel
theorem dX9_place_4 : decode cX9_place 4 = .ok (.imul, 1) := by decide +kernel
theorem dX9_place_5 : decode cX9_place 5 = .ok (.iload_n 1, 1) := by decide +kernel
theorem dX9_place_6 : decode cX9_place 6 = .ok (.iload_n 2, 1) := by decide +kernel
theorem dX9_place_7 : decode cX9_place 7 = .ok (.iload_n 3, 1) := by decide +kernel
theorem dX9_place_8 : decode cX9_place 8 = .ok (.imul, 1) := by decide +kernel
theorem dX9_place_9 : decode cX9_place 9 = .ok (.idiv, 1) := by decide +kernel
theorem dX9_place_10 : decode cX9_place 10 = .ok (.iload_n 2, 1) := by decide +kernel
theorem dX9_place_11 : decode cX9_place 11 = .ok (.imul, 1) := by decide +kernel
theorem dX9_place_12 : decode cX9_place 12 = .ok (.iadd, 1) := by decide +kernel
theorem dX9_place_13 : decode cX9_place 13 = .ok (.iload_n 1, 1) := by decide +kernel
theorem dX9_place_14 : decode cX9_place 14 = .ok (.iload_n 2, 1) := by decide +kernel
theorem dX9_place_15 : decode cX9_place 15 = .ok (.irem, 1) := by decide +kernel
theorem dX9_place_16 : decode cX9_place 16 = .ok (.iadd, 1) := by decide +kernel
theorem dX9_place_17 : decode cX9_place 17 = .ok (.ireturn, 1) := by decide +kernel
theorem dX9_digits_0 : decode cX9_digits 0 = .ok (.iconst 0, 1) := by decide +kernel
theorem dX9_digits_1 : decode cX9_digits 1 = .ok (.istore_n 1, 1) := by decide +kernel
theorem dX9_digits_2 : decode cX9_digits 2 = .ok (.iconst 0, 1) := by decide +kernel
theorem dX9_digits_3 : decode cX9_digits 3 = .ok (.istore_n 2, 1) := by decide +kernel
theorem dX9_digits_4 : decode cX9_digits 4 = .ok (.iload_n 2, 1) := by decide +kernel
theorem dX9_digits_5 : decode cX9_digits 5 = .ok (.aload_n 0, 1) := by decide +kernel
theorem dX9_digits_6 : decode cX9_digits 6 = .ok (.getfield 21, 3) := by decide +kernel
theorem dX9_digits_9 : decode cX9_digits 9 = .ok (.getfield 33, 3) := by decide +kernel
theorem dX9_digits_12 : decode cX9_digits 12 = .ok (.if_icmp .ge 21, 3) := by decide +kernel
theorem dX9_digits_15 : decode cX9_digits 15 = .ok (.iload_n 1, 1) := by decide +kernel
theorem dX9_digits_16 : decode cX9_digits 16 = .ok (.bipush 10, 2) := by decide +kernel
theorem dX9_digits_18 : decode cX9_digits 18 = .ok (.imul, 1) := by decide +kernel
theorem dX9_digits_19 : decode cX9_digits 19 = .ok (.aload_n 0, 1) := by decide +kernel
theorem dX9_digits_20 : decode cX9_digits 20 = .ok (.getfield 18, 3) := by decide +kernel
theorem dX9_digits_23 : decode cX9_digits 23 = .ok (.iload_n 2, 1) := by decide +kernel
theorem dX9_digits_24 : decode cX9_digits 24 = .ok (.iaload, 1) := by decide +kernel
theorem dX9_digits_25 : decode cX9_digits 25 = .ok (.iadd, 1) := by decide +kernel
theorem dX9_digits_26 : decode cX9_digits 26 = .ok (.istore_n 1, 1) := by decide +kernel
theorem dX9_digits_27 : decode cX9_digits 27 = .ok (.iinc 2 1, 3) := by decide +kernel
theorem dX9_digits_30 : decode cX9_digits 30 = .ok (.goto (-26), 3) := by decide +kernel
theorem dX9_digits_33 : decode cX9_digits 33 = .ok (.iload_n 1, 1) := by decide +kernel
theorem dX9_digits_34 : decode cX9_digits 34 = .ok (.ireturn, 1) := by decide +kernel
theorem dX10_init_0 : decode cX10_init 0 = .ok (.aload_n 0, 1) := by decide +kernel
theorem dX10_init_1 : decode cX10_init 1 = .ok (.invokespecial 3, 3) := by decide +kernel
theorem dX10_init_4 : decode cX10_init 4 = .ok (.aload_n 0, 1) := by decide +kernel
theorem dX10_init_5 : decode cX10_init 5 = .ok (.iconst (-1), 1) := by decide +kernel
theorem dX10_init_6 : decode cX10_init 6 = .ok (.putfield 9, 3) := by decide +kernel
theorem dX10_init_9 : decode cX10_init 9 = .ok (.aload_n 0, 1) := by decide +kernel
theorem dX10_init_10 : decode cX10_init 10 = .ok (.aload_n 1, 1) := by decide +kernel
theorem dX10_init_11 : decode cX10_init 11 = .ok (.putfield 15, 3) := by decide +kernel
theorem dX10_init_14 : decode cX10_init 14 = .ok (.return_, 1) := by decide +kernel
theorem dX10_begin_0 : decode cX10_begin 0 = .ok (.aload_n 0, 1) := by decide +kernel
theorem dX10_begin_1 : decode cX10_begin 1 = .ok (.iload_n 1, 1) := by decide +kernel
theorem dX10_begin_2 : decode cX10_begin 2 = .ok (.putfield 19, 3) := by decide +kernel
theorem dX10_begin_5 : decode cX10_begin 5 = .ok (.aload_n 0, 1) := by decide +kernel
theorem dX10_begin_6 : decode cX10_begin 6 = .ok (.iconst 0, 1) := by decide +kernel
theorem dX10_begin_7 : decode cX10_begin 7 = .ok (.putfield 22, 3) := by decide +kernel
theorem dX10_begin_10 : decode cX10_begin 10 = .ok (.aload_n 0, 1) := by decide +kernel
theorem dX10_begin_11 : decode cX10_begin 11 = .ok (.iconst 0, 1) := by decide +kernel
theorem dX10_begin_12 : decode cX10_begin 12 = .ok (.putfield 25, 3) := by decide +kernel
theorem dX10_begin_15 : decode cX10_begin 15 = .ok (.aload_n 0, 1) := by decide +kernel
theorem dX10_begin_16 : decode cX10_begin 16 = .ok (.iconst (-1), 1) := by decide +kernel
theorem dX10_begin_17 : decode cX10_begin 17 = .ok (.putfield 9, 3) := by decide +kernel
theorem dX10_begin_20 : decode cX10_begin 20 = .ok (.return_, 1) := by decide +kernel
theorem dX10_fail_0 : decode cX10_fail 0 = .ok (.aload_n 0, 1) := by decide +kernel
theorem dX10_fail_1 : decode cX10_fail 1 = .ok (.iload_n 1, 1) := by decide +kernel
theorem dX10_fail_2 : decode cX10_fail 2 = .ok (.putfield 25, 3) := by decide +kernel
theorem dX10_fail_5 : decode cX10_fail 5 = .ok (.aload_n 0, 1) := by decide +kernel
theorem dX10_fail_6 : decode cX10_fail 6 = .ok (.iload_n 2, 1) := by decide +kernel
theorem dX10_fail_7 : decode cX10_fail 7 = .ok (.putfield 9, 3) := by decide +kernel
theorem dX10_fail_10 : decode cX10_fail 10 = .ok (.iconst 0, 1) := by decide +kernel
theorem dX10_fail_11 : decode cX10_fail 11 = .ok (.ireturn, 1) := by decide +kernel
theorem dX10_peek_0 : decode cX10_peek 0 = .ok (.aload_n 0, 1) := by decide +kernel
theorem dX10_peek_1 : decode cX10_peek 1 = .ok (.getfield 22, 3) := by decide +kernel
theorem dX10_peek_4 : decode cX10_peek 4 = .ok (.aload_n 0, 1) := by decide +kernel
theorem dX10_peek_5 : decode cX10_peek 5 = .ok (.getfield 19, 3) := by decide +kernel
theorem dX10_peek_8 : decode cX10_peek 8 = .ok (.if_icmp .ge 30, 3) := by decide +kernel
theorem dX10_peek_11 : decode cX10_peek 11 = .ok (.aload_n 0, 1) := by decide +kernel
theorem dX10_peek_12 : decode cX10_peek 12 = .ok (.getfield 15, 3) := by decide +kernel
theorem dX10_peek_15 : decode cX10_peek 15 = .ok (.aload_n 0, 1) := by decide +kernel
theorem dX10_peek_16 : decode cX10_peek 16 = .ok (.getfield 22, 3) := by decide +kernel
theorem dX10_peek_19 : decode cX10_peek 19 = .ok (.iaload, 1) := by decide +kernel
theorem dX10_peek_20 : decode cX10_peek 20 = .ok (.bipush 32, 2) := by decide +kernel
theorem dX10_peek_22 : decode cX10_peek 22 = .ok (.if_icmp .ne 16, 3) := by decide +kernel
theorem dX10_peek_25 : decode cX10_peek 25 = .ok (.aload_n 0, 1) := by decide +kernel
theorem dX10_peek_26 : decode cX10_peek 26 = .ok (.dup, 1) := by decide +kernel
theorem dX10_peek_27 : decode cX10_peek 27 = .ok (.getfield 22, 3) := by decide +kernel
theorem dX10_peek_30 : decode cX10_peek 30 = .ok (.iconst 1, 1) := by decide +kernel
theorem dX10_peek_31 : decode cX10_peek 31 = .ok (.iadd, 1) := by decide +kernel
theorem dX10_peek_32 : decode cX10_peek 32 = .ok (.putfield 22, 3) := by decide +kernel
theorem dX10_peek_35 : decode cX10_peek 35 = .ok (.goto (-35), 3) := by decide +kernel
theorem dX10_peek_38 : decode cX10_peek 38 = .ok (.aload_n 0, 1) := by decide +kernel
theorem dX10_peek_39 : decode cX10_peek 39 = .ok (.getfield 22, 3) := by decide +kernel
theorem dX10_peek_42 : decode cX10_peek 42 = .ok (.aload_n 0, 1) := by decide +kernel
theorem dX10_peek_43 : decode cX10_peek 43 = .ok (.getfield 19, 3) := by decide +kernel
theorem dX10_peek_46 : decode cX10_peek 46 = .ok (.if_icmp .ge 15, 3) := by decide +kernel
theorem dX10_peek_49 : decode cX10_peek 49 = .ok (.aload_n 0, 1) := by decide +kernel
theorem dX10_peek_50 : decode cX10_peek 50 = .ok (.getfield 15, 3) := by decide +kernel
theorem dX10_peek_53 : decode cX10_peek 53 = .ok (.aload_n 0, 1) := by decide +kernel
theorem dX10_peek_54 : decode cX10_peek 54 = .ok (.getfield 22, 3) := by decide +kernel
theorem dX10_peek_57 : decode cX10_peek 57 = .ok (.iaload, 1) := by decide +kernel
theorem dX10_peek_58 : decode cX10_peek 58 = .ok (.goto 4, 3) := by decide +kernel
theorem dX10_peek_61 : decode cX10_peek 61 = .ok (.iconst (-1), 1) := by decide +kernel
theorem dX10_peek_62 : decode cX10_peek 62 = .ok (.ireturn, 1) := by decide +kernel
theorem dX10_takeSign_0 : decode cX10_takeSign 0 = .ok (.aload_n 0, 1) := by decide +kernel
theorem dX10_takeSign_1 : decode cX10_takeSign 1 = .ok (.invokevirtual 28, 3) := by decide +kernel
theorem dX10_takeSign_4 : decode cX10_takeSign 4 = .ok (.iload_n 1, 1) := by decide +kernel
theorem dX10_takeSign_5 : decode cX10_takeSign 5 = .ok (.if_icmp .eq 13, 3) := by decide +kernel
theorem dX10_takeSign_8 : decode cX10_takeSign 8 = .ok (.aload_n 0, 1) := by decide +kernel
theorem dX10_takeSign_9 : decode cX10_takeSign 9 = .ok (.iconst 1, 1) := by decide +kernel
theorem dX10_takeSign_10 : decode cX10_takeSign 10 = .ok (.aload_n 0, 1) := by decide +kernel
theorem dX10_takeSign_11 : decode cX10_takeSign 11 = .ok (.getfield 22, 3) := by decide +kernel
theorem dX10_takeSign_14 : decode cX10_takeSign 14 = .ok (.invokevirtual 32, 3) := by decide +kernel
theorem dX10_takeSign_17 : decode cX10_takeSign 17 = .ok (.ireturn, 1) := by decide +kernel
theorem dX10_takeSign_18 : decode cX10_takeSign 18 = .ok (.aload_n 0, 1) := by decide +kernel
theorem dX10_takeSign_19 : decode cX10_takeSign 19 = .ok (.dup, 1) := by decide +kernel
theorem dX10_takeSign_20 : decode cX10_takeSign 20 = .ok (.getfield 22, 3) := by decide +kernel
theorem dX10_takeSign_23 : decode cX10_takeSign 23 = .ok (.iconst 1, 1) := by decide +kernel
theorem dX10_takeSign_24 : decode cX10_takeSign 24 = .ok (.iadd, 1) := by decide +kernel
theorem dX10_takeSign_25 : decode cX10_takeSign 25 = .ok (.putfield 22, 3) := by decide +kernel
theorem dX10_takeSign_28 : decode cX10_takeSign 28 = .ok (.iconst 1, 1) := by decide +kernel
theorem dX10_takeSign_29 : decode cX10_takeSign 29 = .ok (.ireturn, 1) := by decide +kernel
theorem dX10_takeWord_0 : decode cX10_takeWord 0 = .ok (.aload_n 0, 1) := by decide +kernel
theorem dX10_takeWord_1 : decode cX10_takeWord 1 = .ok (.invokevirtual 28, 3) := by decide +kernel
theorem dX10_takeWord_4 : decode cX10_takeWord 4 = .ok (.pop, 1) := by decide +kernel
theorem dX10_takeWord_5 : decode cX10_takeWord 5 = .ok (.aload_n 0, 1) := by decide +kernel
theorem dX10_takeWord_6 : decode cX10_takeWord 6 = .ok (.aload_n 1, 1) := by decide +kernel
theorem dX10_takeWord_7 : decode cX10_takeWord 7 = .ok (.invokevirtual 36, 3) := by decide +kernel
theorem dX10_takeWord_10 : decode cX10_takeWord 10 = .ok (.iconst (-1), 1) := by decide +kernel
theorem dX10_takeWord_11 : decode cX10_takeWord 11 = .ok (.if_icmp .ne 13, 3) := by decide +kernel
theorem dX10_takeWord_14 : decode cX10_takeWord 14 = .ok (.aload_n 0, 1) := by decide +kernel
theorem dX10_takeWord_15 : decode cX10_takeWord 15 = .ok (.iconst 1, 1) := by decide +kernel
theorem dX10_takeWord_16 : decode cX10_takeWord 16 = .ok (.aload_n 0, 1) := by decide +kernel
theorem dX10_takeWord_17 : decode cX10_takeWord 17 = .ok (.getfield 22, 3) := by decide +kernel
theorem dX10_takeWord_20 : decode cX10_takeWord 20 = .ok (.invokevirtual 32, 3) := by decide +kernel
theorem dX10_takeWord_23 : decode cX10_takeWord 23 = .ok (.ireturn, 1) := by decide +kernel
theorem dX10_takeWord_24 : decode cX10_takeWord 24 = .ok (.aload_n 0, 1) := by decide +kernel
theorem dX10_takeWord_25 : decode cX10_takeWord 25 = .ok (.invokevirtual 40, 3) := by decide +kernel
theorem dX10_takeWord_28 : decode cX10_takeWord 28 = .ok (.iconst 1, 1) := by decide +kernel
theorem dX10_takeWord_29 : decode cX10_takeWord 29 = .ok (.ireturn, 1) := by decide +kernel
theorem dX10_number_0 : decode cX10_number 0 = .ok (.aload_n 0, 1) := by decide +kernel
theorem dX10_number_1 : decode cX10_number 1 = .ok (.invokevirtual 28, 3) := by decide +kernel
theorem dX10_number_4 : decode cX10_number 4 = .ok (.invokestatic 43, 3) := by decide +kernel
theorem dX10_number_7 : decode cX10_number 7 = .ok (.ifCond .ne 15, 3) := by decide +kernel
theorem dX10_number_10 : decode cX10_number 10 = .ok (.aload_n 0, 1) := by decide +kernel
theorem dX10_number_11 : decode cX10_number 11 = .ok (.iconst 1, 1) := by decide +kernel
theorem dX10_number_12 : decode cX10_number 12 = .ok (.aload_n 0, 1) := by decide +kernel
theorem dX10_number_13 : decode cX10_number 13 = .ok (.getfield 22, 3) := by decide +kernel
theorem dX10_number_16 : decode cX10_number 16 = .ok (.invokevirtual 32, 3) := by decide +kernel
theorem dX10_number_19 : decode cX10_number 19 = .ok (.pop, 1) := by decide +kernel
theorem dX10_number_20 : decode cX10_number 20 = .ok (.iconst (-1), 1) := by decide +kernel
theorem dX10_number_21 : decode cX10_number 21 = .ok (.ireturn, 1) := by decide +kernel
theorem dX10_number_22 : decode cX10_number 22 = .ok (.aload_n 0, 1) := by decide +kernel
theorem dX10_number_23 : decode cX10_number 23 = .ok (.getfield 22, 3) := by decide +kernel
theorem dX10_number_26 : decode cX10_number 26 = .ok (.istore_n 3, 1) := by decide +kernel
theorem dX10_number_27 : decode cX10_number 27 = .ok (.iconst 0, 1) := by decide +kernel
theorem dX10_number_28 : decode cX10_number 28 = .ok (.istore 4, 2) := by decide +kernel
theorem dX10_number_30 : decode cX10_number 30 = .ok (.aload_n 0, 1) := by decide +kernel
theorem dX10_number_31 : decode cX10_number 31 = .ok (.getfield 22, 3) := by decide +kernel
theorem dX10_number_34 : decode cX10_number 34 = .ok (.aload_n 0, 1) := by decide +kernel
theorem dX10_number_35 : decode cX10_number 35 = .ok (.getfield 19, 3) := by decide +kernel
theorem dX10_number_38 : decode cX10_number 38 = .ok (.if_icmp .ge 57, 3) := by decide +kernel
theorem dX10_number_41 : decode cX10_number 41 = .ok (.aload_n 0, 1) := by decide +kernel
theorem dX10_number_42 : decode cX10_number 42 = .ok (.getfield 15, 3) := by decide +kernel
theorem dX10_number_45 : decode cX10_number 45 = .ok (.aload_n 0, 1) := by decide +kernel
theorem dX10_number_46 : decode cX10_number 46 = .ok (.getfield 22, 3) := by decide +kernel
theorem dX10_number_49 : decode cX10_number 49 = .ok (.iaload, 1) := by decide +kernel
theorem dX10_number_50 : decode cX10_number 50 = .ok (.invokestatic 43, 3) := by decide +kernel
theorem dX10_number_53 : decode cX10_number 53 = .ok (.ifCond .eq 42, 3) := by decide +kernel
theorem dX10_number_56 : decode cX10_number 56 = .ok (.iload 4, 2) := by decide +kernel
theorem dX10_number_58 : decode cX10_number 58 = .ok (.bipush 10, 2) := by decide +kernel
theorem dX10_number_60 : decode cX10_number 60 = .ok (.imul, 1) := by decide +kernel
theorem dX10_number_61 : decode cX10_number 61 = .ok (.aload_n 0, 1) := by decide +kernel
theorem dX10_number_62 : decode cX10_number 62 = .ok (.getfield 15, 3) := by decide +kernel
theorem dX10_number_65 : decode cX10_number 65 = .ok (.aload_n 0, 1) := by decide +kernel
theorem dX10_number_66 : decode cX10_number 66 = .ok (.getfield 22, 3) := by decide +kernel
theorem dX10_number_69 : decode cX10_number 69 = .ok (.iaload, 1) := by decide +kernel
theorem dX10_number_70 : decode cX10_number 70 = .ok (.iadd, 1) := by decide +kernel
theorem dX10_number_71 : decode cX10_number 71 = .ok (.bipush 48, 2) := by decide +kernel
theorem dX10_number_73 : decode cX10_number 73 = .ok (.isub, 1) := by decide +kernel
theorem dX10_number_74 : decode cX10_number 74 = .ok (.sipush 1000, 3) := by decide +kernel
theorem dX10_number_77 : decode cX10_number 77 = .ok (.invokestatic 47, 3) := by decide +kernel
theorem dX10_number_80 : decode cX10_number 80 = .ok (.istore 4, 2) := by decide +kernel
theorem dX10_number_82 : decode cX10_number 82 = .ok (.aload_n 0, 1) := by decide +kernel
theorem dX10_number_83 : decode cX10_number 83 = .ok (.dup, 1) := by decide +kernel
theorem dX10_number_84 : decode cX10_number 84 = .ok (.getfield 22, 3) := by decide +kernel
theorem dX10_number_87 : decode cX10_number 87 = .ok (.iconst 1, 1) := by decide +kernel
theorem dX10_number_88 : decode cX10_number 88 = .ok (.iadd, 1) := by decide +kernel
theorem dX10_number_89 : decode cX10_number 89 = .ok (.putfield 22, 3) := by decide +kernel
theorem dX10_number_92 : decode cX10_number 92 = .ok (.goto (-62), 3) := by decide +kernel
theorem dX10_number_95 : decode cX10_number 95 = .ok (.iload 4, 2) := by decide +kernel
theorem dX10_number_97 : decode cX10_number 97 = .ok (.iload_n 1, 1) := by decide +kernel
theorem dX10_number_98 : decode cX10_number 98 = .ok (.if_icmp .lt 9, 3) := by decide +kernel
theorem dX10_number_101 : decode cX10_number 101 = .ok (.iload 4, 2) := by decide +kernel
theorem dX10_number_103 : decode cX10_number 103 = .ok (.iload_n 2, 1) := by decide +kernel
theorem dX10_number_104 : decode cX10_number 104 = .ok (.if_icmp .le 12, 3) := by decide +kernel
theorem dX10_number_107 : decode cX10_number 107 = .ok (.aload_n 0, 1) := by decide +kernel
theorem dX10_number_108 : decode cX10_number 108 = .ok (.iconst 2, 1) := by decide +kernel
theorem dX10_number_109 : decode cX10_number 109 = .ok (.iload_n 3, 1) := by decide +kernel
theorem dX10_number_110 : decode cX10_number 110 = .ok (.invokevirtual 32, 3) := by decide +kernel
theorem dX10_number_113 : decode cX10_number 113 = .ok (.pop, 1) := by decide +kernel
theorem dX10_number_114 : decode cX10_number 114 = .ok (.iconst (-1), 1) := by decide +kernel
theorem dX10_number_115 : decode cX10_number 115 = .ok (.ireturn, 1) := by decide +kernel
theorem dX10_number_116 : decode cX10_number 116 = .ok (.iload 4, 2) := by decide +kernel
theorem dX10_number_118 : decode cX10_number 118 = .ok (.ireturn, 1) := by decide +kernel
theorem dX10_which_0 : decode cX10_which 0 = .ok (.aload_n 0, 1) := by decide +kernel
theorem dX10_which_1 : decode cX10_which 1 = .ok (.invokevirtual 53, 3) := by decide +kernel
theorem dX10_which_4 : decode cX10_which 4 = .ok (.aload_n 0, 1) := by decide +kernel
theorem dX10_which_5 : decode cX10_which 5 = .ok (.getfield 22, 3) := by decide +kernel
theorem dX10_which_8 : decode cX10_which 8 = .ok (.isub, 1) := by decide +kernel
theorem dX10_which_9 : decode cX10_which 9 = .ok (.istore_n 2, 1) := by decide +kernel
theorem dX10_which_10 : decode cX10_which 10 = .ok (.iconst 0, 1) := by decide +kernel
theorem dX10_which_11 : decode cX10_which 11 = .ok (.istore_n 3, 1) := by decide +kernel
theorem dX10_which_12 : decode cX10_which 12 = .ok (.iconst 0, 1) := by decide +kernel
theorem dX10_which_13 : decode cX10_which 13 = .ok (.istore 4, 2) := by decide +kernel
theorem dX10_which_15 : decode cX10_which 15 = .ok (.iconst 0, 1) := by decide +kernel
theorem dX10_which_16 : decode cX10_which 16 = .ok (.istore 5, 2) := by decide +kernel
theorem dX10_which_18 : decode cX10_which 18 = .ok (.iload 5, 2) := by decide +kernel
theorem dX10_which_20 : decode cX10_which 20 = .ok (.aload_n 1, 1) := by decide +kernel
theorem dX10_which_21 : decode cX10_which 21 = .ok (.invokevirtual 56, 3) := by decide +kernel
theorem dX10_which_24 : decode cX10_which 24 = .ok (.if_icmp .gt 60, 3) := by decide +kernel
theorem dX10_which_27 : decode cX10_which 27 = .ok (.iload 5, 2) := by decide +kernel
theorem dX10_which_29 : decode cX10_which 29 = .ok (.aload_n 1, 1) := by decide +kernel
theorem dX10_which_30 : decode cX10_which 30 = .ok (.invokevirtual 56, 3) := by decide +kernel
theorem dX10_which_33 : decode cX10_which 33 = .ok (.if_icmp .eq 14, 3) := by decide +kernel
theorem dX10_which_36 : decode cX10_which 36 = .ok (.aload_n 1, 1) := by decide +kernel
theorem dX10_which_37 : decode cX10_which 37 = .ok (.iload 5, 2) := by decide +kernel
theorem dX10_which_39 : decode cX10_which 39 = .ok (.invokevirtual 60, 3) := by decide +kernel
theorem dX10_which_42 : decode cX10_which 42 = .ok (.bipush 32, 2) := by decide +kernel
theorem dX10_which_44 : decode cX10_which 44 = .ok (.if_icmp .ne 34, 3) := by decide +kernel
theorem dX10_which_47 : decode cX10_which 47 = .ok (.iload_n 2, 1) := by decide +kernel
theorem dX10_which_48 : decode cX10_which 48 = .ok (.iload 5, 2) := by decide +kernel
theorem dX10_which_50 : decode cX10_which 50 = .ok (.iload 4, 2) := by decide +kernel
theorem dX10_which_52 : decode cX10_which 52 = .ok (.isub, 1) := by decide +kernel
theorem dX10_which_53 : decode cX10_which 53 = .ok (.if_icmp .ne 16, 3) := by decide +kernel
theorem dX10_which_56 : decode cX10_which 56 = .ok (.aload_n 0, 1) := by decide +kernel
theorem dX10_which_57 : decode cX10_which 57 = .ok (.aload_n 1, 1) := by decide +kernel
theorem dX10_which_58 : decode cX10_which 58 = .ok (.iload 4, 2) := by decide +kernel
theorem dX10_which_60 : decode cX10_which 60 = .ok (.iload_n 2, 1) := by decide +kernel
theorem dX10_which_61 : decode cX10_which 61 = .ok (.invokevirtual 64, 3) := by decide +kernel
theorem dX10_which_64 : decode cX10_which 64 = .ok (.ifCond .eq 5, 3) := by decide +kernel
theorem dX10_which_67 : decode cX10_which 67 = .ok (.iload_n 3, 1) := by decide +kernel
theorem dX10_which_68 : decode cX10_which 68 = .ok (.ireturn, 1) := by decide +kernel
theorem dX10_which_69 : decode cX10_which 69 = .ok (.iinc 3 1, 3) := by decide +kernel
theorem dX10_which_72 : decode cX10_which 72 = .ok (.iload 5, 2) := by decide +kernel
theorem dX10_which_74 : decode cX10_which 74 = .ok (.iconst 1, 1) := by decide +kernel
theorem dX10_which_75 : decode cX10_which 75 = .ok (.iadd, 1) := by decide +kernel
theorem dX10_which_76 : decode cX10_which 76 = .ok (.istore 4, 2) := by decide +kernel
theorem dX10_which_78 : decode cX10_which 78 = .ok (.iinc 5 1, 3) := by decide +kernel
theorem dX10_which_81 : decode cX10_which 81 = .ok (.goto (-63), 3) := by decide +kernel
theorem dX10_which_84 : decode cX10_which 84 = .ok (.iconst (-1), 1) := by decide +kernel
theorem dX10_which_85 : decode cX10_which 85 = .ok (.ireturn, 1) := by decide +kernel
theorem dX10_passWord_0 : decode cX10_passWord 0 = .ok (.aload_n 0, 1) := by decide +kernel
theorem dX10_passWord_1 : decode cX10_passWord 1 = .ok (.aload_n 0, 1) := by decide +kernel
theorem dX10_passWord_2 : decode cX10_passWord 2 = .ok (.invokevirtual 53, 3) := by decide +kernel
theorem dX10_passWord_5 : decode cX10_passWord 5 = .ok (.putfield 22, 3) := by decide +kernel
theorem dX10_passWord_8 : decode cX10_passWord 8 = .ok (.return_, 1) := by decide +kernel
theorem dX10_wordEnd_0 : decode cX10_wordEnd 0 = .ok (.aload_n 0, 1) := by decide +kernel
theorem dX10_wordEnd_1 : decode cX10_wordEnd 1 = .ok (.getfield 22, 3) := by decide +kernel
theorem dX10_wordEnd_4 : decode cX10_wordEnd 4 = .ok (.istore_n 1, 1) := by decide +kernel
theorem dX10_wordEnd_5 : decode cX10_wordEnd 5 = .ok (.iload_n 1, 1) := by decide +kernel
theorem dX10_wordEnd_6 : decode cX10_wordEnd 6 = .ok (.aload_n 0, 1) := by decide +kernel
theorem dX10_wordEnd_7 : decode cX10_wordEnd 7 = .ok (.getfield 19, 3) := by decide +kernel
theorem dX10_wordEnd_10 : decode cX10_wordEnd 10 = .ok (.if_icmp .ge 31, 3) := by decide +kernel
theorem dX10_wordEnd_13 : decode cX10_wordEnd 13 = .ok (.aload_n 0, 1) := by decide +kernel
theorem dX10_wordEnd_14 : decode cX10_wordEnd 14 = .ok (.getfield 15, 3) := by decide +kernel
theorem dX10_wordEnd_17 : decode cX10_wordEnd 17 = .ok (.iload_n 1, 1) := by decide +kernel
theorem dX10_wordEnd_18 : decode cX10_wordEnd 18 = .ok (.iaload, 1) := by decide +kernel
theorem dX10_wordEnd_19 : decode cX10_wordEnd 19 = .ok (.bipush 97, 2) := by decide +kernel
theorem dX10_wordEnd_21 : decode cX10_wordEnd 21 = .ok (.if_icmp .lt 20, 3) := by decide +kernel
theorem dX10_wordEnd_24 : decode cX10_wordEnd 24 = .ok (.aload_n 0, 1) := by decide +kernel
theorem dX10_wordEnd_25 : decode cX10_wordEnd 25 = .ok (.getfield 15, 3) := by decide +kernel
theorem dX10_wordEnd_28 : decode cX10_wordEnd 28 = .ok (.iload_n 1, 1) := by decide +kernel
theorem dX10_wordEnd_29 : decode cX10_wordEnd 29 = .ok (.iaload, 1) := by decide +kernel
theorem dX10_wordEnd_30 : decode cX10_wordEnd 30 = .ok (.bipush 122, 2) := by decide +kernel
theorem dX10_wordEnd_32 : decode cX10_wordEnd 32 = .ok (.if_icmp .gt 9, 3) := by decide +kernel
theorem dX10_wordEnd_35 : decode cX10_wordEnd 35 = .ok (.iinc 1 1, 3) := by decide +kernel
theorem dX10_wordEnd_38 : decode cX10_wordEnd 38 = .ok (.goto (-33), 3) := by decide +kernel
theorem dX10_wordEnd_41 : decode cX10_wordEnd 41 = .ok (.iload_n 1, 1) := by decide +kernel
theorem dX10_wordEnd_42 : decode cX10_wordEnd 42 = .ok (.ireturn, 1) := by decide +kernel
theorem dX10_isAlike_0 : decode cX10_isAlike 0 = .ok (.iconst 0, 1) := by decide +kernel
theorem dX10_isAlike_1 : decode cX10_isAlike 1 = .ok (.istore 4, 2) := by decide +kernel
theorem dX10_isAlike_3 : decode cX10_isAlike 3 = .ok (.iload 4, 2) := by decide +kernel
theorem dX10_isAlike_5 : decode cX10_isAlike 5 = .ok (.iload_n 3, 1) := by decide +kernel
theorem dX10_isAlike_6 : decode cX10_isAlike 6 = .ok (.if_icmp .ge 34, 3) := by decide +kernel
theorem dX10_isAlike_9 : decode cX10_isAlike 9 = .ok (.aload_n 0, 1) := by decide +kernel
theorem dX10_isAlike_10 : decode cX10_isAlike 10 = .ok (.getfield 15, 3) := by decide +kernel
theorem dX10_isAlike_13 : decode cX10_isAlike 13 = .ok (.aload_n 0, 1) := by decide +kernel
theorem dX10_isAlike_14 : decode cX10_isAlike 14 = .ok (.getfield 22, 3) := by decide +kernel
theorem dX10_isAlike_17 : decode cX10_isAlike 17 = .ok (.iload 4, 2) := by decide +kernel
theorem dX10_isAlike_19 : decode cX10_isAlike 19 = .ok (.iadd, 1) := by decide +kernel
theorem dX10_isAlike_20 : decode cX10_isAlike 20 = .ok (.iaload, 1) := by decide +kernel
theorem dX10_isAlike_21 : decode cX10_isAlike 21 = .ok (.aload_n 1, 1) := by decide +kernel
theorem dX10_isAlike_22 : decode cX10_isAlike 22 = .ok (.iload_n 2, 1) := by decide +kernel
theorem dX10_isAlike_23 : decode cX10_isAlike 23 = .ok (.iload 4, 2) := by decide +kernel
theorem dX10_isAlike_25 : decode cX10_isAlike 25 = .ok (.iadd, 1) := by decide +kernel
theorem dX10_isAlike_26 : decode cX10_isAlike 26 = .ok (.invokevirtual 60, 3) := by decide +kernel
theorem dX10_isAlike_29 : decode cX10_isAlike 29 = .ok (.if_icmp .eq 5, 3) := by decide +kernel
theorem dX10_isAlike_32 : decode cX10_isAlike 32 = .ok (.iconst 0, 1) := by decide +kernel
theorem dX10_isAlike_33 : decode cX10_isAlike 33 = .ok (.ireturn, 1) := by decide +kernel
theorem dX10_isAlike_34 : decode cX10_isAlike 34 = .ok (.iinc 4 1, 3) := by decide +kernel
theorem dX10_isAlike_37 : decode cX10_isAlike 37 = .ok (.goto (-34), 3) := by decide +kernel
theorem dX10_isAlike_40 : decode cX10_isAlike 40 = .ok (.iconst 1, 1) := by decide +kernel
theorem dX10_isAlike_41 : decode cX10_isAlike 41 = .ok (.ireturn, 1) := by decide +kernel
theorem dX10_isDigit_0 : decode cX10_isDigit 0 = .ok (.iload_n 0, 1) := by decide +kernel
theorem dX10_isDigit_1 : decode cX10_isDigit 1 = .ok (.bipush 48, 2) := by decide +kernel
theorem dX10_isDigit_3 : decode cX10_isDigit 3 = .ok (.if_icmp .lt 13, 3) := by decide +kernel
theorem dX10_isDigit_6 : decode cX10_isDigit 6 = .ok (.iload_n 0, 1) := by decide +kernel
theorem dX10_isDigit_7 : decode cX10_isDigit 7 = .ok (.bipush 57, 2) := by decide +kernel
theorem dX10_isDigit_9 : decode cX10_isDigit 9 = .ok (.if_icmp .gt 7, 3) := by decide +kernel
theorem dX10_isDigit_12 : decode cX10_isDigit 12 = .ok (.iconst 1, 1) := by decide +kernel
theorem dX10_isDigit_13 : decode cX10_isDigit 13 = .ok (.goto 4, 3) := by decide +kernel
theorem dX10_isDigit_16 : decode cX10_isDigit 16 = .ok (.iconst 0, 1) := by decide +kernel
theorem dX10_isDigit_17 : decode cX10_isDigit 17 = .ok (.ireturn, 1) := by decide +kernel
theorem dX11_init_0 : decode cX11_init 0 = .ok (.aload_n 0, 1) := by decide +kernel
theorem dX11_init_1 : decode cX11_init 1 = .ok (.invokespecial 1, 3) := by decide +kernel
theorem dX11_init_4 : decode cX11_init 4 = .ok (.aload_n 0, 1) := by decide +kernel
theorem dX11_init_5 : decode cX11_init 5 = .ok (.sipush 600, 3) := by decide +kernel
theorem dX11_init_8 : decode cX11_init 8 = .ok (.newarray .int, 2) := by decide +kernel
theorem dX11_init_10 : decode cX11_init 10 = .ok (.putfield 9, 3) := by decide +kernel
theorem dX11_init_13 : decode cX11_init 13 = .ok (.aload_n 0, 1) := by decide +kernel
theorem dX11_init_14 : decode cX11_init 14 = .ok (.new 13, 3) := by decide +kernel
theorem dX11_init_17 : decode cX11_init 17 = .ok (.dup, 1) := by decide +kernel
theorem dX11_init_18 : decode cX11_init 18 = .ok (.aload_n 0, 1) := by decide +kernel
theorem dX11_init_19 : decode cX11_init 19 = .ok (.getfield 9, 3) := by decide +kernel
theorem dX11_init_22 : decode cX11_init 22 = .ok (.invokespecial 15, 3) := by decide +kernel
theorem dX11_init_25 : decode cX11_init 25 = .ok (.putfield 18, 3) := by decide +kernel
theorem dX11_init_28 : decode cX11_init 28 = .ok (.aload_n 0, 1) := by decide +kernel
theorem dX11_init_29 : decode cX11_init 29 = .ok (.new 22, 3) := by decide +kernel
theorem dX11_init_32 : decode cX11_init 32 = .ok (.dup, 1) := by decide +kernel
theorem dX11_init_33 : decode cX11_init 33 = .ok (.invokespecial 24, 3) := by decide +kernel
theorem dX11_init_36 : decode cX11_init 36 = .ok (.putfield 25, 3) := by decide +kernel
theorem dX11_init_39 : decode cX11_init 39 = .ok (.aload_n 0, 1) := by decide +kernel
theorem dX11_init_40 : decode cX11_init 40 = .ok (.new 22, 3) := by decide +kernel
theorem dX11_init_43 : decode cX11_init 43 = .ok (.dup, 1) := by decide +kernel
theorem dX11_init_44 : decode cX11_init 44 = .ok (.invokespecial 24, 3) := by decide +kernel
theorem dX11_init_47 : decode cX11_init 47 = .ok (.putfield 29, 3) := by decide +kernel
theorem dX11_init_50 : decode cX11_init 50 = .ok (.aload_n 0, 1) := by decide +kernel
theorem dX11_init_51 : decode cX11_init 51 = .ok (.new 32, 3) := by decide +kernel
theorem dX11_init_54 : decode cX11_init 54 = .ok (.dup, 1) := by decide +kernel
theorem dX11_init_55 : decode cX11_init 55 = .ok (.invokespecial 34, 3) := by decide +kernel
theorem dX11_init_58 : decode cX11_init 58 = .ok (.putfield 35, 3) := by decide +kernel
theorem dX11_init_61 : decode cX11_init 61 = .ok (.aload_n 0, 1) := by decide +kernel
theorem dX11_init_62 : decode cX11_init 62 = .ok (.new 39, 3) := by decide +kernel
theorem dX11_init_65 : decode cX11_init 65 = .ok (.dup, 1) := by decide +kernel
theorem dX11_init_66 : decode cX11_init 66 = .ok (.aload_n 0, 1) := by decide +kernel
theorem dX11_init_67 : decode cX11_init 67 = .ok (.getfield 18, 3) := by decide +kernel
theorem dX11_init_70 : decode cX11_init 70 = .ok (.invokespecial 41, 3) := by decide +kernel
theorem dX11_init_73 : decode cX11_init 73 = .ok (.putfield 44, 3) := by decide +kernel
theorem dX11_init_76 : decode cX11_init 76 = .ok (.aload_n 0, 1) := by decide +kernel
theorem dX11_init_77 : decode cX11_init 77 = .ok (.new 48, 3) := by decide +kernel
theorem dX11_init_80 : decode cX11_init 80 = .ok (.dup, 1) := by decide +kernel
theorem dX11_init_81 : decode cX11_init 81 = .ok (.invokespecial 50, 3) := by decide +kernel
theorem dX11_init_84 : decode cX11_init 84 = .ok (.putfield 51, 3) := by decide +kernel
theorem dX11_init_87 : decode cX11_init 87 = .ok (.aload_n 0, 1) := by decide +kernel
theorem dX11_init_88 : decode cX11_init 88 = .ok (.new 55, 3) := by decide +kernel
theorem dX11_init_91 : decode cX11_init 91 = .ok (.dup, 1) := by decide +kernel
theorem dX11_init_92 : decode cX11_init 92 = .ok (.aload_n 0, 1) := by decide +kernel
theorem dX11_init_93 : decode cX11_init 93 = .ok (.getfield 25, 3) := by decide +kernel
theorem dX11_init_96 : decode cX11_init 96 = .ok (.aload_n 0, 1) := by decide +kernel
theorem dX11_init_97 : decode cX11_init 97 = .ok (.getfield 35, 3) := by decide +kernel
theorem dX11_init_100 : decode cX11_init 100 = .ok (.invokespecial 57, 3) := by decide +kernel
theorem dX11_init_103 : decode cX11_init 103 = .ok (.putfield 60, 3) := by decide +kernel
theorem dX11_init_106 : decode cX11_init 106 = .ok (.aload_n 0, 1) := by decide +kernel
theorem dX11_init_107 : decode cX11_init 107 = .ok (.new 55, 3) := by decide +kernel
theorem dX11_init_110 : decode cX11_init 110 = .ok (.dup, 1) := by decide +kernel
theorem dX11_init_111 : decode cX11_init 111 = .ok (.aload_n 0, 1) := by decide +kernel
theorem dX11_init_112 : decode cX11_init 112 = .ok (.getfield 25, 3) := by decide +kernel
theorem dX11_init_115 : decode cX11_init 115 = .ok (.aload_n 0, 1) := by decide +kernel
theorem dX11_init_116 : decode cX11_init 116 = .ok (.getfield 35, 3) := by decide +kernel
theorem dX11_init_119 : decode cX11_init 119 = .ok (.invokespecial 57, 3) := by decide +kernel
theorem dX11_init_122 : decode cX11_init 122 = .ok (.putfield 64, 3) := by decide +kernel
theorem dX11_init_125 : decode cX11_init 125 = .ok (.aload_n 0, 1) := by decide +kernel
theorem dX11_init_126 : decode cX11_init 126 = .ok (.new 67, 3) := by decide +kernel
theorem dX11_init_129 : decode cX11_init 129 = .ok (.dup, 1) := by decide +kernel
theorem dX11_init_130 : decode cX11_init 130 = .ok (.aload_n 0, 1) := by decide +kernel
theorem dX11_init_131 : decode cX11_init 131 = .ok (.getfield 25, 3) := by decide +kernel
theorem dX11_init_134 : decode cX11_init 134 = .ok (.iconst 1, 1) := by decide +kernel
theorem dX11_init_135 : decode cX11_init 135 = .ok (.invokespecial 69, 3) := by decide +kernel
theorem dX11_init_138 : decode cX11_init 138 = .ok (.putfield 72, 3) := by decide +kernel
theorem dX11_init_141 : decode cX11_init 141 = .ok (.aload_n 0, 1) := by decide +kernel
theorem dX11_init_142 : decode cX11_init 142 = .ok (.new 67, 3) := by decide +kernel
theorem dX11_init_145 : decode cX11_init 145 = .ok (.dup, 1) := by decide +kernel
theorem dX11_init_146 : decode cX11_init 146 = .ok (.aload_n 0, 1) := by decide +kernel
theorem dX11_init_147 : decode cX11_init 147 = .ok (.getfield 25, 3) := by decide +kernel
theorem dX11_init_150 : decode cX11_init 150 = .ok (.iconst 0, 1) := by decide +kernel
theorem dX11_init_151 : decode cX11_init 151 = .ok (.invokespecial 69, 3) := by decide +kernel
theorem dX11_init_154 : decode cX11_init 154 = .ok (.putfield 76, 3) := by decide +kernel
theorem dX11_init_157 : decode cX11_init 157 = .ok (.aload_n 0, 1) := by decide +kernel
theorem dX11_init_158 : decode cX11_init 158 = .ok (.new 79, 3) := by decide +kernel
theorem dX11_init_161 : decode cX11_init 161 = .ok (.dup, 1) := by decide +kernel
theorem dX11_init_162 : decode cX11_init 162 = .ok (.aload_n 0, 1) := by decide +kernel
theorem dX11_init_163 : decode cX11_init 163 = .ok (.getfield 25, 3) := by decide +kernel
theorem dX11_init_166 : decode cX11_init 166 = .ok (.invokespecial 81, 3) := by decide +kernel
theorem dX11_init_169 : decode cX11_init 169 = .ok (.putfield 84, 3) := by decide +kernel
theorem dX11_init_172 : decode cX11_init 172 = .ok (.aload_n 0, 1) := by decide +kernel
theorem dX11_init_173 : decode cX11_init 173 = .ok (.new 88, 3) := by decide +kernel
theorem dX11_init_176 : decode cX11_init 176 = .ok (.dup, 1) := by decide +kernel
theorem dX11_init_177 : decode cX11_init 177 = .ok (.invokespecial 90, 3) := by decide +kernel
theorem dX11_init_180 : decode cX11_init 180 = .ok (.putfield 91, 3) := by decide +kernel
theorem dX11_init_183 : decode cX11_init 183 = .ok (.aload_n 0, 1) := by decide +kernel
theorem dX11_init_184 : decode cX11_init 184 = .ok (.bipush 8, 2) := by decide +kernel
theorem dX11_init_186 : decode cX11_init 186 = .ok (.newarray .int, 2) := by decide +kernel
theorem dX11_init_188 : decode cX11_init 188 = .ok (.putfield 95, 3) := by decide +kernel
theorem dX11_init_191 : decode cX11_init 191 = .ok (.aload_n 0, 1) := by decide +kernel
theorem dX11_init_192 : decode cX11_init 192 = .ok (.bipush 8, 2) := by decide +kernel
theorem dX11_init_194 : decode cX11_init 194 = .ok (.newarray .int, 2) := by decide +kernel
theorem dX11_init_196 : decode cX11_init 196 = .ok (.putfield 98, 3) := by decide +kernel
theorem dX11_init_199 : decode cX11_init 199 = .ok (.aload_n 0, 1) := by decide +kernel
theorem dX11_init_200 : decode cX11_init 200 = .ok (.iconst 3, 1) := by decide +kernel
theorem dX11_init_201 : decode cX11_init 201 = .ok (.newarray .int, 2) := by decide +kernel
theorem dX11_init_203 : decode cX11_init 203 = .ok (.putfield 101, 3) := by decide +kernel
theorem dX11_init_206 : decode cX11_init 206 = .ok (.aload_n 0, 1) := by decide +kernel
theorem dX11_init_207 : decode cX11_init 207 = .ok (.getfield 25, 3) := by decide +kernel
theorem dX11_init_210 : decode cX11_init 210 = .ok (.invokevirtual 104, 3) := by decide +kernel
theorem dX11_init_213 : decode cX11_init 213 = .ok (.aload_n 0, 1) := by decide +kernel
theorem dX11_init_214 : decode cX11_init 214 = .ok (.getfield 35, 3) := by decide +kernel
theorem dX11_init_217 : decode cX11_init 217 = .ok (.invokevirtual 107, 3) := by decide +kernel
theorem dX11_init_220 : decode cX11_init 220 = .ok (.return_, 1) := by decide +kernel
theorem dX11_feed_0 : decode cX11_feed 0 = .ok (.aload_n 0, 1) := by decide +kernel
theorem dX11_feed_1 : decode cX11_feed 1 = .ok (.getfield 108, 3) := by decide +kernel
theorem dX11_feed_4 : decode cX11_feed 4 = .ok (.bipush 20, 2) := by decide +kernel
theorem dX11_feed_6 : decode cX11_feed 6 = .ok (.iadd, 1) := by decide +kernel
theorem dX11_feed_7 : decode cX11_feed 7 = .ok (.sipush 600, 3) := by decide +kernel
theorem dX11_feed_10 : decode cX11_feed 10 = .ok (.if_icmp .le 5, 3) := by decide +kernel
theorem dX11_feed_13 : decode cX11_feed 13 = .ok (.iconst (-1), 1) := by decide +kernel
theorem dX11_feed_14 : decode cX11_feed 14 = .ok (.ireturn, 1) := by decide +kernel
theorem dX11_feed_15 : decode cX11_feed 15 = .ok (.aload_n 0, 1) := by decide +kernel
theorem dX11_feed_16 : decode cX11_feed 16 = .ok (.iload_n 1, 1) := by decide +kernel
theorem dX11_feed_17 : decode cX11_feed 17 = .ok (.invokevirtual 112, 3) := by decide +kernel
theorem dX11_feed_20 : decode cX11_feed 20 = .ok (.aload_n 0, 1) := by decide +kernel
theorem dX11_feed_21 : decode cX11_feed 21 = .ok (.iload_n 2, 1) := by decide +kernel
theorem dX11_feed_22 : decode cX11_feed 22 = .ok (.invokevirtual 112, 3) := by decide +kernel
theorem dX11_feed_25 : decode cX11_feed 25 = .ok (.aload_n 0, 1) := by decide +kernel
theorem dX11_feed_26 : decode cX11_feed 26 = .ok (.iload_n 3, 1) := by decide +kernel
theorem dX11_feed_27 : decode cX11_feed 27 = .ok (.invokevirtual 112, 3) := by decide +kernel
theorem dX11_feed_30 : decode cX11_feed 30 = .ok (.aload_n 0, 1) := by decide +kernel
theorem dX11_feed_31 : decode cX11_feed 31 = .ok (.iload 4, 2) := by decide +kernel
theorem dX11_feed_33 : decode cX11_feed 33 = .ok (.invokevirtual 112, 3) := by decide +kernel
theorem dX11_feed_36 : decode cX11_feed 36 = .ok (.aload_n 0, 1) := by decide +kernel
theorem dX11_feed_37 : decode cX11_feed 37 = .ok (.iload 5, 2) := by decide +kernel
theorem dX11_feed_39 : decode cX11_feed 39 = .ok (.invokevirtual 112, 3) := by decide +kernel
theorem dX11_feed_42 : decode cX11_feed 42 = .ok (.aload_n 0, 1) := by decide +kernel
theorem dX11_feed_43 : decode cX11_feed 43 = .ok (.getfield 108, 3) := by decide +kernel
theorem dX11_feed_46 : decode cX11_feed 46 = .ok (.ireturn, 1) := by decide +kernel
theorem dX11_pool_0 : decode cX11_pool 0 = .ok (.aload_n 0, 1) := by decide +kernel
theorem dX11_pool_1 : decode cX11_pool 1 = .ok (.iload_n 1, 1) := by decide +kernel
theorem dX11_pool_2 : decode cX11_pool 2 = .ok (.iconst 0, 1) := by decide +kernel
theorem dX11_pool_3 : decode cX11_pool 3 = .ok (.aload_n 0, 1) := by decide +kernel
theorem dX11_pool_4 : decode cX11_pool 4 = .ok (.getfield 108, 3) := by decide +kernel
theorem dX11_pool_7 : decode cX11_pool 7 = .ok (.invokevirtual 116, 3) := by decide +kernel
theorem dX11_pool_10 : decode cX11_pool 10 = .ok (.aload_n 0, 1) := by decide +kernel
theorem dX11_pool_11 : decode cX11_pool 11 = .ok (.iload_n 1, 1) := by decide +kernel
theorem dX11_pool_12 : decode cX11_pool 12 = .ok (.invokevirtual 120, 3) := by decide +kernel
theorem dX11_pool_15 : decode cX11_pool 15 = .ok (.aload_n 0, 1) := by decide +kernel
theorem dX11_pool_16 : decode cX11_pool 16 = .ok (.getfield 29, 3) := by decide +kernel
theorem dX11_pool_19 : decode cX11_pool 19 = .ok (.aload_n 0, 1) := by decide +kernel
theorem dX11_pool_20 : decode cX11_pool 20 = .ok (.getfield 18, 3) := by decide +kernel
theorem dX11_pool_23 : decode cX11_pool 23 = .ok (.invokevirtual 123, 3) := by decide +kernel
theorem dX11_pool_26 : decode cX11_pool 26 = .ok (.ifCond .ne 14, 3) := by decide +kernel
theorem dX11_pool_29 : decode cX11_pool 29 = .ok (.aload_n 0, 1) := by decide +kernel
theorem dX11_pool_30 : decode cX11_pool 30 = .ok (.getfield 18, 3) := by decide +kernel
theorem dX11_pool_33 : decode cX11_pool 33 = .ok (.getfield 127, 3) := by decide +kernel
theorem dX11_pool_36 : decode cX11_pool 36 = .ok (.bipush 10, 2) := by decide +kernel
theorem dX11_pool_38 : decode cX11_pool 38 = .ok (.isub, 1) := by decide +kernel
theorem dX11_pool_39 : decode cX11_pool 39 = .ok (.ireturn, 1) := by decide +kernel
theorem dX11_pool_40 : decode cX11_pool 40 = .ok (.aload_n 0, 1) := by decide +kernel
theorem dX11_pool_41 : decode cX11_pool 41 = .ok (.getfield 25, 3) := by decide +kernel
theorem dX11_pool_44 : decode cX11_pool 44 = .ok (.aload_n 0, 1) := by decide +kernel
theorem dX11_pool_45 : decode cX11_pool 45 = .ok (.getfield 29, 3) := by decide +kernel
theorem dX11_pool_48 : decode cX11_pool 48 = .ok (.invokevirtual 130, 3) := by decide +kernel
theorem dX11_pool_51 : decode cX11_pool 51 = .ok (.aload_n 0, 1) := by decide +kernel
theorem dX11_pool_52 : decode cX11_pool 52 = .ok (.getfield 35, 3) := by decide +kernel
theorem dX11_pool_55 : decode cX11_pool 55 = .ok (.invokevirtual 107, 3) := by decide +kernel
theorem dX11_pool_58 : decode cX11_pool 58 = .ok (.aload_n 0, 1) := by decide +kernel
theorem dX11_pool_59 : decode cX11_pool 59 = .ok (.getfield 51, 3) := by decide +kernel
theorem dX11_pool_62 : decode cX11_pool 62 = .ok (.invokevirtual 133, 3) := by decide +kernel
theorem dX11_pool_65 : decode cX11_pool 65 = .ok (.aload_n 0, 1) := by decide +kernel
theorem dX11_pool_66 : decode cX11_pool 66 = .ok (.getfield 84, 3) := by decide +kernel
theorem dX11_pool_69 : decode cX11_pool 69 = .ok (.invokevirtual 134, 3) := by decide +kernel
theorem dX11_pool_72 : decode cX11_pool 72 = .ok (.aload_n 0, 1) := by decide +kernel
theorem dX11_pool_73 : decode cX11_pool 73 = .ok (.getfield 91, 3) := by decide +kernel
theorem dX11_pool_76 : decode cX11_pool 76 = .ok (.invokevirtual 137, 3) := by decide +kernel
theorem dX11_pool_79 : decode cX11_pool 79 = .ok (.aload_n 0, 1) := by decide +kernel
theorem dX11_pool_80 : decode cX11_pool 80 = .ok (.iconst 0, 1) := by decide +kernel
theorem dX11_pool_81 : decode cX11_pool 81 = .ok (.putfield 138, 3) := by decide +kernel
theorem dX11_pool_84 : decode cX11_pool 84 = .ok (.aload_n 0, 1) := by decide +kernel
theorem dX11_pool_85 : decode cX11_pool 85 = .ok (.invokevirtual 141, 3) := by decide +kernel
theorem dX11_pool_88 : decode cX11_pool 88 = .ok (.aload_n 0, 1) := by decide +kernel
theorem dX11_pool_89 : decode cX11_pool 89 = .ok (.getfield 25, 3) := by decide +kernel
theorem dX11_pool_92 : decode cX11_pool 92 = .ok (.getfield 144, 3) := by decide +kernel
theorem dX11_pool_95 : decode cX11_pool 95 = .ok (.ireturn, 1) := by decide +kernel
theorem dX11_habit_0 : decode cX11_habit 0 = .ok (.aload_n 0, 1) := by decide +kernel
theorem dX11_habit_1 : decode cX11_habit 1 = .ok (.iload_n 1, 1) := by decide +kernel
theorem dX11_habit_2 : decode cX11_habit 2 = .ok (.invokevirtual 147, 3) := by decide +kernel
theorem dX11_habit_5 : decode cX11_habit 5 = .ok (.aload_n 0, 1) := by decide +kernel
theorem dX11_habit_6 : decode cX11_habit 6 = .ok (.iload_n 2, 1) := by decide +kernel
theorem dX11_habit_7 : decode cX11_habit 7 = .ok (.iconst 0, 1) := by decide +kernel
theorem dX11_habit_8 : decode cX11_habit 8 = .ok (.aload_n 0, 1) := by decide +kernel
theorem dX11_habit_9 : decode cX11_habit 9 = .ok (.getfield 108, 3) := by decide +kernel
theorem dX11_habit_12 : decode cX11_habit 12 = .ok (.sipush 150, 3) := by decide +kernel
theorem dX11_habit_15 : decode cX11_habit 15 = .ok (.invokestatic 150, 3) := by decide +kernel
theorem dX11_habit_18 : decode cX11_habit 18 = .ok (.invokevirtual 116, 3) := by decide +kernel
theorem dX11_habit_21 : decode cX11_habit 21 = .ok (.aload_n 0, 1) := by decide +kernel
theorem dX11_habit_22 : decode cX11_habit 22 = .ok (.iload_n 2, 1) := by decide +kernel
theorem dX11_habit_23 : decode cX11_habit 23 = .ok (.invokevirtual 120, 3) := by decide +kernel
theorem dX11_habit_26 : decode cX11_habit 26 = .ok (.aload_n 0, 1) := by decide +kernel
theorem dX11_habit_27 : decode cX11_habit 27 = .ok (.getfield 44, 3) := by decide +kernel
theorem dX11_habit_30 : decode cX11_habit 30 = .ok (.invokevirtual 156, 3) := by decide +kernel
theorem dX11_habit_33 : decode cX11_habit 33 = .ok (.ifCond .ne 14, 3) := by decide +kernel
theorem dX11_habit_36 : decode cX11_habit 36 = .ok (.aload_n 0, 1) := by decide +kernel
theorem dX11_habit_37 : decode cX11_habit 37 = .ok (.getfield 18, 3) := by decide +kernel
theorem dX11_habit_40 : decode cX11_habit 40 = .ok (.getfield 127, 3) := by decide +kernel
theorem dX11_habit_43 : decode cX11_habit 43 = .ok (.bipush 10, 2) := by decide +kernel
theorem dX11_habit_45 : decode cX11_habit 45 = .ok (.isub, 1) := by decide +kernel
theorem dX11_habit_46 : decode cX11_habit 46 = .ok (.ireturn, 1) := by decide +kernel
theorem dX11_habit_47 : decode cX11_habit 47 = .ok (.aload_n 0, 1) := by decide +kernel
theorem dX11_habit_48 : decode cX11_habit 48 = .ok (.getfield 35, 3) := by decide +kernel
theorem dX11_habit_51 : decode cX11_habit 51 = .ok (.iload_n 1, 1) := by decide +kernel
theorem dX11_habit_52 : decode cX11_habit 52 = .ok (.aload_n 0, 1) := by decide +kernel
theorem dX11_habit_53 : decode cX11_habit 53 = .ok (.getfield 44, 3) := by decide +kernel
theorem dX11_habit_56 : decode cX11_habit 56 = .ok (.invokevirtual 159, 3) := by decide +kernel
theorem dX11_habit_59 : decode cX11_habit 59 = .ok (.aload_n 0, 1) := by decide +kernel
theorem dX11_habit_60 : decode cX11_habit 60 = .ok (.invokevirtual 141, 3) := by decide +kernel
theorem dX11_habit_63 : decode cX11_habit 63 = .ok (.iconst 1, 1) := by decide +kernel
theorem dX11_habit_64 : decode cX11_habit 64 = .ok (.ireturn, 1) := by decide +kernel
theorem dX11_book_0 : decode cX11_book 0 = .ok (.aload_n 0, 1) := by decide +kernel
theorem dX11_book_1 : decode cX11_book 1 = .ok (.iload_n 1, 1) := by decide +kernel
theorem dX11_book_2 : decode cX11_book 2 = .ok (.iconst 0, 1) := by decide +kernel
theorem dX11_book_3 : decode cX11_book 3 = .ok (.aload_n 0, 1) := by decide +kernel
theorem dX11_book_4 : decode cX11_book 4 = .ok (.getfield 108, 3) := by decide +kernel
theorem dX11_book_7 : decode cX11_book 7 = .ok (.sipush 150, 3) := by decide +kernel
theorem dX11_book_10 : decode cX11_book 10 = .ok (.invokestatic 150, 3) := by decide +kernel
theorem dX11_book_13 : decode cX11_book 13 = .ok (.invokevirtual 116, 3) := by decide +kernel
theorem dX11_book_16 : decode cX11_book 16 = .ok (.aload_n 0, 1) := by decide +kernel
theorem dX11_book_17 : decode cX11_book 17 = .ok (.iload_n 1, 1) := by decide +kernel
theorem dX11_book_18 : decode cX11_book 18 = .ok (.invokevirtual 120, 3) := by decide +kernel
theorem dX11_book_21 : decode cX11_book 21 = .ok (.aload_n 0, 1) := by decide +kernel
theorem dX11_book_22 : decode cX11_book 22 = .ok (.getfield 51, 3) := by decide +kernel
theorem dX11_book_25 : decode cX11_book 25 = .ok (.aload_n 0, 1) := by decide +kernel
theorem dX11_book_26 : decode cX11_book 26 = .ok (.getfield 18, 3) := by decide +kernel
theorem dX11_book_29 : decode cX11_book 29 = .ok (.aload_n 0, 1) := by decide +kernel
theorem dX11_book_30 : decode cX11_book 30 = .ok (.getfield 25, 3) := by decide +kernel
theorem dX11_book_33 : decode cX11_book 33 = .ok (.getfield 144, 3) := by decide +kernel
theorem dX11_book_36 : decode cX11_book 36 = .ok (.invokevirtual 163, 3) := by decide +kernel
theorem dX11_book_39 : decode cX11_book 39 = .ok (.ifCond .ne 14, 3) := by decide +kernel
theorem dX11_book_42 : decode cX11_book 42 = .ok (.aload_n 0, 1) := by decide +kernel
theorem dX11_book_43 : decode cX11_book 43 = .ok (.getfield 18, 3) := by decide +kernel
theorem dX11_book_46 : decode cX11_book 46 = .ok (.getfield 127, 3) := by decide +kernel
theorem dX11_book_49 : decode cX11_book 49 = .ok (.bipush 10, 2) := by decide +kernel
theorem dX11_book_51 : decode cX11_book 51 = .ok (.isub, 1) := by decide +kernel
theorem dX11_book_52 : decode cX11_book 52 = .ok (.ireturn, 1) := by decide +kernel
theorem dX11_book_53 : decode cX11_book 53 = .ok (.aload_n 0, 1) := by decide +kernel
theorem dX11_book_54 : decode cX11_book 54 = .ok (.getfield 51, 3) := by decide +kernel
theorem dX11_book_57 : decode cX11_book 57 = .ok (.getfield 166, 3) := by decide +kernel
theorem dX11_book_60 : decode cX11_book 60 = .ok (.ireturn, 1) := by decide +kernel
theorem dX11_fault_0 : decode cX11_fault 0 = .ok (.aload_n 0, 1) := by decide +kernel
theorem dX11_fault_1 : decode cX11_fault 1 = .ok (.getfield 18, 3) := by decide +kernel
theorem dX11_fault_4 : decode cX11_fault 4 = .ok (.getfield 169, 3) := by decide +kernel
theorem dX11_fault_7 : decode cX11_fault 7 = .ok (.ireturn, 1) := by decide +kernel
theorem dX11_told_0 : decode cX11_told 0 = .ok (.aload_n 0, 1) := by decide +kernel
theorem dX11_told_1 : decode cX11_told 1 = .ok (.iload_n 1, 1) := by decide +kernel
theorem dX11_told_2 : decode cX11_told 2 = .ok (.iconst 0, 1) := by decide +kernel
theorem dX11_told_3 : decode cX11_told 3 = .ok (.bipush 6, 2) := by decide +kernel
theorem dX11_told_5 : decode cX11_told 5 = .ok (.invokevirtual 116, 3) := by decide +kernel
theorem dX11_told_8 : decode cX11_told 8 = .ok (.iload_n 1, 1) := by decide +kernel
theorem dX11_told_9 : decode cX11_told 9 = .ok (.tableswitch 84 0 5 #[39, 47, 55, 63, 71, 79], 39) := by decide +kernel
theorem dX11_told_48 : decode cX11_told 48 = .ok (.aload_n 0, 1) := by decide +kernel
theorem dX11_told_49 : decode cX11_told 49 = .ok (.getfield 25, 3) := by decide +kernel
theorem dX11_told_52 : decode cX11_told 52 = .ok (.getfield 172, 3) := by decide +kernel
theorem dX11_told_55 : decode cX11_told 55 = .ok (.ireturn, 1) := by decide +kernel
theorem dX11_told_56 : decode cX11_told 56 = .ok (.aload_n 0, 1) := by decide +kernel
theorem dX11_told_57 : decode cX11_told 57 = .ok (.getfield 25, 3) := by decide +kernel
theorem dX11_told_60 : decode cX11_told 60 = .ok (.getfield 144, 3) := by decide +kernel
theorem dX11_told_63 : decode cX11_told 63 = .ok (.ireturn, 1) := by decide +kernel
theorem dX11_told_64 : decode cX11_told 64 = .ok (.aload_n 0, 1) := by decide +kernel
theorem dX11_told_65 : decode cX11_told 65 = .ok (.getfield 25, 3) := by decide +kernel
theorem dX11_told_68 : decode cX11_told 68 = .ok (.getfield 175, 3) := by decide +kernel
theorem dX11_told_71 : decode cX11_told 71 = .ok (.ireturn, 1) := by decide +kernel
theorem dX11_told_72 : decode cX11_told 72 = .ok (.aload_n 0, 1) := by decide +kernel
theorem dX11_told_73 : decode cX11_told 73 = .ok (.getfield 25, 3) := by decide +kernel
theorem dX11_told_76 : decode cX11_told 76 = .ok (.getfield 178, 3) := by decide +kernel
theorem dX11_told_79 : decode cX11_told 79 = .ok (.ireturn, 1) := by decide +kernel
theorem dX11_told_80 : decode cX11_told 80 = .ok (.aload_n 0, 1) := by decide +kernel
theorem dX11_told_81 : decode cX11_told 81 = .ok (.getfield 25, 3) := by decide +kernel
theorem dX11_told_84 : decode cX11_told 84 = .ok (.getfield 181, 3) := by decide +kernel
theorem dX11_told_87 : decode cX11_told 87 = .ok (.ireturn, 1) := by decide +kernel
theorem dX11_told_88 : decode cX11_told 88 = .ok (.aload_n 0, 1) := by decide +kernel
theorem dX11_told_89 : decode cX11_told 89 = .ok (.getfield 138, 3) := by decide +kernel
theorem dX11_told_92 : decode cX11_told 92 = .ok (.ireturn, 1) := by decide +kernel
theorem dX11_told_93 : decode cX11_told 93 = .ok (.aload_n 0, 1) := by decide +kernel
theorem dX11_told_94 : decode cX11_told 94 = .ok (.getfield 51, 3) := by decide +kernel
theorem dX11_told_97 : decode cX11_told 97 = .ok (.getfield 166, 3) := by decide +kernel
theorem dX11_told_100 : decode cX11_told 100 = .ok (.ireturn, 1) := by decide +kernel
theorem dX11_chair_0 : decode cX11_chair 0 = .ok (.aload_n 0, 1) := by decide +kernel
theorem dX11_chair_1 : decode cX11_chair 1 = .ok (.iload_n 1, 1) := by decide +kernel
theorem dX11_chair_2 : decode cX11_chair 2 = .ok (.invokevirtual 184, 3) := by decide +kernel
theorem dX11_chair_5 : decode cX11_chair 5 = .ok (.aload_n 0, 1) := by decide +kernel
theorem dX11_chair_6 : decode cX11_chair 6 = .ok (.iload_n 2, 1) := by decide +kernel
theorem dX11_chair_7 : decode cX11_chair 7 = .ok (.iconst 0, 1) := by decide +kernel
theorem dX11_chair_8 : decode cX11_chair 8 = .ok (.iconst 4, 1) := by decide +kernel
theorem dX11_chair_9 : decode cX11_chair 9 = .ok (.invokevirtual 116, 3) := by decide +kernel
theorem dX11_chair_12 : decode cX11_chair 12 = .ok (.iload_n 2, 1) := by decide +kernel
theorem dX11_chair_13 : decode cX11_chair 13 = .ok (.ifCond .ne 13, 3) := by decide +kernel
theorem dX11_chair_16 : decode cX11_chair 16 = .ok (.aload_n 0, 1) := by decide +kernel
theorem dX11_chair_17 : decode cX11_chair 17 = .ok (.getfield 25, 3) := by decide +kernel
theorem dX11_chair_20 : decode cX11_chair 20 = .ok (.getfield 187, 3) := by decide +kernel
theorem dX11_chair_23 : decode cX11_chair 23 = .ok (.iload_n 1, 1) := by decide +kernel
theorem dX11_chair_24 : decode cX11_chair 24 = .ok (.iaload, 1) := by decide +kernel
theorem dX11_chair_25 : decode cX11_chair 25 = .ok (.ireturn, 1) := by decide +kernel
theorem dX11_chair_26 : decode cX11_chair 26 = .ok (.iload_n 2, 1) := by decide +kernel
theorem dX11_chair_27 : decode cX11_chair 27 = .ok (.iconst 1, 1) := by decide +kernel
theorem dX11_chair_28 : decode cX11_chair 28 = .ok (.if_icmp .ne 13, 3) := by decide +kernel
theorem dX11_chair_31 : decode cX11_chair 31 = .ok (.aload_n 0, 1) := by decide +kernel
theorem dX11_chair_32 : decode cX11_chair 32 = .ok (.getfield 25, 3) := by decide +kernel
theorem dX11_chair_35 : decode cX11_chair 35 = .ok (.getfield 190, 3) := by decide +kernel
theorem dX11_chair_38 : decode cX11_chair 38 = .ok (.iload_n 1, 1) := by decide +kernel
theorem dX11_chair_39 : decode cX11_chair 39 = .ok (.iaload, 1) := by decide +kernel
theorem dX11_chair_40 : decode cX11_chair 40 = .ok (.ireturn, 1) := by decide +kernel
theorem dX11_chair_41 : decode cX11_chair 41 = .ok (.aload_n 0, 1) := by decide +kernel
theorem dX11_chair_42 : decode cX11_chair 42 = .ok (.invokevirtual 193, 3) := by decide +kernel
theorem dX11_chair_45 : decode cX11_chair 45 = .ok (.aload_n 0, 1) := by decide +kernel
theorem dX11_chair_46 : decode cX11_chair 46 = .ok (.getfield 72, 3) := by decide +kernel
theorem dX11_chair_49 : decode cX11_chair 49 = .ok (.getfield 196, 3) := by decide +kernel
theorem dX11_chair_52 : decode cX11_chair 52 = .ok (.iload_n 1, 1) := by decide +kernel
theorem dX11_chair_53 : decode cX11_chair 53 = .ok (.iconst 3, 1) := by decide +kernel
theorem dX11_chair_54 : decode cX11_chair 54 = .ok (.imul, 1) := by decide +kernel
theorem dX11_chair_55 : decode cX11_chair 55 = .ok (.iload_n 2, 1) := by decide +kernel
theorem dX11_chair_56 : decode cX11_chair 56 = .ok (.iadd, 1) := by decide +kernel
theorem dX11_chair_57 : decode cX11_chair 57 = .ok (.iconst 2, 1) := by decide +kernel
theorem dX11_chair_58 : decode cX11_chair 58 = .ok (.isub, 1) := by decide +kernel
theorem dX11_chair_59 : decode cX11_chair 59 = .ok (.iaload, 1) := by decide +kernel
theorem dX11_chair_60 : decode cX11_chair 60 = .ok (.ireturn, 1) := by decide +kernel
theorem dX11_guest_0 : decode cX11_guest 0 = .ok (.aload_n 0, 1) := by decide +kernel
theorem dX11_guest_1 : decode cX11_guest 1 = .ok (.iload_n 1, 1) := by decide +kernel
theorem dX11_guest_2 : decode cX11_guest 2 = .ok (.invokevirtual 147, 3) := by decide +kernel
theorem dX11_guest_5 : decode cX11_guest 5 = .ok (.aload_n 0, 1) := by decide +kernel
theorem dX11_guest_6 : decode cX11_guest 6 = .ok (.iload_n 2, 1) := by decide +kernel
theorem dX11_guest_7 : decode cX11_guest 7 = .ok (.iconst 0, 1) := by decide +kernel
theorem dX11_guest_8 : decode cX11_guest 8 = .ok (.iconst 3, 1) := by decide +kernel
theorem dX11_guest_9 : decode cX11_guest 9 = .ok (.invokevirtual 116, 3) := by decide +kernel
theorem dX11_guest_12 : decode cX11_guest 12 = .ok (.iload_n 2, 1) := by decide +kernel
theorem dX11_guest_13 : decode cX11_guest 13 = .ok (.tableswitch 57 0 2 #[27, 37, 47], 27) := by decide +kernel
theorem dX11_guest_40 : decode cX11_guest 40 = .ok (.aload_n 0, 1) := by decide +kernel
theorem dX11_guest_41 : decode cX11_guest 41 = .ok (.getfield 25, 3) := by decide +kernel
theorem dX11_guest_44 : decode cX11_guest 44 = .ok (.getfield 199, 3) := by decide +kernel
theorem dX11_guest_47 : decode cX11_guest 47 = .ok (.iload_n 1, 1) := by decide +kernel
theorem dX11_guest_48 : decode cX11_guest 48 = .ok (.iaload, 1) := by decide +kernel
theorem dX11_guest_49 : decode cX11_guest 49 = .ok (.ireturn, 1) := by decide +kernel
theorem dX11_guest_50 : decode cX11_guest 50 = .ok (.aload_n 0, 1) := by decide +kernel
theorem dX11_guest_51 : decode cX11_guest 51 = .ok (.getfield 25, 3) := by decide +kernel
theorem dX11_guest_54 : decode cX11_guest 54 = .ok (.getfield 202, 3) := by decide +kernel
theorem dX11_guest_57 : decode cX11_guest 57 = .ok (.iload_n 1, 1) := by decide +kernel
theorem dX11_guest_58 : decode cX11_guest 58 = .ok (.iaload, 1) := by decide +kernel
theorem dX11_guest_59 : decode cX11_guest 59 = .ok (.ireturn, 1) := by decide +kernel
theorem dX11_guest_60 : decode cX11_guest 60 = .ok (.aload_n 0, 1) := by decide +kernel
theorem dX11_guest_61 : decode cX11_guest 61 = .ok (.getfield 25, 3) := by decide +kernel
theorem dX11_guest_64 : decode cX11_guest 64 = .ok (.getfield 205, 3) := by decide +kernel
theorem dX11_guest_67 : decode cX11_guest 67 = .ok (.iload_n 1, 1) := by decide +kernel
theorem dX11_guest_68 : decode cX11_guest 68 = .ok (.iaload, 1) := by decide +kernel
theorem dX11_guest_69 : decode cX11_guest 69 = .ok (.ireturn, 1) := by decide +kernel
theorem dX11_guest_70 : decode cX11_guest 70 = .ok (.aload_n 0, 1) := by decide +kernel
theorem dX11_guest_71 : decode cX11_guest 71 = .ok (.getfield 25, 3) := by decide +kernel
theorem dX11_guest_74 : decode cX11_guest 74 = .ok (.getfield 208, 3) := by decide +kernel
theorem dX11_guest_77 : decode cX11_guest 77 = .ok (.iload_n 1, 1) := by decide +kernel
theorem dX11_guest_78 : decode cX11_guest 78 = .ok (.iaload, 1) := by decide +kernel
theorem dX11_guest_79 : decode cX11_guest 79 = .ok (.ireturn, 1) := by decide +kernel
theorem dX11_day_0 : decode cX11_day 0 = .ok (.aload_n 0, 1) := by decide +kernel
theorem dX11_day_1 : decode cX11_day 1 = .ok (.iload_n 1, 1) := by decide +kernel
theorem dX11_day_2 : decode cX11_day 2 = .ok (.iconst 0, 1) := by decide +kernel
theorem dX11_day_3 : decode cX11_day 3 = .ok (.sipush 199, 3) := by decide +kernel
theorem dX11_day_6 : decode cX11_day 6 = .ok (.invokevirtual 116, 3) := by decide +kernel
theorem dX11_day_9 : decode cX11_day 9 = .ok (.aload_n 0, 1) := by decide +kernel
theorem dX11_day_10 : decode cX11_day 10 = .ok (.getfield 138, 3) := by decide +kernel
theorem dX11_day_13 : decode cX11_day 13 = .ok (.istore_n 2, 1) := by decide +kernel
theorem dX11_day_14 : decode cX11_day 14 = .ok (.aload_n 0, 1) := by decide +kernel
theorem dX11_day_15 : decode cX11_day 15 = .ok (.iload_n 1, 1) := by decide +kernel
theorem dX11_day_16 : decode cX11_day 16 = .ok (.putfield 138, 3) := by decide +kernel
theorem dX11_day_19 : decode cX11_day 19 = .ok (.aload_n 0, 1) := by decide +kernel
theorem dX11_day_20 : decode cX11_day 20 = .ok (.iconst 0, 1) := by decide +kernel
theorem dX11_day_21 : decode cX11_day 21 = .ok (.putfield 211, 3) := by decide +kernel
theorem dX11_day_24 : decode cX11_day 24 = .ok (.iload_n 2, 1) := by decide +kernel
theorem dX11_day_25 : decode cX11_day 25 = .ok (.ireturn, 1) := by decide +kernel
theorem dX11_did_0 : decode cX11_did 0 = .ok (.aload_n 0, 1) := by decide +kernel
theorem dX11_did_1 : decode cX11_did 1 = .ok (.iload_n 1, 1) := by decide +kernel
theorem dX11_did_2 : decode cX11_did 2 = .ok (.invokevirtual 147, 3) := by decide +kernel
theorem dX11_did_5 : decode cX11_did 5 = .ok (.aload_n 0, 1) := by decide +kernel
theorem dX11_did_6 : decode cX11_did 6 = .ok (.iload_n 2, 1) := by decide +kernel
theorem dX11_did_7 : decode cX11_did 7 = .ok (.iconst 0, 1) := by decide +kernel
theorem dX11_did_8 : decode cX11_did 8 = .ok (.bipush 7, 2) := by decide +kernel
theorem dX11_did_10 : decode cX11_did 10 = .ok (.invokevirtual 116, 3) := by decide +kernel
theorem dX11_did_13 : decode cX11_did 13 = .ok (.aload_n 0, 1) := by decide +kernel
theorem dX11_did_14 : decode cX11_did 14 = .ok (.invokevirtual 193, 3) := by decide +kernel
theorem dX11_did_17 : decode cX11_did 17 = .ok (.aload_n 0, 1) := by decide +kernel
theorem dX11_did_18 : decode cX11_did 18 = .ok (.getfield 72, 3) := by decide +kernel
theorem dX11_did_21 : decode cX11_did 21 = .ok (.getfield 215, 3) := by decide +kernel
theorem dX11_did_24 : decode cX11_did 24 = .ok (.iload_n 1, 1) := by decide +kernel
theorem dX11_did_25 : decode cX11_did 25 = .ok (.bipush 8, 2) := by decide +kernel
theorem dX11_did_27 : decode cX11_did 27 = .ok (.imul, 1) := by decide +kernel
theorem dX11_did_28 : decode cX11_did 28 = .ok (.iload_n 2, 1) := by decide +kernel
theorem dX11_did_29 : decode cX11_did 29 = .ok (.iadd, 1) := by decide +kernel
theorem dX11_did_30 : decode cX11_did 30 = .ok (.iaload, 1) := by decide +kernel
theorem dX11_did_31 : decode cX11_did 31 = .ok (.ireturn, 1) := by decide +kernel
theorem dX11_towel_0 : decode cX11_towel 0 = .ok (.aload_n 0, 1) := by decide +kernel
theorem dX11_towel_1 : decode cX11_towel 1 = .ok (.iload_n 1, 1) := by decide +kernel
theorem dX11_towel_2 : decode cX11_towel 2 = .ok (.invokevirtual 184, 3) := by decide +kernel
theorem dX11_towel_5 : decode cX11_towel 5 = .ok (.aload_n 0, 1) := by decide +kernel
theorem dX11_towel_6 : decode cX11_towel 6 = .ok (.iload_n 2, 1) := by decide +kernel
theorem dX11_towel_7 : decode cX11_towel 7 = .ok (.iconst 0, 1) := by decide +kernel
theorem dX11_towel_8 : decode cX11_towel 8 = .ok (.bipush 23, 2) := by decide +kernel
theorem dX11_towel_10 : decode cX11_towel 10 = .ok (.invokevirtual 116, 3) := by decide +kernel
theorem dX11_towel_13 : decode cX11_towel 13 = .ok (.aload_n 0, 1) := by decide +kernel
theorem dX11_towel_14 : decode cX11_towel 14 = .ok (.invokevirtual 193, 3) := by decide +kernel
theorem dX11_towel_17 : decode cX11_towel 17 = .ok (.aload_n 0, 1) := by decide +kernel
theorem dX11_towel_18 : decode cX11_towel 18 = .ok (.getfield 72, 3) := by decide +kernel
theorem dX11_towel_21 : decode cX11_towel 21 = .ok (.getfield 218, 3) := by decide +kernel
theorem dX11_towel_24 : decode cX11_towel 24 = .ok (.iload_n 1, 1) := by decide +kernel
theorem dX11_towel_25 : decode cX11_towel 25 = .ok (.bipush 24, 2) := by decide +kernel
theorem dX11_towel_27 : decode cX11_towel 27 = .ok (.imul, 1) := by decide +kernel
theorem dX11_towel_28 : decode cX11_towel 28 = .ok (.iload_n 2, 1) := by decide +kernel
theorem dX11_towel_29 : decode cX11_towel 29 = .ok (.iadd, 1) := by decide +kernel
theorem dX11_towel_30 : decode cX11_towel 30 = .ok (.iaload, 1) := by decide +kernel
theorem dX11_towel_31 : decode cX11_towel 31 = .ok (.ireturn, 1) := by decide +kernel
theorem dX11_lies_0 : decode cX11_lies 0 = .ok (.aload_n 0, 1) := by decide +kernel
theorem dX11_lies_1 : decode cX11_lies 1 = .ok (.iload_n 1, 1) := by decide +kernel
theorem dX11_lies_2 : decode cX11_lies 2 = .ok (.invokevirtual 184, 3) := by decide +kernel
theorem dX11_lies_5 : decode cX11_lies 5 = .ok (.aload_n 0, 1) := by decide +kernel
theorem dX11_lies_6 : decode cX11_lies 6 = .ok (.iload_n 2, 1) := by decide +kernel
theorem dX11_lies_7 : decode cX11_lies 7 = .ok (.iconst 0, 1) := by decide +kernel
theorem dX11_lies_8 : decode cX11_lies 8 = .ok (.bipush 23, 2) := by decide +kernel
theorem dX11_lies_10 : decode cX11_lies 10 = .ok (.invokevirtual 116, 3) := by decide +kernel
theorem dX11_lies_13 : decode cX11_lies 13 = .ok (.aload_n 0, 1) := by decide +kernel
theorem dX11_lies_14 : decode cX11_lies 14 = .ok (.invokevirtual 193, 3) := by decide +kernel
theorem dX11_lies_17 : decode cX11_lies 17 = .ok (.aload_n 0, 1) := by decide +kernel
theorem dX11_lies_18 : decode cX11_lies 18 = .ok (.getfield 72, 3) := by decide +kernel
theorem dX11_lies_21 : decode cX11_lies 21 = .ok (.getfield 218, 3) := by decide +kernel
theorem dX11_lies_24 : decode cX11_lies 24 = .ok (.iload_n 1, 1) := by decide +kernel
theorem dX11_lies_25 : decode cX11_lies 25 = .ok (.bipush 24, 2) := by decide +kernel
theorem dX11_lies_27 : decode cX11_lies 27 = .ok (.imul, 1) := by decide +kernel
theorem dX11_lies_28 : decode cX11_lies 28 = .ok (.iload_n 2, 1) := by decide +kernel
theorem dX11_lies_29 : decode cX11_lies 29 = .ok (.iadd, 1) := by decide +kernel
theorem dX11_lies_30 : decode cX11_lies 30 = .ok (.iaload, 1) := by decide +kernel
theorem dX11_lies_31 : decode cX11_lies 31 = .ok (.istore_n 3, 1) := by decide +kernel
theorem dX11_lies_32 : decode cX11_lies 32 = .ok (.iload_n 3, 1) := by decide +kernel
theorem dX11_lies_33 : decode cX11_lies 33 = .ok (.iconst (-1), 1) := by decide +kernel
theorem dX11_lies_34 : decode cX11_lies 34 = .ok (.if_icmp .eq 20, 3) := by decide +kernel
theorem dX11_lies_37 : decode cX11_lies 37 = .ok (.iload_n 2, 1) := by decide +kernel
theorem dX11_lies_38 : decode cX11_lies 38 = .ok (.aload_n 0, 1) := by decide +kernel
theorem dX11_lies_39 : decode cX11_lies 39 = .ok (.getfield 25, 3) := by decide +kernel
theorem dX11_lies_42 : decode cX11_lies 42 = .ok (.getfield 202, 3) := by decide +kernel
theorem dX11_lies_45 : decode cX11_lies 45 = .ok (.iload_n 3, 1) := by decide +kernel
theorem dX11_lies_46 : decode cX11_lies 46 = .ok (.iaload, 1) := by decide +kernel
theorem dX11_lies_47 : decode cX11_lies 47 = .ok (.if_icmp .lt 7, 3) := by decide +kernel
theorem dX11_lies_50 : decode cX11_lies 50 = .ok (.iload_n 3, 1) := by decide +kernel
theorem dX11_lies_51 : decode cX11_lies 51 = .ok (.goto 4, 3) := by decide +kernel
theorem dX11_lies_54 : decode cX11_lies 54 = .ok (.iconst (-1), 1) := by decide +kernel
theorem dX11_lies_55 : decode cX11_lies 55 = .ok (.ireturn, 1) := by decide +kernel
theorem dX11_waits_0 : decode cX11_waits 0 = .ok (.aload_n 0, 1) := by decide +kernel
theorem dX11_waits_1 : decode cX11_waits 1 = .ok (.iload_n 1, 1) := by decide +kernel
theorem dX11_waits_2 : decode cX11_waits 2 = .ok (.iconst 0, 1) := by decide +kernel
theorem dX11_waits_3 : decode cX11_waits 3 = .ok (.bipush 23, 2) := by decide +kernel
theorem dX11_waits_5 : decode cX11_waits 5 = .ok (.invokevirtual 116, 3) := by decide +kernel
theorem dX11_waits_8 : decode cX11_waits 8 = .ok (.aload_n 0, 1) := by decide +kernel
theorem dX11_waits_9 : decode cX11_waits 9 = .ok (.invokevirtual 193, 3) := by decide +kernel
theorem dX11_waits_12 : decode cX11_waits 12 = .ok (.aload_n 0, 1) := by decide +kernel
theorem dX11_waits_13 : decode cX11_waits 13 = .ok (.getfield 72, 3) := by decide +kernel
theorem dX11_waits_16 : decode cX11_waits 16 = .ok (.getfield 221, 3) := by decide +kernel
theorem dX11_waits_19 : decode cX11_waits 19 = .ok (.iload_n 1, 1) := by decide +kernel
theorem dX11_waits_20 : decode cX11_waits 20 = .ok (.iaload, 1) := by decide +kernel
theorem dX11_waits_21 : decode cX11_waits 21 = .ok (.ireturn, 1) := by decide +kernel
theorem dX11_sums_0 : decode cX11_sums 0 = .ok (.aload_n 0, 1) := by decide +kernel
theorem dX11_sums_1 : decode cX11_sums 1 = .ok (.iload_n 1, 1) := by decide +kernel
theorem dX11_sums_2 : decode cX11_sums 2 = .ok (.iconst 0, 1) := by decide +kernel
theorem dX11_sums_3 : decode cX11_sums 3 = .ok (.iconst 5, 1) := by decide +kernel
theorem dX11_sums_4 : decode cX11_sums 4 = .ok (.invokevirtual 116, 3) := by decide +kernel
theorem dX11_sums_7 : decode cX11_sums 7 = .ok (.aload_n 0, 1) := by decide +kernel
theorem dX11_sums_8 : decode cX11_sums 8 = .ok (.invokevirtual 193, 3) := by decide +kernel
theorem dX11_sums_11 : decode cX11_sums 11 = .ok (.iload_n 1, 1) := by decide +kernel
theorem dX11_sums_12 : decode cX11_sums 12 = .ok (.tableswitch 81 0 4 #[36, 45, 54, 62, 70], 36) := by decide +kernel
theorem dX11_sums_48 : decode cX11_sums 48 = .ok (.aload_n 0, 1) := by decide +kernel
theorem dX11_sums_49 : decode cX11_sums 49 = .ok (.getfield 72, 3) := by decide +kernel
theorem dX11_sums_52 : decode cX11_sums 52 = .ok (.iconst 3, 1) := by decide +kernel
theorem dX11_sums_53 : decode cX11_sums 53 = .ok (.invokevirtual 224, 3) := by decide +kernel
theorem dX11_sums_56 : decode cX11_sums 56 = .ok (.ireturn, 1) := by decide +kernel
theorem dX11_sums_57 : decode cX11_sums 57 = .ok (.aload_n 0, 1) := by decide +kernel
theorem dX11_sums_58 : decode cX11_sums 58 = .ok (.getfield 72, 3) := by decide +kernel
theorem dX11_sums_61 : decode cX11_sums 61 = .ok (.iconst 4, 1) := by decide +kernel
theorem dX11_sums_62 : decode cX11_sums 62 = .ok (.invokevirtual 224, 3) := by decide +kernel
theorem dX11_sums_65 : decode cX11_sums 65 = .ok (.ireturn, 1) := by decide +kernel
theorem dX11_sums_66 : decode cX11_sums 66 = .ok (.aload_n 0, 1) := by decide +kernel
theorem dX11_sums_67 : decode cX11_sums 67 = .ok (.getfield 72, 3) := by decide +kernel
theorem dX11_sums_70 : decode cX11_sums 70 = .ok (.invokevirtual 228, 3) := by decide +kernel
theorem dX11_sums_73 : decode cX11_sums 73 = .ok (.ireturn, 1) := by decide +kernel
theorem dX11_sums_74 : decode cX11_sums 74 = .ok (.aload_n 0, 1) := by decide +kernel
theorem dX11_sums_75 : decode cX11_sums 75 = .ok (.getfield 72, 3) := by decide +kernel
theorem dX11_sums_78 : decode cX11_sums 78 = .ok (.invokevirtual 232, 3) := by decide +kernel
theorem dX11_sums_81 : decode cX11_sums 81 = .ok (.ireturn, 1) := by decide +kernel
theorem dX11_sums_82 : decode cX11_sums 82 = .ok (.aload_n 0, 1) := by decide +kernel
theorem dX11_sums_83 : decode cX11_sums 83 = .ok (.getfield 72, 3) := by decide +kernel
theorem dX11_sums_86 : decode cX11_sums 86 = .ok (.invokevirtual 235, 3) := by decide +kernel
theorem dX11_sums_89 : decode cX11_sums 89 = .ok (.invokestatic 238, 3) := by decide +kernel
theorem dX11_sums_92 : decode cX11_sums 92 = .ok (.ireturn, 1) := by decide +kernel
theorem dX11_sums_93 : decode cX11_sums 93 = .ok (.aload_n 0, 1) := by decide +kernel
theorem dX11_sums_94 : decode cX11_sums 94 = .ok (.getfield 72, 3) := by decide +kernel
theorem dX11_sums_97 : decode cX11_sums 97 = .ok (.bipush 6, 2) := by decide +kernel
theorem dX11_sums_99 : decode cX11_sums 99 = .ok (.invokevirtual 224, 3) := by decide +kernel
theorem dX11_sums_102 : decode cX11_sums 102 = .ok (.ireturn, 1) := by decide +kernel
theorem dX11_worth_0 : decode cX11_worth 0 = .ok (.aload_n 0, 1) := by decide +kernel
theorem dX11_worth_1 : decode cX11_worth 1 = .ok (.iload_n 1, 1) := by decide +kernel
theorem dX11_worth_2 : decode cX11_worth 2 = .ok (.invokevirtual 147, 3) := by decide +kernel
theorem dX11_worth_5 : decode cX11_worth 5 = .ok (.aload_n 0, 1) := by decide +kernel
theorem dX11_worth_6 : decode cX11_worth 6 = .ok (.iload_n 2, 1) := by decide +kernel
theorem dX11_worth_7 : decode cX11_worth 7 = .ok (.invokevirtual 184, 3) := by decide +kernel
theorem dX11_worth_10 : decode cX11_worth 10 = .ok (.aload_n 0, 1) := by decide +kernel
theorem dX11_worth_11 : decode cX11_worth 11 = .ok (.iload_n 3, 1) := by decide +kernel
theorem dX11_worth_12 : decode cX11_worth 12 = .ok (.iconst 0, 1) := by decide +kernel
theorem dX11_worth_13 : decode cX11_worth 13 = .ok (.bipush 23, 2) := by decide +kernel
theorem dX11_worth_15 : decode cX11_worth 15 = .ok (.invokevirtual 116, 3) := by decide +kernel
theorem dX11_worth_18 : decode cX11_worth 18 = .ok (.aload_n 0, 1) := by decide +kernel
theorem dX11_worth_19 : decode cX11_worth 19 = .ok (.getfield 25, 3) := by decide +kernel
theorem dX11_worth_22 : decode cX11_worth 22 = .ok (.iload_n 1, 1) := by decide +kernel
theorem dX11_worth_23 : decode cX11_worth 23 = .ok (.iload_n 2, 1) := by decide +kernel
theorem dX11_worth_24 : decode cX11_worth 24 = .ok (.iload_n 3, 1) := by decide +kernel
theorem dX11_worth_25 : decode cX11_worth 25 = .ok (.invokevirtual 243, 3) := by decide +kernel
theorem dX11_worth_28 : decode cX11_worth 28 = .ok (.ireturn, 1) := by decide +kernel
theorem dX11_would_0 : decode cX11_would 0 = .ok (.aload_n 0, 1) := by decide +kernel
theorem dX11_would_1 : decode cX11_would 1 = .ok (.iload_n 1, 1) := by decide +kernel
theorem dX11_would_2 : decode cX11_would 2 = .ok (.invokevirtual 147, 3) := by decide +kernel
theorem dX11_would_5 : decode cX11_would 5 = .ok (.aload_n 0, 1) := by decide +kernel
theorem dX11_would_6 : decode cX11_would 6 = .ok (.iload_n 2, 1) := by decide +kernel
theorem dX11_would_7 : decode cX11_would 7 = .ok (.iconst 0, 1) := by decide +kernel
theorem dX11_would_8 : decode cX11_would 8 = .ok (.bipush 23, 2) := by decide +kernel
theorem dX11_would_10 : decode cX11_would 10 = .ok (.invokevirtual 116, 3) := by decide +kernel
theorem dX11_would_13 : decode cX11_would 13 = .ok (.aload_n 0, 1) := by decide +kernel
theorem dX11_would_14 : decode cX11_would 14 = .ok (.iload_n 3, 1) := by decide +kernel
theorem dX11_would_15 : decode cX11_would 15 = .ok (.iconst 0, 1) := by decide +kernel
theorem dX11_would_16 : decode cX11_would 16 = .ok (.bipush 23, 2) := by decide +kernel
theorem dX11_would_18 : decode cX11_would 18 = .ok (.invokevirtual 116, 3) := by decide +kernel
theorem dX11_would_21 : decode cX11_would 21 = .ok (.aload_n 0, 1) := by decide +kernel
theorem dX11_would_22 : decode cX11_would 22 = .ok (.iload 4, 2) := by decide +kernel
theorem dX11_would_24 : decode cX11_would 24 = .ok (.iconst 0, 1) := by decide +kernel
theorem dX11_would_25 : decode cX11_would 25 = .ok (.bipush 23, 2) := by decide +kernel
theorem dX11_would_27 : decode cX11_would 27 = .ok (.invokevirtual 116, 3) := by decide +kernel
theorem dX11_would_30 : decode cX11_would 30 = .ok (.aload_n 0, 1) := by decide +kernel
theorem dX11_would_31 : decode cX11_would 31 = .ok (.iload 5, 2) := by decide +kernel
theorem dX11_would_33 : decode cX11_would 33 = .ok (.iconst 0, 1) := by decide +kernel
theorem dX11_would_34 : decode cX11_would 34 = .ok (.iconst 1, 1) := by decide +kernel
theorem dX11_would_35 : decode cX11_would 35 = .ok (.invokevirtual 116, 3) := by decide +kernel
theorem dX11_would_38 : decode cX11_would 38 = .ok (.aload_n 0, 1) := by decide +kernel
theorem dX11_would_39 : decode cX11_would 39 = .ok (.iload 6, 2) := by decide +kernel
theorem dX11_would_41 : decode cX11_would 41 = .ok (.iconst 0, 1) := by decide +kernel
theorem dX11_would_42 : decode cX11_would 42 = .ok (.bipush 23, 2) := by decide +kernel
theorem dX11_would_44 : decode cX11_would 44 = .ok (.invokevirtual 116, 3) := by decide +kernel
theorem dX11_would_47 : decode cX11_would 47 = .ok (.aload_n 0, 1) := by decide +kernel
theorem dX11_would_48 : decode cX11_would 48 = .ok (.iload 7, 2) := by decide +kernel
theorem dX11_would_50 : decode cX11_would 50 = .ok (.iconst 0, 1) := by decide +kernel
theorem dX11_would_51 : decode cX11_would 51 = .ok (.sipush 999, 3) := by decide +kernel
theorem dX11_would_54 : decode cX11_would 54 = .ok (.invokevirtual 116, 3) := by decide +kernel
theorem dX11_would_57 : decode cX11_would 57 = .ok (.aload_n 0, 1) := by decide +kernel
theorem dX11_would_58 : decode cX11_would 58 = .ok (.getfield 35, 3) := by decide +kernel
theorem dX11_would_61 : decode cX11_would 61 = .ok (.aload_n 0, 1) := by decide +kernel
theorem dX11_would_62 : decode cX11_would 62 = .ok (.getfield 25, 3) := by decide +kernel
theorem dX11_would_65 : decode cX11_would 65 = .ok (.iload_n 3, 1) := by decide +kernel
theorem dX11_would_66 : decode cX11_would 66 = .ok (.iload 4, 2) := by decide +kernel
theorem dX11_would_68 : decode cX11_would 68 = .ok (.iload 7, 2) := by decide +kernel
theorem dX11_would_70 : decode cX11_would 70 = .ok (.invokevirtual 247, 3) := by decide +kernel
theorem dX11_would_73 : decode cX11_would 73 = .ok (.aload_n 0, 1) := by decide +kernel
theorem dX11_would_74 : decode cX11_would 74 = .ok (.getfield 35, 3) := by decide +kernel
theorem dX11_would_77 : decode cX11_would 77 = .ok (.iload_n 2, 1) := by decide +kernel
theorem dX11_would_78 : decode cX11_would 78 = .ok (.iload 5, 2) := by decide +kernel
theorem dX11_would_80 : decode cX11_would 80 = .ok (.iload 6, 2) := by decide +kernel
theorem dX11_would_82 : decode cX11_would 82 = .ok (.iconst 0, 1) := by decide +kernel
theorem dX11_would_83 : decode cX11_would 83 = .ok (.invokevirtual 251, 3) := by decide +kernel
theorem dX11_would_86 : decode cX11_would 86 = .ok (.aload_n 0, 1) := by decide +kernel
theorem dX11_would_87 : decode cX11_would 87 = .ok (.getfield 35, 3) := by decide +kernel
theorem dX11_would_90 : decode cX11_would 90 = .ok (.aload_n 0, 1) := by decide +kernel
theorem dX11_would_91 : decode cX11_would 91 = .ok (.getfield 25, 3) := by decide +kernel
theorem dX11_would_94 : decode cX11_would 94 = .ok (.iload_n 1, 1) := by decide +kernel
theorem dX11_would_95 : decode cX11_would 95 = .ok (.invokevirtual 255, 3) := by decide +kernel
theorem dX11_would_98 : decode cX11_would 98 = .ok (.aload_n 0, 1) := by decide +kernel
theorem dX11_would_99 : decode cX11_would 99 = .ok (.getfield 35, 3) := by decide +kernel
theorem dX11_would_102 : decode cX11_would 102 = .ok (.iload_n 1, 1) := by decide +kernel
theorem dX11_would_103 : decode cX11_would 103 = .ok (.invokevirtual 259, 3) := by decide +kernel
theorem dX11_would_106 : decode cX11_would 106 = .ok (.ireturn, 1) := by decide +kernel
theorem dX11_round_0 : decode cX11_round 0 = .ok (.aload_n 0, 1) := by decide +kernel
theorem dX11_round_1 : decode cX11_round 1 = .ok (.iload_n 1, 1) := by decide +kernel
theorem dX11_round_2 : decode cX11_round 2 = .ok (.iconst 0, 1) := by decide +kernel
theorem dX11_round_3 : decode cX11_round 3 = .ok (.iconst 1, 1) := by decide +kernel
theorem dX11_round_4 : decode cX11_round 4 = .ok (.invokevirtual 116, 3) := by decide +kernel
theorem dX11_round_7 : decode cX11_round 7 = .ok (.aload_n 0, 1) := by decide +kernel
theorem dX11_round_8 : decode cX11_round 8 = .ok (.getfield 60, 3) := by decide +kernel
theorem dX11_round_11 : decode cX11_round 11 = .ok (.sipush 199, 3) := by decide +kernel
theorem dX11_round_14 : decode cX11_round 14 = .ok (.invokevirtual 262, 3) := by decide +kernel
theorem dX11_round_17 : decode cX11_round 17 = .ok (.aload_n 0, 1) := by decide +kernel
theorem dX11_round_18 : decode cX11_round 18 = .ok (.getfield 60, 3) := by decide +kernel
theorem dX11_round_21 : decode cX11_round 21 = .ok (.getfield 265, 3) := by decide +kernel
theorem dX11_round_24 : decode cX11_round 24 = .ok (.ifCond .ne 5, 3) := by decide +kernel
theorem dX11_round_27 : decode cX11_round 27 = .ok (.iconst (-1), 1) := by decide +kernel
theorem dX11_round_28 : decode cX11_round 28 = .ok (.ireturn, 1) := by decide +kernel
theorem dX11_round_29 : decode cX11_round 29 = .ok (.iload_n 1, 1) := by decide +kernel
theorem dX11_round_30 : decode cX11_round 30 = .ok (.ifCond .ne 13, 3) := by decide +kernel
theorem dX11_round_33 : decode cX11_round 33 = .ok (.aload_n 0, 1) := by decide +kernel
theorem dX11_round_34 : decode cX11_round 34 = .ok (.getfield 60, 3) := by decide +kernel
theorem dX11_round_37 : decode cX11_round 37 = .ok (.getfield 268, 3) := by decide +kernel
theorem dX11_round_40 : decode cX11_round 40 = .ok (.goto 10, 3) := by decide +kernel
theorem dX11_round_43 : decode cX11_round 43 = .ok (.aload_n 0, 1) := by decide +kernel
theorem dX11_round_44 : decode cX11_round 44 = .ok (.getfield 60, 3) := by decide +kernel
theorem dX11_round_47 : decode cX11_round 47 = .ok (.getfield 265, 3) := by decide +kernel
theorem dX11_round_50 : decode cX11_round 50 = .ok (.ireturn, 1) := by decide +kernel
theorem dX11_out_0 : decode cX11_out 0 = .ok (.aload_n 0, 1) := by decide +kernel
theorem dX11_out_1 : decode cX11_out 1 = .ok (.iload_n 1, 1) := by decide +kernel
theorem dX11_out_2 : decode cX11_out 2 = .ok (.invokevirtual 147, 3) := by decide +kernel
theorem dX11_out_5 : decode cX11_out 5 = .ok (.aload_n 0, 1) := by decide +kernel
theorem dX11_out_6 : decode cX11_out 6 = .ok (.getfield 60, 3) := by decide +kernel
theorem dX11_out_9 : decode cX11_out 9 = .ok (.sipush 199, 3) := by decide +kernel
theorem dX11_out_12 : decode cX11_out 12 = .ok (.invokevirtual 262, 3) := by decide +kernel
theorem dX11_out_15 : decode cX11_out 15 = .ok (.iconst 1, 1) := by decide +kernel
theorem dX11_out_16 : decode cX11_out 16 = .ok (.istore_n 2, 1) := by decide +kernel
theorem dX11_out_17 : decode cX11_out 17 = .ok (.iload_n 2, 1) := by decide +kernel
theorem dX11_out_18 : decode cX11_out 18 = .ok (.sipush 200, 3) := by decide +kernel
theorem dX11_out_21 : decode cX11_out 21 = .ok (.if_icmp .ge 23, 3) := by decide +kernel
theorem dX11_out_24 : decode cX11_out 24 = .ok (.aload_n 0, 1) := by decide +kernel
theorem dX11_out_25 : decode cX11_out 25 = .ok (.getfield 60, 3) := by decide +kernel
theorem dX11_out_28 : decode cX11_out 28 = .ok (.iload_n 2, 1) := by decide +kernel
theorem dX11_out_29 : decode cX11_out 29 = .ok (.iload_n 1, 1) := by decide +kernel
theorem dX11_out_30 : decode cX11_out 30 = .ok (.invokevirtual 271, 3) := by decide +kernel
theorem dX11_out_33 : decode cX11_out 33 = .ok (.ifCond .ne 5, 3) := by decide +kernel
theorem dX11_out_36 : decode cX11_out 36 = .ok (.iload_n 2, 1) := by decide +kernel
theorem dX11_out_37 : decode cX11_out 37 = .ok (.ireturn, 1) := by decide +kernel
theorem dX11_out_38 : decode cX11_out 38 = .ok (.iinc 2 1, 3) := by decide +kernel
theorem dX11_out_41 : decode cX11_out 41 = .ok (.goto (-24), 3) := by decide +kernel
theorem dX11_out_44 : decode cX11_out 44 = .ok (.iconst (-1), 1) := by decide +kernel
theorem dX11_out_45 : decode cX11_out 45 = .ok (.ireturn, 1) := by decide +kernel
theorem dX11_had_0 : decode cX11_had 0 = .ok (.aload_n 0, 1) := by decide +kernel
theorem dX11_had_1 : decode cX11_had 1 = .ok (.iload_n 1, 1) := by decide +kernel
theorem dX11_had_2 : decode cX11_had 2 = .ok (.invokevirtual 147, 3) := by decide +kernel
theorem dX11_had_5 : decode cX11_had 5 = .ok (.aload_n 0, 1) := by decide +kernel
theorem dX11_had_6 : decode cX11_had 6 = .ok (.iload_n 2, 1) := by decide +kernel
theorem dX11_had_7 : decode cX11_had 7 = .ok (.iconst 1, 1) := by decide +kernel
theorem dX11_had_8 : decode cX11_had 8 = .ok (.sipush 200, 3) := by decide +kernel
theorem dX11_had_11 : decode cX11_had 11 = .ok (.invokevirtual 116, 3) := by decide +kernel
theorem dX11_had_14 : decode cX11_had 14 = .ok (.aload_n 0, 1) := by decide +kernel
theorem dX11_had_15 : decode cX11_had 15 = .ok (.getfield 60, 3) := by decide +kernel
theorem dX11_had_18 : decode cX11_had 18 = .ok (.iload_n 2, 1) := by decide +kernel
theorem dX11_had_19 : decode cX11_had 19 = .ok (.iconst 1, 1) := by decide +kernel
theorem dX11_had_20 : decode cX11_had 20 = .ok (.isub, 1) := by decide +kernel
theorem dX11_had_21 : decode cX11_had 21 = .ok (.invokevirtual 262, 3) := by decide +kernel
theorem dX11_had_24 : decode cX11_had 24 = .ok (.iconst 0, 1) := by decide +kernel
theorem dX11_had_25 : decode cX11_had 25 = .ok (.istore_n 3, 1) := by decide +kernel
theorem dX11_had_26 : decode cX11_had 26 = .ok (.iconst 0, 1) := by decide +kernel
theorem dX11_had_27 : decode cX11_had 27 = .ok (.istore 4, 2) := by decide +kernel
theorem dX11_had_29 : decode cX11_had 29 = .ok (.iload 4, 2) := by decide +kernel
theorem dX11_had_31 : decode cX11_had 31 = .ok (.iload_n 2, 1) := by decide +kernel
theorem dX11_had_32 : decode cX11_had 32 = .ok (.if_icmp .ge 25, 3) := by decide +kernel
theorem dX11_had_35 : decode cX11_had 35 = .ok (.aload_n 0, 1) := by decide +kernel
theorem dX11_had_36 : decode cX11_had 36 = .ok (.getfield 60, 3) := by decide +kernel
theorem dX11_had_39 : decode cX11_had 39 = .ok (.iload 4, 2) := by decide +kernel
theorem dX11_had_41 : decode cX11_had 41 = .ok (.iload_n 1, 1) := by decide +kernel
theorem dX11_had_42 : decode cX11_had 42 = .ok (.invokevirtual 271, 3) := by decide +kernel
theorem dX11_had_45 : decode cX11_had 45 = .ok (.ifCond .eq 6, 3) := by decide +kernel
theorem dX11_had_48 : decode cX11_had 48 = .ok (.iinc 3 1, 3) := by decide +kernel
theorem dX11_had_51 : decode cX11_had 51 = .ok (.iinc 4 1, 3) := by decide +kernel
theorem dX11_had_54 : decode cX11_had 54 = .ok (.goto (-25), 3) := by decide +kernel
theorem dX11_had_57 : decode cX11_had 57 = .ok (.iload_n 3, 1) := by decide +kernel
theorem dX11_had_58 : decode cX11_had 58 = .ok (.ireturn, 1) := by decide +kernel
theorem dX11_still_0 : decode cX11_still 0 = .ok (.aload_n 0, 1) := by decide +kernel
theorem dX11_still_1 : decode cX11_still 1 = .ok (.iload_n 1, 1) := by decide +kernel
theorem dX11_still_2 : decode cX11_still 2 = .ok (.iconst 2, 1) := by decide +kernel
theorem dX11_still_3 : decode cX11_still 3 = .ok (.bipush 8, 2) := by decide +kernel
theorem dX11_still_5 : decode cX11_still 5 = .ok (.invokevirtual 116, 3) := by decide +kernel
theorem dX11_still_8 : decode cX11_still 8 = .ok (.aload_n 0, 1) := by decide +kernel
theorem dX11_still_9 : decode cX11_still 9 = .ok (.iload_n 2, 1) := by decide +kernel
theorem dX11_still_10 : decode cX11_still 10 = .ok (.iconst 0, 1) := by decide +kernel
theorem dX11_still_11 : decode cX11_still 11 = .ok (.iconst 1, 1) := by decide +kernel
theorem dX11_still_12 : decode cX11_still 12 = .ok (.invokevirtual 116, 3) := by decide +kernel
theorem dX11_still_15 : decode cX11_still 15 = .ok (.aload_n 0, 1) := by decide +kernel
theorem dX11_still_16 : decode cX11_still 16 = .ok (.invokevirtual 275, 3) := by decide +kernel
theorem dX11_still_19 : decode cX11_still 19 = .ok (.aload_n 0, 1) := by decide +kernel
theorem dX11_still_20 : decode cX11_still 20 = .ok (.getfield 278, 3) := by decide +kernel
theorem dX11_still_23 : decode cX11_still 23 = .ok (.ifnonnull 22, 3) := by decide +kernel
theorem dX11_still_26 : decode cX11_still 26 = .ok (.aload_n 0, 1) := by decide +kernel
theorem dX11_still_27 : decode cX11_still 27 = .ok (.new 282, 3) := by decide +kernel
theorem dX11_still_30 : decode cX11_still 30 = .ok (.dup, 1) := by decide +kernel
theorem dX11_still_31 : decode cX11_still 31 = .ok (.aload_n 0, 1) := by decide +kernel
theorem dX11_still_32 : decode cX11_still 32 = .ok (.getfield 25, 3) := by decide +kernel
theorem dX11_still_35 : decode cX11_still 35 = .ok (.aload_n 0, 1) := by decide +kernel
theorem dX11_still_36 : decode cX11_still 36 = .ok (.getfield 76, 3) := by decide +kernel
theorem dX11_still_39 : decode cX11_still 39 = .ok (.invokespecial 284, 3) := by decide +kernel
theorem dX11_still_42 : decode cX11_still 42 = .ok (.putfield 278, 3) := by decide +kernel
theorem dX11_still_45 : decode cX11_still 45 = .ok (.aload_n 0, 1) := by decide +kernel
theorem dX11_still_46 : decode cX11_still 46 = .ok (.getfield 278, 3) := by decide +kernel
theorem dX11_still_49 : decode cX11_still 49 = .ok (.iload_n 1, 1) := by decide +kernel
theorem dX11_still_50 : decode cX11_still 50 = .ok (.invokevirtual 287, 3) := by decide +kernel
theorem dX11_still_53 : decode cX11_still 53 = .ok (.iload_n 2, 1) := by decide +kernel
theorem dX11_still_54 : decode cX11_still 54 = .ok (.ifCond .ne 13, 3) := by decide +kernel
theorem dX11_still_57 : decode cX11_still 57 = .ok (.aload_n 0, 1) := by decide +kernel
theorem dX11_still_58 : decode cX11_still 58 = .ok (.getfield 278, 3) := by decide +kernel
theorem dX11_still_61 : decode cX11_still 61 = .ok (.getfield 290, 3) := by decide +kernel
theorem dX11_still_64 : decode cX11_still 64 = .ok (.goto 10, 3) := by decide +kernel
theorem dX11_still_67 : decode cX11_still 67 = .ok (.aload_n 0, 1) := by decide +kernel
theorem dX11_still_68 : decode cX11_still 68 = .ok (.getfield 278, 3) := by decide +kernel
theorem dX11_still_71 : decode cX11_still 71 = .ok (.getfield 293, 3) := by decide +kernel
theorem dX11_still_74 : decode cX11_still 74 = .ok (.ireturn, 1) := by decide +kernel
theorem dX11_net_0 : decode cX11_net 0 = .ok (.aload_n 0, 1) := by decide +kernel
theorem dX11_net_1 : decode cX11_net 1 = .ok (.iload_n 1, 1) := by decide +kernel
theorem dX11_net_2 : decode cX11_net 2 = .ok (.invokevirtual 147, 3) := by decide +kernel
theorem dX11_net_5 : decode cX11_net 5 = .ok (.iload_n 2, 1) := by decide +kernel
theorem dX11_net_6 : decode cX11_net 6 = .ok (.istore_n 3, 1) := by decide +kernel
theorem dX11_net_7 : decode cX11_net 7 = .ok (.aload_n 0, 1) := by decide +kernel
theorem dX11_net_8 : decode cX11_net 8 = .ok (.getfield 25, 3) := by decide +kernel
theorem dX11_net_11 : decode cX11_net 11 = .ok (.getfield 144, 3) := by decide +kernel
theorem dX11_net_14 : decode cX11_net 14 = .ok (.iconst 1, 1) := by decide +kernel
theorem dX11_net_15 : decode cX11_net 15 = .ok (.isub, 1) := by decide +kernel
theorem dX11_net_16 : decode cX11_net 16 = .ok (.istore 4, 2) := by decide +kernel
theorem dX11_net_18 : decode cX11_net 18 = .ok (.iload 4, 2) := by decide +kernel
theorem dX11_net_20 : decode cX11_net 20 = .ok (.ifCond .lt 25, 3) := by decide +kernel
theorem dX11_net_23 : decode cX11_net 23 = .ok (.aload_n 0, 1) := by decide +kernel
theorem dX11_net_24 : decode cX11_net 24 = .ok (.getfield 95, 3) := by decide +kernel
theorem dX11_net_27 : decode cX11_net 27 = .ok (.iload 4, 2) := by decide +kernel
theorem dX11_net_29 : decode cX11_net 29 = .ok (.iload_n 3, 1) := by decide +kernel
theorem dX11_net_30 : decode cX11_net 30 = .ok (.bipush 10, 2) := by decide +kernel
theorem dX11_net_32 : decode cX11_net 32 = .ok (.irem, 1) := by decide +kernel
theorem dX11_net_33 : decode cX11_net 33 = .ok (.iastore, 1) := by decide +kernel
theorem dX11_net_34 : decode cX11_net 34 = .ok (.iload_n 3, 1) := by decide +kernel
theorem dX11_net_35 : decode cX11_net 35 = .ok (.bipush 10, 2) := by decide +kernel
theorem dX11_net_37 : decode cX11_net 37 = .ok (.idiv, 1) := by decide +kernel
theorem dX11_net_38 : decode cX11_net 38 = .ok (.istore_n 3, 1) := by decide +kernel
theorem dX11_net_39 : decode cX11_net 39 = .ok (.iinc 4 (-1), 3) := by decide +kernel
theorem dX11_net_42 : decode cX11_net 42 = .ok (.goto (-24), 3) := by decide +kernel
theorem dX11_net_45 : decode cX11_net 45 = .ok (.aload_n 0, 1) := by decide +kernel
theorem dX11_net_46 : decode cX11_net 46 = .ok (.iload_n 2, 1) := by decide +kernel
theorem dX11_net_47 : decode cX11_net 47 = .ok (.ifCond .lt 11, 3) := by decide +kernel
theorem dX11_net_50 : decode cX11_net 50 = .ok (.iload_n 3, 1) := by decide +kernel
theorem dX11_net_51 : decode cX11_net 51 = .ok (.ifCond .ne 7, 3) := by decide +kernel
theorem dX11_net_54 : decode cX11_net 54 = .ok (.iconst 1, 1) := by decide +kernel
theorem dX11_net_55 : decode cX11_net 55 = .ok (.goto 4, 3) := by decide +kernel
theorem dX11_net_58 : decode cX11_net 58 = .ok (.iconst 0, 1) := by decide +kernel
theorem dX11_net_59 : decode cX11_net 59 = .ok (.invokevirtual 296, 3) := by decide +kernel
theorem dX11_net_62 : decode cX11_net 62 = .ok (.aload_n 0, 1) := by decide +kernel
theorem dX11_net_63 : decode cX11_net 63 = .ok (.getfield 76, 3) := by decide +kernel
theorem dX11_net_66 : decode cX11_net 66 = .ok (.invokevirtual 300, 3) := by decide +kernel
theorem dX11_net_69 : decode cX11_net 69 = .ok (.aload_n 0, 1) := by decide +kernel
theorem dX11_net_70 : decode cX11_net 70 = .ok (.getfield 76, 3) := by decide +kernel
theorem dX11_net_73 : decode cX11_net 73 = .ok (.aload_n 0, 1) := by decide +kernel
theorem dX11_net_74 : decode cX11_net 74 = .ok (.getfield 95, 3) := by decide +kernel
theorem dX11_net_77 : decode cX11_net 77 = .ok (.aload_n 0, 1) := by decide +kernel
theorem dX11_net_78 : decode cX11_net 78 = .ok (.getfield 25, 3) := by decide +kernel
theorem dX11_net_81 : decode cX11_net 81 = .ok (.getfield 178, 3) := by decide +kernel
theorem dX11_net_84 : decode cX11_net 84 = .ok (.invokevirtual 303, 3) := by decide +kernel
theorem dX11_net_87 : decode cX11_net 87 = .ok (.aload_n 0, 1) := by decide +kernel
theorem dX11_net_88 : decode cX11_net 88 = .ok (.getfield 76, 3) := by decide +kernel
theorem dX11_net_91 : decode cX11_net 91 = .ok (.getfield 215, 3) := by decide +kernel
theorem dX11_net_94 : decode cX11_net 94 = .ok (.iload_n 1, 1) := by decide +kernel
theorem dX11_net_95 : decode cX11_net 95 = .ok (.bipush 8, 2) := by decide +kernel
theorem dX11_net_97 : decode cX11_net 97 = .ok (.imul, 1) := by decide +kernel
theorem dX11_net_98 : decode cX11_net 98 = .ok (.iconst 4, 1) := by decide +kernel
theorem dX11_net_99 : decode cX11_net 99 = .ok (.iadd, 1) := by decide +kernel
theorem dX11_net_100 : decode cX11_net 100 = .ok (.iaload, 1) := by decide +kernel
theorem dX11_net_101 : decode cX11_net 101 = .ok (.ireturn, 1) := by decide +kernel
theorem dX11_given_0 : decode cX11_given 0 = .ok (.aload_n 0, 1) := by decide +kernel
theorem dX11_given_1 : decode cX11_given 1 = .ok (.getfield 84, 3) := by decide +kernel
theorem dX11_given_4 : decode cX11_given 4 = .ok (.invokevirtual 307, 3) := by decide +kernel
theorem dX11_given_7 : decode cX11_given 7 = .ok (.aload_n 0, 1) := by decide +kernel
theorem dX11_given_8 : decode cX11_given 8 = .ok (.getfield 84, 3) := by decide +kernel
theorem dX11_given_11 : decode cX11_given 11 = .ok (.getfield 310, 3) := by decide +kernel
theorem dX11_given_14 : decode cX11_given 14 = .ok (.ireturn, 1) := by decide +kernel
theorem dX11_gets_0 : decode cX11_gets 0 = .ok (.aload_n 0, 1) := by decide +kernel
theorem dX11_gets_1 : decode cX11_gets 1 = .ok (.iload_n 1, 1) := by decide +kernel
theorem dX11_gets_2 : decode cX11_gets 2 = .ok (.invokevirtual 147, 3) := by decide +kernel
theorem dX11_gets_5 : decode cX11_gets 5 = .ok (.aload_n 0, 1) := by decide +kernel
theorem dX11_gets_6 : decode cX11_gets 6 = .ok (.getfield 84, 3) := by decide +kernel
theorem dX11_gets_9 : decode cX11_gets 9 = .ok (.invokevirtual 307, 3) := by decide +kernel
theorem dX11_gets_12 : decode cX11_gets 12 = .ok (.aload_n 0, 1) := by decide +kernel
theorem dX11_gets_13 : decode cX11_gets 13 = .ok (.getfield 84, 3) := by decide +kernel
theorem dX11_gets_16 : decode cX11_gets 16 = .ok (.getfield 313, 3) := by decide +kernel
theorem dX11_gets_19 : decode cX11_gets 19 = .ok (.iload_n 1, 1) := by decide +kernel
theorem dX11_gets_20 : decode cX11_gets 20 = .ok (.iaload, 1) := by decide +kernel
theorem dX11_gets_21 : decode cX11_gets 21 = .ok (.ireturn, 1) := by decide +kernel
theorem dX11_waste_0 : decode cX11_waste 0 = .ok (.aload_n 0, 1) := by decide +kernel
theorem dX11_waste_1 : decode cX11_waste 1 = .ok (.invokevirtual 193, 3) := by decide +kernel
theorem dX11_waste_4 : decode cX11_waste 4 = .ok (.aload_n 0, 1) := by decide +kernel
theorem dX11_waste_5 : decode cX11_waste 5 = .ok (.getfield 84, 3) := by decide +kernel
theorem dX11_waste_8 : decode cX11_waste 8 = .ok (.invokevirtual 307, 3) := by decide +kernel
theorem dX11_waste_11 : decode cX11_waste 11 = .ok (.aload_n 0, 1) := by decide +kernel
theorem dX11_waste_12 : decode cX11_waste 12 = .ok (.getfield 84, 3) := by decide +kernel
theorem dX11_waste_15 : decode cX11_waste 15 = .ok (.getfield 310, 3) := by decide +kernel
theorem dX11_waste_18 : decode cX11_waste 18 = .ok (.aload_n 0, 1) := by decide +kernel
theorem dX11_waste_19 : decode cX11_waste 19 = .ok (.getfield 72, 3) := by decide +kernel
theorem dX11_waste_22 : decode cX11_waste 22 = .ok (.iconst 3, 1) := by decide +kernel
theorem dX11_waste_23 : decode cX11_waste 23 = .ok (.invokevirtual 224, 3) := by decide +kernel
theorem dX11_waste_26 : decode cX11_waste 26 = .ok (.isub, 1) := by decide +kernel
theorem dX11_waste_27 : decode cX11_waste 27 = .ok (.ireturn, 1) := by decide +kernel
theorem dX11_more_0 : decode cX11_more 0 = .ok (.aload_n 0, 1) := by decide +kernel
theorem dX11_more_1 : decode cX11_more 1 = .ok (.iload_n 1, 1) := by decide +kernel
theorem dX11_more_2 : decode cX11_more 2 = .ok (.iconst 0, 1) := by decide +kernel
theorem dX11_more_3 : decode cX11_more 3 = .ok (.bipush 9, 2) := by decide +kernel
theorem dX11_more_5 : decode cX11_more 5 = .ok (.invokevirtual 116, 3) := by decide +kernel
theorem dX11_more_8 : decode cX11_more 8 = .ok (.aload_n 0, 1) := by decide +kernel
theorem dX11_more_9 : decode cX11_more 9 = .ok (.iload_n 2, 1) := by decide +kernel
theorem dX11_more_10 : decode cX11_more 10 = .ok (.iconst 0, 1) := by decide +kernel
theorem dX11_more_11 : decode cX11_more 11 = .ok (.bipush 9, 2) := by decide +kernel
theorem dX11_more_13 : decode cX11_more 13 = .ok (.invokevirtual 116, 3) := by decide +kernel
theorem dX11_more_16 : decode cX11_more 16 = .ok (.aload_n 0, 1) := by decide +kernel
theorem dX11_more_17 : decode cX11_more 17 = .ok (.getfield 84, 3) := by decide +kernel
theorem dX11_more_20 : decode cX11_more 20 = .ok (.invokevirtual 307, 3) := by decide +kernel
theorem dX11_more_23 : decode cX11_more 23 = .ok (.aload_n 0, 1) := by decide +kernel
theorem dX11_more_24 : decode cX11_more 24 = .ok (.getfield 84, 3) := by decide +kernel
theorem dX11_more_27 : decode cX11_more 27 = .ok (.iload_n 1, 1) := by decide +kernel
theorem dX11_more_28 : decode cX11_more 28 = .ok (.iload_n 2, 1) := by decide +kernel
theorem dX11_more_29 : decode cX11_more 29 = .ok (.invokevirtual 316, 3) := by decide +kernel
theorem dX11_more_32 : decode cX11_more 32 = .ok (.aload_n 0, 1) := by decide +kernel
theorem dX11_more_33 : decode cX11_more 33 = .ok (.getfield 84, 3) := by decide +kernel
theorem dX11_more_36 : decode cX11_more 36 = .ok (.getfield 310, 3) := by decide +kernel
theorem dX11_more_39 : decode cX11_more 39 = .ok (.isub, 1) := by decide +kernel
theorem dX11_more_40 : decode cX11_more 40 = .ok (.ireturn, 1) := by decide +kernel
theorem dX11_want_0 : decode cX11_want 0 = .ok (.aload_n 0, 1) := by decide +kernel
theorem dX11_want_1 : decode cX11_want 1 = .ok (.iload_n 1, 1) := by decide +kernel
theorem dX11_want_2 : decode cX11_want 2 = .ok (.iconst 0, 1) := by decide +kernel
theorem dX11_want_3 : decode cX11_want 3 = .ok (.sipush 999, 3) := by decide +kernel
theorem dX11_want_6 : decode cX11_want 6 = .ok (.invokevirtual 116, 3) := by decide +kernel
theorem dX11_want_9 : decode cX11_want 9 = .ok (.aload_n 0, 1) := by decide +kernel
theorem dX11_want_10 : decode cX11_want 10 = .ok (.getfield 84, 3) := by decide +kernel
theorem dX11_want_13 : decode cX11_want 13 = .ok (.invokevirtual 307, 3) := by decide +kernel
theorem dX11_want_16 : decode cX11_want 16 = .ok (.aload_n 0, 1) := by decide +kernel
theorem dX11_want_17 : decode cX11_want 17 = .ok (.getfield 84, 3) := by decide +kernel
theorem dX11_want_20 : decode cX11_want 20 = .ok (.iload_n 1, 1) := by decide +kernel
theorem dX11_want_21 : decode cX11_want 21 = .ok (.invokevirtual 319, 3) := by decide +kernel
theorem dX11_want_24 : decode cX11_want 24 = .ok (.ireturn, 1) := by decide +kernel
theorem dX11_just_0 : decode cX11_just 0 = .ok (.aload_n 0, 1) := by decide +kernel
theorem dX11_just_1 : decode cX11_just 1 = .ok (.iload_n 1, 1) := by decide +kernel
theorem dX11_just_2 : decode cX11_just 2 = .ok (.iconst 0, 1) := by decide +kernel
theorem dX11_just_3 : decode cX11_just 3 = .ok (.iconst 1, 1) := by decide +kernel
theorem dX11_just_4 : decode cX11_just 4 = .ok (.invokevirtual 116, 3) := by decide +kernel
theorem dX11_just_7 : decode cX11_just 7 = .ok (.aload_n 0, 1) := by decide +kernel
theorem dX11_just_8 : decode cX11_just 8 = .ok (.getfield 84, 3) := by decide +kernel
theorem dX11_just_11 : decode cX11_just 11 = .ok (.invokevirtual 307, 3) := by decide +kernel
theorem dX11_just_14 : decode cX11_just 14 = .ok (.iconst 0, 1) := by decide +kernel
theorem dX11_just_15 : decode cX11_just 15 = .ok (.istore_n 2, 1) := by decide +kernel
theorem dX11_just_16 : decode cX11_just 16 = .ok (.iload_n 2, 1) := by decide +kernel
theorem dX11_just_17 : decode cX11_just 17 = .ok (.sipush 999, 3) := by decide +kernel
theorem dX11_just_20 : decode cX11_just 20 = .ok (.if_icmp .gt 43, 3) := by decide +kernel
theorem dX11_just_23 : decode cX11_just 23 = .ok (.iload_n 1, 1) := by decide +kernel
theorem dX11_just_24 : decode cX11_just 24 = .ok (.ifCond .ne 7, 3) := by decide +kernel
theorem dX11_just_27 : decode cX11_just 27 = .ok (.iload_n 2, 1) := by decide +kernel
theorem dX11_just_28 : decode cX11_just 28 = .ok (.goto 8, 3) := by decide +kernel
theorem dX11_just_31 : decode cX11_just 31 = .ok (.sipush 999, 3) := by decide +kernel
theorem dX11_just_34 : decode cX11_just 34 = .ok (.iload_n 2, 1) := by decide +kernel
theorem dX11_just_35 : decode cX11_just 35 = .ok (.isub, 1) := by decide +kernel
theorem dX11_just_36 : decode cX11_just 36 = .ok (.istore_n 3, 1) := by decide +kernel
theorem dX11_just_37 : decode cX11_just 37 = .ok (.aload_n 0, 1) := by decide +kernel
theorem dX11_just_38 : decode cX11_just 38 = .ok (.getfield 84, 3) := by decide +kernel
theorem dX11_just_41 : decode cX11_just 41 = .ok (.iload_n 3, 1) := by decide +kernel
theorem dX11_just_42 : decode cX11_just 42 = .ok (.invokevirtual 319, 3) := by decide +kernel
theorem dX11_just_45 : decode cX11_just 45 = .ok (.aload_n 0, 1) := by decide +kernel
theorem dX11_just_46 : decode cX11_just 46 = .ok (.getfield 25, 3) := by decide +kernel
theorem dX11_just_49 : decode cX11_just 49 = .ok (.getfield 172, 3) := by decide +kernel
theorem dX11_just_52 : decode cX11_just 52 = .ok (.if_icmp .ne 5, 3) := by decide +kernel
theorem dX11_just_55 : decode cX11_just 55 = .ok (.iload_n 3, 1) := by decide +kernel
theorem dX11_just_56 : decode cX11_just 56 = .ok (.ireturn, 1) := by decide +kernel
theorem dX11_just_57 : decode cX11_just 57 = .ok (.iinc 2 1, 3) := by decide +kernel
theorem dX11_just_60 : decode cX11_just 60 = .ok (.goto (-44), 3) := by decide +kernel
theorem dX11_just_63 : decode cX11_just 63 = .ok (.iconst (-1), 1) := by decide +kernel
theorem dX11_just_64 : decode cX11_just 64 = .ok (.ireturn, 1) := by decide +kernel
theorem dX11_off_0 : decode cX11_off 0 = .ok (.aload_n 0, 1) := by decide +kernel
theorem dX11_off_1 : decode cX11_off 1 = .ok (.iload_n 1, 1) := by decide +kernel
theorem dX11_off_2 : decode cX11_off 2 = .ok (.iconst 0, 1) := by decide +kernel
theorem dX11_off_3 : decode cX11_off 3 = .ok (.iconst 1, 1) := by decide +kernel
theorem dX11_off_4 : decode cX11_off 4 = .ok (.invokevirtual 116, 3) := by decide +kernel
theorem dX11_off_7 : decode cX11_off 7 = .ok (.aload_n 0, 1) := by decide +kernel
theorem dX11_off_8 : decode cX11_off 8 = .ok (.getfield 60, 3) := by decide +kernel
theorem dX11_off_11 : decode cX11_off 11 = .ok (.aload_n 0, 1) := by decide +kernel
theorem dX11_off_12 : decode cX11_off 12 = .ok (.getfield 138, 3) := by decide +kernel
theorem dX11_off_15 : decode cX11_off 15 = .ok (.invokevirtual 262, 3) := by decide +kernel
theorem dX11_off_18 : decode cX11_off 18 = .ok (.aload_n 0, 1) := by decide +kernel
theorem dX11_off_19 : decode cX11_off 19 = .ok (.getfield 60, 3) := by decide +kernel
theorem dX11_off_22 : decode cX11_off 22 = .ok (.aload_n 0, 1) := by decide +kernel
theorem dX11_off_23 : decode cX11_off 23 = .ok (.getfield 138, 3) := by decide +kernel
theorem dX11_off_26 : decode cX11_off 26 = .ok (.aload_n 0, 1) := by decide +kernel
theorem dX11_off_27 : decode cX11_off 27 = .ok (.getfield 95, 3) := by decide +kernel
theorem dX11_off_30 : decode cX11_off 30 = .ok (.invokevirtual 322, 3) := by decide +kernel
theorem dX11_off_33 : decode cX11_off 33 = .ok (.aload_n 0, 1) := by decide +kernel
theorem dX11_off_34 : decode cX11_off 34 = .ok (.getfield 76, 3) := by decide +kernel
theorem dX11_off_37 : decode cX11_off 37 = .ok (.invokevirtual 300, 3) := by decide +kernel
theorem dX11_off_40 : decode cX11_off 40 = .ok (.iconst (-1), 1) := by decide +kernel
theorem dX11_off_41 : decode cX11_off 41 = .ok (.istore_n 2, 1) := by decide +kernel
theorem dX11_off_42 : decode cX11_off 42 = .ok (.iconst (-1), 1) := by decide +kernel
theorem dX11_off_43 : decode cX11_off 43 = .ok (.istore_n 3, 1) := by decide +kernel
theorem dX11_off_44 : decode cX11_off 44 = .ok (.iconst 1, 1) := by decide +kernel
theorem dX11_off_45 : decode cX11_off 45 = .ok (.istore 4, 2) := by decide +kernel
theorem dX11_off_47 : decode cX11_off 47 = .ok (.iload 4, 2) := by decide +kernel
theorem dX11_off_49 : decode cX11_off 49 = .ok (.bipush 23, 2) := by decide +kernel
theorem dX11_off_51 : decode cX11_off 51 = .ok (.if_icmp .gt 44, 3) := by decide +kernel
theorem dX11_off_54 : decode cX11_off 54 = .ok (.aload_n 0, 1) := by decide +kernel
theorem dX11_off_55 : decode cX11_off 55 = .ok (.getfield 76, 3) := by decide +kernel
theorem dX11_off_58 : decode cX11_off 58 = .ok (.aload_n 0, 1) := by decide +kernel
theorem dX11_off_59 : decode cX11_off 59 = .ok (.getfield 95, 3) := by decide +kernel
theorem dX11_off_62 : decode cX11_off 62 = .ok (.iload 4, 2) := by decide +kernel
theorem dX11_off_64 : decode cX11_off 64 = .ok (.invokevirtual 303, 3) := by decide +kernel
theorem dX11_off_67 : decode cX11_off 67 = .ok (.aload_n 0, 1) := by decide +kernel
theorem dX11_off_68 : decode cX11_off 68 = .ok (.getfield 76, 3) := by decide +kernel
theorem dX11_off_71 : decode cX11_off 71 = .ok (.iconst 3, 1) := by decide +kernel
theorem dX11_off_72 : decode cX11_off 72 = .ok (.invokevirtual 224, 3) := by decide +kernel
theorem dX11_off_75 : decode cX11_off 75 = .ok (.istore 5, 2) := by decide +kernel
theorem dX11_off_77 : decode cX11_off 77 = .ok (.iload 5, 2) := by decide +kernel
theorem dX11_off_79 : decode cX11_off 79 = .ok (.iload_n 3, 1) := by decide +kernel
theorem dX11_off_80 : decode cX11_off 80 = .ok (.if_icmp .le 9, 3) := by decide +kernel
theorem dX11_off_83 : decode cX11_off 83 = .ok (.iload 5, 2) := by decide +kernel
theorem dX11_off_85 : decode cX11_off 85 = .ok (.istore_n 3, 1) := by decide +kernel
theorem dX11_off_86 : decode cX11_off 86 = .ok (.iload 4, 2) := by decide +kernel
theorem dX11_off_88 : decode cX11_off 88 = .ok (.istore_n 2, 1) := by decide +kernel
theorem dX11_off_89 : decode cX11_off 89 = .ok (.iinc 4 1, 3) := by decide +kernel
theorem dX11_off_92 : decode cX11_off 92 = .ok (.goto (-45), 3) := by decide +kernel
theorem dX11_off_95 : decode cX11_off 95 = .ok (.iload_n 1, 1) := by decide +kernel
theorem dX11_off_96 : decode cX11_off 96 = .ok (.ifCond .ne 7, 3) := by decide +kernel
theorem dX11_off_99 : decode cX11_off 99 = .ok (.iload_n 2, 1) := by decide +kernel
theorem dX11_off_100 : decode cX11_off 100 = .ok (.goto 4, 3) := by decide +kernel
theorem dX11_off_103 : decode cX11_off 103 = .ok (.iload_n 3, 1) := by decide +kernel
theorem dX11_off_104 : decode cX11_off 104 = .ok (.ireturn, 1) := by decide +kernel

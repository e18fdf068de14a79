theorem dX0_init_0 : decode cX0_init 0 = .ok (.aload_n 0, 1) := by decide +kernel
theorem dX0_init_1 : decode cX0_init 1 = .ok (.invokespecial 3, 3) := by decide +kernel
theorem dX0_init_4 : decode cX0_init 4 = .ok (.aload_n 0, 1) := by decide +kernel
theorem dX0_init_5 : decode cX0_init 5 = .ok (.bipush 36, 2) := by decide +kernel
theorem dX0_init_7 : decode cX0_init 7 = .ok (.newarray .int, 2) := by decide +kernel
theorem dX0_init_9 : decode cX0_init 9 = .ok (.putfield 11, 3) := by decide +kernel
theorem dX0_init_12 : decode cX0_init 12 = .ok (.aload_n 0, 1) := by decide +kernel
theorem dX0_init_13 : decode cX0_init 13 = .ok (.bipush 36, 2) := by decide +kernel
theorem dX0_init_15 : decode cX0_init 15 = .ok (.newarray .int, 2) := by decide +kernel
theorem dX0_init_17 : decode cX0_init 17 = .ok (.putfield 15, 3) := by decide +kernel
theorem dX0_init_20 : decode cX0_init 20 = .ok (.return_, 1) := by decide +kernel
theorem dX0_clear_0 : decode cX0_clear 0 = .ok (.aload_n 0, 1) := by decide +kernel
theorem dX0_clear_1 : decode cX0_clear 1 = .ok (.iconst 0, 1) := by decide +kernel
theorem dX0_clear_2 : decode cX0_clear 2 = .ok (.putfield 18, 3) := by decide +kernel
theorem dX0_clear_5 : decode cX0_clear 5 = .ok (.return_, 1) := by decide +kernel
theorem dX0_read_0 : decode cX0_read 0 = .ok (.iconst 0, 1) := by decide +kernel
theorem dX0_read_1 : decode cX0_read 1 = .ok (.istore_n 3, 1) := by decide +kernel
theorem dX0_read_2 : decode cX0_read 2 = .ok (.iload_n 3, 1) := by decide +kernel
theorem dX0_read_3 : decode cX0_read 3 = .ok (.bipush 12, 2) := by decide +kernel
theorem dX0_read_5 : decode cX0_read 5 = .ok (.if_icmp .gt 52, 3) := by decide +kernel
theorem dX0_read_8 : decode cX0_read 8 = .ok (.aload_n 1, 1) := by decide +kernel
theorem dX0_read_9 : decode cX0_read 9 = .ok (.invokevirtual 22, 3) := by decide +kernel
theorem dX0_read_12 : decode cX0_read 12 = .ok (.iconst (-1), 1) := by decide +kernel
theorem dX0_read_13 : decode cX0_read 13 = .ok (.if_icmp .ne 26, 3) := by decide +kernel
theorem dX0_read_16 : decode cX0_read 16 = .ok (.aload_n 0, 1) := by decide +kernel
theorem dX0_read_17 : decode cX0_read 17 = .ok (.getfield 15, 3) := by decide +kernel
theorem dX0_read_20 : decode cX0_read 20 = .ok (.iconst 0, 1) := by decide +kernel
theorem dX0_read_21 : decode cX0_read 21 = .ok (.aload_n 0, 1) := by decide +kernel
theorem dX0_read_22 : decode cX0_read 22 = .ok (.getfield 11, 3) := by decide +kernel
theorem dX0_read_25 : decode cX0_read 25 = .ok (.iconst 0, 1) := by decide +kernel
theorem dX0_read_26 : decode cX0_read 26 = .ok (.iload_n 3, 1) := by decide +kernel
theorem dX0_read_27 : decode cX0_read 27 = .ok (.iconst 3, 1) := by decide +kernel
theorem dX0_read_28 : decode cX0_read 28 = .ok (.imul, 1) := by decide +kernel
theorem dX0_read_29 : decode cX0_read 29 = .ok (.invokestatic 28, 3) := by decide +kernel
theorem dX0_read_32 : decode cX0_read 32 = .ok (.aload_n 0, 1) := by decide +kernel
theorem dX0_read_33 : decode cX0_read 33 = .ok (.iload_n 3, 1) := by decide +kernel
theorem dX0_read_34 : decode cX0_read 34 = .ok (.putfield 18, 3) := by decide +kernel
theorem dX0_read_37 : decode cX0_read 37 = .ok (.iconst 1, 1) := by decide +kernel
theorem dX0_read_38 : decode cX0_read 38 = .ok (.ireturn, 1) := by decide +kernel
theorem dX0_read_39 : decode cX0_read 39 = .ok (.aload_n 0, 1) := by decide +kernel
theorem dX0_read_40 : decode cX0_read 40 = .ok (.aload_n 1, 1) := by decide +kernel
theorem dX0_read_41 : decode cX0_read 41 = .ok (.iload_n 2, 1) := by decide +kernel
theorem dX0_read_42 : decode cX0_read 42 = .ok (.iload_n 3, 1) := by decide +kernel
theorem dX0_read_43 : decode cX0_read 43 = .ok (.invokevirtual 34, 3) := by decide +kernel
theorem dX0_read_46 : decode cX0_read 46 = .ok (.ifCond .ne 5, 3) := by decide +kernel
theorem dX0_read_49 : decode cX0_read 49 = .ok (.iconst 0, 1) := by decide +kernel
theorem dX0_read_50 : decode cX0_read 50 = .ok (.ireturn, 1) := by decide +kernel
theorem dX0_read_51 : decode cX0_read 51 = .ok (.iinc 3 1, 3) := by decide +kernel
theorem dX0_read_54 : decode cX0_read 54 = .ok (.goto (-52), 3) := by decide +kernel
theorem dX0_read_57 : decode cX0_read 57 = .ok (.iconst 0, 1) := by decide +kernel
theorem dX0_read_58 : decode cX0_read 58 = .ok (.ireturn, 1) := by decide +kernel
theorem dX0_readLine_0 : decode cX0_readLine 0 = .ok (.aload_n 1, 1) := by decide +kernel
theorem dX0_readLine_1 : decode cX0_readLine 1 = .ok (.getfield 38, 3) := by decide +kernel
theorem dX0_readLine_4 : decode cX0_readLine 4 = .ok (.istore 4, 2) := by decide +kernel
theorem dX0_readLine_6 : decode cX0_readLine 6 = .ok (.aload_n 1, 1) := by decide +kernel
theorem dX0_readLine_7 : decode cX0_readLine 7 = .ok (.iconst 0, 1) := by decide +kernel
theorem dX0_readLine_8 : decode cX0_readLine 8 = .ok (.bipush 60, 2) := by decide +kernel
theorem dX0_readLine_10 : decode cX0_readLine 10 = .ok (.invokevirtual 41, 3) := by decide +kernel
theorem dX0_readLine_13 : decode cX0_readLine 13 = .ok (.istore 5, 2) := by decide +kernel
theorem dX0_readLine_15 : decode cX0_readLine 15 = .ok (.iload 5, 2) := by decide +kernel
theorem dX0_readLine_17 : decode cX0_readLine 17 = .ok (.iconst (-1), 1) := by decide +kernel
theorem dX0_readLine_18 : decode cX0_readLine 18 = .ok (.if_icmp .ne 5, 3) := by decide +kernel
theorem dX0_readLine_21 : decode cX0_readLine 21 = .ok (.iconst 0, 1) := by decide +kernel
theorem dX0_readLine_22 : decode cX0_readLine 22 = .ok (.ireturn, 1) := by decide +kernel
theorem dX0_readLine_23 : decode cX0_readLine 23 = .ok (.iload_n 3, 1) := by decide +kernel
theorem dX0_readLine_24 : decode cX0_readLine 24 = .ok (.bipush 12, 2) := by decide +kernel
theorem dX0_readLine_26 : decode cX0_readLine 26 = .ok (.if_icmp .lt 11, 3) := by decide +kernel
theorem dX0_readLine_29 : decode cX0_readLine 29 = .ok (.aload_n 1, 1) := by decide +kernel
theorem dX0_readLine_30 : decode cX0_readLine 30 = .ok (.iconst 3, 1) := by decide +kernel
theorem dX0_readLine_31 : decode cX0_readLine 31 = .ok (.iload 4, 2) := by decide +kernel
theorem dX0_readLine_33 : decode cX0_readLine 33 = .ok (.invokevirtual 45, 3) := by decide +kernel
theorem dX0_readLine_36 : decode cX0_readLine 36 = .ok (.ireturn, 1) := by decide +kernel
theorem dX0_readLine_37 : decode cX0_readLine 37 = .ok (.aload_n 1, 1) := by decide +kernel
theorem dX0_readLine_38 : decode cX0_readLine 38 = .ok (.iconst 0, 1) := by decide +kernel
theorem dX0_readLine_39 : decode cX0_readLine 39 = .ok (.iload_n 2, 1) := by decide +kernel
theorem dX0_readLine_40 : decode cX0_readLine 40 = .ok (.iconst 1, 1) := by decide +kernel
theorem dX0_readLine_41 : decode cX0_readLine 41 = .ok (.isub, 1) := by decide +kernel
theorem dX0_readLine_42 : decode cX0_readLine 42 = .ok (.invokevirtual 41, 3) := by decide +kernel
theorem dX0_readLine_45 : decode cX0_readLine 45 = .ok (.istore 6, 2) := by decide +kernel
theorem dX0_readLine_47 : decode cX0_readLine 47 = .ok (.iload 6, 2) := by decide +kernel
theorem dX0_readLine_49 : decode cX0_readLine 49 = .ok (.iconst (-1), 1) := by decide +kernel
theorem dX0_readLine_50 : decode cX0_readLine 50 = .ok (.if_icmp .ne 7, 3) := by decide +kernel
theorem dX0_readLine_53 : decode cX0_readLine 53 = .ok (.iconst (-1), 1) := by decide +kernel
theorem dX0_readLine_54 : decode cX0_readLine 54 = .ok (.goto 10, 3) := by decide +kernel
theorem dX0_readLine_57 : decode cX0_readLine 57 = .ok (.aload_n 1, 1) := by decide +kernel
theorem dX0_readLine_58 : decode cX0_readLine 58 = .ok (.iconst 0, 1) := by decide +kernel
theorem dX0_readLine_59 : decode cX0_readLine 59 = .ok (.bipush 23, 2) := by decide +kernel
theorem dX0_readLine_61 : decode cX0_readLine 61 = .ok (.invokevirtual 41, 3) := by decide +kernel
theorem dX0_readLine_64 : decode cX0_readLine 64 = .ok (.istore 7, 2) := by decide +kernel
theorem dX0_readLine_66 : decode cX0_readLine 66 = .ok (.iload 7, 2) := by decide +kernel
theorem dX0_readLine_68 : decode cX0_readLine 68 = .ok (.iconst (-1), 1) := by decide +kernel
theorem dX0_readLine_69 : decode cX0_readLine 69 = .ok (.if_icmp .ne 5, 3) := by decide +kernel
theorem dX0_readLine_72 : decode cX0_readLine 72 = .ok (.iconst 0, 1) := by decide +kernel
theorem dX0_readLine_73 : decode cX0_readLine 73 = .ok (.ireturn, 1) := by decide +kernel
theorem dX0_readLine_74 : decode cX0_readLine 74 = .ok (.aload_n 0, 1) := by decide +kernel
theorem dX0_readLine_75 : decode cX0_readLine 75 = .ok (.getfield 15, 3) := by decide +kernel
theorem dX0_readLine_78 : decode cX0_readLine 78 = .ok (.iload_n 3, 1) := by decide +kernel
theorem dX0_readLine_79 : decode cX0_readLine 79 = .ok (.iconst 3, 1) := by decide +kernel
theorem dX0_readLine_80 : decode cX0_readLine 80 = .ok (.imul, 1) := by decide +kernel
theorem dX0_readLine_81 : decode cX0_readLine 81 = .ok (.iload 5, 2) := by decide +kernel
theorem dX0_readLine_83 : decode cX0_readLine 83 = .ok (.iastore, 1) := by decide +kernel
theorem dX0_readLine_84 : decode cX0_readLine 84 = .ok (.aload_n 0, 1) := by decide +kernel
theorem dX0_readLine_85 : decode cX0_readLine 85 = .ok (.getfield 15, 3) := by decide +kernel
theorem dX0_readLine_88 : decode cX0_readLine 88 = .ok (.iload_n 3, 1) := by decide +kernel
theorem dX0_readLine_89 : decode cX0_readLine 89 = .ok (.iconst 3, 1) := by decide +kernel
theorem dX0_readLine_90 : decode cX0_readLine 90 = .ok (.imul, 1) := by decide +kernel
theorem dX0_readLine_91 : decode cX0_readLine 91 = .ok (.iconst 1, 1) := by decide +kernel
theorem dX0_readLine_92 : decode cX0_readLine 92 = .ok (.iadd, 1) := by decide +kernel
theorem dX0_readLine_93 : decode cX0_readLine 93 = .ok (.iload 6, 2) := by decide +kernel
theorem dX0_readLine_95 : decode cX0_readLine 95 = .ok (.iastore, 1) := by decide +kernel
theorem dX0_readLine_96 : decode cX0_readLine 96 = .ok (.aload_n 0, 1) := by decide +kernel
theorem dX0_readLine_97 : decode cX0_readLine 97 = .ok (.getfield 15, 3) := by decide +kernel
theorem dX0_readLine_100 : decode cX0_readLine 100 = .ok (.iload_n 3, 1) := by decide +kernel
theorem dX0_readLine_101 : decode cX0_readLine 101 = .ok (.iconst 3, 1) := by decide +kernel
theorem dX0_readLine_102 : decode cX0_readLine 102 = .ok (.imul, 1) := by decide +kernel
theorem dX0_readLine_103 : decode cX0_readLine 103 = .ok (.iconst 2, 1) := by decide +kernel
theorem dX0_readLine_104 : decode cX0_readLine 104 = .ok (.iadd, 1) := by decide +kernel
theorem dX0_readLine_105 : decode cX0_readLine 105 = .ok (.iload 7, 2) := by decide +kernel
theorem dX0_readLine_107 : decode cX0_readLine 107 = .ok (.iastore, 1) := by decide +kernel
theorem dX0_readLine_108 : decode cX0_readLine 108 = .ok (.aload_n 1, 1) := by decide +kernel
theorem dX0_readLine_109 : decode cX0_readLine 109 = .ok (.bipush 59, 2) := by decide +kernel
theorem dX0_readLine_111 : decode cX0_readLine 111 = .ok (.invokevirtual 49, 3) := by decide +kernel
theorem dX0_readLine_114 : decode cX0_readLine 114 = .ok (.ireturn, 1) := by decide +kernel
theorem dX0_firstNotSo_0 : decode cX0_firstNotSo 0 = .ok (.iconst 0, 1) := by decide +kernel
theorem dX0_firstNotSo_1 : decode cX0_firstNotSo 1 = .ok (.istore_n 3, 1) := by decide +kernel
theorem dX0_firstNotSo_2 : decode cX0_firstNotSo 2 = .ok (.iload_n 3, 1) := by decide +kernel
theorem dX0_firstNotSo_3 : decode cX0_firstNotSo 3 = .ok (.aload_n 0, 1) := by decide +kernel
theorem dX0_firstNotSo_4 : decode cX0_firstNotSo 4 = .ok (.getfield 18, 3) := by decide +kernel
theorem dX0_firstNotSo_7 : decode cX0_firstNotSo 7 = .ok (.if_icmp .ge 71, 3) := by decide +kernel
theorem dX0_firstNotSo_10 : decode cX0_firstNotSo 10 = .ok (.aload_n 0, 1) := by decide +kernel
theorem dX0_firstNotSo_11 : decode cX0_firstNotSo 11 = .ok (.getfield 11, 3) := by decide +kernel
theorem dX0_firstNotSo_14 : decode cX0_firstNotSo 14 = .ok (.iload_n 3, 1) := by decide +kernel
theorem dX0_firstNotSo_15 : decode cX0_firstNotSo 15 = .ok (.iconst 3, 1) := by decide +kernel
theorem dX0_firstNotSo_16 : decode cX0_firstNotSo 16 = .ok (.imul, 1) := by decide +kernel
theorem dX0_firstNotSo_17 : decode cX0_firstNotSo 17 = .ok (.iaload, 1) := by decide +kernel
theorem dX0_firstNotSo_18 : decode cX0_firstNotSo 18 = .ok (.istore 4, 2) := by decide +kernel
theorem dX0_firstNotSo_20 : decode cX0_firstNotSo 20 = .ok (.aload_n 0, 1) := by decide +kernel
theorem dX0_firstNotSo_21 : decode cX0_firstNotSo 21 = .ok (.getfield 11, 3) := by decide +kernel
theorem dX0_firstNotSo_24 : decode cX0_firstNotSo 24 = .ok (.iload_n 3, 1) := by decide +kernel
theorem dX0_firstNotSo_25 : decode cX0_firstNotSo 25 = .ok (.iconst 3, 1) := by decide +kernel
theorem dX0_firstNotSo_26 : decode cX0_firstNotSo 26 = .ok (.imul, 1) := by decide +kernel
theorem dX0_firstNotSo_27 : decode cX0_firstNotSo 27 = .ok (.iconst 1, 1) := by decide +kernel
theorem dX0_firstNotSo_28 : decode cX0_firstNotSo 28 = .ok (.iadd, 1) := by decide +kernel
theorem dX0_firstNotSo_29 : decode cX0_firstNotSo 29 = .ok (.iaload, 1) := by decide +kernel
theorem dX0_firstNotSo_30 : decode cX0_firstNotSo 30 = .ok (.istore 5, 2) := by decide +kernel
theorem dX0_firstNotSo_32 : decode cX0_firstNotSo 32 = .ok (.iload_n 1, 1) := by decide +kernel
theorem dX0_firstNotSo_33 : decode cX0_firstNotSo 33 = .ok (.iconst (-1), 1) := by decide +kernel
theorem dX0_firstNotSo_34 : decode cX0_firstNotSo 34 = .ok (.if_icmp .eq 9, 3) := by decide +kernel
theorem dX0_firstNotSo_37 : decode cX0_firstNotSo 37 = .ok (.iload_n 1, 1) := by decide +kernel
theorem dX0_firstNotSo_38 : decode cX0_firstNotSo 38 = .ok (.iload 5, 2) := by decide +kernel
theorem dX0_firstNotSo_40 : decode cX0_firstNotSo 40 = .ok (.if_icmp .ne 32, 3) := by decide +kernel
theorem dX0_firstNotSo_43 : decode cX0_firstNotSo 43 = .ok (.aload_n 2, 1) := by decide +kernel
theorem dX0_firstNotSo_44 : decode cX0_firstNotSo 44 = .ok (.iload 4, 2) := by decide +kernel
theorem dX0_firstNotSo_46 : decode cX0_firstNotSo 46 = .ok (.invokevirtual 53, 3) := by decide +kernel
theorem dX0_firstNotSo_49 : decode cX0_firstNotSo 49 = .ok (.aload_n 2, 1) := by decide +kernel
theorem dX0_firstNotSo_50 : decode cX0_firstNotSo 50 = .ok (.iload 4, 2) := by decide +kernel
theorem dX0_firstNotSo_52 : decode cX0_firstNotSo 52 = .ok (.iload 5, 2) := by decide +kernel
theorem dX0_firstNotSo_54 : decode cX0_firstNotSo 54 = .ok (.invokevirtual 59, 3) := by decide +kernel
theorem dX0_firstNotSo_57 : decode cX0_firstNotSo 57 = .ok (.aload_n 0, 1) := by decide +kernel
theorem dX0_firstNotSo_58 : decode cX0_firstNotSo 58 = .ok (.getfield 11, 3) := by decide +kernel
theorem dX0_firstNotSo_61 : decode cX0_firstNotSo 61 = .ok (.iload_n 3, 1) := by decide +kernel
theorem dX0_firstNotSo_62 : decode cX0_firstNotSo 62 = .ok (.iconst 3, 1) := by decide +kernel
theorem dX0_firstNotSo_63 : decode cX0_firstNotSo 63 = .ok (.imul, 1) := by decide +kernel
theorem dX0_firstNotSo_64 : decode cX0_firstNotSo 64 = .ok (.iconst 2, 1) := by decide +kernel
theorem dX0_firstNotSo_65 : decode cX0_firstNotSo 65 = .ok (.iadd, 1) := by decide +kernel
theorem dX0_firstNotSo_66 : decode cX0_firstNotSo 66 = .ok (.iaload, 1) := by decide +kernel
theorem dX0_firstNotSo_67 : decode cX0_firstNotSo 67 = .ok (.if_icmp .eq 5, 3) := by decide +kernel
theorem dX0_firstNotSo_70 : decode cX0_firstNotSo 70 = .ok (.iload_n 3, 1) := by decide +kernel
theorem dX0_firstNotSo_71 : decode cX0_firstNotSo 71 = .ok (.ireturn, 1) := by decide +kernel
theorem dX0_firstNotSo_72 : decode cX0_firstNotSo 72 = .ok (.iinc 3 1, 3) := by decide +kernel
theorem dX0_firstNotSo_75 : decode cX0_firstNotSo 75 = .ok (.goto (-73), 3) := by decide +kernel
theorem dX0_firstNotSo_78 : decode cX0_firstNotSo 78 = .ok (.aload_n 0, 1) := by decide +kernel
theorem dX0_firstNotSo_79 : decode cX0_firstNotSo 79 = .ok (.getfield 18, 3) := by decide +kernel
theorem dX0_firstNotSo_82 : decode cX0_firstNotSo 82 = .ok (.ireturn, 1) := by decide +kernel
theorem dX1_init_0 : decode cX1_init 0 = .ok (.aload_n 0, 1) := by decide +kernel
theorem dX1_init_1 : decode cX1_init 1 = .ok (.invokespecial 3, 3) := by decide +kernel
theorem dX1_init_4 : decode cX1_init 4 = .ok (.aload_n 0, 1) := by decide +kernel
theorem dX1_init_5 : decode cX1_init 5 = .ok (.bipush 60, 2) := by decide +kernel
theorem dX1_init_7 : decode cX1_init 7 = .ok (.newarray .int, 2) := by decide +kernel
theorem dX1_init_9 : decode cX1_init 9 = .ok (.putfield 11, 3) := by decide +kernel
theorem dX1_init_12 : decode cX1_init 12 = .ok (.aload_n 0, 1) := by decide +kernel
theorem dX1_init_13 : decode cX1_init 13 = .ok (.iconst 3, 1) := by decide +kernel
theorem dX1_init_14 : decode cX1_init 14 = .ok (.anewarray 15, 3) := by decide +kernel
theorem dX1_init_17 : decode cX1_init 17 = .ok (.putfield 17, 3) := by decide +kernel
theorem dX1_init_20 : decode cX1_init 20 = .ok (.return_, 1) := by decide +kernel
theorem dX1_clear_0 : decode cX1_clear 0 = .ok (.aload_n 0, 1) := by decide +kernel
theorem dX1_clear_1 : decode cX1_clear 1 = .ok (.iconst 0, 1) := by decide +kernel
theorem dX1_clear_2 : decode cX1_clear 2 = .ok (.putfield 21, 3) := by decide +kernel
theorem dX1_clear_5 : decode cX1_clear 5 = .ok (.aload_n 0, 1) := by decide +kernel
theorem dX1_clear_6 : decode cX1_clear 6 = .ok (.iconst 0, 1) := by decide +kernel
theorem dX1_clear_7 : decode cX1_clear 7 = .ok (.putfield 25, 3) := by decide +kernel
theorem dX1_clear_10 : decode cX1_clear 10 = .ok (.return_, 1) := by decide +kernel
theorem dX1_add_0 : decode cX1_add 0 = .ok (.aload_n 0, 1) := by decide +kernel
theorem dX1_add_1 : decode cX1_add 1 = .ok (.getfield 21, 3) := by decide +kernel
theorem dX1_add_4 : decode cX1_add 4 = .ok (.bipush 20, 2) := by decide +kernel
theorem dX1_add_6 : decode cX1_add 6 = .ok (.if_icmp .lt 5, 3) := by decide +kernel
theorem dX1_add_9 : decode cX1_add 9 = .ok (.iconst 0, 1) := by decide +kernel
theorem dX1_add_10 : decode cX1_add 10 = .ok (.ireturn, 1) := by decide +kernel
theorem dX1_add_11 : decode cX1_add 11 = .ok (.aload_n 0, 1) := by decide +kernel
theorem dX1_add_12 : decode cX1_add 12 = .ok (.getfield 11, 3) := by decide +kernel
theorem dX1_add_15 : decode cX1_add 15 = .ok (.aload_n 0, 1) := by decide +kernel
theorem dX1_add_16 : decode cX1_add 16 = .ok (.getfield 21, 3) := by decide +kernel
theorem dX1_add_19 : decode cX1_add 19 = .ok (.iconst 3, 1) := by decide +kernel
theorem dX1_add_20 : decode cX1_add 20 = .ok (.imul, 1) := by decide +kernel
theorem dX1_add_21 : decode cX1_add 21 = .ok (.iload_n 1, 1) := by decide +kernel
theorem dX1_add_22 : decode cX1_add 22 = .ok (.iastore, 1) := by decide +kernel
theorem dX1_add_23 : decode cX1_add 23 = .ok (.aload_n 0, 1) := by decide +kernel
theorem dX1_add_24 : decode cX1_add 24 = .ok (.getfield 11, 3) := by decide +kernel
theorem dX1_add_27 : decode cX1_add 27 = .ok (.aload_n 0, 1) := by decide +kernel
theorem dX1_add_28 : decode cX1_add 28 = .ok (.getfield 21, 3) := by decide +kernel
theorem dX1_add_31 : decode cX1_add 31 = .ok (.iconst 3, 1) := by decide +kernel
theorem dX1_add_32 : decode cX1_add 32 = .ok (.imul, 1) := by decide +kernel
theorem dX1_add_33 : decode cX1_add 33 = .ok (.iconst 1, 1) := by decide +kernel
theorem dX1_add_34 : decode cX1_add 34 = .ok (.iadd, 1) := by decide +kernel
theorem dX1_add_35 : decode cX1_add 35 = .ok (.iload_n 2, 1) := by decide +kernel
theorem dX1_add_36 : decode cX1_add 36 = .ok (.iastore, 1) := by decide +kernel
theorem dX1_add_37 : decode cX1_add 37 = .ok (.aload_n 0, 1) := by decide +kernel
theorem dX1_add_38 : decode cX1_add 38 = .ok (.getfield 11, 3) := by decide +kernel
theorem dX1_add_41 : decode cX1_add 41 = .ok (.aload_n 0, 1) := by decide +kernel
theorem dX1_add_42 : decode cX1_add 42 = .ok (.getfield 21, 3) := by decide +kernel
theorem dX1_add_45 : decode cX1_add 45 = .ok (.iconst 3, 1) := by decide +kernel
theorem dX1_add_46 : decode cX1_add 46 = .ok (.imul, 1) := by decide +kernel
theorem dX1_add_47 : decode cX1_add 47 = .ok (.iconst 2, 1) := by decide +kernel
theorem dX1_add_48 : decode cX1_add 48 = .ok (.iadd, 1) := by decide +kernel
theorem dX1_add_49 : decode cX1_add 49 = .ok (.iload_n 3, 1) := by decide +kernel
theorem dX1_add_50 : decode cX1_add 50 = .ok (.iastore, 1) := by decide +kernel
theorem dX1_add_51 : decode cX1_add 51 = .ok (.aload_n 0, 1) := by decide +kernel
theorem dX1_add_52 : decode cX1_add 52 = .ok (.dup, 1) := by decide +kernel
theorem dX1_add_53 : decode cX1_add 53 = .ok (.getfield 21, 3) := by decide +kernel
theorem dX1_add_56 : decode cX1_add 56 = .ok (.iconst 1, 1) := by decide +kernel
theorem dX1_add_57 : decode cX1_add 57 = .ok (.iadd, 1) := by decide +kernel
theorem dX1_add_58 : decode cX1_add 58 = .ok (.putfield 21, 3) := by decide +kernel
theorem dX1_add_61 : decode cX1_add 61 = .ok (.iconst 1, 1) := by decide +kernel
theorem dX1_add_62 : decode cX1_add 62 = .ok (.ireturn, 1) := by decide +kernel
theorem dX1_takeBack_0 : decode cX1_takeBack 0 = .ok (.aload_n 0, 1) := by decide +kernel
theorem dX1_takeBack_1 : decode cX1_takeBack 1 = .ok (.getfield 21, 3) := by decide +kernel
theorem dX1_takeBack_4 : decode cX1_takeBack 4 = .ok (.ifCond .ne 4, 3) := by decide +kernel
theorem dX1_takeBack_7 : decode cX1_takeBack 7 = .ok (.return_, 1) := by decide +kernel
theorem dX1_takeBack_8 : decode cX1_takeBack 8 = .ok (.aload_n 0, 1) := by decide +kernel
theorem dX1_takeBack_9 : decode cX1_takeBack 9 = .ok (.dup, 1) := by decide +kernel
theorem dX1_takeBack_10 : decode cX1_takeBack 10 = .ok (.getfield 21, 3) := by decide +kernel
theorem dX1_takeBack_13 : decode cX1_takeBack 13 = .ok (.iconst 1, 1) := by decide +kernel
theorem dX1_takeBack_14 : decode cX1_takeBack 14 = .ok (.isub, 1) := by decide +kernel
theorem dX1_takeBack_15 : decode cX1_takeBack 15 = .ok (.putfield 21, 3) := by decide +kernel
theorem dX1_takeBack_18 : decode cX1_takeBack 18 = .ok (.aload_n 0, 1) := by decide +kernel
theorem dX1_takeBack_19 : decode cX1_takeBack 19 = .ok (.getfield 11, 3) := by decide +kernel
theorem dX1_takeBack_22 : decode cX1_takeBack 22 = .ok (.aload_n 0, 1) := by decide +kernel
theorem dX1_takeBack_23 : decode cX1_takeBack 23 = .ok (.getfield 21, 3) := by decide +kernel
theorem dX1_takeBack_26 : decode cX1_takeBack 26 = .ok (.iconst 3, 1) := by decide +kernel
theorem dX1_takeBack_27 : decode cX1_takeBack 27 = .ok (.imul, 1) := by decide +kernel
theorem dX1_takeBack_28 : decode cX1_takeBack 28 = .ok (.iconst 1, 1) := by decide +kernel
theorem dX1_takeBack_29 : decode cX1_takeBack 29 = .ok (.iadd, 1) := by decide +kernel
theorem dX1_takeBack_30 : decode cX1_takeBack 30 = .ok (.iaload, 1) := by decide +kernel
theorem dX1_takeBack_31 : decode cX1_takeBack 31 = .ok (.istore_n 2, 1) := by decide +kernel
theorem dX1_takeBack_32 : decode cX1_takeBack 32 = .ok (.aload_n 0, 1) := by decide +kernel
theorem dX1_takeBack_33 : decode cX1_takeBack 33 = .ok (.getfield 11, 3) := by decide +kernel
theorem dX1_takeBack_36 : decode cX1_takeBack 36 = .ok (.aload_n 0, 1) := by decide +kernel
theorem dX1_takeBack_37 : decode cX1_takeBack 37 = .ok (.getfield 21, 3) := by decide +kernel
theorem dX1_takeBack_40 : decode cX1_takeBack 40 = .ok (.iconst 3, 1) := by decide +kernel
theorem dX1_takeBack_41 : decode cX1_takeBack 41 = .ok (.imul, 1) := by decide +kernel
theorem dX1_takeBack_42 : decode cX1_takeBack 42 = .ok (.iconst 2, 1) := by decide +kernel
theorem dX1_takeBack_43 : decode cX1_takeBack 43 = .ok (.iadd, 1) := by decide +kernel
theorem dX1_takeBack_44 : decode cX1_takeBack 44 = .ok (.iaload, 1) := by decide +kernel
theorem dX1_takeBack_45 : decode cX1_takeBack 45 = .ok (.istore_n 3, 1) := by decide +kernel
theorem dX1_takeBack_46 : decode cX1_takeBack 46 = .ok (.aload_n 0, 1) := by decide +kernel
theorem dX1_takeBack_47 : decode cX1_takeBack 47 = .ok (.getfield 11, 3) := by decide +kernel
theorem dX1_takeBack_50 : decode cX1_takeBack 50 = .ok (.aload_n 0, 1) := by decide +kernel
theorem dX1_takeBack_51 : decode cX1_takeBack 51 = .ok (.getfield 21, 3) := by decide +kernel
theorem dX1_takeBack_54 : decode cX1_takeBack 54 = .ok (.iconst 3, 1) := by decide +kernel
theorem dX1_takeBack_55 : decode cX1_takeBack 55 = .ok (.imul, 1) := by decide +kernel
theorem dX1_takeBack_56 : decode cX1_takeBack 56 = .ok (.iaload, 1) := by decide +kernel
theorem dX1_takeBack_57 : decode cX1_takeBack 57 = .ok (.lookupswitch 48 #[(0, 27), (1, 40)], 27) := by decide +kernel
theorem dX1_takeBack_84 : decode cX1_takeBack 84 = .ok (.aload_n 1, 1) := by decide +kernel
theorem dX1_takeBack_85 : decode cX1_takeBack 85 = .ok (.iload_n 2, 1) := by decide +kernel
theorem dX1_takeBack_86 : decode cX1_takeBack 86 = .ok (.putfield 28, 3) := by decide +kernel
theorem dX1_takeBack_89 : decode cX1_takeBack 89 = .ok (.aload_n 1, 1) := by decide +kernel
theorem dX1_takeBack_90 : decode cX1_takeBack 90 = .ok (.iload_n 3, 1) := by decide +kernel
theorem dX1_takeBack_91 : decode cX1_takeBack 91 = .ok (.putfield 33, 3) := by decide +kernel
theorem dX1_takeBack_94 : decode cX1_takeBack 94 = .ok (.goto 18, 3) := by decide +kernel
theorem dX1_takeBack_97 : decode cX1_takeBack 97 = .ok (.aload_n 1, 1) := by decide +kernel
theorem dX1_takeBack_98 : decode cX1_takeBack 98 = .ok (.iload_n 2, 1) := by decide +kernel
theorem dX1_takeBack_99 : decode cX1_takeBack 99 = .ok (.putfield 36, 3) := by decide +kernel
theorem dX1_takeBack_102 : decode cX1_takeBack 102 = .ok (.goto 10, 3) := by decide +kernel
theorem dX1_takeBack_105 : decode cX1_takeBack 105 = .ok (.aload_n 1, 1) := by decide +kernel
theorem dX1_takeBack_106 : decode cX1_takeBack 106 = .ok (.getfield 39, 3) := by decide +kernel
theorem dX1_takeBack_109 : decode cX1_takeBack 109 = .ok (.iload_n 2, 1) := by decide +kernel
theorem dX1_takeBack_110 : decode cX1_takeBack 110 = .ok (.iload_n 3, 1) := by decide +kernel
theorem dX1_takeBack_111 : decode cX1_takeBack 111 = .ok (.iastore, 1) := by decide +kernel
theorem dX1_takeBack_112 : decode cX1_takeBack 112 = .ok (.return_, 1) := by decide +kernel
theorem dX1_keepImage_0 : decode cX1_keepImage 0 = .ok (.aload_n 0, 1) := by decide +kernel
theorem dX1_keepImage_1 : decode cX1_keepImage 1 = .ok (.getfield 25, 3) := by decide +kernel
theorem dX1_keepImage_4 : decode cX1_keepImage 4 = .ok (.iconst 3, 1) := by decide +kernel
theorem dX1_keepImage_5 : decode cX1_keepImage 5 = .ok (.if_icmp .lt 5, 3) := by decide +kernel
theorem dX1_keepImage_8 : decode cX1_keepImage 8 = .ok (.iconst 0, 1) := by decide +kernel
theorem dX1_keepImage_9 : decode cX1_keepImage 9 = .ok (.ireturn, 1) := by decide +kernel
theorem dX1_keepImage_10 : decode cX1_keepImage 10 = .ok (.aload_n 0, 1) := by decide +kernel
theorem dX1_keepImage_11 : decode cX1_keepImage 11 = .ok (.getfield 17, 3) := by decide +kernel
theorem dX1_keepImage_14 : decode cX1_keepImage 14 = .ok (.aload_n 0, 1) := by decide +kernel
theorem dX1_keepImage_15 : decode cX1_keepImage 15 = .ok (.getfield 25, 3) := by decide +kernel
theorem dX1_keepImage_18 : decode cX1_keepImage 18 = .ok (.aaload, 1) := by decide +kernel
theorem dX1_keepImage_19 : decode cX1_keepImage 19 = .ok (.ifnonnull 19, 3) := by decide +kernel
theorem dX1_keepImage_22 : decode cX1_keepImage 22 = .ok (.aload_n 0, 1) := by decide +kernel
theorem dX1_keepImage_23 : decode cX1_keepImage 23 = .ok (.getfield 17, 3) := by decide +kernel
theorem dX1_keepImage_26 : decode cX1_keepImage 26 = .ok (.aload_n 0, 1) := by decide +kernel
theorem dX1_keepImage_27 : decode cX1_keepImage 27 = .ok (.getfield 25, 3) := by decide +kernel
theorem dX1_keepImage_30 : decode cX1_keepImage 30 = .ok (.new 15, 3) := by decide +kernel
theorem dX1_keepImage_33 : decode cX1_keepImage 33 = .ok (.dup, 1) := by decide +kernel
theorem dX1_keepImage_34 : decode cX1_keepImage 34 = .ok (.invokespecial 42, 3) := by decide +kernel
theorem dX1_keepImage_37 : decode cX1_keepImage 37 = .ok (.aastore, 1) := by decide +kernel
theorem dX1_keepImage_38 : decode cX1_keepImage 38 = .ok (.aload_n 0, 1) := by decide +kernel
theorem dX1_keepImage_39 : decode cX1_keepImage 39 = .ok (.getfield 17, 3) := by decide +kernel
theorem dX1_keepImage_42 : decode cX1_keepImage 42 = .ok (.aload_n 0, 1) := by decide +kernel
theorem dX1_keepImage_43 : decode cX1_keepImage 43 = .ok (.getfield 25, 3) := by decide +kernel
theorem dX1_keepImage_46 : decode cX1_keepImage 46 = .ok (.aaload, 1) := by decide +kernel
theorem dX1_keepImage_47 : decode cX1_keepImage 47 = .ok (.aload_n 1, 1) := by decide +kernel
theorem dX1_keepImage_48 : decode cX1_keepImage 48 = .ok (.aload_n 0, 1) := by decide +kernel
theorem dX1_keepImage_49 : decode cX1_keepImage 49 = .ok (.iload_n 2, 1) := by decide +kernel
theorem dX1_keepImage_50 : decode cX1_keepImage 50 = .ok (.invokevirtual 43, 3) := by decide +kernel
theorem dX1_keepImage_53 : decode cX1_keepImage 53 = .ok (.aload_n 0, 1) := by decide +kernel
theorem dX1_keepImage_54 : decode cX1_keepImage 54 = .ok (.dup, 1) := by decide +kernel
theorem dX1_keepImage_55 : decode cX1_keepImage 55 = .ok (.getfield 25, 3) := by decide +kernel
theorem dX1_keepImage_58 : decode cX1_keepImage 58 = .ok (.iconst 1, 1) := by decide +kernel
theorem dX1_keepImage_59 : decode cX1_keepImage 59 = .ok (.iadd, 1) := by decide +kernel
theorem dX1_keepImage_60 : decode cX1_keepImage 60 = .ok (.putfield 25, 3) := by decide +kernel
theorem dX1_keepImage_63 : decode cX1_keepImage 63 = .ok (.iconst 1, 1) := by decide +kernel
theorem dX1_keepImage_64 : decode cX1_keepImage 64 = .ok (.ireturn, 1) := by decide +kernel
theorem dX1_takeImage_0 : decode cX1_takeImage 0 = .ok (.aload_n 0, 1) := by decide +kernel
theorem dX1_takeImage_1 : decode cX1_takeImage 1 = .ok (.getfield 25, 3) := by decide +kernel
theorem dX1_takeImage_4 : decode cX1_takeImage 4 = .ok (.ifCond .ne 5, 3) := by decide +kernel
theorem dX1_takeImage_7 : decode cX1_takeImage 7 = .ok (.aconst_null, 1) := by decide +kernel
theorem dX1_takeImage_8 : decode cX1_takeImage 8 = .ok (.areturn, 1) := by decide +kernel
theorem dX1_takeImage_9 : decode cX1_takeImage 9 = .ok (.aload_n 0, 1) := by decide +kernel
theorem dX1_takeImage_10 : decode cX1_takeImage 10 = .ok (.dup, 1) := by decide +kernel
theorem dX1_takeImage_11 : decode cX1_takeImage 11 = .ok (.getfield 25, 3) := by decide +kernel
theorem dX1_takeImage_14 : decode cX1_takeImage 14 = .ok (.iconst 1, 1) := by decide +kernel
theorem dX1_takeImage_15 : decode cX1_takeImage 15 = .ok (.isub, 1) := by decide +kernel
theorem dX1_takeImage_16 : decode cX1_takeImage 16 = .ok (.putfield 25, 3) := by decide +kernel
theorem dX1_takeImage_19 : decode cX1_takeImage 19 = .ok (.aload_n 0, 1) := by decide +kernel
theorem dX1_takeImage_20 : decode cX1_takeImage 20 = .ok (.getfield 17, 3) := by decide +kernel
theorem dX1_takeImage_23 : decode cX1_takeImage 23 = .ok (.aload_n 0, 1) := by decide +kernel
theorem dX1_takeImage_24 : decode cX1_takeImage 24 = .ok (.getfield 25, 3) := by decide +kernel
theorem dX1_takeImage_27 : decode cX1_takeImage 27 = .ok (.aaload, 1) := by decide +kernel
theorem dX1_takeImage_28 : decode cX1_takeImage 28 = .ok (.areturn, 1) := by decide +kernel
theorem dX2_init_0 : decode cX2_init 0 = .ok (.aload_n 0, 1) := by decide +kernel
theorem dX2_init_1 : decode cX2_init 1 = .ok (.invokespecial 3, 3) := by decide +kernel
theorem dX2_init_4 : decode cX2_init 4 = .ok (.aload_n 0, 1) := by decide +kernel
theorem dX2_init_5 : decode cX2_init 5 = .ok (.bipush 64, 2) := by decide +kernel
theorem dX2_init_7 : decode cX2_init 7 = .ok (.newarray .int, 2) := by decide +kernel
theorem dX2_init_9 : decode cX2_init 9 = .ok (.putfield 9, 3) := by decide +kernel
theorem dX2_init_12 : decode cX2_init 12 = .ok (.aload_n 0, 1) := by decide +kernel
theorem dX2_init_13 : decode cX2_init 13 = .ok (.bipush 24, 2) := by decide +kernel
theorem dX2_init_15 : decode cX2_init 15 = .ok (.newarray .int, 2) := by decide +kernel
theorem dX2_init_17 : decode cX2_init 17 = .ok (.putfield 15, 3) := by decide +kernel
theorem dX2_init_20 : decode cX2_init 20 = .ok (.aload_n 0, 1) := by decide +kernel
theorem dX2_init_21 : decode cX2_init 21 = .ok (.bipush 8, 2) := by decide +kernel
theorem dX2_init_23 : decode cX2_init 23 = .ok (.newarray .int, 2) := by decide +kernel
theorem dX2_init_25 : decode cX2_init 25 = .ok (.putfield 18, 3) := by decide +kernel
theorem dX2_init_28 : decode cX2_init 28 = .ok (.aload_n 0, 1) := by decide +kernel
theorem dX2_init_29 : decode cX2_init 29 = .ok (.bipush 8, 2) := by decide +kernel
theorem dX2_init_31 : decode cX2_init 31 = .ok (.newarray .int, 2) := by decide +kernel
theorem dX2_init_33 : decode cX2_init 33 = .ok (.putfield 21, 3) := by decide +kernel
theorem dX2_init_36 : decode cX2_init 36 = .ok (.aload_n 0, 1) := by decide +kernel
theorem dX2_init_37 : decode cX2_init 37 = .ok (.bipush 8, 2) := by decide +kernel
theorem dX2_init_39 : decode cX2_init 39 = .ok (.newarray .int, 2) := by decide +kernel
theorem dX2_init_41 : decode cX2_init 41 = .ok (.putfield 24, 3) := by decide +kernel
theorem dX2_init_44 : decode cX2_init 44 = .ok (.aload_n 0, 1) := by decide +kernel
theorem dX2_init_45 : decode cX2_init 45 = .ok (.bipush 8, 2) := by decide +kernel
theorem dX2_init_47 : decode cX2_init 47 = .ok (.newarray .int, 2) := by decide +kernel
theorem dX2_init_49 : decode cX2_init 49 = .ok (.putfield 27, 3) := by decide +kernel
theorem dX2_init_52 : decode cX2_init 52 = .ok (.aload_n 0, 1) := by decide +kernel
theorem dX2_init_53 : decode cX2_init 53 = .ok (.bipush 8, 2) := by decide +kernel
theorem dX2_init_55 : decode cX2_init 55 = .ok (.newarray .int, 2) := by decide +kernel
theorem dX2_init_57 : decode cX2_init 57 = .ok (.putfield 30, 3) := by decide +kernel
theorem dX2_init_60 : decode cX2_init 60 = .ok (.aload_n 0, 1) := by decide +kernel
theorem dX2_init_61 : decode cX2_init 61 = .ok (.aload_n 1, 1) := by decide +kernel
theorem dX2_init_62 : decode cX2_init 62 = .ok (.putfield 33, 3) := by decide +kernel
theorem dX2_init_65 : decode cX2_init 65 = .ok (.aload_n 0, 1) := by decide +kernel
theorem dX2_init_66 : decode cX2_init 66 = .ok (.iload_n 2, 1) := by decide +kernel
theorem dX2_init_67 : decode cX2_init 67 = .ok (.putfield 37, 3) := by decide +kernel
theorem dX2_init_70 : decode cX2_init 70 = .ok (.aload_n 0, 1) := by decide +kernel
theorem dX2_init_71 : decode cX2_init 71 = .ok (.iload_n 2, 1) := by decide +kernel
theorem dX2_init_72 : decode cX2_init 72 = .ok (.ifCond .eq 9, 3) := by decide +kernel
theorem dX2_init_75 : decode cX2_init 75 = .ok (.sipush 192, 3) := by decide +kernel
theorem dX2_init_78 : decode cX2_init 78 = .ok (.goto 4, 3) := by decide +kernel
theorem dX2_init_81 : decode cX2_init 81 = .ok (.iconst 0, 1) := by decide +kernel
theorem dX2_init_82 : decode cX2_init 82 = .ok (.newarray .int, 2) := by decide +kernel
theorem dX2_init_84 : decode cX2_init 84 = .ok (.putfield 41, 3) := by decide +kernel
theorem dX2_init_87 : decode cX2_init 87 = .ok (.aload_n 0, 1) := by decide +kernel
theorem dX2_init_88 : decode cX2_init 88 = .ok (.iload_n 2, 1) := by decide +kernel
theorem dX2_init_89 : decode cX2_init 89 = .ok (.ifCond .eq 8, 3) := by decide +kernel
theorem dX2_init_92 : decode cX2_init 92 = .ok (.bipush 24, 2) := by decide +kernel
theorem dX2_init_94 : decode cX2_init 94 = .ok (.goto 4, 3) := by decide +kernel
theorem dX2_init_97 : decode cX2_init 97 = .ok (.iconst 0, 1) := by decide +kernel
theorem dX2_init_98 : decode cX2_init 98 = .ok (.newarray .int, 2) := by decide +kernel
theorem dX2_init_100 : decode cX2_init 100 = .ok (.putfield 44, 3) := by decide +kernel
theorem dX2_init_103 : decode cX2_init 103 = .ok (.aload_n 0, 1) := by decide +kernel
theorem dX2_init_104 : decode cX2_init 104 = .ok (.invokevirtual 47, 3) := by decide +kernel
theorem dX2_init_107 : decode cX2_init 107 = .ok (.return_, 1) := by decide +kernel
theorem dX2_goByNumber_0 : decode cX2_goByNumber 0 = .ok (.iconst 0, 1) := by decide +kernel
theorem dX2_goByNumber_1 : decode cX2_goByNumber 1 = .ok (.istore_n 1, 1) := by decide +kernel
theorem dX2_goByNumber_2 : decode cX2_goByNumber 2 = .ok (.iload_n 1, 1) := by decide +kernel
theorem dX2_goByNumber_3 : decode cX2_goByNumber 3 = .ok (.bipush 8, 2) := by decide +kernel
theorem dX2_goByNumber_5 : decode cX2_goByNumber 5 = .ok (.if_icmp .ge 16, 3) := by decide +kernel
theorem dX2_goByNumber_8 : decode cX2_goByNumber 8 = .ok (.aload_n 0, 1) := by decide +kernel
theorem dX2_goByNumber_9 : decode cX2_goByNumber 9 = .ok (.getfield 27, 3) := by decide +kernel
theorem dX2_goByNumber_12 : decode cX2_goByNumber 12 = .ok (.iload_n 1, 1) := by decide +kernel
theorem dX2_goByNumber_13 : decode cX2_goByNumber 13 = .ok (.iload_n 1, 1) := by decide +kernel
theorem dX2_goByNumber_14 : decode cX2_goByNumber 14 = .ok (.iastore, 1) := by decide +kernel
theorem dX2_goByNumber_15 : decode cX2_goByNumber 15 = .ok (.iinc 1 1, 3) := by decide +kernel
theorem dX2_goByNumber_18 : decode cX2_goByNumber 18 = .ok (.goto (-16), 3) := by decide +kernel
theorem dX2_goByNumber_21 : decode cX2_goByNumber 21 = .ok (.return_, 1) := by decide +kernel
theorem dX2_goByLot_0 : decode cX2_goByLot 0 = .ok (.aload_n 0, 1) := by decide +kernel
theorem dX2_goByLot_1 : decode cX2_goByLot 1 = .ok (.invokevirtual 47, 3) := by decide +kernel
theorem dX2_goByLot_4 : decode cX2_goByLot 4 = .ok (.iload_n 1, 1) := by decide +kernel
theorem dX2_goByLot_5 : decode cX2_goByLot 5 = .ok (.istore_n 2, 1) := by decide +kernel
theorem dX2_goByLot_6 : decode cX2_goByLot 6 = .ok (.aload_n 0, 1) := by decide +kernel
theorem dX2_goByLot_7 : decode cX2_goByLot 7 = .ok (.getfield 33, 3) := by decide +kernel
theorem dX2_goByLot_10 : decode cX2_goByLot 10 = .ok (.getfield 50, 3) := by decide +kernel
theorem dX2_goByLot_13 : decode cX2_goByLot 13 = .ok (.iconst 1, 1) := by decide +kernel
theorem dX2_goByLot_14 : decode cX2_goByLot 14 = .ok (.isub, 1) := by decide +kernel
theorem dX2_goByLot_15 : decode cX2_goByLot 15 = .ok (.istore_n 3, 1) := by decide +kernel
theorem dX2_goByLot_16 : decode cX2_goByLot 16 = .ok (.iload_n 3, 1) := by decide +kernel
theorem dX2_goByLot_17 : decode cX2_goByLot 17 = .ok (.iconst 1, 1) := by decide +kernel
theorem dX2_goByLot_18 : decode cX2_goByLot 18 = .ok (.if_icmp .lt 62, 3) := by decide +kernel
theorem dX2_goByLot_21 : decode cX2_goByLot 21 = .ok (.iload_n 2, 1) := by decide +kernel
theorem dX2_goByLot_22 : decode cX2_goByLot 22 = .ok (.ldc 56, 2) := by decide +kernel
theorem dX2_goByLot_24 : decode cX2_goByLot 24 = .ok (.imul, 1) := by decide +kernel
theorem dX2_goByLot_25 : decode cX2_goByLot 25 = .ok (.sipush 12345, 3) := by decide +kernel
theorem dX2_goByLot_28 : decode cX2_goByLot 28 = .ok (.iadd, 1) := by decide +kernel
theorem dX2_goByLot_29 : decode cX2_goByLot 29 = .ok (.istore_n 2, 1) := by decide +kernel
theorem dX2_goByLot_30 : decode cX2_goByLot 30 = .ok (.iload_n 2, 1) := by decide +kernel
theorem dX2_goByLot_31 : decode cX2_goByLot 31 = .ok (.bipush 16, 2) := by decide +kernel
theorem dX2_goByLot_33 : decode cX2_goByLot 33 = .ok (.iushr, 1) := by decide +kernel
theorem dX2_goByLot_34 : decode cX2_goByLot 34 = .ok (.sipush 32767, 3) := by decide +kernel
theorem dX2_goByLot_37 : decode cX2_goByLot 37 = .ok (.iand, 1) := by decide +kernel
theorem dX2_goByLot_38 : decode cX2_goByLot 38 = .ok (.iload_n 3, 1) := by decide +kernel
theorem dX2_goByLot_39 : decode cX2_goByLot 39 = .ok (.iconst 1, 1) := by decide +kernel
theorem dX2_goByLot_40 : decode cX2_goByLot 40 = .ok (.iadd, 1) := by decide +kernel
theorem dX2_goByLot_41 : decode cX2_goByLot 41 = .ok (.irem, 1) := by decide +kernel
theorem dX2_goByLot_42 : decode cX2_goByLot 42 = .ok (.istore 4, 2) := by decide +kernel
theorem dX2_goByLot_44 : decode cX2_goByLot 44 = .ok (.aload_n 0, 1) := by decide +kernel
theorem dX2_goByLot_45 : decode cX2_goByLot 45 = .ok (.getfield 27, 3) := by decide +kernel
theorem dX2_goByLot_48 : decode cX2_goByLot 48 = .ok (.iload 4, 2) := by decide +kernel
theorem dX2_goByLot_50 : decode cX2_goByLot 50 = .ok (.iaload, 1) := by decide +kernel
theorem dX2_goByLot_51 : decode cX2_goByLot 51 = .ok (.istore 5, 2) := by decide +kernel
theorem dX2_goByLot_53 : decode cX2_goByLot 53 = .ok (.aload_n 0, 1) := by decide +kernel
theorem dX2_goByLot_54 : decode cX2_goByLot 54 = .ok (.getfield 27, 3) := by decide +kernel
theorem dX2_goByLot_57 : decode cX2_goByLot 57 = .ok (.iload 4, 2) := by decide +kernel
theorem dX2_goByLot_59 : decode cX2_goByLot 59 = .ok (.aload_n 0, 1) := by decide +kernel
theorem dX2_goByLot_60 : decode cX2_goByLot 60 = .ok (.getfield 27, 3) := by decide +kernel
theorem dX2_goByLot_63 : decode cX2_goByLot 63 = .ok (.iload_n 3, 1) := by decide +kernel
theorem dX2_goByLot_64 : decode cX2_goByLot 64 = .ok (.iaload, 1) := by decide +kernel
theorem dX2_goByLot_65 : decode cX2_goByLot 65 = .ok (.iastore, 1) := by decide +kernel
theorem dX2_goByLot_66 : decode cX2_goByLot 66 = .ok (.aload_n 0, 1) := by decide +kernel
theorem dX2_goByLot_67 : decode cX2_goByLot 67 = .ok (.getfield 27, 3) := by decide +kernel
theorem dX2_goByLot_70 : decode cX2_goByLot 70 = .ok (.iload_n 3, 1) := by decide +kernel
theorem dX2_goByLot_71 : decode cX2_goByLot 71 = .ok (.iload 5, 2) := by decide +kernel
theorem dX2_goByLot_73 : decode cX2_goByLot 73 = .ok (.iastore, 1) := by decide +kernel
theorem dX2_goByLot_74 : decode cX2_goByLot 74 = .ok (.iinc 3 (-1), 3) := by decide +kernel
theorem dX2_goByLot_77 : decode cX2_goByLot 77 = .ok (.goto (-61), 3) := by decide +kernel
theorem dX2_goByLot_80 : decode cX2_goByLot 80 = .ok (.iload_n 2, 1) := by decide +kernel
theorem dX2_goByLot_81 : decode cX2_goByLot 81 = .ok (.ireturn, 1) := by decide +kernel
theorem dX2_run_0 : decode cX2_run 0 = .ok (.aload_n 0, 1) := by decide +kernel
theorem dX2_run_1 : decode cX2_run 1 = .ok (.aload_n 1, 1) := by decide +kernel
theorem dX2_run_2 : decode cX2_run 2 = .ok (.invokevirtual 57, 3) := by decide +kernel
theorem dX2_run_5 : decode cX2_run 5 = .ok (.iconst 0, 1) := by decide +kernel
theorem dX2_run_6 : decode cX2_run 6 = .ok (.istore_n 3, 1) := by decide +kernel
theorem dX2_run_7 : decode cX2_run 7 = .ok (.iload_n 3, 1) := by decide +kernel
theorem dX2_run_8 : decode cX2_run 8 = .ok (.bipush 24, 2) := by decide +kernel
theorem dX2_run_10 : decode cX2_run 10 = .ok (.if_icmp .ge 52, 3) := by decide +kernel
theorem dX2_run_13 : decode cX2_run 13 = .ok (.aload_n 0, 1) := by decide +kernel
theorem dX2_run_14 : decode cX2_run 14 = .ok (.getfield 61, 3) := by decide +kernel
theorem dX2_run_17 : decode cX2_run 17 = .ok (.iload_n 3, 1) := by decide +kernel
theorem dX2_run_18 : decode cX2_run 18 = .ok (.ishr, 1) := by decide +kernel
theorem dX2_run_19 : decode cX2_run 19 = .ok (.iconst 1, 1) := by decide +kernel
theorem dX2_run_20 : decode cX2_run 20 = .ok (.iand, 1) := by decide +kernel
theorem dX2_run_21 : decode cX2_run 21 = .ok (.ifCond .eq 35, 3) := by decide +kernel
theorem dX2_run_24 : decode cX2_run 24 = .ok (.aload_n 0, 1) := by decide +kernel
theorem dX2_run_25 : decode cX2_run 25 = .ok (.iload_n 3, 1) := by decide +kernel
theorem dX2_run_26 : decode cX2_run 26 = .ok (.invokevirtual 64, 3) := by decide +kernel
theorem dX2_run_29 : decode cX2_run 29 = .ok (.aload_n 0, 1) := by decide +kernel
theorem dX2_run_30 : decode cX2_run 30 = .ok (.getfield 33, 3) := by decide +kernel
theorem dX2_run_33 : decode cX2_run 33 = .ok (.iload_n 3, 1) := by decide +kernel
theorem dX2_run_34 : decode cX2_run 34 = .ok (.invokevirtual 68, 3) := by decide +kernel
theorem dX2_run_37 : decode cX2_run 37 = .ok (.ifCond .eq 9, 3) := by decide +kernel
theorem dX2_run_40 : decode cX2_run 40 = .ok (.aload_n 0, 1) := by decide +kernel
theorem dX2_run_41 : decode cX2_run 41 = .ok (.iload_n 3, 1) := by decide +kernel
theorem dX2_run_42 : decode cX2_run 42 = .ok (.iload_n 2, 1) := by decide +kernel
theorem dX2_run_43 : decode cX2_run 43 = .ok (.invokevirtual 72, 3) := by decide +kernel
theorem dX2_run_46 : decode cX2_run 46 = .ok (.aload_n 0, 1) := by decide +kernel
theorem dX2_run_47 : decode cX2_run 47 = .ok (.iload_n 3, 1) := by decide +kernel
theorem dX2_run_48 : decode cX2_run 48 = .ok (.invokevirtual 76, 3) := by decide +kernel
theorem dX2_run_51 : decode cX2_run 51 = .ok (.aload_n 0, 1) := by decide +kernel
theorem dX2_run_52 : decode cX2_run 52 = .ok (.iload_n 3, 1) := by decide +kernel
theorem dX2_run_53 : decode cX2_run 53 = .ok (.invokevirtual 79, 3) := by decide +kernel
theorem dX2_run_56 : decode cX2_run 56 = .ok (.iinc 3 1, 3) := by decide +kernel
theorem dX2_run_59 : decode cX2_run 59 = .ok (.goto (-52), 3) := by decide +kernel
theorem dX2_run_62 : decode cX2_run 62 = .ok (.aload_n 0, 1) := by decide +kernel
theorem dX2_run_63 : decode cX2_run 63 = .ok (.invokevirtual 82, 3) := by decide +kernel
theorem dX2_run_66 : decode cX2_run 66 = .ok (.return_, 1) := by decide +kernel
theorem dX2_clear_0 : decode cX2_clear 0 = .ok (.iconst 0, 1) := by decide +kernel
theorem dX2_clear_1 : decode cX2_clear 1 = .ok (.istore_n 2, 1) := by decide +kernel
theorem dX2_clear_2 : decode cX2_clear 2 = .ok (.iload_n 2, 1) := by decide +kernel
theorem dX2_clear_3 : decode cX2_clear 3 = .ok (.aload_n 0, 1) := by decide +kernel
theorem dX2_clear_4 : decode cX2_clear 4 = .ok (.getfield 15, 3) := by decide +kernel
theorem dX2_clear_7 : decode cX2_clear 7 = .ok (.arraylength, 1) := by decide +kernel
theorem dX2_clear_8 : decode cX2_clear 8 = .ok (.if_icmp .ge 16, 3) := by decide +kernel
theorem dX2_clear_11 : decode cX2_clear 11 = .ok (.aload_n 0, 1) := by decide +kernel
theorem dX2_clear_12 : decode cX2_clear 12 = .ok (.getfield 15, 3) := by decide +kernel
theorem dX2_clear_15 : decode cX2_clear 15 = .ok (.iload_n 2, 1) := by decide +kernel
theorem dX2_clear_16 : decode cX2_clear 16 = .ok (.iconst 0, 1) := by decide +kernel
theorem dX2_clear_17 : decode cX2_clear 17 = .ok (.iastore, 1) := by decide +kernel
theorem dX2_clear_18 : decode cX2_clear 18 = .ok (.iinc 2 1, 3) := by decide +kernel
theorem dX2_clear_21 : decode cX2_clear 21 = .ok (.goto (-19), 3) := by decide +kernel
theorem dX2_clear_24 : decode cX2_clear 24 = .ok (.iconst 0, 1) := by decide +kernel
theorem dX2_clear_25 : decode cX2_clear 25 = .ok (.istore_n 2, 1) := by decide +kernel
theorem dX2_clear_26 : decode cX2_clear 26 = .ok (.iload_n 2, 1) := by decide +kernel
theorem dX2_clear_27 : decode cX2_clear 27 = .ok (.aload_n 0, 1) := by decide +kernel
theorem dX2_clear_28 : decode cX2_clear 28 = .ok (.getfield 41, 3) := by decide +kernel
theorem dX2_clear_31 : decode cX2_clear 31 = .ok (.arraylength, 1) := by decide +kernel
theorem dX2_clear_32 : decode cX2_clear 32 = .ok (.if_icmp .ge 16, 3) := by decide +kernel
theorem dX2_clear_35 : decode cX2_clear 35 = .ok (.aload_n 0, 1) := by decide +kernel
theorem dX2_clear_36 : decode cX2_clear 36 = .ok (.getfield 41, 3) := by decide +kernel
theorem dX2_clear_39 : decode cX2_clear 39 = .ok (.iload_n 2, 1) := by decide +kernel
theorem dX2_clear_40 : decode cX2_clear 40 = .ok (.iconst (-1), 1) := by decide +kernel
theorem dX2_clear_41 : decode cX2_clear 41 = .ok (.iastore, 1) := by decide +kernel
theorem dX2_clear_42 : decode cX2_clear 42 = .ok (.iinc 2 1, 3) := by decide +kernel
theorem dX2_clear_45 : decode cX2_clear 45 = .ok (.goto (-19), 3) := by decide +kernel
theorem dX2_clear_48 : decode cX2_clear 48 = .ok (.iconst 0, 1) := by decide +kernel
theorem dX2_clear_49 : decode cX2_clear 49 = .ok (.istore_n 2, 1) := by decide +kernel
theorem dX2_clear_50 : decode cX2_clear 50 = .ok (.iload_n 2, 1) := by decide +kernel
theorem dX2_clear_51 : decode cX2_clear 51 = .ok (.aload_n 0, 1) := by decide +kernel
theorem dX2_clear_52 : decode cX2_clear 52 = .ok (.getfield 44, 3) := by decide +kernel
theorem dX2_clear_55 : decode cX2_clear 55 = .ok (.arraylength, 1) := by decide +kernel
theorem dX2_clear_56 : decode cX2_clear 56 = .ok (.if_icmp .ge 16, 3) := by decide +kernel
theorem dX2_clear_59 : decode cX2_clear 59 = .ok (.aload_n 0, 1) := by decide +kernel
theorem dX2_clear_60 : decode cX2_clear 60 = .ok (.getfield 44, 3) := by decide +kernel
theorem dX2_clear_63 : decode cX2_clear 63 = .ok (.iload_n 2, 1) := by decide +kernel
theorem dX2_clear_64 : decode cX2_clear 64 = .ok (.iconst 0, 1) := by decide +kernel
theorem dX2_clear_65 : decode cX2_clear 65 = .ok (.iastore, 1) := by decide +kernel
theorem dX2_clear_66 : decode cX2_clear 66 = .ok (.iinc 2 1, 3) := by decide +kernel
theorem dX2_clear_69 : decode cX2_clear 69 = .ok (.goto (-19), 3) := by decide +kernel
theorem dX2_clear_72 : decode cX2_clear 72 = .ok (.aload_n 0, 1) := by decide +kernel
theorem dX2_clear_73 : decode cX2_clear 73 = .ok (.iconst 0, 1) := by decide +kernel
theorem dX2_clear_74 : decode cX2_clear 74 = .ok (.putfield 85, 3) := by decide +kernel
theorem dX2_clear_77 : decode cX2_clear 77 = .ok (.aload_n 0, 1) := by decide +kernel
theorem dX2_clear_78 : decode cX2_clear 78 = .ok (.iconst 1, 1) := by decide +kernel
theorem dX2_clear_79 : decode cX2_clear 79 = .ok (.aload_n 0, 1) := by decide +kernel
theorem dX2_clear_80 : decode cX2_clear 80 = .ok (.getfield 33, 3) := by decide +kernel
theorem dX2_clear_83 : decode cX2_clear 83 = .ok (.getfield 88, 3) := by decide +kernel
theorem dX2_clear_86 : decode cX2_clear 86 = .ok (.ishl, 1) := by decide +kernel
theorem dX2_clear_87 : decode cX2_clear 87 = .ok (.iconst 1, 1) := by decide +kernel
theorem dX2_clear_88 : decode cX2_clear 88 = .ok (.isub, 1) := by decide +kernel
theorem dX2_clear_89 : decode cX2_clear 89 = .ok (.putfield 91, 3) := by decide +kernel
theorem dX2_clear_92 : decode cX2_clear 92 = .ok (.aload_n 0, 1) := by decide +kernel
theorem dX2_clear_93 : decode cX2_clear 93 = .ok (.bipush 23, 2) := by decide +kernel
theorem dX2_clear_95 : decode cX2_clear 95 = .ok (.putfield 94, 3) := by decide +kernel
theorem dX2_clear_98 : decode cX2_clear 98 = .ok (.aload_n 0, 1) := by decide +kernel
theorem dX2_clear_99 : decode cX2_clear 99 = .ok (.iconst 0, 1) := by decide +kernel
theorem dX2_clear_100 : decode cX2_clear 100 = .ok (.putfield 61, 3) := by decide +kernel
theorem dX2_clear_103 : decode cX2_clear 103 = .ok (.aload_n 0, 1) := by decide +kernel
theorem dX2_clear_104 : decode cX2_clear 104 = .ok (.getfield 33, 3) := by decide +kernel
theorem dX2_clear_107 : decode cX2_clear 107 = .ok (.getfield 97, 3) := by decide +kernel
theorem dX2_clear_110 : decode cX2_clear 110 = .ok (.istore_n 2, 1) := by decide +kernel
theorem dX2_clear_111 : decode cX2_clear 111 = .ok (.iload_n 2, 1) := by decide +kernel
theorem dX2_clear_112 : decode cX2_clear 112 = .ok (.istore_n 3, 1) := by decide +kernel
theorem dX2_clear_113 : decode cX2_clear 113 = .ok (.iload_n 2, 1) := by decide +kernel
theorem dX2_clear_114 : decode cX2_clear 114 = .ok (.ifCond .le 28, 3) := by decide +kernel
theorem dX2_clear_117 : decode cX2_clear 117 = .ok (.iload_n 3, 1) := by decide +kernel
theorem dX2_clear_118 : decode cX2_clear 118 = .ok (.bipush 24, 2) := by decide +kernel
theorem dX2_clear_120 : decode cX2_clear 120 = .ok (.if_icmp .ge 22, 3) := by decide +kernel
theorem dX2_clear_123 : decode cX2_clear 123 = .ok (.aload_n 0, 1) := by decide +kernel
theorem dX2_clear_124 : decode cX2_clear 124 = .ok (.dup, 1) := by decide +kernel
theorem dX2_clear_125 : decode cX2_clear 125 = .ok (.getfield 61, 3) := by decide +kernel
theorem dX2_clear_128 : decode cX2_clear 128 = .ok (.iconst 1, 1) := by decide +kernel
theorem dX2_clear_129 : decode cX2_clear 129 = .ok (.iload_n 3, 1) := by decide +kernel
theorem dX2_clear_130 : decode cX2_clear 130 = .ok (.ishl, 1) := by decide +kernel
theorem dX2_clear_131 : decode cX2_clear 131 = .ok (.ior, 1) := by decide +kernel
theorem dX2_clear_132 : decode cX2_clear 132 = .ok (.putfield 61, 3) := by decide +kernel
theorem dX2_clear_135 : decode cX2_clear 135 = .ok (.iload_n 3, 1) := by decide +kernel
theorem dX2_clear_136 : decode cX2_clear 136 = .ok (.iload_n 2, 1) := by decide +kernel
theorem dX2_clear_137 : decode cX2_clear 137 = .ok (.iadd, 1) := by decide +kernel
theorem dX2_clear_138 : decode cX2_clear 138 = .ok (.istore_n 3, 1) := by decide +kernel
theorem dX2_clear_139 : decode cX2_clear 139 = .ok (.goto (-26), 3) := by decide +kernel
theorem dX2_clear_142 : decode cX2_clear 142 = .ok (.iconst 0, 1) := by decide +kernel
theorem dX2_clear_143 : decode cX2_clear 143 = .ok (.istore_n 3, 1) := by decide +kernel
theorem dX2_clear_144 : decode cX2_clear 144 = .ok (.iload_n 3, 1) := by decide +kernel
theorem dX2_clear_145 : decode cX2_clear 145 = .ok (.aload_n 0, 1) := by decide +kernel
theorem dX2_clear_146 : decode cX2_clear 146 = .ok (.getfield 33, 3) := by decide +kernel
theorem dX2_clear_149 : decode cX2_clear 149 = .ok (.getfield 50, 3) := by decide +kernel
theorem dX2_clear_152 : decode cX2_clear 152 = .ok (.if_icmp .ge 17, 3) := by decide +kernel
theorem dX2_clear_155 : decode cX2_clear 155 = .ok (.aload_n 0, 1) := by decide +kernel
theorem dX2_clear_156 : decode cX2_clear 156 = .ok (.iload_n 3, 1) := by decide +kernel
theorem dX2_clear_157 : decode cX2_clear 157 = .ok (.aload_n 1, 1) := by decide +kernel
theorem dX2_clear_158 : decode cX2_clear 158 = .ok (.iload_n 3, 1) := by decide +kernel
theorem dX2_clear_159 : decode cX2_clear 159 = .ok (.iaload, 1) := by decide +kernel
theorem dX2_clear_160 : decode cX2_clear 160 = .ok (.invokevirtual 100, 3) := by decide +kernel
theorem dX2_clear_163 : decode cX2_clear 163 = .ok (.iinc 3 1, 3) := by decide +kernel
theorem dX2_clear_166 : decode cX2_clear 166 = .ok (.goto (-22), 3) := by decide +kernel
theorem dX2_clear_169 : decode cX2_clear 169 = .ok (.return_, 1) := by decide +kernel
theorem dX2_clearGuest_0 : decode cX2_clearGuest 0 = .ok (.iconst 0, 1) := by decide +kernel
theorem dX2_clearGuest_1 : decode cX2_clearGuest 1 = .ok (.istore_n 3, 1) := by decide +kernel
theorem dX2_clearGuest_2 : decode cX2_clearGuest 2 = .ok (.iload_n 3, 1) := by decide +kernel
theorem dX2_clearGuest_3 : decode cX2_clearGuest 3 = .ok (.bipush 8, 2) := by decide +kernel
theorem dX2_clearGuest_5 : decode cX2_clearGuest 5 = .ok (.if_icmp .ge 21, 3) := by decide +kernel
theorem dX2_clearGuest_8 : decode cX2_clearGuest 8 = .ok (.aload_n 0, 1) := by decide +kernel
theorem dX2_clearGuest_9 : decode cX2_clearGuest 9 = .ok (.getfield 9, 3) := by decide +kernel
theorem dX2_clearGuest_12 : decode cX2_clearGuest 12 = .ok (.iload_n 1, 1) := by decide +kernel
theorem dX2_clearGuest_13 : decode cX2_clearGuest 13 = .ok (.bipush 8, 2) := by decide +kernel
theorem dX2_clearGuest_15 : decode cX2_clearGuest 15 = .ok (.imul, 1) := by decide +kernel
theorem dX2_clearGuest_16 : decode cX2_clearGuest 16 = .ok (.iload_n 3, 1) := by decide +kernel
theorem dX2_clearGuest_17 : decode cX2_clearGuest 17 = .ok (.iadd, 1) := by decide +kernel
theorem dX2_clearGuest_18 : decode cX2_clearGuest 18 = .ok (.iconst 0, 1) := by decide +kernel
theorem dX2_clearGuest_19 : decode cX2_clearGuest 19 = .ok (.iastore, 1) := by decide +kernel
theorem dX2_clearGuest_20 : decode cX2_clearGuest 20 = .ok (.iinc 3 1, 3) := by decide +kernel
theorem dX2_clearGuest_23 : decode cX2_clearGuest 23 = .ok (.goto (-21), 3) := by decide +kernel
theorem dX2_clearGuest_26 : decode cX2_clearGuest 26 = .ok (.aload_n 0, 1) := by decide +kernel
theorem dX2_clearGuest_27 : decode cX2_clearGuest 27 = .ok (.getfield 9, 3) := by decide +kernel
theorem dX2_clearGuest_30 : decode cX2_clearGuest 30 = .ok (.iload_n 1, 1) := by decide +kernel
theorem dX2_clearGuest_31 : decode cX2_clearGuest 31 = .ok (.bipush 8, 2) := by decide +kernel
theorem dX2_clearGuest_33 : decode cX2_clearGuest 33 = .ok (.imul, 1) := by decide +kernel
theorem dX2_clearGuest_34 : decode cX2_clearGuest 34 = .ok (.iconst 0, 1) := by decide +kernel
theorem dX2_clearGuest_35 : decode cX2_clearGuest 35 = .ok (.iadd, 1) := by decide +kernel
theorem dX2_clearGuest_36 : decode cX2_clearGuest 36 = .ok (.iload_n 2, 1) := by decide +kernel
theorem dX2_clearGuest_37 : decode cX2_clearGuest 37 = .ok (.iastore, 1) := by decide +kernel
theorem dX2_clearGuest_38 : decode cX2_clearGuest 38 = .ok (.aload_n 0, 1) := by decide +kernel
theorem dX2_clearGuest_39 : decode cX2_clearGuest 39 = .ok (.getfield 9, 3) := by decide +kernel
theorem dX2_clearGuest_42 : decode cX2_clearGuest 42 = .ok (.iload_n 1, 1) := by decide +kernel
theorem dX2_clearGuest_43 : decode cX2_clearGuest 43 = .ok (.bipush 8, 2) := by decide +kernel
theorem dX2_clearGuest_45 : decode cX2_clearGuest 45 = .ok (.imul, 1) := by decide +kernel
theorem dX2_clearGuest_46 : decode cX2_clearGuest 46 = .ok (.iconst 1, 1) := by decide +kernel
theorem dX2_clearGuest_47 : decode cX2_clearGuest 47 = .ok (.iadd, 1) := by decide +kernel
theorem dX2_clearGuest_48 : decode cX2_clearGuest 48 = .ok (.iconst (-1), 1) := by decide +kernel
theorem dX2_clearGuest_49 : decode cX2_clearGuest 49 = .ok (.iastore, 1) := by decide +kernel
theorem dX2_clearGuest_50 : decode cX2_clearGuest 50 = .ok (.aload_n 0, 1) := by decide +kernel
theorem dX2_clearGuest_51 : decode cX2_clearGuest 51 = .ok (.getfield 18, 3) := by decide +kernel
theorem dX2_clearGuest_54 : decode cX2_clearGuest 54 = .ok (.iload_n 1, 1) := by decide +kernel
theorem dX2_clearGuest_55 : decode cX2_clearGuest 55 = .ok (.iconst (-1), 1) := by decide +kernel
theorem dX2_clearGuest_56 : decode cX2_clearGuest 56 = .ok (.iastore, 1) := by decide +kernel
theorem dX2_clearGuest_57 : decode cX2_clearGuest 57 = .ok (.aload_n 0, 1) := by decide +kernel
theorem dX2_clearGuest_58 : decode cX2_clearGuest 58 = .ok (.getfield 21, 3) := by decide +kernel
theorem dX2_clearGuest_61 : decode cX2_clearGuest 61 = .ok (.iload_n 1, 1) := by decide +kernel
theorem dX2_clearGuest_62 : decode cX2_clearGuest 62 = .ok (.iconst (-1), 1) := by decide +kernel
theorem dX2_clearGuest_63 : decode cX2_clearGuest 63 = .ok (.iastore, 1) := by decide +kernel
theorem dX2_clearGuest_64 : decode cX2_clearGuest 64 = .ok (.aload_n 0, 1) := by decide +kernel
theorem dX2_clearGuest_65 : decode cX2_clearGuest 65 = .ok (.getfield 24, 3) := by decide +kernel
theorem dX2_clearGuest_68 : decode cX2_clearGuest 68 = .ok (.iload_n 1, 1) := by decide +kernel
theorem dX2_clearGuest_69 : decode cX2_clearGuest 69 = .ok (.iconst (-1), 1) := by decide +kernel
theorem dX2_clearGuest_70 : decode cX2_clearGuest 70 = .ok (.iastore, 1) := by decide +kernel
theorem dX2_clearGuest_71 : decode cX2_clearGuest 71 = .ok (.aload_n 0, 1) := by decide +kernel
theorem dX2_clearGuest_72 : decode cX2_clearGuest 72 = .ok (.dup, 1) := by decide +kernel
theorem dX2_clearGuest_73 : decode cX2_clearGuest 73 = .ok (.getfield 61, 3) := by decide +kernel
theorem dX2_clearGuest_76 : decode cX2_clearGuest 76 = .ok (.iconst 1, 1) := by decide +kernel
theorem dX2_clearGuest_77 : decode cX2_clearGuest 77 = .ok (.iload_n 2, 1) := by decide +kernel
theorem dX2_clearGuest_78 : decode cX2_clearGuest 78 = .ok (.ishl, 1) := by decide +kernel
theorem dX2_clearGuest_79 : decode cX2_clearGuest 79 = .ok (.iconst 1, 1) := by decide +kernel
theorem dX2_clearGuest_80 : decode cX2_clearGuest 80 = .ok (.aload_n 0, 1) := by decide +kernel
theorem dX2_clearGuest_81 : decode cX2_clearGuest 81 = .ok (.getfield 33, 3) := by decide +kernel
theorem dX2_clearGuest_84 : decode cX2_clearGuest 84 = .ok (.getfield 103, 3) := by decide +kernel
theorem dX2_clearGuest_87 : decode cX2_clearGuest 87 = .ok (.iload_n 1, 1) := by decide +kernel
theorem dX2_clearGuest_88 : decode cX2_clearGuest 88 = .ok (.iaload, 1) := by decide +kernel
theorem dX2_clearGuest_89 : decode cX2_clearGuest 89 = .ok (.ishl, 1) := by decide +kernel
theorem dX2_clearGuest_90 : decode cX2_clearGuest 90 = .ok (.ior, 1) := by decide +kernel
theorem dX2_clearGuest_91 : decode cX2_clearGuest 91 = .ok (.ior, 1) := by decide +kernel
theorem dX2_clearGuest_92 : decode cX2_clearGuest 92 = .ok (.putfield 61, 3) := by decide +kernel
theorem dX2_clearGuest_95 : decode cX2_clearGuest 95 = .ok (.return_, 1) := by decide +kernel
theorem dX2_leave_0 : decode cX2_leave 0 = .ok (.iconst 0, 1) := by decide +kernel
theorem dX2_leave_1 : decode cX2_leave 1 = .ok (.istore_n 2, 1) := by decide +kernel
theorem dX2_leave_2 : decode cX2_leave 2 = .ok (.iload_n 2, 1) := by decide +kernel
theorem dX2_leave_3 : decode cX2_leave 3 = .ok (.aload_n 0, 1) := by decide +kernel
theorem dX2_leave_4 : decode cX2_leave 4 = .ok (.getfield 33, 3) := by decide +kernel
theorem dX2_leave_7 : decode cX2_leave 7 = .ok (.getfield 50, 3) := by decide +kernel
theorem dX2_leave_10 : decode cX2_leave 10 = .ok (.if_icmp .ge 62, 3) := by decide +kernel
theorem dX2_leave_13 : decode cX2_leave 13 = .ok (.aload_n 0, 1) := by decide +kernel
theorem dX2_leave_14 : decode cX2_leave 14 = .ok (.getfield 33, 3) := by decide +kernel
theorem dX2_leave_17 : decode cX2_leave 17 = .ok (.getfield 103, 3) := by decide +kernel
theorem dX2_leave_20 : decode cX2_leave 20 = .ok (.iload_n 2, 1) := by decide +kernel
theorem dX2_leave_21 : decode cX2_leave 21 = .ok (.iaload, 1) := by decide +kernel
theorem dX2_leave_22 : decode cX2_leave 22 = .ok (.iload_n 1, 1) := by decide +kernel
theorem dX2_leave_23 : decode cX2_leave 23 = .ok (.if_icmp .ne 43, 3) := by decide +kernel
theorem dX2_leave_26 : decode cX2_leave 26 = .ok (.aload_n 0, 1) := by decide +kernel
theorem dX2_leave_27 : decode cX2_leave 27 = .ok (.getfield 18, 3) := by decide +kernel
theorem dX2_leave_30 : decode cX2_leave 30 = .ok (.iload_n 2, 1) := by decide +kernel
theorem dX2_leave_31 : decode cX2_leave 31 = .ok (.iaload, 1) := by decide +kernel
theorem dX2_leave_32 : decode cX2_leave 32 = .ok (.iconst (-1), 1) := by decide +kernel
theorem dX2_leave_33 : decode cX2_leave 33 = .ok (.if_icmp .eq 12, 3) := by decide +kernel
theorem dX2_leave_36 : decode cX2_leave 36 = .ok (.aload_n 0, 1) := by decide +kernel
theorem dX2_leave_37 : decode cX2_leave 37 = .ok (.iload_n 2, 1) := by decide +kernel
theorem dX2_leave_38 : decode cX2_leave 38 = .ok (.iload_n 1, 1) := by decide +kernel
theorem dX2_leave_39 : decode cX2_leave 39 = .ok (.invokevirtual 106, 3) := by decide +kernel
theorem dX2_leave_42 : decode cX2_leave 42 = .ok (.goto 24, 3) := by decide +kernel
theorem dX2_leave_45 : decode cX2_leave 45 = .ok (.aload_n 0, 1) := by decide +kernel
theorem dX2_leave_46 : decode cX2_leave 46 = .ok (.getfield 24, 3) := by decide +kernel
theorem dX2_leave_49 : decode cX2_leave 49 = .ok (.iload_n 2, 1) := by decide +kernel
theorem dX2_leave_50 : decode cX2_leave 50 = .ok (.iaload, 1) := by decide +kernel
theorem dX2_leave_51 : decode cX2_leave 51 = .ok (.iconst (-1), 1) := by decide +kernel
theorem dX2_leave_52 : decode cX2_leave 52 = .ok (.if_icmp .eq 14, 3) := by decide +kernel
theorem dX2_leave_55 : decode cX2_leave 55 = .ok (.aload_n 0, 1) := by decide +kernel
theorem dX2_leave_56 : decode cX2_leave 56 = .ok (.iload_n 2, 1) := by decide +kernel
theorem dX2_leave_57 : decode cX2_leave 57 = .ok (.invokevirtual 109, 3) := by decide +kernel
theorem dX2_leave_60 : decode cX2_leave 60 = .ok (.aload_n 0, 1) := by decide +kernel
theorem dX2_leave_61 : decode cX2_leave 61 = .ok (.iload_n 2, 1) := by decide +kernel
theorem dX2_leave_62 : decode cX2_leave 62 = .ok (.iload_n 1, 1) := by decide +kernel
theorem dX2_leave_63 : decode cX2_leave 63 = .ok (.invokevirtual 112, 3) := by decide +kernel
theorem dX2_leave_66 : decode cX2_leave 66 = .ok (.iinc 2 1, 3) := by decide +kernel
theorem dX2_leave_69 : decode cX2_leave 69 = .ok (.goto (-67), 3) := by decide +kernel
theorem dX2_leave_72 : decode cX2_leave 72 = .ok (.return_, 1) := by decide +kernel
theorem dX2_takeOff_0 : decode cX2_takeOff 0 = .ok (.iconst 0, 1) := by decide +kernel
theorem dX2_takeOff_1 : decode cX2_takeOff 1 = .ok (.istore_n 3, 1) := by decide +kernel
theorem dX2_takeOff_2 : decode cX2_takeOff 2 = .ok (.iload_n 3, 1) := by decide +kernel
theorem dX2_takeOff_3 : decode cX2_takeOff 3 = .ok (.aload_n 0, 1) := by decide +kernel
theorem dX2_takeOff_4 : decode cX2_takeOff 4 = .ok (.getfield 33, 3) := by decide +kernel
theorem dX2_takeOff_7 : decode cX2_takeOff 7 = .ok (.getfield 50, 3) := by decide +kernel
theorem dX2_takeOff_10 : decode cX2_takeOff 10 = .ok (.if_icmp .ge 101, 3) := by decide +kernel
theorem dX2_takeOff_13 : decode cX2_takeOff 13 = .ok (.aload_n 0, 1) := by decide +kernel
theorem dX2_takeOff_14 : decode cX2_takeOff 14 = .ok (.getfield 18, 3) := by decide +kernel
theorem dX2_takeOff_17 : decode cX2_takeOff 17 = .ok (.iload_n 3, 1) := by decide +kernel
theorem dX2_takeOff_18 : decode cX2_takeOff 18 = .ok (.iaload, 1) := by decide +kernel
theorem dX2_takeOff_19 : decode cX2_takeOff 19 = .ok (.iconst (-1), 1) := by decide +kernel
theorem dX2_takeOff_20 : decode cX2_takeOff 20 = .ok (.if_icmp .eq 85, 3) := by decide +kernel
theorem dX2_takeOff_23 : decode cX2_takeOff 23 = .ok (.iload_n 1, 1) := by decide +kernel
theorem dX2_takeOff_24 : decode cX2_takeOff 24 = .ok (.aload_n 0, 1) := by decide +kernel
theorem dX2_takeOff_25 : decode cX2_takeOff 25 = .ok (.getfield 33, 3) := by decide +kernel
theorem dX2_takeOff_28 : decode cX2_takeOff 28 = .ok (.getfield 115, 3) := by decide +kernel
theorem dX2_takeOff_31 : decode cX2_takeOff 31 = .ok (.iload_n 3, 1) := by decide +kernel
theorem dX2_takeOff_32 : decode cX2_takeOff 32 = .ok (.iaload, 1) := by decide +kernel
theorem dX2_takeOff_33 : decode cX2_takeOff 33 = .ok (.if_icmp .gt 72, 3) := by decide +kernel
theorem dX2_takeOff_36 : decode cX2_takeOff 36 = .ok (.iload_n 1, 1) := by decide +kernel
theorem dX2_takeOff_37 : decode cX2_takeOff 37 = .ok (.aload_n 0, 1) := by decide +kernel
theorem dX2_takeOff_38 : decode cX2_takeOff 38 = .ok (.getfield 21, 3) := by decide +kernel
theorem dX2_takeOff_41 : decode cX2_takeOff 41 = .ok (.iload_n 3, 1) := by decide +kernel
theorem dX2_takeOff_42 : decode cX2_takeOff 42 = .ok (.iaload, 1) := by decide +kernel
theorem dX2_takeOff_43 : decode cX2_takeOff 43 = .ok (.isub, 1) := by decide +kernel
theorem dX2_takeOff_44 : decode cX2_takeOff 44 = .ok (.iload_n 2, 1) := by decide +kernel
theorem dX2_takeOff_45 : decode cX2_takeOff 45 = .ok (.if_icmp .lt 60, 3) := by decide +kernel
theorem dX2_takeOff_48 : decode cX2_takeOff 48 = .ok (.aload_n 0, 1) := by decide +kernel
theorem dX2_takeOff_49 : decode cX2_takeOff 49 = .ok (.getfield 9, 3) := by decide +kernel
theorem dX2_takeOff_52 : decode cX2_takeOff 52 = .ok (.iload_n 3, 1) := by decide +kernel
theorem dX2_takeOff_53 : decode cX2_takeOff 53 = .ok (.bipush 8, 2) := by decide +kernel
theorem dX2_takeOff_55 : decode cX2_takeOff 55 = .ok (.imul, 1) := by decide +kernel
theorem dX2_takeOff_56 : decode cX2_takeOff 56 = .ok (.bipush 6, 2) := by decide +kernel
theorem dX2_takeOff_58 : decode cX2_takeOff 58 = .ok (.iadd, 1) := by decide +kernel
theorem dX2_takeOff_59 : decode cX2_takeOff 59 = .ok (.dup2, 1) := by decide +kernel
theorem dX2_takeOff_60 : decode cX2_takeOff 60 = .ok (.iaload, 1) := by decide +kernel
theorem dX2_takeOff_61 : decode cX2_takeOff 61 = .ok (.iconst 1, 1) := by decide +kernel
theorem dX2_takeOff_62 : decode cX2_takeOff 62 = .ok (.iadd, 1) := by decide +kernel
theorem dX2_takeOff_63 : decode cX2_takeOff 63 = .ok (.iastore, 1) := by decide +kernel
theorem dX2_takeOff_64 : decode cX2_takeOff 64 = .ok (.aload_n 0, 1) := by decide +kernel
theorem dX2_takeOff_65 : decode cX2_takeOff 65 = .ok (.iload_n 3, 1) := by decide +kernel
theorem dX2_takeOff_66 : decode cX2_takeOff 66 = .ok (.iload_n 1, 1) := by decide +kernel
theorem dX2_takeOff_67 : decode cX2_takeOff 67 = .ok (.invokevirtual 106, 3) := by decide +kernel
theorem dX2_takeOff_70 : decode cX2_takeOff 70 = .ok (.aload_n 0, 1) := by decide +kernel
theorem dX2_takeOff_71 : decode cX2_takeOff 71 = .ok (.getfield 24, 3) := by decide +kernel
theorem dX2_takeOff_74 : decode cX2_takeOff 74 = .ok (.iload_n 3, 1) := by decide +kernel
theorem dX2_takeOff_75 : decode cX2_takeOff 75 = .ok (.aload_n 0, 1) := by decide +kernel
theorem dX2_takeOff_76 : decode cX2_takeOff 76 = .ok (.getfield 33, 3) := by decide +kernel
theorem dX2_takeOff_79 : decode cX2_takeOff 79 = .ok (.getfield 115, 3) := by decide +kernel
theorem dX2_takeOff_82 : decode cX2_takeOff 82 = .ok (.iload_n 3, 1) := by decide +kernel
theorem dX2_takeOff_83 : decode cX2_takeOff 83 = .ok (.iaload, 1) := by decide +kernel
theorem dX2_takeOff_84 : decode cX2_takeOff 84 = .ok (.iastore, 1) := by decide +kernel
theorem dX2_takeOff_85 : decode cX2_takeOff 85 = .ok (.aload_n 0, 1) := by decide +kernel
theorem dX2_takeOff_86 : decode cX2_takeOff 86 = .ok (.dup, 1) := by decide +kernel
theorem dX2_takeOff_87 : decode cX2_takeOff 87 = .ok (.getfield 61, 3) := by decide +kernel
theorem dX2_takeOff_90 : decode cX2_takeOff 90 = .ok (.iconst 1, 1) := by decide +kernel
theorem dX2_takeOff_91 : decode cX2_takeOff 91 = .ok (.aload_n 0, 1) := by decide +kernel
theorem dX2_takeOff_92 : decode cX2_takeOff 92 = .ok (.getfield 33, 3) := by decide +kernel
theorem dX2_takeOff_95 : decode cX2_takeOff 95 = .ok (.getfield 115, 3) := by decide +kernel
theorem dX2_takeOff_98 : decode cX2_takeOff 98 = .ok (.iload_n 3, 1) := by decide +kernel
theorem dX2_takeOff_99 : decode cX2_takeOff 99 = .ok (.iaload, 1) := by decide +kernel
theorem dX2_takeOff_100 : decode cX2_takeOff 100 = .ok (.ishl, 1) := by decide +kernel
theorem dX2_takeOff_101 : decode cX2_takeOff 101 = .ok (.ior, 1) := by decide +kernel
theorem dX2_takeOff_102 : decode cX2_takeOff 102 = .ok (.putfield 61, 3) := by decide +kernel
theorem dX2_takeOff_105 : decode cX2_takeOff 105 = .ok (.iinc 3 1, 3) := by decide +kernel
theorem dX2_takeOff_108 : decode cX2_takeOff 108 = .ok (.goto (-106), 3) := by decide +kernel
theorem dX2_takeOff_111 : decode cX2_takeOff 111 = .ok (.return_, 1) := by decide +kernel
theorem dX2_arrive_0 : decode cX2_arrive 0 = .ok (.iconst 0, 1) := by decide +kernel
theorem dX2_arrive_1 : decode cX2_arrive 1 = .ok (.istore_n 2, 1) := by decide +kernel
theorem dX2_arrive_2 : decode cX2_arrive 2 = .ok (.iload_n 2, 1) := by decide +kernel
theorem dX2_arrive_3 : decode cX2_arrive 3 = .ok (.aload_n 0, 1) := by decide +kernel
theorem dX2_arrive_4 : decode cX2_arrive 4 = .ok (.getfield 33, 3) := by decide +kernel
theorem dX2_arrive_7 : decode cX2_arrive 7 = .ok (.getfield 50, 3) := by decide +kernel
theorem dX2_arrive_10 : decode cX2_arrive 10 = .ok (.if_icmp .ge 72, 3) := by decide +kernel
theorem dX2_arrive_13 : decode cX2_arrive 13 = .ok (.aload_n 0, 1) := by decide +kernel
theorem dX2_arrive_14 : decode cX2_arrive 14 = .ok (.getfield 27, 3) := by decide +kernel
theorem dX2_arrive_17 : decode cX2_arrive 17 = .ok (.iload_n 2, 1) := by decide +kernel
theorem dX2_arrive_18 : decode cX2_arrive 18 = .ok (.iaload, 1) := by decide +kernel
theorem dX2_arrive_19 : decode cX2_arrive 19 = .ok (.istore_n 3, 1) := by decide +kernel
theorem dX2_arrive_20 : decode cX2_arrive 20 = .ok (.aload_n 0, 1) := by decide +kernel
theorem dX2_arrive_21 : decode cX2_arrive 21 = .ok (.getfield 9, 3) := by decide +kernel
theorem dX2_arrive_24 : decode cX2_arrive 24 = .ok (.iload_n 3, 1) := by decide +kernel
theorem dX2_arrive_25 : decode cX2_arrive 25 = .ok (.bipush 8, 2) := by decide +kernel
theorem dX2_arrive_27 : decode cX2_arrive 27 = .ok (.imul, 1) := by decide +kernel
theorem dX2_arrive_28 : decode cX2_arrive 28 = .ok (.iconst 0, 1) := by decide +kernel
theorem dX2_arrive_29 : decode cX2_arrive 29 = .ok (.iadd, 1) := by decide +kernel
theorem dX2_arrive_30 : decode cX2_arrive 30 = .ok (.iaload, 1) := by decide +kernel
theorem dX2_arrive_31 : decode cX2_arrive 31 = .ok (.iload_n 1, 1) := by decide +kernel
theorem dX2_arrive_32 : decode cX2_arrive 32 = .ok (.if_icmp .ne 44, 3) := by decide +kernel
theorem dX2_arrive_35 : decode cX2_arrive 35 = .ok (.iload_n 1, 1) := by decide +kernel
theorem dX2_arrive_36 : decode cX2_arrive 36 = .ok (.aload_n 0, 1) := by decide +kernel
theorem dX2_arrive_37 : decode cX2_arrive 37 = .ok (.getfield 33, 3) := by decide +kernel
theorem dX2_arrive_40 : decode cX2_arrive 40 = .ok (.getfield 103, 3) := by decide +kernel
theorem dX2_arrive_43 : decode cX2_arrive 43 = .ok (.iload_n 3, 1) := by decide +kernel
theorem dX2_arrive_44 : decode cX2_arrive 44 = .ok (.iaload, 1) := by decide +kernel
theorem dX2_arrive_45 : decode cX2_arrive 45 = .ok (.if_icmp .ge 31, 3) := by decide +kernel
theorem dX2_arrive_48 : decode cX2_arrive 48 = .ok (.aload_n 0, 1) := by decide +kernel
theorem dX2_arrive_49 : decode cX2_arrive 49 = .ok (.getfield 91, 3) := by decide +kernel
theorem dX2_arrive_52 : decode cX2_arrive 52 = .ok (.ifCond .eq 17, 3) := by decide +kernel
theorem dX2_arrive_55 : decode cX2_arrive 55 = .ok (.aload_n 0, 1) := by decide +kernel
theorem dX2_arrive_56 : decode cX2_arrive 56 = .ok (.iload_n 3, 1) := by decide +kernel
theorem dX2_arrive_57 : decode cX2_arrive 57 = .ok (.iload_n 1, 1) := by decide +kernel
theorem dX2_arrive_58 : decode cX2_arrive 58 = .ok (.invokevirtual 118, 3) := by decide +kernel
theorem dX2_arrive_61 : decode cX2_arrive 61 = .ok (.aload_n 0, 1) := by decide +kernel
theorem dX2_arrive_62 : decode cX2_arrive 62 = .ok (.iload_n 1, 1) := by decide +kernel
theorem dX2_arrive_63 : decode cX2_arrive 63 = .ok (.putfield 94, 3) := by decide +kernel
theorem dX2_arrive_66 : decode cX2_arrive 66 = .ok (.goto 10, 3) := by decide +kernel
theorem dX2_arrive_69 : decode cX2_arrive 69 = .ok (.aload_n 0, 1) := by decide +kernel
theorem dX2_arrive_70 : decode cX2_arrive 70 = .ok (.getfield 24, 3) := by decide +kernel
theorem dX2_arrive_73 : decode cX2_arrive 73 = .ok (.iload_n 3, 1) := by decide +kernel
theorem dX2_arrive_74 : decode cX2_arrive 74 = .ok (.iload_n 1, 1) := by decide +kernel
theorem dX2_arrive_75 : decode cX2_arrive 75 = .ok (.iastore, 1) := by decide +kernel
theorem dX2_arrive_76 : decode cX2_arrive 76 = .ok (.iinc 2 1, 3) := by decide +kernel
theorem dX2_arrive_79 : decode cX2_arrive 79 = .ok (.goto (-77), 3) := by decide +kernel
theorem dX2_arrive_82 : decode cX2_arrive 82 = .ok (.return_, 1) := by decide +kernel
theorem dX2_seatWaiting_0 : decode cX2_seatWaiting 0 = .ok (.iconst 0, 1) := by decide +kernel
theorem dX2_seatWaiting_1 : decode cX2_seatWaiting 1 = .ok (.istore_n 2, 1) := by decide +kernel
theorem dX2_seatWaiting_2 : decode cX2_seatWaiting 2 = .ok (.iload_n 2, 1) := by decide +kernel
theorem dX2_seatWaiting_3 : decode cX2_seatWaiting 3 = .ok (.aload_n 0, 1) := by decide +kernel
theorem dX2_seatWaiting_4 : decode cX2_seatWaiting 4 = .ok (.getfield 33, 3) := by decide +kernel
theorem dX2_seatWaiting_7 : decode cX2_seatWaiting 7 = .ok (.getfield 50, 3) := by decide +kernel
theorem dX2_seatWaiting_10 : decode cX2_seatWaiting 10 = .ok (.if_icmp .ge 58, 3) := by decide +kernel
theorem dX2_seatWaiting_13 : decode cX2_seatWaiting 13 = .ok (.aload_n 0, 1) := by decide +kernel
theorem dX2_seatWaiting_14 : decode cX2_seatWaiting 14 = .ok (.getfield 24, 3) := by decide +kernel
theorem dX2_seatWaiting_17 : decode cX2_seatWaiting 17 = .ok (.aload_n 0, 1) := by decide +kernel
theorem dX2_seatWaiting_18 : decode cX2_seatWaiting 18 = .ok (.getfield 27, 3) := by decide +kernel
theorem dX2_seatWaiting_21 : decode cX2_seatWaiting 21 = .ok (.iload_n 2, 1) := by decide +kernel
theorem dX2_seatWaiting_22 : decode cX2_seatWaiting 22 = .ok (.iaload, 1) := by decide +kernel
theorem dX2_seatWaiting_23 : decode cX2_seatWaiting 23 = .ok (.iaload, 1) := by decide +kernel
theorem dX2_seatWaiting_24 : decode cX2_seatWaiting 24 = .ok (.iload_n 1, 1) := by decide +kernel
theorem dX2_seatWaiting_25 : decode cX2_seatWaiting 25 = .ok (.if_icmp .ne 37, 3) := by decide +kernel
theorem dX2_seatWaiting_28 : decode cX2_seatWaiting 28 = .ok (.aload_n 0, 1) := by decide +kernel
theorem dX2_seatWaiting_29 : decode cX2_seatWaiting 29 = .ok (.getfield 85, 3) := by decide +kernel
theorem dX2_seatWaiting_32 : decode cX2_seatWaiting 32 = .ok (.bipush 8, 2) := by decide +kernel
theorem dX2_seatWaiting_34 : decode cX2_seatWaiting 34 = .ok (.if_icmp .ge 28, 3) := by decide +kernel
theorem dX2_seatWaiting_37 : decode cX2_seatWaiting 37 = .ok (.aload_n 0, 1) := by decide +kernel
theorem dX2_seatWaiting_38 : decode cX2_seatWaiting 38 = .ok (.getfield 30, 3) := by decide +kernel
theorem dX2_seatWaiting_41 : decode cX2_seatWaiting 41 = .ok (.aload_n 0, 1) := by decide +kernel
theorem dX2_seatWaiting_42 : decode cX2_seatWaiting 42 = .ok (.getfield 85, 3) := by decide +kernel
theorem dX2_seatWaiting_45 : decode cX2_seatWaiting 45 = .ok (.aload_n 0, 1) := by decide +kernel
theorem dX2_seatWaiting_46 : decode cX2_seatWaiting 46 = .ok (.getfield 27, 3) := by decide +kernel
theorem dX2_seatWaiting_49 : decode cX2_seatWaiting 49 = .ok (.iload_n 2, 1) := by decide +kernel
theorem dX2_seatWaiting_50 : decode cX2_seatWaiting 50 = .ok (.iaload, 1) := by decide +kernel
theorem dX2_seatWaiting_51 : decode cX2_seatWaiting 51 = .ok (.iastore, 1) := by decide +kernel
theorem dX2_seatWaiting_52 : decode cX2_seatWaiting 52 = .ok (.aload_n 0, 1) := by decide +kernel
theorem dX2_seatWaiting_53 : decode cX2_seatWaiting 53 = .ok (.dup, 1) := by decide +kernel
theorem dX2_seatWaiting_54 : decode cX2_seatWaiting 54 = .ok (.getfield 85, 3) := by decide +kernel
theorem dX2_seatWaiting_57 : decode cX2_seatWaiting 57 = .ok (.iconst 1, 1) := by decide +kernel
theorem dX2_seatWaiting_58 : decode cX2_seatWaiting 58 = .ok (.iadd, 1) := by decide +kernel
theorem dX2_seatWaiting_59 : decode cX2_seatWaiting 59 = .ok (.putfield 85, 3) := by decide +kernel
theorem dX2_seatWaiting_62 : decode cX2_seatWaiting 62 = .ok (.iinc 2 1, 3) := by decide +kernel
theorem dX2_seatWaiting_65 : decode cX2_seatWaiting 65 = .ok (.goto (-63), 3) := by decide +kernel
theorem dX2_seatWaiting_68 : decode cX2_seatWaiting 68 = .ok (.aload_n 0, 1) := by decide +kernel
theorem dX2_seatWaiting_69 : decode cX2_seatWaiting 69 = .ok (.getfield 85, 3) := by decide +kernel
theorem dX2_seatWaiting_72 : decode cX2_seatWaiting 72 = .ok (.istore_n 2, 1) := by decide +kernel
theorem dX2_seatWaiting_73 : decode cX2_seatWaiting 73 = .ok (.iload_n 2, 1) := by decide +kernel
theorem dX2_seatWaiting_74 : decode cX2_seatWaiting 74 = .ok (.ifCond .le 40, 3) := by decide +kernel
theorem dX2_seatWaiting_77 : decode cX2_seatWaiting 77 = .ok (.aload_n 0, 1) := by decide +kernel
theorem dX2_seatWaiting_78 : decode cX2_seatWaiting 78 = .ok (.getfield 91, 3) := by decide +kernel
theorem dX2_seatWaiting_81 : decode cX2_seatWaiting 81 = .ok (.ifCond .eq 33, 3) := by decide +kernel
theorem dX2_seatWaiting_84 : decode cX2_seatWaiting 84 = .ok (.aload_n 0, 1) := by decide +kernel
theorem dX2_seatWaiting_85 : decode cX2_seatWaiting 85 = .ok (.getfield 30, 3) := by decide +kernel
theorem dX2_seatWaiting_88 : decode cX2_seatWaiting 88 = .ok (.iconst 0, 1) := by decide +kernel
theorem dX2_seatWaiting_89 : decode cX2_seatWaiting 89 = .ok (.iaload, 1) := by decide +kernel
theorem dX2_seatWaiting_90 : decode cX2_seatWaiting 90 = .ok (.istore_n 3, 1) := by decide +kernel
theorem dX2_seatWaiting_91 : decode cX2_seatWaiting 91 = .ok (.aload_n 0, 1) := by decide +kernel
theorem dX2_seatWaiting_92 : decode cX2_seatWaiting 92 = .ok (.iload_n 3, 1) := by decide +kernel
theorem dX2_seatWaiting_93 : decode cX2_seatWaiting 93 = .ok (.invokevirtual 109, 3) := by decide +kernel
theorem dX2_seatWaiting_96 : decode cX2_seatWaiting 96 = .ok (.aload_n 0, 1) := by decide +kernel
theorem dX2_seatWaiting_97 : decode cX2_seatWaiting 97 = .ok (.iload_n 3, 1) := by decide +kernel
theorem dX2_seatWaiting_98 : decode cX2_seatWaiting 98 = .ok (.iload_n 1, 1) := by decide +kernel
theorem dX2_seatWaiting_99 : decode cX2_seatWaiting 99 = .ok (.invokevirtual 112, 3) := by decide +kernel
theorem dX2_seatWaiting_102 : decode cX2_seatWaiting 102 = .ok (.aload_n 0, 1) := by decide +kernel
theorem dX2_seatWaiting_103 : decode cX2_seatWaiting 103 = .ok (.iload_n 3, 1) := by decide +kernel
theorem dX2_seatWaiting_104 : decode cX2_seatWaiting 104 = .ok (.iload_n 1, 1) := by decide +kernel
theorem dX2_seatWaiting_105 : decode cX2_seatWaiting 105 = .ok (.invokevirtual 118, 3) := by decide +kernel
theorem dX2_seatWaiting_108 : decode cX2_seatWaiting 108 = .ok (.iinc 2 (-1), 3) := by decide +kernel
theorem dX2_seatWaiting_111 : decode cX2_seatWaiting 111 = .ok (.goto (-38), 3) := by decide +kernel
theorem dX2_seatWaiting_114 : decode cX2_seatWaiting 114 = .ok (.return_, 1) := by decide +kernel
theorem dX2_unqueue_0 : decode cX2_unqueue 0 = .ok (.iconst 0, 1) := by decide +kernel
theorem dX2_unqueue_1 : decode cX2_unqueue 1 = .ok (.istore_n 2, 1) := by decide +kernel
theorem dX2_unqueue_2 : decode cX2_unqueue 2 = .ok (.iconst 0, 1) := by decide +kernel
theorem dX2_unqueue_3 : decode cX2_unqueue 3 = .ok (.istore_n 3, 1) := by decide +kernel
theorem dX2_unqueue_4 : decode cX2_unqueue 4 = .ok (.iload_n 3, 1) := by decide +kernel
theorem dX2_unqueue_5 : decode cX2_unqueue 5 = .ok (.aload_n 0, 1) := by decide +kernel
theorem dX2_unqueue_6 : decode cX2_unqueue 6 = .ok (.getfield 85, 3) := by decide +kernel
theorem dX2_unqueue_9 : decode cX2_unqueue 9 = .ok (.if_icmp .ge 34, 3) := by decide +kernel
theorem dX2_unqueue_12 : decode cX2_unqueue 12 = .ok (.aload_n 0, 1) := by decide +kernel
theorem dX2_unqueue_13 : decode cX2_unqueue 13 = .ok (.getfield 30, 3) := by decide +kernel
theorem dX2_unqueue_16 : decode cX2_unqueue 16 = .ok (.iload_n 3, 1) := by decide +kernel
theorem dX2_unqueue_17 : decode cX2_unqueue 17 = .ok (.iaload, 1) := by decide +kernel
theorem dX2_unqueue_18 : decode cX2_unqueue 18 = .ok (.iload_n 1, 1) := by decide +kernel
theorem dX2_unqueue_19 : decode cX2_unqueue 19 = .ok (.if_icmp .eq 18, 3) := by decide +kernel
theorem dX2_unqueue_22 : decode cX2_unqueue 22 = .ok (.aload_n 0, 1) := by decide +kernel
theorem dX2_unqueue_23 : decode cX2_unqueue 23 = .ok (.getfield 30, 3) := by decide +kernel
theorem dX2_unqueue_26 : decode cX2_unqueue 26 = .ok (.iload_n 2, 1) := by decide +kernel
theorem dX2_unqueue_27 : decode cX2_unqueue 27 = .ok (.aload_n 0, 1) := by decide +kernel
theorem dX2_unqueue_28 : decode cX2_unqueue 28 = .ok (.getfield 30, 3) := by decide +kernel
theorem dX2_unqueue_31 : decode cX2_unqueue 31 = .ok (.iload_n 3, 1) := by decide +kernel
theorem dX2_unqueue_32 : decode cX2_unqueue 32 = .ok (.iaload, 1) := by decide +kernel
theorem dX2_unqueue_33 : decode cX2_unqueue 33 = .ok (.iastore, 1) := by decide +kernel
theorem dX2_unqueue_34 : decode cX2_unqueue 34 = .ok (.iinc 2 1, 3) := by decide +kernel
theorem dX2_unqueue_37 : decode cX2_unqueue 37 = .ok (.iinc 3 1, 3) := by decide +kernel
theorem dX2_unqueue_40 : decode cX2_unqueue 40 = .ok (.goto (-36), 3) := by decide +kernel
theorem dX2_unqueue_43 : decode cX2_unqueue 43 = .ok (.aload_n 0, 1) := by decide +kernel
theorem dX2_unqueue_44 : decode cX2_unqueue 44 = .ok (.iload_n 2, 1) := by decide +kernel
theorem dX2_unqueue_45 : decode cX2_unqueue 45 = .ok (.putfield 85, 3) := by decide +kernel
theorem dX2_unqueue_48 : decode cX2_unqueue 48 = .ok (.return_, 1) := by decide +kernel
theorem dX2_endWaiting_0 : decode cX2_endWaiting 0 = .ok (.aload_n 0, 1) := by decide +kernel
theorem dX2_endWaiting_1 : decode cX2_endWaiting 1 = .ok (.getfield 9, 3) := by decide +kernel
theorem dX2_endWaiting_4 : decode cX2_endWaiting 4 = .ok (.iload_n 1, 1) := by decide +kernel
theorem dX2_endWaiting_5 : decode cX2_endWaiting 5 = .ok (.bipush 8, 2) := by decide +kernel
theorem dX2_endWaiting_7 : decode cX2_endWaiting 7 = .ok (.imul, 1) := by decide +kernel
theorem dX2_endWaiting_8 : decode cX2_endWaiting 8 = .ok (.bipush 7, 2) := by decide +kernel
theorem dX2_endWaiting_10 : decode cX2_endWaiting 10 = .ok (.iadd, 1) := by decide +kernel
theorem dX2_endWaiting_11 : decode cX2_endWaiting 11 = .ok (.dup2, 1) := by decide +kernel
theorem dX2_endWaiting_12 : decode cX2_endWaiting 12 = .ok (.iaload, 1) := by decide +kernel
theorem dX2_endWaiting_13 : decode cX2_endWaiting 13 = .ok (.iload_n 2, 1) := by decide +kernel
theorem dX2_endWaiting_14 : decode cX2_endWaiting 14 = .ok (.aload_n 0, 1) := by decide +kernel
theorem dX2_endWaiting_15 : decode cX2_endWaiting 15 = .ok (.getfield 24, 3) := by decide +kernel
theorem dX2_endWaiting_18 : decode cX2_endWaiting 18 = .ok (.iload_n 1, 1) := by decide +kernel
theorem dX2_endWaiting_19 : decode cX2_endWaiting 19 = .ok (.iaload, 1) := by decide +kernel
theorem dX2_endWaiting_20 : decode cX2_endWaiting 20 = .ok (.isub, 1) := by decide +kernel
theorem dX2_endWaiting_21 : decode cX2_endWaiting 21 = .ok (.iadd, 1) := by decide +kernel
theorem dX2_endWaiting_22 : decode cX2_endWaiting 22 = .ok (.iastore, 1) := by decide +kernel
theorem dX2_endWaiting_23 : decode cX2_endWaiting 23 = .ok (.aload_n 0, 1) := by decide +kernel
theorem dX2_endWaiting_24 : decode cX2_endWaiting 24 = .ok (.getfield 37, 3) := by decide +kernel
theorem dX2_endWaiting_27 : decode cX2_endWaiting 27 = .ok (.ifCond .eq 33, 3) := by decide +kernel
theorem dX2_endWaiting_30 : decode cX2_endWaiting 30 = .ok (.aload_n 0, 1) := by decide +kernel
theorem dX2_endWaiting_31 : decode cX2_endWaiting 31 = .ok (.getfield 24, 3) := by decide +kernel
theorem dX2_endWaiting_34 : decode cX2_endWaiting 34 = .ok (.iload_n 1, 1) := by decide +kernel
theorem dX2_endWaiting_35 : decode cX2_endWaiting 35 = .ok (.iaload, 1) := by decide +kernel
theorem dX2_endWaiting_36 : decode cX2_endWaiting 36 = .ok (.istore_n 3, 1) := by decide +kernel
theorem dX2_endWaiting_37 : decode cX2_endWaiting 37 = .ok (.iload_n 3, 1) := by decide +kernel
theorem dX2_endWaiting_38 : decode cX2_endWaiting 38 = .ok (.iload_n 2, 1) := by decide +kernel
theorem dX2_endWaiting_39 : decode cX2_endWaiting 39 = .ok (.if_icmp .ge 21, 3) := by decide +kernel
theorem dX2_endWaiting_42 : decode cX2_endWaiting 42 = .ok (.aload_n 0, 1) := by decide +kernel
theorem dX2_endWaiting_43 : decode cX2_endWaiting 43 = .ok (.getfield 44, 3) := by decide +kernel
theorem dX2_endWaiting_46 : decode cX2_endWaiting 46 = .ok (.iload_n 3, 1) := by decide +kernel
theorem dX2_endWaiting_47 : decode cX2_endWaiting 47 = .ok (.dup2, 1) := by decide +kernel
theorem dX2_endWaiting_48 : decode cX2_endWaiting 48 = .ok (.iaload, 1) := by decide +kernel
theorem dX2_endWaiting_49 : decode cX2_endWaiting 49 = .ok (.iconst 1, 1) := by decide +kernel
theorem dX2_endWaiting_50 : decode cX2_endWaiting 50 = .ok (.iload_n 1, 1) := by decide +kernel
theorem dX2_endWaiting_51 : decode cX2_endWaiting 51 = .ok (.ishl, 1) := by decide +kernel
theorem dX2_endWaiting_52 : decode cX2_endWaiting 52 = .ok (.ior, 1) := by decide +kernel
theorem dX2_endWaiting_53 : decode cX2_endWaiting 53 = .ok (.iastore, 1) := by decide +kernel
theorem dX2_endWaiting_54 : decode cX2_endWaiting 54 = .ok (.iinc 3 1, 3) := by decide +kernel
theorem dX2_endWaiting_57 : decode cX2_endWaiting 57 = .ok (.goto (-20), 3) := by decide +kernel
theorem dX2_endWaiting_60 : decode cX2_endWaiting 60 = .ok (.aload_n 0, 1) := by decide +kernel
theorem dX2_endWaiting_61 : decode cX2_endWaiting 61 = .ok (.getfield 24, 3) := by decide +kernel
theorem dX2_endWaiting_64 : decode cX2_endWaiting 64 = .ok (.iload_n 1, 1) := by decide +kernel
theorem dX2_endWaiting_65 : decode cX2_endWaiting 65 = .ok (.iconst (-1), 1) := by decide +kernel
theorem dX2_endWaiting_66 : decode cX2_endWaiting 66 = .ok (.iastore, 1) := by decide +kernel
theorem dX2_endWaiting_67 : decode cX2_endWaiting 67 = .ok (.return_, 1) := by decide +kernel
theorem dX2_takeBest_0 : decode cX2_takeBest 0 = .ok (.iconst (-1), 1) := by decide +kernel
theorem dX2_takeBest_1 : decode cX2_takeBest 1 = .ok (.istore_n 3, 1) := by decide +kernel
theorem dX2_takeBest_2 : decode cX2_takeBest 2 = .ok (.iconst (-1), 1) := by decide +kernel
theorem dX2_takeBest_3 : decode cX2_takeBest 3 = .ok (.istore 4, 2) := by decide +kernel
theorem dX2_takeBest_5 : decode cX2_takeBest 5 = .ok (.iload_n 2, 1) := by decide +kernel
theorem dX2_takeBest_6 : decode cX2_takeBest 6 = .ok (.aload_n 0, 1) := by decide +kernel
theorem dX2_takeBest_7 : decode cX2_takeBest 7 = .ok (.getfield 33, 3) := by decide +kernel
theorem dX2_takeBest_10 : decode cX2_takeBest 10 = .ok (.getfield 115, 3) := by decide +kernel
theorem dX2_takeBest_13 : decode cX2_takeBest 13 = .ok (.iload_n 1, 1) := by decide +kernel
theorem dX2_takeBest_14 : decode cX2_takeBest 14 = .ok (.iaload, 1) := by decide +kernel
theorem dX2_takeBest_15 : decode cX2_takeBest 15 = .ok (.if_icmp .ge 15, 3) := by decide +kernel
theorem dX2_takeBest_18 : decode cX2_takeBest 18 = .ok (.aload_n 0, 1) := by decide +kernel
theorem dX2_takeBest_19 : decode cX2_takeBest 19 = .ok (.getfield 33, 3) := by decide +kernel
theorem dX2_takeBest_22 : decode cX2_takeBest 22 = .ok (.getfield 115, 3) := by decide +kernel
theorem dX2_takeBest_25 : decode cX2_takeBest 25 = .ok (.iload_n 1, 1) := by decide +kernel
theorem dX2_takeBest_26 : decode cX2_takeBest 26 = .ok (.iaload, 1) := by decide +kernel
theorem dX2_takeBest_27 : decode cX2_takeBest 27 = .ok (.goto 4, 3) := by decide +kernel
theorem dX2_takeBest_30 : decode cX2_takeBest 30 = .ok (.iload_n 2, 1) := by decide +kernel
theorem dX2_takeBest_31 : decode cX2_takeBest 31 = .ok (.istore 5, 2) := by decide +kernel
theorem dX2_takeBest_33 : decode cX2_takeBest 33 = .ok (.iconst 0, 1) := by decide +kernel
theorem dX2_takeBest_34 : decode cX2_takeBest 34 = .ok (.istore 6, 2) := by decide +kernel
theorem dX2_takeBest_36 : decode cX2_takeBest 36 = .ok (.iload 6, 2) := by decide +kernel
theorem dX2_takeBest_38 : decode cX2_takeBest 38 = .ok (.aload_n 0, 1) := by decide +kernel
theorem dX2_takeBest_39 : decode cX2_takeBest 39 = .ok (.getfield 33, 3) := by decide +kernel
theorem dX2_takeBest_42 : decode cX2_takeBest 42 = .ok (.getfield 88, 3) := by decide +kernel
theorem dX2_takeBest_45 : decode cX2_takeBest 45 = .ok (.if_icmp .ge 71, 3) := by decide +kernel
theorem dX2_takeBest_48 : decode cX2_takeBest 48 = .ok (.aload_n 0, 1) := by decide +kernel
theorem dX2_takeBest_49 : decode cX2_takeBest 49 = .ok (.getfield 91, 3) := by decide +kernel
theorem dX2_takeBest_52 : decode cX2_takeBest 52 = .ok (.iload 6, 2) := by decide +kernel
theorem dX2_takeBest_54 : decode cX2_takeBest 54 = .ok (.ishr, 1) := by decide +kernel
theorem dX2_takeBest_55 : decode cX2_takeBest 55 = .ok (.iconst 1, 1) := by decide +kernel
theorem dX2_takeBest_56 : decode cX2_takeBest 56 = .ok (.iand, 1) := by decide +kernel
theorem dX2_takeBest_57 : decode cX2_takeBest 57 = .ok (.ifCond .eq 53, 3) := by decide +kernel
theorem dX2_takeBest_60 : decode cX2_takeBest 60 = .ok (.aload_n 0, 1) := by decide +kernel
theorem dX2_takeBest_61 : decode cX2_takeBest 61 = .ok (.getfield 33, 3) := by decide +kernel
theorem dX2_takeBest_64 : decode cX2_takeBest 64 = .ok (.getfield 121, 3) := by decide +kernel
theorem dX2_takeBest_67 : decode cX2_takeBest 67 = .ok (.iload 6, 2) := by decide +kernel
theorem dX2_takeBest_69 : decode cX2_takeBest 69 = .ok (.iaload, 1) := by decide +kernel
theorem dX2_takeBest_70 : decode cX2_takeBest 70 = .ok (.aload_n 0, 1) := by decide +kernel
theorem dX2_takeBest_71 : decode cX2_takeBest 71 = .ok (.getfield 33, 3) := by decide +kernel
theorem dX2_takeBest_74 : decode cX2_takeBest 74 = .ok (.getfield 124, 3) := by decide +kernel
theorem dX2_takeBest_77 : decode cX2_takeBest 77 = .ok (.iload 6, 2) := by decide +kernel
theorem dX2_takeBest_79 : decode cX2_takeBest 79 = .ok (.iaload, 1) := by decide +kernel
theorem dX2_takeBest_80 : decode cX2_takeBest 80 = .ok (.iload 5, 2) := by decide +kernel
theorem dX2_takeBest_82 : decode cX2_takeBest 82 = .ok (.aload_n 0, 1) := by decide +kernel
theorem dX2_takeBest_83 : decode cX2_takeBest 83 = .ok (.getfield 33, 3) := by decide +kernel
theorem dX2_takeBest_86 : decode cX2_takeBest 86 = .ok (.getfield 103, 3) := by decide +kernel
theorem dX2_takeBest_89 : decode cX2_takeBest 89 = .ok (.iload_n 1, 1) := by decide +kernel
theorem dX2_takeBest_90 : decode cX2_takeBest 90 = .ok (.iaload, 1) := by decide +kernel
theorem dX2_takeBest_91 : decode cX2_takeBest 91 = .ok (.invokestatic 127, 3) := by decide +kernel
theorem dX2_takeBest_94 : decode cX2_takeBest 94 = .ok (.istore 7, 2) := by decide +kernel
theorem dX2_takeBest_96 : decode cX2_takeBest 96 = .ok (.iload 7, 2) := by decide +kernel
theorem dX2_takeBest_98 : decode cX2_takeBest 98 = .ok (.iload 4, 2) := by decide +kernel
theorem dX2_takeBest_100 : decode cX2_takeBest 100 = .ok (.if_icmp .le 10, 3) := by decide +kernel
theorem dX2_takeBest_103 : decode cX2_takeBest 103 = .ok (.iload 7, 2) := by decide +kernel
theorem dX2_takeBest_105 : decode cX2_takeBest 105 = .ok (.istore 4, 2) := by decide +kernel
theorem dX2_takeBest_107 : decode cX2_takeBest 107 = .ok (.iload 6, 2) := by decide +kernel
theorem dX2_takeBest_109 : decode cX2_takeBest 109 = .ok (.istore_n 3, 1) := by decide +kernel
theorem dX2_takeBest_110 : decode cX2_takeBest 110 = .ok (.iinc 6 1, 3) := by decide +kernel
theorem dX2_takeBest_113 : decode cX2_takeBest 113 = .ok (.goto (-77), 3) := by decide +kernel
theorem dX2_takeBest_116 : decode cX2_takeBest 116 = .ok (.iload_n 3, 1) := by decide +kernel
theorem dX2_takeBest_117 : decode cX2_takeBest 117 = .ok (.iconst (-1), 1) := by decide +kernel
theorem dX2_takeBest_118 : decode cX2_takeBest 118 = .ok (.if_icmp .ne 4, 3) := by decide +kernel
theorem dX2_takeBest_121 : decode cX2_takeBest 121 = .ok (.return_, 1) := by decide +kernel
theorem dX2_takeBest_122 : decode cX2_takeBest 122 = .ok (.aload_n 0, 1) := by decide +kernel
theorem dX2_takeBest_123 : decode cX2_takeBest 123 = .ok (.dup, 1) := by decide +kernel
theorem dX2_takeBest_124 : decode cX2_takeBest 124 = .ok (.getfield 91, 3) := by decide +kernel
theorem dX2_takeBest_127 : decode cX2_takeBest 127 = .ok (.iconst 1, 1) := by decide +kernel
theorem dX2_takeBest_128 : decode cX2_takeBest 128 = .ok (.iload_n 3, 1) := by decide +kernel
theorem dX2_takeBest_129 : decode cX2_takeBest 129 = .ok (.ishl, 1) := by decide +kernel
theorem dX2_takeBest_130 : decode cX2_takeBest 130 = .ok (.iconst (-1), 1) := by decide +kernel
theorem dX2_takeBest_131 : decode cX2_takeBest 131 = .ok (.ixor, 1) := by decide +kernel
theorem dX2_takeBest_132 : decode cX2_takeBest 132 = .ok (.iand, 1) := by decide +kernel
theorem dX2_takeBest_133 : decode cX2_takeBest 133 = .ok (.putfield 91, 3) := by decide +kernel
theorem dX2_takeBest_136 : decode cX2_takeBest 136 = .ok (.aload_n 0, 1) := by decide +kernel
theorem dX2_takeBest_137 : decode cX2_takeBest 137 = .ok (.getfield 18, 3) := by decide +kernel
theorem dX2_takeBest_140 : decode cX2_takeBest 140 = .ok (.iload_n 1, 1) := by decide +kernel
theorem dX2_takeBest_141 : decode cX2_takeBest 141 = .ok (.iload_n 3, 1) := by decide +kernel
theorem dX2_takeBest_142 : decode cX2_takeBest 142 = .ok (.iastore, 1) := by decide +kernel
theorem dX2_takeBest_143 : decode cX2_takeBest 143 = .ok (.aload_n 0, 1) := by decide +kernel
theorem dX2_takeBest_144 : decode cX2_takeBest 144 = .ok (.getfield 21, 3) := by decide +kernel
theorem dX2_takeBest_147 : decode cX2_takeBest 147 = .ok (.iload_n 1, 1) := by decide +kernel
theorem dX2_takeBest_148 : decode cX2_takeBest 148 = .ok (.iload_n 2, 1) := by decide +kernel
theorem dX2_takeBest_149 : decode cX2_takeBest 149 = .ok (.iastore, 1) := by decide +kernel
theorem dX2_takeBest_150 : decode cX2_takeBest 150 = .ok (.aload_n 0, 1) := by decide +kernel
theorem dX2_takeBest_151 : decode cX2_takeBest 151 = .ok (.getfield 15, 3) := by decide +kernel
theorem dX2_takeBest_154 : decode cX2_takeBest 154 = .ok (.iload_n 3, 1) := by decide +kernel
theorem dX2_takeBest_155 : decode cX2_takeBest 155 = .ok (.iconst 3, 1) := by decide +kernel
theorem dX2_takeBest_156 : decode cX2_takeBest 156 = .ok (.imul, 1) := by decide +kernel
theorem dX2_takeBest_157 : decode cX2_takeBest 157 = .ok (.iconst 2, 1) := by decide +kernel
theorem dX2_takeBest_158 : decode cX2_takeBest 158 = .ok (.iadd, 1) := by decide +kernel
theorem dX2_takeBest_159 : decode cX2_takeBest 159 = .ok (.dup2, 1) := by decide +kernel
theorem dX2_takeBest_160 : decode cX2_takeBest 160 = .ok (.iaload, 1) := by decide +kernel
theorem dX2_takeBest_161 : decode cX2_takeBest 161 = .ok (.iconst 1, 1) := by decide +kernel
theorem dX2_takeBest_162 : decode cX2_takeBest 162 = .ok (.iadd, 1) := by decide +kernel
theorem dX2_takeBest_163 : decode cX2_takeBest 163 = .ok (.iastore, 1) := by decide +kernel
theorem dX2_takeBest_164 : decode cX2_takeBest 164 = .ok (.aload_n 0, 1) := by decide +kernel
theorem dX2_takeBest_165 : decode cX2_takeBest 165 = .ok (.getfield 9, 3) := by decide +kernel
theorem dX2_takeBest_168 : decode cX2_takeBest 168 = .ok (.iload_n 1, 1) := by decide +kernel
theorem dX2_takeBest_169 : decode cX2_takeBest 169 = .ok (.bipush 8, 2) := by decide +kernel
theorem dX2_takeBest_171 : decode cX2_takeBest 171 = .ok (.imul, 1) := by decide +kernel
theorem dX2_takeBest_172 : decode cX2_takeBest 172 = .ok (.iconst 5, 1) := by decide +kernel
theorem dX2_takeBest_173 : decode cX2_takeBest 173 = .ok (.iadd, 1) := by decide +kernel
theorem dX2_takeBest_174 : decode cX2_takeBest 174 = .ok (.iaload, 1) := by decide +kernel
theorem dX2_takeBest_175 : decode cX2_takeBest 175 = .ok (.ifCond .ne 15, 3) := by decide +kernel
theorem dX2_takeBest_178 : decode cX2_takeBest 178 = .ok (.aload_n 0, 1) := by decide +kernel
theorem dX2_takeBest_179 : decode cX2_takeBest 179 = .ok (.getfield 9, 3) := by decide +kernel
theorem dX2_takeBest_182 : decode cX2_takeBest 182 = .ok (.iload_n 1, 1) := by decide +kernel
theorem dX2_takeBest_183 : decode cX2_takeBest 183 = .ok (.bipush 8, 2) := by decide +kernel
theorem dX2_takeBest_185 : decode cX2_takeBest 185 = .ok (.imul, 1) := by decide +kernel
theorem dX2_takeBest_186 : decode cX2_takeBest 186 = .ok (.iconst 1, 1) := by decide +kernel
theorem dX2_takeBest_187 : decode cX2_takeBest 187 = .ok (.iadd, 1) := by decide +kernel
theorem dX2_takeBest_188 : decode cX2_takeBest 188 = .ok (.iload_n 3, 1) := by decide +kernel
theorem dX2_takeBest_189 : decode cX2_takeBest 189 = .ok (.iastore, 1) := by decide +kernel
theorem dX2_takeBest_190 : decode cX2_takeBest 190 = .ok (.aload_n 0, 1) := by decide +kernel
theorem dX2_takeBest_191 : decode cX2_takeBest 191 = .ok (.getfield 9, 3) := by decide +kernel
theorem dX2_takeBest_194 : decode cX2_takeBest 194 = .ok (.iload_n 1, 1) := by decide +kernel
theorem dX2_takeBest_195 : decode cX2_takeBest 195 = .ok (.bipush 8, 2) := by decide +kernel
theorem dX2_takeBest_197 : decode cX2_takeBest 197 = .ok (.imul, 1) := by decide +kernel
theorem dX2_takeBest_198 : decode cX2_takeBest 198 = .ok (.iconst 5, 1) := by decide +kernel
theorem dX2_takeBest_199 : decode cX2_takeBest 199 = .ok (.iadd, 1) := by decide +kernel
theorem dX2_takeBest_200 : decode cX2_takeBest 200 = .ok (.dup2, 1) := by decide +kernel
theorem dX2_takeBest_201 : decode cX2_takeBest 201 = .ok (.iaload, 1) := by decide +kernel
theorem dX2_takeBest_202 : decode cX2_takeBest 202 = .ok (.iconst 1, 1) := by decide +kernel
theorem dX2_takeBest_203 : decode cX2_takeBest 203 = .ok (.iadd, 1) := by decide +kernel
theorem dX2_takeBest_204 : decode cX2_takeBest 204 = .ok (.iastore, 1) := by decide +kernel
theorem dX2_takeBest_205 : decode cX2_takeBest 205 = .ok (.return_, 1) := by decide +kernel
theorem dX2_giveUp_0 : decode cX2_giveUp 0 = .ok (.aload_n 0, 1) := by decide +kernel
theorem dX2_giveUp_1 : decode cX2_giveUp 1 = .ok (.getfield 18, 3) := by decide +kernel
theorem dX2_giveUp_4 : decode cX2_giveUp 4 = .ok (.iload_n 1, 1) := by decide +kernel
theorem dX2_giveUp_5 : decode cX2_giveUp 5 = .ok (.iaload, 1) := by decide +kernel
theorem dX2_giveUp_6 : decode cX2_giveUp 6 = .ok (.istore_n 3, 1) := by decide +kernel
theorem dX2_giveUp_7 : decode cX2_giveUp 7 = .ok (.aload_n 0, 1) := by decide +kernel
theorem dX2_giveUp_8 : decode cX2_giveUp 8 = .ok (.getfield 21, 3) := by decide +kernel
theorem dX2_giveUp_11 : decode cX2_giveUp 11 = .ok (.iload_n 1, 1) := by decide +kernel
theorem dX2_giveUp_12 : decode cX2_giveUp 12 = .ok (.iaload, 1) := by decide +kernel
theorem dX2_giveUp_13 : decode cX2_giveUp 13 = .ok (.istore 4, 2) := by decide +kernel
theorem dX2_giveUp_15 : decode cX2_giveUp 15 = .ok (.iload 4, 2) := by decide +kernel
theorem dX2_giveUp_17 : decode cX2_giveUp 17 = .ok (.aload_n 0, 1) := by decide +kernel
theorem dX2_giveUp_18 : decode cX2_giveUp 18 = .ok (.getfield 33, 3) := by decide +kernel
theorem dX2_giveUp_21 : decode cX2_giveUp 21 = .ok (.getfield 115, 3) := by decide +kernel
theorem dX2_giveUp_24 : decode cX2_giveUp 24 = .ok (.iload_n 1, 1) := by decide +kernel
theorem dX2_giveUp_25 : decode cX2_giveUp 25 = .ok (.iaload, 1) := by decide +kernel
theorem dX2_giveUp_26 : decode cX2_giveUp 26 = .ok (.if_icmp .ge 15, 3) := by decide +kernel
theorem dX2_giveUp_29 : decode cX2_giveUp 29 = .ok (.aload_n 0, 1) := by decide +kernel
theorem dX2_giveUp_30 : decode cX2_giveUp 30 = .ok (.getfield 33, 3) := by decide +kernel
theorem dX2_giveUp_33 : decode cX2_giveUp 33 = .ok (.getfield 115, 3) := by decide +kernel
theorem dX2_giveUp_36 : decode cX2_giveUp 36 = .ok (.iload_n 1, 1) := by decide +kernel
theorem dX2_giveUp_37 : decode cX2_giveUp 37 = .ok (.iaload, 1) := by decide +kernel
theorem dX2_giveUp_38 : decode cX2_giveUp 38 = .ok (.goto 5, 3) := by decide +kernel
theorem dX2_giveUp_41 : decode cX2_giveUp 41 = .ok (.iload 4, 2) := by decide +kernel
theorem dX2_giveUp_43 : decode cX2_giveUp 43 = .ok (.istore 5, 2) := by decide +kernel
theorem dX2_giveUp_45 : decode cX2_giveUp 45 = .ok (.iload_n 2, 1) := by decide +kernel
theorem dX2_giveUp_46 : decode cX2_giveUp 46 = .ok (.iload 5, 2) := by decide +kernel
theorem dX2_giveUp_48 : decode cX2_giveUp 48 = .ok (.if_icmp .le 10, 3) := by decide +kernel
theorem dX2_giveUp_51 : decode cX2_giveUp 51 = .ok (.iload_n 2, 1) := by decide +kernel
theorem dX2_giveUp_52 : decode cX2_giveUp 52 = .ok (.iload 5, 2) := by decide +kernel
theorem dX2_giveUp_54 : decode cX2_giveUp 54 = .ok (.isub, 1) := by decide +kernel
theorem dX2_giveUp_55 : decode cX2_giveUp 55 = .ok (.goto 4, 3) := by decide +kernel
theorem dX2_giveUp_58 : decode cX2_giveUp 58 = .ok (.iconst 0, 1) := by decide +kernel
theorem dX2_giveUp_59 : decode cX2_giveUp 59 = .ok (.istore 6, 2) := by decide +kernel
theorem dX2_giveUp_61 : decode cX2_giveUp 61 = .ok (.aload_n 0, 1) := by decide +kernel
theorem dX2_giveUp_62 : decode cX2_giveUp 62 = .ok (.getfield 9, 3) := by decide +kernel
theorem dX2_giveUp_65 : decode cX2_giveUp 65 = .ok (.iload_n 1, 1) := by decide +kernel
theorem dX2_giveUp_66 : decode cX2_giveUp 66 = .ok (.bipush 8, 2) := by decide +kernel
theorem dX2_giveUp_68 : decode cX2_giveUp 68 = .ok (.imul, 1) := by decide +kernel
theorem dX2_giveUp_69 : decode cX2_giveUp 69 = .ok (.iconst 2, 1) := by decide +kernel
theorem dX2_giveUp_70 : decode cX2_giveUp 70 = .ok (.iadd, 1) := by decide +kernel
theorem dX2_giveUp_71 : decode cX2_giveUp 71 = .ok (.dup2, 1) := by decide +kernel
theorem dX2_giveUp_72 : decode cX2_giveUp 72 = .ok (.iaload, 1) := by decide +kernel
theorem dX2_giveUp_73 : decode cX2_giveUp 73 = .ok (.iload 6, 2) := by decide +kernel
theorem dX2_giveUp_75 : decode cX2_giveUp 75 = .ok (.iadd, 1) := by decide +kernel
theorem dX2_giveUp_76 : decode cX2_giveUp 76 = .ok (.iastore, 1) := by decide +kernel
theorem dX2_giveUp_77 : decode cX2_giveUp 77 = .ok (.aload_n 0, 1) := by decide +kernel
theorem dX2_giveUp_78 : decode cX2_giveUp 78 = .ok (.getfield 9, 3) := by decide +kernel
theorem dX2_giveUp_81 : decode cX2_giveUp 81 = .ok (.iload_n 1, 1) := by decide +kernel
theorem dX2_giveUp_82 : decode cX2_giveUp 82 = .ok (.bipush 8, 2) := by decide +kernel
theorem dX2_giveUp_84 : decode cX2_giveUp 84 = .ok (.imul, 1) := by decide +kernel
theorem dX2_giveUp_85 : decode cX2_giveUp 85 = .ok (.iconst 3, 1) := by decide +kernel
theorem dX2_giveUp_86 : decode cX2_giveUp 86 = .ok (.iadd, 1) := by decide +kernel
theorem dX2_giveUp_87 : decode cX2_giveUp 87 = .ok (.dup2, 1) := by decide +kernel
theorem dX2_giveUp_88 : decode cX2_giveUp 88 = .ok (.iaload, 1) := by decide +kernel
theorem dX2_giveUp_89 : decode cX2_giveUp 89 = .ok (.aload_n 0, 1) := by decide +kernel
theorem dX2_giveUp_90 : decode cX2_giveUp 90 = .ok (.getfield 33, 3) := by decide +kernel
theorem dX2_giveUp_93 : decode cX2_giveUp 93 = .ok (.getfield 121, 3) := by decide +kernel
theorem dX2_giveUp_96 : decode cX2_giveUp 96 = .ok (.iload_n 3, 1) := by decide +kernel
theorem dX2_giveUp_97 : decode cX2_giveUp 97 = .ok (.iaload, 1) := by decide +kernel
theorem dX2_giveUp_98 : decode cX2_giveUp 98 = .ok (.aload_n 0, 1) := by decide +kernel
theorem dX2_giveUp_99 : decode cX2_giveUp 99 = .ok (.getfield 33, 3) := by decide +kernel
theorem dX2_giveUp_102 : decode cX2_giveUp 102 = .ok (.getfield 124, 3) := by decide +kernel
theorem dX2_giveUp_105 : decode cX2_giveUp 105 = .ok (.iload_n 3, 1) := by decide +kernel
theorem dX2_giveUp_106 : decode cX2_giveUp 106 = .ok (.iaload, 1) := by decide +kernel
theorem dX2_giveUp_107 : decode cX2_giveUp 107 = .ok (.iload 5, 2) := by decide +kernel
theorem dX2_giveUp_109 : decode cX2_giveUp 109 = .ok (.iload_n 2, 1) := by decide +kernel
theorem dX2_giveUp_110 : decode cX2_giveUp 110 = .ok (.invokestatic 127, 3) := by decide +kernel
theorem dX2_giveUp_113 : decode cX2_giveUp 113 = .ok (.iadd, 1) := by decide +kernel
theorem dX2_giveUp_114 : decode cX2_giveUp 114 = .ok (.iastore, 1) := by decide +kernel
theorem dX2_giveUp_115 : decode cX2_giveUp 115 = .ok (.aload_n 0, 1) := by decide +kernel
theorem dX2_giveUp_116 : decode cX2_giveUp 116 = .ok (.getfield 15, 3) := by decide +kernel
theorem dX2_giveUp_119 : decode cX2_giveUp 119 = .ok (.iload_n 3, 1) := by decide +kernel
theorem dX2_giveUp_120 : decode cX2_giveUp 120 = .ok (.iconst 3, 1) := by decide +kernel
theorem dX2_giveUp_121 : decode cX2_giveUp 121 = .ok (.imul, 1) := by decide +kernel
theorem dX2_giveUp_122 : decode cX2_giveUp 122 = .ok (.iconst 0, 1) := by decide +kernel
theorem dX2_giveUp_123 : decode cX2_giveUp 123 = .ok (.iadd, 1) := by decide +kernel
theorem dX2_giveUp_124 : decode cX2_giveUp 124 = .ok (.dup2, 1) := by decide +kernel
theorem dX2_giveUp_125 : decode cX2_giveUp 125 = .ok (.iaload, 1) := by decide +kernel
theorem dX2_giveUp_126 : decode cX2_giveUp 126 = .ok (.iload 6, 2) := by decide +kernel
theorem dX2_giveUp_128 : decode cX2_giveUp 128 = .ok (.iadd, 1) := by decide +kernel
theorem dX2_giveUp_129 : decode cX2_giveUp 129 = .ok (.iastore, 1) := by decide +kernel
theorem dX2_giveUp_130 : decode cX2_giveUp 130 = .ok (.aload_n 0, 1) := by decide +kernel
theorem dX2_giveUp_131 : decode cX2_giveUp 131 = .ok (.getfield 15, 3) := by decide +kernel
theorem dX2_giveUp_134 : decode cX2_giveUp 134 = .ok (.iload_n 3, 1) := by decide +kernel
theorem dX2_giveUp_135 : decode cX2_giveUp 135 = .ok (.iconst 3, 1) := by decide +kernel
theorem dX2_giveUp_136 : decode cX2_giveUp 136 = .ok (.imul, 1) := by decide +kernel
theorem dX2_giveUp_137 : decode cX2_giveUp 137 = .ok (.iconst 1, 1) := by decide +kernel
theorem dX2_giveUp_138 : decode cX2_giveUp 138 = .ok (.iadd, 1) := by decide +kernel
theorem dX2_giveUp_139 : decode cX2_giveUp 139 = .ok (.dup2, 1) := by decide +kernel
theorem dX2_giveUp_140 : decode cX2_giveUp 140 = .ok (.iaload, 1) := by decide +kernel
theorem dX2_giveUp_141 : decode cX2_giveUp 141 = .ok (.iload_n 2, 1) := by decide +kernel
theorem dX2_giveUp_142 : decode cX2_giveUp 142 = .ok (.iload 4, 2) := by decide +kernel
theorem dX2_giveUp_144 : decode cX2_giveUp 144 = .ok (.isub, 1) := by decide +kernel
theorem dX2_giveUp_145 : decode cX2_giveUp 145 = .ok (.iload 6, 2) := by decide +kernel
theorem dX2_giveUp_147 : decode cX2_giveUp 147 = .ok (.isub, 1) := by decide +kernel
theorem dX2_giveUp_148 : decode cX2_giveUp 148 = .ok (.iadd, 1) := by decide +kernel
theorem dX2_giveUp_149 : decode cX2_giveUp 149 = .ok (.iastore, 1) := by decide +kernel
theorem dX2_giveUp_150 : decode cX2_giveUp 150 = .ok (.aload_n 0, 1) := by decide +kernel
theorem dX2_giveUp_151 : decode cX2_giveUp 151 = .ok (.getfield 37, 3) := by decide +kernel
theorem dX2_giveUp_154 : decode cX2_giveUp 154 = .ok (.ifCond .eq 32, 3) := by decide +kernel
theorem dX2_giveUp_157 : decode cX2_giveUp 157 = .ok (.iload 4, 2) := by decide +kernel
theorem dX2_giveUp_159 : decode cX2_giveUp 159 = .ok (.istore 7, 2) := by decide +kernel
theorem dX2_giveUp_161 : decode cX2_giveUp 161 = .ok (.iload 7, 2) := by decide +kernel
theorem dX2_giveUp_163 : decode cX2_giveUp 163 = .ok (.iload_n 2, 1) := by decide +kernel
theorem dX2_giveUp_164 : decode cX2_giveUp 164 = .ok (.if_icmp .ge 22, 3) := by decide +kernel
theorem dX2_giveUp_167 : decode cX2_giveUp 167 = .ok (.aload_n 0, 1) := by decide +kernel
theorem dX2_giveUp_168 : decode cX2_giveUp 168 = .ok (.getfield 41, 3) := by decide +kernel
theorem dX2_giveUp_171 : decode cX2_giveUp 171 = .ok (.iload_n 3, 1) := by decide +kernel
theorem dX2_giveUp_172 : decode cX2_giveUp 172 = .ok (.bipush 24, 2) := by decide +kernel
theorem dX2_giveUp_174 : decode cX2_giveUp 174 = .ok (.imul, 1) := by decide +kernel
theorem dX2_giveUp_175 : decode cX2_giveUp 175 = .ok (.iload 7, 2) := by decide +kernel
theorem dX2_giveUp_177 : decode cX2_giveUp 177 = .ok (.iadd, 1) := by decide +kernel
theorem dX2_giveUp_178 : decode cX2_giveUp 178 = .ok (.iload_n 1, 1) := by decide +kernel
theorem dX2_giveUp_179 : decode cX2_giveUp 179 = .ok (.iastore, 1) := by decide +kernel
theorem dX2_giveUp_180 : decode cX2_giveUp 180 = .ok (.iinc 7 1, 3) := by decide +kernel
theorem dX2_giveUp_183 : decode cX2_giveUp 183 = .ok (.goto (-22), 3) := by decide +kernel
theorem dX2_giveUp_186 : decode cX2_giveUp 186 = .ok (.aload_n 0, 1) := by decide +kernel
theorem dX2_giveUp_187 : decode cX2_giveUp 187 = .ok (.dup, 1) := by decide +kernel
theorem dX2_giveUp_188 : decode cX2_giveUp 188 = .ok (.getfield 91, 3) := by decide +kernel
theorem dX2_giveUp_191 : decode cX2_giveUp 191 = .ok (.iconst 1, 1) := by decide +kernel
theorem dX2_giveUp_192 : decode cX2_giveUp 192 = .ok (.iload_n 3, 1) := by decide +kernel
theorem dX2_giveUp_193 : decode cX2_giveUp 193 = .ok (.ishl, 1) := by decide +kernel
theorem dX2_giveUp_194 : decode cX2_giveUp 194 = .ok (.ior, 1) := by decide +kernel
theorem dX2_giveUp_195 : decode cX2_giveUp 195 = .ok (.putfield 91, 3) := by decide +kernel
theorem dX2_giveUp_198 : decode cX2_giveUp 198 = .ok (.aload_n 0, 1) := by decide +kernel
theorem dX2_giveUp_199 : decode cX2_giveUp 199 = .ok (.getfield 18, 3) := by decide +kernel
theorem dX2_giveUp_202 : decode cX2_giveUp 202 = .ok (.iload_n 1, 1) := by decide +kernel
theorem dX2_giveUp_203 : decode cX2_giveUp 203 = .ok (.iconst (-1), 1) := by decide +kernel
theorem dX2_giveUp_204 : decode cX2_giveUp 204 = .ok (.iastore, 1) := by decide +kernel
theorem dX2_giveUp_205 : decode cX2_giveUp 205 = .ok (.return_, 1) := by decide +kernel
theorem dX2_reckonNet_0 : decode cX2_reckonNet 0 = .ok (.iconst 0, 1) := by decide +kernel
theorem dX2_reckonNet_1 : decode cX2_reckonNet 1 = .ok (.istore_n 1, 1) := by decide +kernel
theorem dX2_reckonNet_2 : decode cX2_reckonNet 2 = .ok (.iload_n 1, 1) := by decide +kernel
theorem dX2_reckonNet_3 : decode cX2_reckonNet 3 = .ok (.aload_n 0, 1) := by decide +kernel
theorem dX2_reckonNet_4 : decode cX2_reckonNet 4 = .ok (.getfield 33, 3) := by decide +kernel
theorem dX2_reckonNet_7 : decode cX2_reckonNet 7 = .ok (.getfield 50, 3) := by decide +kernel
theorem dX2_reckonNet_10 : decode cX2_reckonNet 10 = .ok (.if_icmp .ge 63, 3) := by decide +kernel
theorem dX2_reckonNet_13 : decode cX2_reckonNet 13 = .ok (.iload_n 1, 1) := by decide +kernel
theorem dX2_reckonNet_14 : decode cX2_reckonNet 14 = .ok (.bipush 8, 2) := by decide +kernel
theorem dX2_reckonNet_16 : decode cX2_reckonNet 16 = .ok (.imul, 1) := by decide +kernel
theorem dX2_reckonNet_17 : decode cX2_reckonNet 17 = .ok (.istore_n 2, 1) := by decide +kernel
theorem dX2_reckonNet_18 : decode cX2_reckonNet 18 = .ok (.aload_n 0, 1) := by decide +kernel
theorem dX2_reckonNet_19 : decode cX2_reckonNet 19 = .ok (.getfield 9, 3) := by decide +kernel
theorem dX2_reckonNet_22 : decode cX2_reckonNet 22 = .ok (.iload_n 2, 1) := by decide +kernel
theorem dX2_reckonNet_23 : decode cX2_reckonNet 23 = .ok (.iconst 4, 1) := by decide +kernel
theorem dX2_reckonNet_24 : decode cX2_reckonNet 24 = .ok (.iadd, 1) := by decide +kernel
theorem dX2_reckonNet_25 : decode cX2_reckonNet 25 = .ok (.aload_n 0, 1) := by decide +kernel
theorem dX2_reckonNet_26 : decode cX2_reckonNet 26 = .ok (.getfield 9, 3) := by decide +kernel
theorem dX2_reckonNet_29 : decode cX2_reckonNet 29 = .ok (.iload_n 2, 1) := by decide +kernel
theorem dX2_reckonNet_30 : decode cX2_reckonNet 30 = .ok (.iconst 3, 1) := by decide +kernel
theorem dX2_reckonNet_31 : decode cX2_reckonNet 31 = .ok (.iadd, 1) := by decide +kernel
theorem dX2_reckonNet_32 : decode cX2_reckonNet 32 = .ok (.iaload, 1) := by decide +kernel
theorem dX2_reckonNet_33 : decode cX2_reckonNet 33 = .ok (.aload_n 0, 1) := by decide +kernel
theorem dX2_reckonNet_34 : decode cX2_reckonNet 34 = .ok (.getfield 33, 3) := by decide +kernel
theorem dX2_reckonNet_37 : decode cX2_reckonNet 37 = .ok (.getfield 131, 3) := by decide +kernel
theorem dX2_reckonNet_40 : decode cX2_reckonNet 40 = .ok (.iload_n 1, 1) := by decide +kernel
theorem dX2_reckonNet_41 : decode cX2_reckonNet 41 = .ok (.iaload, 1) := by decide +kernel
theorem dX2_reckonNet_42 : decode cX2_reckonNet 42 = .ok (.aload_n 0, 1) := by decide +kernel
theorem dX2_reckonNet_43 : decode cX2_reckonNet 43 = .ok (.iload_n 1, 1) := by decide +kernel
theorem dX2_reckonNet_44 : decode cX2_reckonNet 44 = .ok (.invokevirtual 134, 3) := by decide +kernel
theorem dX2_reckonNet_47 : decode cX2_reckonNet 47 = .ok (.imul, 1) := by decide +kernel
theorem dX2_reckonNet_48 : decode cX2_reckonNet 48 = .ok (.isub, 1) := by decide +kernel
theorem dX2_reckonNet_49 : decode cX2_reckonNet 49 = .ok (.aload_n 0, 1) := by decide +kernel
theorem dX2_reckonNet_50 : decode cX2_reckonNet 50 = .ok (.getfield 33, 3) := by decide +kernel
theorem dX2_reckonNet_53 : decode cX2_reckonNet 53 = .ok (.getfield 138, 3) := by decide +kernel
theorem dX2_reckonNet_56 : decode cX2_reckonNet 56 = .ok (.aload_n 0, 1) := by decide +kernel
theorem dX2_reckonNet_57 : decode cX2_reckonNet 57 = .ok (.getfield 9, 3) := by decide +kernel
theorem dX2_reckonNet_60 : decode cX2_reckonNet 60 = .ok (.iload_n 2, 1) := by decide +kernel
theorem dX2_reckonNet_61 : decode cX2_reckonNet 61 = .ok (.iconst 5, 1) := by decide +kernel
theorem dX2_reckonNet_62 : decode cX2_reckonNet 62 = .ok (.iadd, 1) := by decide +kernel
theorem dX2_reckonNet_63 : decode cX2_reckonNet 63 = .ok (.iaload, 1) := by decide +kernel
theorem dX2_reckonNet_64 : decode cX2_reckonNet 64 = .ok (.imul, 1) := by decide +kernel
theorem dX2_reckonNet_65 : decode cX2_reckonNet 65 = .ok (.isub, 1) := by decide +kernel
theorem dX2_reckonNet_66 : decode cX2_reckonNet 66 = .ok (.iastore, 1) := by decide +kernel
theorem dX2_reckonNet_67 : decode cX2_reckonNet 67 = .ok (.iinc 1 1, 3) := by decide +kernel
theorem dX2_reckonNet_70 : decode cX2_reckonNet 70 = .ok (.goto (-68), 3) := by decide +kernel
theorem dX2_reckonNet_73 : decode cX2_reckonNet 73 = .ok (.return_, 1) := by decide +kernel
theorem dX2_sleepLostBy_0 : decode cX2_sleepLostBy 0 = .ok (.aload_n 0, 1) := by decide +kernel
theorem dX2_sleepLostBy_1 : decode cX2_sleepLostBy 1 = .ok (.getfield 33, 3) := by decide +kernel
theorem dX2_sleepLostBy_4 : decode cX2_sleepLostBy 4 = .ok (.getfield 141, 3) := by decide +kernel
theorem dX2_sleepLostBy_7 : decode cX2_sleepLostBy 7 = .ok (.iload_n 1, 1) := by decide +kernel
theorem dX2_sleepLostBy_8 : decode cX2_sleepLostBy 8 = .ok (.iaload, 1) := by decide +kernel
theorem dX2_sleepLostBy_9 : decode cX2_sleepLostBy 9 = .ok (.aload_n 0, 1) := by decide +kernel
theorem dX2_sleepLostBy_10 : decode cX2_sleepLostBy 10 = .ok (.getfield 9, 3) := by decide +kernel
theorem dX2_sleepLostBy_13 : decode cX2_sleepLostBy 13 = .ok (.iload_n 1, 1) := by decide +kernel
theorem dX2_sleepLostBy_14 : decode cX2_sleepLostBy 14 = .ok (.bipush 8, 2) := by decide +kernel
theorem dX2_sleepLostBy_16 : decode cX2_sleepLostBy 16 = .ok (.imul, 1) := by decide +kernel
theorem dX2_sleepLostBy_17 : decode cX2_sleepLostBy 17 = .ok (.iconst 0, 1) := by decide +kernel
theorem dX2_sleepLostBy_18 : decode cX2_sleepLostBy 18 = .ok (.iadd, 1) := by decide +kernel
theorem dX2_sleepLostBy_19 : decode cX2_sleepLostBy 19 = .ok (.iaload, 1) := by decide +kernel
theorem dX2_sleepLostBy_20 : decode cX2_sleepLostBy 20 = .ok (.isub, 1) := by decide +kernel
theorem dX2_sleepLostBy_21 : decode cX2_sleepLostBy 21 = .ok (.istore_n 2, 1) := by decide +kernel
theorem dX2_sleepLostBy_22 : decode cX2_sleepLostBy 22 = .ok (.iload_n 2, 1) := by decide +kernel
theorem dX2_sleepLostBy_23 : decode cX2_sleepLostBy 23 = .ok (.ifCond .le 7, 3) := by decide +kernel
theorem dX2_sleepLostBy_26 : decode cX2_sleepLostBy 26 = .ok (.iload_n 2, 1) := by decide +kernel
theorem dX2_sleepLostBy_27 : decode cX2_sleepLostBy 27 = .ok (.goto 4, 3) := by decide +kernel
theorem dX2_sleepLostBy_30 : decode cX2_sleepLostBy 30 = .ok (.iconst 0, 1) := by decide +kernel
theorem dX2_sleepLostBy_31 : decode cX2_sleepLostBy 31 = .ok (.ireturn, 1) := by decide +kernel
theorem dX2_sleepLost_0 : decode cX2_sleepLost 0 = .ok (.iconst 0, 1) := by decide +kernel
theorem dX2_sleepLost_1 : decode cX2_sleepLost 1 = .ok (.istore_n 1, 1) := by decide +kernel
theorem dX2_sleepLost_2 : decode cX2_sleepLost 2 = .ok (.iconst 0, 1) := by decide +kernel
theorem dX2_sleepLost_3 : decode cX2_sleepLost 3 = .ok (.istore_n 2, 1) := by decide +kernel
theorem dX2_sleepLost_4 : decode cX2_sleepLost 4 = .ok (.iload_n 2, 1) := by decide +kernel
theorem dX2_sleepLost_5 : decode cX2_sleepLost 5 = .ok (.aload_n 0, 1) := by decide +kernel
theorem dX2_sleepLost_6 : decode cX2_sleepLost 6 = .ok (.getfield 33, 3) := by decide +kernel
theorem dX2_sleepLost_9 : decode cX2_sleepLost 9 = .ok (.getfield 50, 3) := by decide +kernel
theorem dX2_sleepLost_12 : decode cX2_sleepLost 12 = .ok (.if_icmp .ge 17, 3) := by decide +kernel
theorem dX2_sleepLost_15 : decode cX2_sleepLost 15 = .ok (.iload_n 1, 1) := by decide +kernel
theorem dX2_sleepLost_16 : decode cX2_sleepLost 16 = .ok (.aload_n 0, 1) := by decide +kernel
theorem dX2_sleepLost_17 : decode cX2_sleepLost 17 = .ok (.iload_n 2, 1) := by decide +kernel
theorem dX2_sleepLost_18 : decode cX2_sleepLost 18 = .ok (.invokevirtual 134, 3) := by decide +kernel
theorem dX2_sleepLost_21 : decode cX2_sleepLost 21 = .ok (.iadd, 1) := by decide +kernel
theorem dX2_sleepLost_22 : decode cX2_sleepLost 22 = .ok (.istore_n 1, 1) := by decide +kernel
theorem dX2_sleepLost_23 : decode cX2_sleepLost 23 = .ok (.iinc 2 1, 3) := by decide +kernel
theorem dX2_sleepLost_26 : decode cX2_sleepLost 26 = .ok (.goto (-22), 3) := by decide +kernel
theorem dX2_sleepLost_29 : decode cX2_sleepLost 29 = .ok (.iload_n 1, 1) := by decide +kernel
theorem dX2_sleepLost_30 : decode cX2_sleepLost 30 = .ok (.ireturn, 1) := by decide +kernel
theorem dX2_total_0 : decode cX2_total 0 = .ok (.iconst 0, 1) := by decide +kernel
theorem dX2_total_1 : decode cX2_total 1 = .ok (.istore_n 2, 1) := by decide +kernel
theorem dX2_total_2 : decode cX2_total 2 = .ok (.iconst 0, 1) := by decide +kernel
theorem dX2_total_3 : decode cX2_total 3 = .ok (.istore_n 3, 1) := by decide +kernel
theorem dX2_total_4 : decode cX2_total 4 = .ok (.iload_n 3, 1) := by decide +kernel
theorem dX2_total_5 : decode cX2_total 5 = .ok (.aload_n 0, 1) := by decide +kernel
theorem dX2_total_6 : decode cX2_total 6 = .ok (.getfield 33, 3) := by decide +kernel
theorem dX2_total_9 : decode cX2_total 9 = .ok (.getfield 50, 3) := by decide +kernel
theorem dX2_total_12 : decode cX2_total 12 = .ok (.if_icmp .ge 23, 3) := by decide +kernel
theorem dX2_total_15 : decode cX2_total 15 = .ok (.iload_n 2, 1) := by decide +kernel
theorem dX2_total_16 : decode cX2_total 16 = .ok (.aload_n 0, 1) := by decide +kernel
theorem dX2_total_17 : decode cX2_total 17 = .ok (.getfield 9, 3) := by decide +kernel
theorem dX2_total_20 : decode cX2_total 20 = .ok (.iload_n 3, 1) := by decide +kernel
theorem dX2_total_21 : decode cX2_total 21 = .ok (.bipush 8, 2) := by decide +kernel
theorem dX2_total_23 : decode cX2_total 23 = .ok (.imul, 1) := by decide +kernel
theorem dX2_total_24 : decode cX2_total 24 = .ok (.iload_n 1, 1) := by decide +kernel
theorem dX2_total_25 : decode cX2_total 25 = .ok (.iadd, 1) := by decide +kernel
theorem dX2_total_26 : decode cX2_total 26 = .ok (.iaload, 1) := by decide +kernel
theorem dX2_total_27 : decode cX2_total 27 = .ok (.iadd, 1) := by decide +kernel
theorem dX2_total_28 : decode cX2_total 28 = .ok (.istore_n 2, 1) := by decide +kernel
theorem dX2_total_29 : decode cX2_total 29 = .ok (.iinc 3 1, 3) := by decide +kernel
theorem dX2_total_32 : decode cX2_total 32 = .ok (.goto (-28), 3) := by decide +kernel
theorem dX2_total_35 : decode cX2_total 35 = .ok (.iload_n 2, 1) := by decide +kernel
theorem dX2_total_36 : decode cX2_total 36 = .ok (.ireturn, 1) := by decide +kernel
theorem dX2_idle_0 : decode cX2_idle 0 = .ok (.iconst 0, 1) := by decide +kernel
theorem dX2_idle_1 : decode cX2_idle 1 = .ok (.istore_n 1, 1) := by decide +kernel
theorem dX2_idle_2 : decode cX2_idle 2 = .ok (.iconst 0, 1) := by decide +kernel
theorem dX2_idle_3 : decode cX2_idle 3 = .ok (.istore_n 2, 1) := by decide +kernel
theorem dX2_idle_4 : decode cX2_idle 4 = .ok (.iload_n 2, 1) := by decide +kernel
theorem dX2_idle_5 : decode cX2_idle 5 = .ok (.aload_n 0, 1) := by decide +kernel
theorem dX2_idle_6 : decode cX2_idle 6 = .ok (.getfield 33, 3) := by decide +kernel
theorem dX2_idle_9 : decode cX2_idle 9 = .ok (.getfield 88, 3) := by decide +kernel
theorem dX2_idle_12 : decode cX2_idle 12 = .ok (.if_icmp .ge 22, 3) := by decide +kernel
theorem dX2_idle_15 : decode cX2_idle 15 = .ok (.iload_n 1, 1) := by decide +kernel
theorem dX2_idle_16 : decode cX2_idle 16 = .ok (.aload_n 0, 1) := by decide +kernel
theorem dX2_idle_17 : decode cX2_idle 17 = .ok (.getfield 15, 3) := by decide +kernel
theorem dX2_idle_20 : decode cX2_idle 20 = .ok (.iload_n 2, 1) := by decide +kernel
theorem dX2_idle_21 : decode cX2_idle 21 = .ok (.iconst 3, 1) := by decide +kernel
theorem dX2_idle_22 : decode cX2_idle 22 = .ok (.imul, 1) := by decide +kernel
theorem dX2_idle_23 : decode cX2_idle 23 = .ok (.iconst 1, 1) := by decide +kernel
theorem dX2_idle_24 : decode cX2_idle 24 = .ok (.iadd, 1) := by decide +kernel
theorem dX2_idle_25 : decode cX2_idle 25 = .ok (.iaload, 1) := by decide +kernel
theorem dX2_idle_26 : decode cX2_idle 26 = .ok (.iadd, 1) := by decide +kernel
theorem dX2_idle_27 : decode cX2_idle 27 = .ok (.istore_n 1, 1) := by decide +kernel
theorem dX2_idle_28 : decode cX2_idle 28 = .ok (.iinc 2 1, 3) := by decide +kernel
theorem dX2_idle_31 : decode cX2_idle 31 = .ok (.goto (-27), 3) := by decide +kernel
theorem dX2_idle_34 : decode cX2_idle 34 = .ok (.iload_n 1, 1) := by decide +kernel
theorem dX2_idle_35 : decode cX2_idle 35 = .ok (.ireturn, 1) := by decide +kernel
theorem dX2_seated_0 : decode cX2_seated 0 = .ok (.iconst 0, 1) := by decide +kernel
theorem dX2_seated_1 : decode cX2_seated 1 = .ok (.istore_n 1, 1) := by decide +kernel
theorem dX2_seated_2 : decode cX2_seated 2 = .ok (.iconst 0, 1) := by decide +kernel
theorem dX2_seated_3 : decode cX2_seated 3 = .ok (.istore_n 2, 1) := by decide +kernel
theorem dX2_seated_4 : decode cX2_seated 4 = .ok (.iload_n 2, 1) := by decide +kernel
theorem dX2_seated_5 : decode cX2_seated 5 = .ok (.aload_n 0, 1) := by decide +kernel
theorem dX2_seated_6 : decode cX2_seated 6 = .ok (.getfield 33, 3) := by decide +kernel
theorem dX2_seated_9 : decode cX2_seated 9 = .ok (.getfield 50, 3) := by decide +kernel
theorem dX2_seated_12 : decode cX2_seated 12 = .ok (.if_icmp .ge 29, 3) := by decide +kernel
theorem dX2_seated_15 : decode cX2_seated 15 = .ok (.aload_n 0, 1) := by decide +kernel
theorem dX2_seated_16 : decode cX2_seated 16 = .ok (.getfield 9, 3) := by decide +kernel
theorem dX2_seated_19 : decode cX2_seated 19 = .ok (.iload_n 2, 1) := by decide +kernel
theorem dX2_seated_20 : decode cX2_seated 20 = .ok (.bipush 8, 2) := by decide +kernel
theorem dX2_seated_22 : decode cX2_seated 22 = .ok (.imul, 1) := by decide +kernel
theorem dX2_seated_23 : decode cX2_seated 23 = .ok (.iconst 5, 1) := by decide +kernel
theorem dX2_seated_24 : decode cX2_seated 24 = .ok (.iadd, 1) := by decide +kernel
theorem dX2_seated_25 : decode cX2_seated 25 = .ok (.iaload, 1) := by decide +kernel
theorem dX2_seated_26 : decode cX2_seated 26 = .ok (.ifCond .le 9, 3) := by decide +kernel
theorem dX2_seated_29 : decode cX2_seated 29 = .ok (.iload_n 1, 1) := by decide +kernel
theorem dX2_seated_30 : decode cX2_seated 30 = .ok (.iconst 1, 1) := by decide +kernel
theorem dX2_seated_31 : decode cX2_seated 31 = .ok (.iload_n 2, 1) := by decide +kernel
theorem dX2_seated_32 : decode cX2_seated 32 = .ok (.ishl, 1) := by decide +kernel
theorem dX2_seated_33 : decode cX2_seated 33 = .ok (.ior, 1) := by decide +kernel
theorem dX2_seated_34 : decode cX2_seated 34 = .ok (.istore_n 1, 1) := by decide +kernel
theorem dX2_seated_35 : decode cX2_seated 35 = .ok (.iinc 2 1, 3) := by decide +kernel
theorem dX2_seated_38 : decode cX2_seated 38 = .ok (.goto (-34), 3) := by decide +kernel
theorem dX2_seated_41 : decode cX2_seated 41 = .ok (.iload_n 1, 1) := by decide +kernel
theorem dX2_seated_42 : decode cX2_seated 42 = .ok (.ireturn, 1) := by decide +kernel
theorem dX2_firstCame_0 : decode cX2_firstCame 0 = .ok (.bipush 23, 2) := by decide +kernel
theorem dX2_firstCame_2 : decode cX2_firstCame 2 = .ok (.istore_n 1, 1) := by decide +kernel
theorem dX2_firstCame_3 : decode cX2_firstCame 3 = .ok (.iconst 0, 1) := by decide +kernel
theorem dX2_firstCame_4 : decode cX2_firstCame 4 = .ok (.istore_n 2, 1) := by decide +kernel
theorem dX2_firstCame_5 : decode cX2_firstCame 5 = .ok (.iload_n 2, 1) := by decide +kernel
theorem dX2_firstCame_6 : decode cX2_firstCame 6 = .ok (.aload_n 0, 1) := by decide +kernel
theorem dX2_firstCame_7 : decode cX2_firstCame 7 = .ok (.getfield 33, 3) := by decide +kernel
theorem dX2_firstCame_10 : decode cX2_firstCame 10 = .ok (.getfield 50, 3) := by decide +kernel
theorem dX2_firstCame_13 : decode cX2_firstCame 13 = .ok (.if_icmp .ge 36, 3) := by decide +kernel
theorem dX2_firstCame_16 : decode cX2_firstCame 16 = .ok (.aload_n 0, 1) := by decide +kernel
theorem dX2_firstCame_17 : decode cX2_firstCame 17 = .ok (.getfield 9, 3) := by decide +kernel
theorem dX2_firstCame_20 : decode cX2_firstCame 20 = .ok (.iload_n 2, 1) := by decide +kernel
theorem dX2_firstCame_21 : decode cX2_firstCame 21 = .ok (.bipush 8, 2) := by decide +kernel
theorem dX2_firstCame_23 : decode cX2_firstCame 23 = .ok (.imul, 1) := by decide +kernel
theorem dX2_firstCame_24 : decode cX2_firstCame 24 = .ok (.iconst 0, 1) := by decide +kernel
theorem dX2_firstCame_25 : decode cX2_firstCame 25 = .ok (.iadd, 1) := by decide +kernel
theorem dX2_firstCame_26 : decode cX2_firstCame 26 = .ok (.iaload, 1) := by decide +kernel
theorem dX2_firstCame_27 : decode cX2_firstCame 27 = .ok (.iload_n 1, 1) := by decide +kernel
theorem dX2_firstCame_28 : decode cX2_firstCame 28 = .ok (.if_icmp .ge 15, 3) := by decide +kernel
theorem dX2_firstCame_31 : decode cX2_firstCame 31 = .ok (.aload_n 0, 1) := by decide +kernel
theorem dX2_firstCame_32 : decode cX2_firstCame 32 = .ok (.getfield 9, 3) := by decide +kernel
theorem dX2_firstCame_35 : decode cX2_firstCame 35 = .ok (.iload_n 2, 1) := by decide +kernel
theorem dX2_firstCame_36 : decode cX2_firstCame 36 = .ok (.bipush 8, 2) := by decide +kernel
theorem dX2_firstCame_38 : decode cX2_firstCame 38 = .ok (.imul, 1) := by decide +kernel
theorem dX2_firstCame_39 : decode cX2_firstCame 39 = .ok (.iconst 0, 1) := by decide +kernel
theorem dX2_firstCame_40 : decode cX2_firstCame 40 = .ok (.iadd, 1) := by decide +kernel
theorem dX2_firstCame_41 : decode cX2_firstCame 41 = .ok (.iaload, 1) := by decide +kernel
theorem dX2_firstCame_42 : decode cX2_firstCame 42 = .ok (.istore_n 1, 1) := by decide +kernel
theorem dX2_firstCame_43 : decode cX2_firstCame 43 = .ok (.iinc 2 1, 3) := by decide +kernel
theorem dX2_firstCame_46 : decode cX2_firstCame 46 = .ok (.goto (-41), 3) := by decide +kernel
theorem dX2_firstCame_49 : decode cX2_firstCame 49 = .ok (.iload_n 1, 1) := by decide +kernel
theorem dX2_firstCame_50 : decode cX2_firstCame 50 = .ok (.ireturn, 1) := by decide +kernel
theorem dX3_init_0 : decode cX3_init 0 = .ok (.aload_n 0, 1) := by decide +kernel
theorem dX3_init_1 : decode cX3_init 1 = .ok (.invokespecial 3, 3) := by decide +kernel
theorem dX3_init_4 : decode cX3_init 4 = .ok (.aload_n 0, 1) := by decide +kernel
theorem dX3_init_5 : decode cX3_init 5 = .ok (.bipush 8, 2) := by decide +kernel
theorem dX3_init_7 : decode cX3_init 7 = .ok (.newarray .int, 2) := by decide +kernel
theorem dX3_init_9 : decode cX3_init 9 = .ok (.putfield 9, 3) := by decide +kernel
theorem dX3_init_12 : decode cX3_init 12 = .ok (.aload_n 0, 1) := by decide +kernel
theorem dX3_init_13 : decode cX3_init 13 = .ok (.bipush 8, 2) := by decide +kernel
theorem dX3_init_15 : decode cX3_init 15 = .ok (.newarray .int, 2) := by decide +kernel
theorem dX3_init_17 : decode cX3_init 17 = .ok (.putfield 15, 3) := by decide +kernel
theorem dX3_init_20 : decode cX3_init 20 = .ok (.aload_n 0, 1) := by decide +kernel
theorem dX3_init_21 : decode cX3_init 21 = .ok (.sipush 200, 3) := by decide +kernel
theorem dX3_init_24 : decode cX3_init 24 = .ok (.newarray .long, 2) := by decide +kernel
theorem dX3_init_26 : decode cX3_init 26 = .ok (.putfield 18, 3) := by decide +kernel
theorem dX3_init_29 : decode cX3_init 29 = .ok (.aload_n 0, 1) := by decide +kernel
theorem dX3_init_30 : decode cX3_init 30 = .ok (.sipush 200, 3) := by decide +kernel
theorem dX3_init_33 : decode cX3_init 33 = .ok (.newarray .int, 2) := by decide +kernel
theorem dX3_init_35 : decode cX3_init 35 = .ok (.putfield 22, 3) := by decide +kernel
theorem dX3_init_38 : decode cX3_init 38 = .ok (.aload_n 0, 1) := by decide +kernel
theorem dX3_init_39 : decode cX3_init 39 = .ok (.aload_n 1, 1) := by decide +kernel
theorem dX3_init_40 : decode cX3_init 40 = .ok (.putfield 25, 3) := by decide +kernel
theorem dX3_init_43 : decode cX3_init 43 = .ok (.aload_n 0, 1) := by decide +kernel
theorem dX3_init_44 : decode cX3_init 44 = .ok (.aload_n 2, 1) := by decide +kernel
theorem dX3_init_45 : decode cX3_init 45 = .ok (.putfield 29, 3) := by decide +kernel
theorem dX3_init_48 : decode cX3_init 48 = .ok (.aload_n 0, 1) := by decide +kernel
theorem dX3_init_49 : decode cX3_init 49 = .ok (.new 33, 3) := by decide +kernel
theorem dX3_init_52 : decode cX3_init 52 = .ok (.dup, 1) := by decide +kernel
theorem dX3_init_53 : decode cX3_init 53 = .ok (.aload_n 1, 1) := by decide +kernel
theorem dX3_init_54 : decode cX3_init 54 = .ok (.iconst 0, 1) := by decide +kernel
theorem dX3_init_55 : decode cX3_init 55 = .ok (.invokespecial 35, 3) := by decide +kernel
theorem dX3_init_58 : decode cX3_init 58 = .ok (.putfield 38, 3) := by decide +kernel
theorem dX3_init_61 : decode cX3_init 61 = .ok (.iconst 0, 1) := by decide +kernel
theorem dX3_init_62 : decode cX3_init 62 = .ok (.istore_n 3, 1) := by decide +kernel
theorem dX3_init_63 : decode cX3_init 63 = .ok (.iload_n 3, 1) := by decide +kernel
theorem dX3_init_64 : decode cX3_init 64 = .ok (.bipush 8, 2) := by decide +kernel
theorem dX3_init_66 : decode cX3_init 66 = .ok (.if_icmp .ge 16, 3) := by decide +kernel
theorem dX3_init_69 : decode cX3_init 69 = .ok (.aload_n 0, 1) := by decide +kernel
theorem dX3_init_70 : decode cX3_init 70 = .ok (.getfield 9, 3) := by decide +kernel
theorem dX3_init_73 : decode cX3_init 73 = .ok (.iload_n 3, 1) := by decide +kernel
theorem dX3_init_74 : decode cX3_init 74 = .ok (.iload_n 3, 1) := by decide +kernel
theorem dX3_init_75 : decode cX3_init 75 = .ok (.iastore, 1) := by decide +kernel
theorem dX3_init_76 : decode cX3_init 76 = .ok (.iinc 3 1, 3) := by decide +kernel
theorem dX3_init_79 : decode cX3_init 79 = .ok (.goto (-16), 3) := by decide +kernel
theorem dX3_init_82 : decode cX3_init 82 = .ok (.return_, 1) := by decide +kernel
theorem dX3_forget_0 : decode cX3_forget 0 = .ok (.aload_n 0, 1) := by decide +kernel
theorem dX3_forget_1 : decode cX3_forget 1 = .ok (.iconst 0, 1) := by decide +kernel
theorem dX3_forget_2 : decode cX3_forget 2 = .ok (.putfield 42, 3) := by decide +kernel
theorem dX3_forget_5 : decode cX3_forget 5 = .ok (.aload_n 0, 1) := by decide +kernel
theorem dX3_forget_6 : decode cX3_forget 6 = .ok (.iconst (-1), 1) := by decide +kernel
theorem dX3_forget_7 : decode cX3_forget 7 = .ok (.putfield 46, 3) := by decide +kernel
theorem dX3_forget_10 : decode cX3_forget 10 = .ok (.aload_n 0, 1) := by decide +kernel
theorem dX3_forget_11 : decode cX3_forget 11 = .ok (.iconst 0, 1) := by decide +kernel
theorem dX3_forget_12 : decode cX3_forget 12 = .ok (.putfield 49, 3) := by decide +kernel
theorem dX3_forget_15 : decode cX3_forget 15 = .ok (.return_, 1) := by decide +kernel
theorem dX3_reach_0 : decode cX3_reach 0 = .ok (.aload_n 0, 1) := by decide +kernel
theorem dX3_reach_1 : decode cX3_reach 1 = .ok (.getfield 42, 3) := by decide +kernel
theorem dX3_reach_4 : decode cX3_reach 4 = .ok (.istore_n 2, 1) := by decide +kernel
theorem dX3_reach_5 : decode cX3_reach 5 = .ok (.iload_n 2, 1) := by decide +kernel
theorem dX3_reach_6 : decode cX3_reach 6 = .ok (.iload_n 1, 1) := by decide +kernel
theorem dX3_reach_7 : decode cX3_reach 7 = .ok (.if_icmp .gt 151, 3) := by decide +kernel
theorem dX3_reach_10 : decode cX3_reach 10 = .ok (.iload_n 2, 1) := by decide +kernel
theorem dX3_reach_11 : decode cX3_reach 11 = .ok (.sipush 200, 3) := by decide +kernel
theorem dX3_reach_14 : decode cX3_reach 14 = .ok (.if_icmp .ge 144, 3) := by decide +kernel
theorem dX3_reach_17 : decode cX3_reach 17 = .ok (.aload_n 0, 1) := by decide +kernel
theorem dX3_reach_18 : decode cX3_reach 18 = .ok (.getfield 49, 3) := by decide +kernel
theorem dX3_reach_21 : decode cX3_reach 21 = .ok (.ifCond .le 40, 3) := by decide +kernel
theorem dX3_reach_24 : decode cX3_reach 24 = .ok (.aload_n 0, 1) := by decide +kernel
theorem dX3_reach_25 : decode cX3_reach 25 = .ok (.getfield 18, 3) := by decide +kernel
theorem dX3_reach_28 : decode cX3_reach 28 = .ok (.iload_n 2, 1) := by decide +kernel
theorem dX3_reach_29 : decode cX3_reach 29 = .ok (.aload_n 0, 1) := by decide +kernel
theorem dX3_reach_30 : decode cX3_reach 30 = .ok (.getfield 18, 3) := by decide +kernel
theorem dX3_reach_33 : decode cX3_reach 33 = .ok (.iload_n 2, 1) := by decide +kernel
theorem dX3_reach_34 : decode cX3_reach 34 = .ok (.aload_n 0, 1) := by decide +kernel
theorem dX3_reach_35 : decode cX3_reach 35 = .ok (.getfield 49, 3) := by decide +kernel
theorem dX3_reach_38 : decode cX3_reach 38 = .ok (.isub, 1) := by decide +kernel
theorem dX3_reach_39 : decode cX3_reach 39 = .ok (.laload, 1) := by decide +kernel
theorem dX3_reach_40 : decode cX3_reach 40 = .ok (.lastore, 1) := by decide +kernel
theorem dX3_reach_41 : decode cX3_reach 41 = .ok (.aload_n 0, 1) := by decide +kernel
theorem dX3_reach_42 : decode cX3_reach 42 = .ok (.getfield 22, 3) := by decide +kernel
theorem dX3_reach_45 : decode cX3_reach 45 = .ok (.iload_n 2, 1) := by decide +kernel
theorem dX3_reach_46 : decode cX3_reach 46 = .ok (.aload_n 0, 1) := by decide +kernel
theorem dX3_reach_47 : decode cX3_reach 47 = .ok (.getfield 22, 3) := by decide +kernel
theorem dX3_reach_50 : decode cX3_reach 50 = .ok (.iload_n 2, 1) := by decide +kernel
theorem dX3_reach_51 : decode cX3_reach 51 = .ok (.aload_n 0, 1) := by decide +kernel
theorem dX3_reach_52 : decode cX3_reach 52 = .ok (.getfield 49, 3) := by decide +kernel
theorem dX3_reach_55 : decode cX3_reach 55 = .ok (.isub, 1) := by decide +kernel
theorem dX3_reach_56 : decode cX3_reach 56 = .ok (.iaload, 1) := by decide +kernel
theorem dX3_reach_57 : decode cX3_reach 57 = .ok (.iastore, 1) := by decide +kernel
theorem dX3_reach_58 : decode cX3_reach 58 = .ok (.goto 87, 3) := by decide +kernel
theorem dX3_reach_61 : decode cX3_reach 61 = .ok (.iload_n 2, 1) := by decide +kernel
theorem dX3_reach_62 : decode cX3_reach 62 = .ok (.ifCond .ne 17, 3) := by decide +kernel
theorem dX3_reach_65 : decode cX3_reach 65 = .ok (.aload_n 0, 1) := by decide +kernel
theorem dX3_reach_66 : decode cX3_reach 66 = .ok (.getfield 25, 3) := by decide +kernel
theorem dX3_reach_69 : decode cX3_reach 69 = .ok (.aload_n 0, 1) := by decide +kernel
theorem dX3_reach_70 : decode cX3_reach 70 = .ok (.getfield 15, 3) := by decide +kernel
theorem dX3_reach_73 : decode cX3_reach 73 = .ok (.invokevirtual 52, 3) := by decide +kernel
theorem dX3_reach_76 : decode cX3_reach 76 = .ok (.goto 23, 3) := by decide +kernel
theorem dX3_reach_79 : decode cX3_reach 79 = .ok (.aload_n 0, 1) := by decide +kernel
theorem dX3_reach_80 : decode cX3_reach 80 = .ok (.getfield 29, 3) := by decide +kernel
theorem dX3_reach_83 : decode cX3_reach 83 = .ok (.aload_n 0, 1) := by decide +kernel
theorem dX3_reach_84 : decode cX3_reach 84 = .ok (.getfield 38, 3) := by decide +kernel
theorem dX3_reach_87 : decode cX3_reach 87 = .ok (.aload_n 0, 1) := by decide +kernel
theorem dX3_reach_88 : decode cX3_reach 88 = .ok (.getfield 9, 3) := by decide +kernel
theorem dX3_reach_91 : decode cX3_reach 91 = .ok (.iload_n 2, 1) := by decide +kernel
theorem dX3_reach_92 : decode cX3_reach 92 = .ok (.aload_n 0, 1) := by decide +kernel
theorem dX3_reach_93 : decode cX3_reach 93 = .ok (.getfield 15, 3) := by decide +kernel
theorem dX3_reach_96 : decode cX3_reach 96 = .ok (.invokevirtual 58, 3) := by decide +kernel
theorem dX3_reach_99 : decode cX3_reach 99 = .ok (.aload_n 0, 1) := by decide +kernel
theorem dX3_reach_100 : decode cX3_reach 100 = .ok (.getfield 38, 3) := by decide +kernel
theorem dX3_reach_103 : decode cX3_reach 103 = .ok (.aload_n 0, 1) := by decide +kernel
theorem dX3_reach_104 : decode cX3_reach 104 = .ok (.getfield 15, 3) := by decide +kernel
theorem dX3_reach_107 : decode cX3_reach 107 = .ok (.aload_n 0, 1) := by decide +kernel
theorem dX3_reach_108 : decode cX3_reach 108 = .ok (.getfield 25, 3) := by decide +kernel
theorem dX3_reach_111 : decode cX3_reach 111 = .ok (.getfield 64, 3) := by decide +kernel
theorem dX3_reach_114 : decode cX3_reach 114 = .ok (.invokevirtual 67, 3) := by decide +kernel
theorem dX3_reach_117 : decode cX3_reach 117 = .ok (.aload_n 0, 1) := by decide +kernel
theorem dX3_reach_118 : decode cX3_reach 118 = .ok (.getfield 18, 3) := by decide +kernel
theorem dX3_reach_121 : decode cX3_reach 121 = .ok (.iload_n 2, 1) := by decide +kernel
theorem dX3_reach_122 : decode cX3_reach 122 = .ok (.aload_n 0, 1) := by decide +kernel
theorem dX3_reach_123 : decode cX3_reach 123 = .ok (.invokevirtual 71, 3) := by decide +kernel
theorem dX3_reach_126 : decode cX3_reach 126 = .ok (.lastore, 1) := by decide +kernel
theorem dX3_reach_127 : decode cX3_reach 127 = .ok (.aload_n 0, 1) := by decide +kernel
theorem dX3_reach_128 : decode cX3_reach 128 = .ok (.getfield 22, 3) := by decide +kernel
theorem dX3_reach_131 : decode cX3_reach 131 = .ok (.iload_n 2, 1) := by decide +kernel
theorem dX3_reach_132 : decode cX3_reach 132 = .ok (.aload_n 0, 1) := by decide +kernel
theorem dX3_reach_133 : decode cX3_reach 133 = .ok (.getfield 38, 3) := by decide +kernel
theorem dX3_reach_136 : decode cX3_reach 136 = .ok (.invokevirtual 75, 3) := by decide +kernel
theorem dX3_reach_139 : decode cX3_reach 139 = .ok (.iastore, 1) := by decide +kernel
theorem dX3_reach_140 : decode cX3_reach 140 = .ok (.aload_n 0, 1) := by decide +kernel
theorem dX3_reach_141 : decode cX3_reach 141 = .ok (.iload_n 2, 1) := by decide +kernel
theorem dX3_reach_142 : decode cX3_reach 142 = .ok (.invokevirtual 78, 3) := by decide +kernel
theorem dX3_reach_145 : decode cX3_reach 145 = .ok (.aload_n 0, 1) := by decide +kernel
theorem dX3_reach_146 : decode cX3_reach 146 = .ok (.iload_n 2, 1) := by decide +kernel
theorem dX3_reach_147 : decode cX3_reach 147 = .ok (.iconst 1, 1) := by decide +kernel
theorem dX3_reach_148 : decode cX3_reach 148 = .ok (.iadd, 1) := by decide +kernel
theorem dX3_reach_149 : decode cX3_reach 149 = .ok (.putfield 42, 3) := by decide +kernel
theorem dX3_reach_152 : decode cX3_reach 152 = .ok (.iinc 2 1, 3) := by decide +kernel
theorem dX3_reach_155 : decode cX3_reach 155 = .ok (.goto (-150), 3) := by decide +kernel
theorem dX3_reach_158 : decode cX3_reach 158 = .ok (.return_, 1) := by decide +kernel
theorem dX3_packed_0 : decode cX3_packed 0 = .ok (.lconst 0, 1) := by decide +kernel
theorem dX3_packed_1 : decode cX3_packed 1 = .ok (.lstore_n 1, 1) := by decide +kernel
theorem dX3_packed_2 : decode cX3_packed 2 = .ok (.iconst 0, 1) := by decide +kernel
theorem dX3_packed_3 : decode cX3_packed 3 = .ok (.istore_n 3, 1) := by decide +kernel
theorem dX3_packed_4 : decode cX3_packed 4 = .ok (.iload_n 3, 1) := by decide +kernel
theorem dX3_packed_5 : decode cX3_packed 5 = .ok (.aload_n 0, 1) := by decide +kernel
theorem dX3_packed_6 : decode cX3_packed 6 = .ok (.getfield 25, 3) := by decide +kernel
theorem dX3_packed_9 : decode cX3_packed 9 = .ok (.getfield 82, 3) := by decide +kernel
theorem dX3_packed_12 : decode cX3_packed 12 = .ok (.if_icmp .ge 23, 3) := by decide +kernel
theorem dX3_packed_15 : decode cX3_packed 15 = .ok (.lload_n 1, 1) := by decide +kernel
theorem dX3_packed_16 : decode cX3_packed 16 = .ok (.aload_n 0, 1) := by decide +kernel
theorem dX3_packed_17 : decode cX3_packed 17 = .ok (.getfield 15, 3) := by decide +kernel
theorem dX3_packed_20 : decode cX3_packed 20 = .ok (.iload_n 3, 1) := by decide +kernel
theorem dX3_packed_21 : decode cX3_packed 21 = .ok (.iaload, 1) := by decide +kernel
theorem dX3_packed_22 : decode cX3_packed 22 = .ok (.i2l, 1) := by decide +kernel
theorem dX3_packed_23 : decode cX3_packed 23 = .ok (.iload_n 3, 1) := by decide +kernel
theorem dX3_packed_24 : decode cX3_packed 24 = .ok (.iconst 5, 1) := by decide +kernel
theorem dX3_packed_25 : decode cX3_packed 25 = .ok (.imul, 1) := by decide +kernel
theorem dX3_packed_26 : decode cX3_packed 26 = .ok (.lshl, 1) := by decide +kernel
theorem dX3_packed_27 : decode cX3_packed 27 = .ok (.lor, 1) := by decide +kernel
theorem dX3_packed_28 : decode cX3_packed 28 = .ok (.lstore_n 1, 1) := by decide +kernel
theorem dX3_packed_29 : decode cX3_packed 29 = .ok (.iinc 3 1, 3) := by decide +kernel
theorem dX3_packed_32 : decode cX3_packed 32 = .ok (.goto (-28), 3) := by decide +kernel
theorem dX3_packed_35 : decode cX3_packed 35 = .ok (.lload_n 1, 1) := by decide +kernel
theorem dX3_packed_36 : decode cX3_packed 36 = .ok (.lreturn, 1) := by decide +kernel
theorem dX3_seekRound_0 : decode cX3_seekRound 0 = .ok (.aload_n 0, 1) := by decide +kernel
theorem dX3_seekRound_1 : decode cX3_seekRound 1 = .ok (.invokevirtual 85, 3) := by decide +kernel
theorem dX3_seekRound_4 : decode cX3_seekRound 4 = .ok (.ifCond .eq 4, 3) := by decide +kernel
theorem dX3_seekRound_7 : decode cX3_seekRound 7 = .ok (.return_, 1) := by decide +kernel
theorem dX3_seekRound_8 : decode cX3_seekRound 8 = .ok (.iconst 0, 1) := by decide +kernel
theorem dX3_seekRound_9 : decode cX3_seekRound 9 = .ok (.istore_n 2, 1) := by decide +kernel
theorem dX3_seekRound_10 : decode cX3_seekRound 10 = .ok (.iload_n 2, 1) := by decide +kernel
theorem dX3_seekRound_11 : decode cX3_seekRound 11 = .ok (.iload_n 1, 1) := by decide +kernel
theorem dX3_seekRound_12 : decode cX3_seekRound 12 = .ok (.if_icmp .ge 38, 3) := by decide +kernel
theorem dX3_seekRound_15 : decode cX3_seekRound 15 = .ok (.aload_n 0, 1) := by decide +kernel
theorem dX3_seekRound_16 : decode cX3_seekRound 16 = .ok (.getfield 18, 3) := by decide +kernel
theorem dX3_seekRound_19 : decode cX3_seekRound 19 = .ok (.iload_n 2, 1) := by decide +kernel
theorem dX3_seekRound_20 : decode cX3_seekRound 20 = .ok (.laload, 1) := by decide +kernel
theorem dX3_seekRound_21 : decode cX3_seekRound 21 = .ok (.aload_n 0, 1) := by decide +kernel
theorem dX3_seekRound_22 : decode cX3_seekRound 22 = .ok (.getfield 18, 3) := by decide +kernel
theorem dX3_seekRound_25 : decode cX3_seekRound 25 = .ok (.iload_n 1, 1) := by decide +kernel
theorem dX3_seekRound_26 : decode cX3_seekRound 26 = .ok (.laload, 1) := by decide +kernel
theorem dX3_seekRound_27 : decode cX3_seekRound 27 = .ok (.lcmp, 1) := by decide +kernel
theorem dX3_seekRound_28 : decode cX3_seekRound 28 = .ok (.ifCond .ne 16, 3) := by decide +kernel
theorem dX3_seekRound_31 : decode cX3_seekRound 31 = .ok (.aload_n 0, 1) := by decide +kernel
theorem dX3_seekRound_32 : decode cX3_seekRound 32 = .ok (.iload_n 2, 1) := by decide +kernel
theorem dX3_seekRound_33 : decode cX3_seekRound 33 = .ok (.putfield 46, 3) := by decide +kernel
theorem dX3_seekRound_36 : decode cX3_seekRound 36 = .ok (.aload_n 0, 1) := by decide +kernel
theorem dX3_seekRound_37 : decode cX3_seekRound 37 = .ok (.iload_n 1, 1) := by decide +kernel
theorem dX3_seekRound_38 : decode cX3_seekRound 38 = .ok (.iload_n 2, 1) := by decide +kernel
theorem dX3_seekRound_39 : decode cX3_seekRound 39 = .ok (.isub, 1) := by decide +kernel
theorem dX3_seekRound_40 : decode cX3_seekRound 40 = .ok (.putfield 49, 3) := by decide +kernel
theorem dX3_seekRound_43 : decode cX3_seekRound 43 = .ok (.return_, 1) := by decide +kernel
theorem dX3_seekRound_44 : decode cX3_seekRound 44 = .ok (.iinc 2 1, 3) := by decide +kernel
theorem dX3_seekRound_47 : decode cX3_seekRound 47 = .ok (.goto (-37), 3) := by decide +kernel
theorem dX3_seekRound_50 : decode cX3_seekRound 50 = .ok (.return_, 1) := by decide +kernel
theorem dX3_asksDay_0 : decode cX3_asksDay 0 = .ok (.iconst 0, 1) := by decide +kernel
theorem dX3_asksDay_1 : decode cX3_asksDay 1 = .ok (.istore_n 1, 1) := by decide +kernel
theorem dX3_asksDay_2 : decode cX3_asksDay 2 = .ok (.iload_n 1, 1) := by decide +kernel
theorem dX3_asksDay_3 : decode cX3_asksDay 3 = .ok (.aload_n 0, 1) := by decide +kernel
theorem dX3_asksDay_4 : decode cX3_asksDay 4 = .ok (.getfield 25, 3) := by decide +kernel
theorem dX3_asksDay_7 : decode cX3_asksDay 7 = .ok (.getfield 82, 3) := by decide +kernel
theorem dX3_asksDay_10 : decode cX3_asksDay 10 = .ok (.if_icmp .ge 30, 3) := by decide +kernel
theorem dX3_asksDay_13 : decode cX3_asksDay 13 = .ok (.aload_n 0, 1) := by decide +kernel
theorem dX3_asksDay_14 : decode cX3_asksDay 14 = .ok (.getfield 29, 3) := by decide +kernel
theorem dX3_asksDay_17 : decode cX3_asksDay 17 = .ok (.getfield 89, 3) := by decide +kernel
theorem dX3_asksDay_20 : decode cX3_asksDay 20 = .ok (.aload_n 0, 1) := by decide +kernel
theorem dX3_asksDay_21 : decode cX3_asksDay 21 = .ok (.getfield 9, 3) := by decide +kernel
theorem dX3_asksDay_24 : decode cX3_asksDay 24 = .ok (.iload_n 1, 1) := by decide +kernel
theorem dX3_asksDay_25 : decode cX3_asksDay 25 = .ok (.iaload, 1) := by decide +kernel
theorem dX3_asksDay_26 : decode cX3_asksDay 26 = .ok (.ishr, 1) := by decide +kernel
theorem dX3_asksDay_27 : decode cX3_asksDay 27 = .ok (.iconst 1, 1) := by decide +kernel
theorem dX3_asksDay_28 : decode cX3_asksDay 28 = .ok (.iand, 1) := by decide +kernel
theorem dX3_asksDay_29 : decode cX3_asksDay 29 = .ok (.ifCond .eq 5, 3) := by decide +kernel
theorem dX3_asksDay_32 : decode cX3_asksDay 32 = .ok (.iconst 1, 1) := by decide +kernel
theorem dX3_asksDay_33 : decode cX3_asksDay 33 = .ok (.ireturn, 1) := by decide +kernel
theorem dX3_asksDay_34 : decode cX3_asksDay 34 = .ok (.iinc 1 1, 3) := by decide +kernel
theorem dX3_asksDay_37 : decode cX3_asksDay 37 = .ok (.goto (-35), 3) := by decide +kernel
theorem dX3_asksDay_40 : decode cX3_asksDay 40 = .ok (.iconst 0, 1) := by decide +kernel
theorem dX3_asksDay_41 : decode cX3_asksDay 41 = .ok (.ireturn, 1) := by decide +kernel
theorem dX3_halfOf_0 : decode cX3_halfOf 0 = .ok (.aload_n 0, 1) := by decide +kernel
theorem dX3_halfOf_1 : decode cX3_halfOf 1 = .ok (.getfield 18, 3) := by decide +kernel
theorem dX3_halfOf_4 : decode cX3_halfOf 4 = .ok (.iload_n 1, 1) := by decide +kernel
theorem dX3_halfOf_5 : decode cX3_halfOf 5 = .ok (.laload, 1) := by decide +kernel
theorem dX3_halfOf_6 : decode cX3_halfOf 6 = .ok (.iload_n 2, 1) := by decide +kernel
theorem dX3_halfOf_7 : decode cX3_halfOf 7 = .ok (.iconst 5, 1) := by decide +kernel
theorem dX3_halfOf_8 : decode cX3_halfOf 8 = .ok (.imul, 1) := by decide +kernel
theorem dX3_halfOf_9 : decode cX3_halfOf 9 = .ok (.lushr, 1) := by decide +kernel
theorem dX3_halfOf_10 : decode cX3_halfOf 10 = .ok (.l2i, 1) := by decide +kernel
theorem dX3_halfOf_11 : decode cX3_halfOf 11 = .ok (.bipush 31, 2) := by decide +kernel
theorem dX3_halfOf_13 : decode cX3_halfOf 13 = .ok (.iand, 1) := by decide +kernel
theorem dX3_halfOf_14 : decode cX3_halfOf 14 = .ok (.ireturn, 1) := by decide +kernel
theorem dX3_tell_0 : decode cX3_tell 0 = .ok (.iconst 0, 1) := by decide +kernel
theorem dX3_tell_1 : decode cX3_tell 1 = .ok (.istore_n 3, 1) := by decide +kernel
theorem dX3_tell_2 : decode cX3_tell 2 = .ok (.iload_n 3, 1) := by decide +kernel
theorem dX3_tell_3 : decode cX3_tell 3 = .ok (.aload_n 0, 1) := by decide +kernel
theorem dX3_tell_4 : decode cX3_tell 4 = .ok (.getfield 25, 3) := by decide +kernel
theorem dX3_tell_7 : decode cX3_tell 7 = .ok (.getfield 82, 3) := by decide +kernel
theorem dX3_tell_10 : decode cX3_tell 10 = .ok (.if_icmp .ge 18, 3) := by decide +kernel
theorem dX3_tell_13 : decode cX3_tell 13 = .ok (.aload_n 2, 1) := by decide +kernel
theorem dX3_tell_14 : decode cX3_tell 14 = .ok (.iload_n 3, 1) := by decide +kernel
theorem dX3_tell_15 : decode cX3_tell 15 = .ok (.aload_n 0, 1) := by decide +kernel
theorem dX3_tell_16 : decode cX3_tell 16 = .ok (.iload_n 1, 1) := by decide +kernel
theorem dX3_tell_17 : decode cX3_tell 17 = .ok (.iload_n 3, 1) := by decide +kernel
theorem dX3_tell_18 : decode cX3_tell 18 = .ok (.invokevirtual 92, 3) := by decide +kernel
theorem dX3_tell_21 : decode cX3_tell 21 = .ok (.iastore, 1) := by decide +kernel
theorem dX3_tell_22 : decode cX3_tell 22 = .ok (.iinc 3 1, 3) := by decide +kernel
theorem dX3_tell_25 : decode cX3_tell 25 = .ok (.goto (-23), 3) := by decide +kernel
theorem dX3_tell_28 : decode cX3_tell 28 = .ok (.return_, 1) := by decide +kernel
theorem dX3_wasSeated_0 : decode cX3_wasSeated 0 = .ok (.aload_n 0, 1) := by decide +kernel
theorem dX3_wasSeated_1 : decode cX3_wasSeated 1 = .ok (.getfield 22, 3) := by decide +kernel
theorem dX3_wasSeated_4 : decode cX3_wasSeated 4 = .ok (.iload_n 1, 1) := by decide +kernel
theorem dX3_wasSeated_5 : decode cX3_wasSeated 5 = .ok (.iaload, 1) := by decide +kernel
theorem dX3_wasSeated_6 : decode cX3_wasSeated 6 = .ok (.iload_n 2, 1) := by decide +kernel
theorem dX3_wasSeated_7 : decode cX3_wasSeated 7 = .ok (.ishr, 1) := by decide +kernel
theorem dX3_wasSeated_8 : decode cX3_wasSeated 8 = .ok (.iconst 1, 1) := by decide +kernel
theorem dX3_wasSeated_9 : decode cX3_wasSeated 9 = .ok (.iand, 1) := by decide +kernel
theorem dX3_wasSeated_10 : decode cX3_wasSeated 10 = .ok (.ifCond .eq 7, 3) := by decide +kernel
theorem dX3_wasSeated_13 : decode cX3_wasSeated 13 = .ok (.iconst 1, 1) := by decide +kernel
theorem dX3_wasSeated_14 : decode cX3_wasSeated 14 = .ok (.goto 4, 3) := by decide +kernel
theorem dX3_wasSeated_17 : decode cX3_wasSeated 17 = .ok (.iconst 0, 1) := by decide +kernel
theorem dX3_wasSeated_18 : decode cX3_wasSeated 18 = .ok (.ireturn, 1) := by decide +kernel
theorem dX4_init_0 : decode cX4_init 0 = .ok (.aload_n 0, 1) := by decide +kernel
theorem dX4_init_1 : decode cX4_init 1 = .ok (.invokespecial 3, 3) := by decide +kernel
theorem dX4_init_4 : decode cX4_init 4 = .ok (.aload_n 0, 1) := by decide +kernel
theorem dX4_init_5 : decode cX4_init 5 = .ok (.bipush 72, 2) := by decide +kernel
theorem dX4_init_7 : decode cX4_init 7 = .ok (.newarray .int, 2) := by decide +kernel
theorem dX4_init_9 : decode cX4_init 9 = .ok (.putfield 11, 3) := by decide +kernel
theorem dX4_init_12 : decode cX4_init 12 = .ok (.aload_n 0, 1) := by decide +kernel
theorem dX4_init_13 : decode cX4_init 13 = .ok (.sipush 2304, 3) := by decide +kernel
theorem dX4_init_16 : decode cX4_init 16 = .ok (.newarray .int, 2) := by decide +kernel
theorem dX4_init_18 : decode cX4_init 18 = .ok (.putfield 15, 3) := by decide +kernel
theorem dX4_init_21 : decode cX4_init 21 = .ok (.aload_n 0, 1) := by decide +kernel
theorem dX4_init_22 : decode cX4_init 22 = .ok (.bipush 8, 2) := by decide +kernel
theorem dX4_init_24 : decode cX4_init 24 = .ok (.newarray .int, 2) := by decide +kernel
theorem dX4_init_26 : decode cX4_init 26 = .ok (.putfield 18, 3) := by decide +kernel
theorem dX4_init_29 : decode cX4_init 29 = .ok (.aload_n 0, 1) := by decide +kernel
theorem dX4_init_30 : decode cX4_init 30 = .ok (.aload_n 1, 1) := by decide +kernel
theorem dX4_init_31 : decode cX4_init 31 = .ok (.putfield 21, 3) := by decide +kernel
theorem dX4_init_34 : decode cX4_init 34 = .ok (.return_, 1) := by decide +kernel
theorem dX4_forget_0 : decode cX4_forget 0 = .ok (.aload_n 0, 1) := by decide +kernel
theorem dX4_forget_1 : decode cX4_forget 1 = .ok (.iconst 0, 1) := by decide +kernel
theorem dX4_forget_2 : decode cX4_forget 2 = .ok (.putfield 25, 3) := by decide +kernel
theorem dX4_forget_5 : decode cX4_forget 5 = .ok (.return_, 1) := by decide +kernel
theorem dX4_learn_0 : decode cX4_learn 0 = .ok (.aload_n 0, 1) := by decide +kernel
theorem dX4_learn_1 : decode cX4_learn 1 = .ok (.getfield 25, 3) := by decide +kernel
theorem dX4_learn_4 : decode cX4_learn 4 = .ok (.ifCond .eq 4, 3) := by decide +kernel
theorem dX4_learn_7 : decode cX4_learn 7 = .ok (.return_, 1) := by decide +kernel
theorem dX4_learn_8 : decode cX4_learn 8 = .ok (.iconst 0, 1) := by decide +kernel
theorem dX4_learn_9 : decode cX4_learn 9 = .ok (.istore_n 1, 1) := by decide +kernel
theorem dX4_learn_10 : decode cX4_learn 10 = .ok (.iload_n 1, 1) := by decide +kernel
theorem dX4_learn_11 : decode cX4_learn 11 = .ok (.aload_n 0, 1) := by decide +kernel
theorem dX4_learn_12 : decode cX4_learn 12 = .ok (.getfield 21, 3) := by decide +kernel
theorem dX4_learn_15 : decode cX4_learn 15 = .ok (.getfield 29, 3) := by decide +kernel
theorem dX4_learn_18 : decode cX4_learn 18 = .ok (.if_icmp .ge 49, 3) := by decide +kernel
theorem dX4_learn_21 : decode cX4_learn 21 = .ok (.iconst 0, 1) := by decide +kernel
theorem dX4_learn_22 : decode cX4_learn 22 = .ok (.istore_n 2, 1) := by decide +kernel
theorem dX4_learn_23 : decode cX4_learn 23 = .ok (.iload_n 2, 1) := by decide +kernel
theorem dX4_learn_24 : decode cX4_learn 24 = .ok (.aload_n 0, 1) := by decide +kernel
theorem dX4_learn_25 : decode cX4_learn 25 = .ok (.getfield 21, 3) := by decide +kernel
theorem dX4_learn_28 : decode cX4_learn 28 = .ok (.getfield 35, 3) := by decide +kernel
theorem dX4_learn_31 : decode cX4_learn 31 = .ok (.if_icmp .ge 30, 3) := by decide +kernel
theorem dX4_learn_34 : decode cX4_learn 34 = .ok (.aload_n 0, 1) := by decide +kernel
theorem dX4_learn_35 : decode cX4_learn 35 = .ok (.getfield 11, 3) := by decide +kernel
theorem dX4_learn_38 : decode cX4_learn 38 = .ok (.iload_n 1, 1) := by decide +kernel
theorem dX4_learn_39 : decode cX4_learn 39 = .ok (.bipush 9, 2) := by decide +kernel
theorem dX4_learn_41 : decode cX4_learn 41 = .ok (.imul, 1) := by decide +kernel
theorem dX4_learn_42 : decode cX4_learn 42 = .ok (.iload_n 2, 1) := by decide +kernel
theorem dX4_learn_43 : decode cX4_learn 43 = .ok (.iadd, 1) := by decide +kernel
theorem dX4_learn_44 : decode cX4_learn 44 = .ok (.aload_n 0, 1) := by decide +kernel
theorem dX4_learn_45 : decode cX4_learn 45 = .ok (.getfield 21, 3) := by decide +kernel
theorem dX4_learn_48 : decode cX4_learn 48 = .ok (.iload_n 1, 1) := by decide +kernel
theorem dX4_learn_49 : decode cX4_learn 49 = .ok (.iload_n 2, 1) := by decide +kernel
theorem dX4_learn_50 : decode cX4_learn 50 = .ok (.iconst 0, 1) := by decide +kernel
theorem dX4_learn_51 : decode cX4_learn 51 = .ok (.invokevirtual 38, 3) := by decide +kernel
theorem dX4_learn_54 : decode cX4_learn 54 = .ok (.iastore, 1) := by decide +kernel
theorem dX4_learn_55 : decode cX4_learn 55 = .ok (.iinc 2 1, 3) := by decide +kernel
theorem dX4_learn_58 : decode cX4_learn 58 = .ok (.goto (-35), 3) := by decide +kernel
theorem dX4_learn_61 : decode cX4_learn 61 = .ok (.iinc 1 1, 3) := by decide +kernel
theorem dX4_learn_64 : decode cX4_learn 64 = .ok (.goto (-54), 3) := by decide +kernel
theorem dX4_learn_67 : decode cX4_learn 67 = .ok (.iconst 1, 1) := by decide +kernel
theorem dX4_learn_68 : decode cX4_learn 68 = .ok (.aload_n 0, 1) := by decide +kernel
theorem dX4_learn_69 : decode cX4_learn 69 = .ok (.getfield 21, 3) := by decide +kernel
theorem dX4_learn_72 : decode cX4_learn 72 = .ok (.getfield 35, 3) := by decide +kernel
theorem dX4_learn_75 : decode cX4_learn 75 = .ok (.ishl, 1) := by decide +kernel
theorem dX4_learn_76 : decode cX4_learn 76 = .ok (.istore_n 1, 1) := by decide +kernel
theorem dX4_learn_77 : decode cX4_learn 77 = .ok (.iconst 0, 1) := by decide +kernel
theorem dX4_learn_78 : decode cX4_learn 78 = .ok (.istore_n 2, 1) := by decide +kernel
theorem dX4_learn_79 : decode cX4_learn 79 = .ok (.iload_n 2, 1) := by decide +kernel
theorem dX4_learn_80 : decode cX4_learn 80 = .ok (.iload_n 1, 1) := by decide +kernel
theorem dX4_learn_81 : decode cX4_learn 81 = .ok (.if_icmp .ge 28, 3) := by decide +kernel
theorem dX4_learn_84 : decode cX4_learn 84 = .ok (.aload_n 0, 1) := by decide +kernel
theorem dX4_learn_85 : decode cX4_learn 85 = .ok (.getfield 15, 3) := by decide +kernel
theorem dX4_learn_88 : decode cX4_learn 88 = .ok (.aload_n 0, 1) := by decide +kernel
theorem dX4_learn_89 : decode cX4_learn 89 = .ok (.getfield 21, 3) := by decide +kernel
theorem dX4_learn_92 : decode cX4_learn 92 = .ok (.getfield 29, 3) := by decide +kernel
theorem dX4_learn_95 : decode cX4_learn 95 = .ok (.sipush 256, 3) := by decide +kernel
theorem dX4_learn_98 : decode cX4_learn 98 = .ok (.imul, 1) := by decide +kernel
theorem dX4_learn_99 : decode cX4_learn 99 = .ok (.iload_n 2, 1) := by decide +kernel
theorem dX4_learn_100 : decode cX4_learn 100 = .ok (.iadd, 1) := by decide +kernel
theorem dX4_learn_101 : decode cX4_learn 101 = .ok (.iconst 0, 1) := by decide +kernel
theorem dX4_learn_102 : decode cX4_learn 102 = .ok (.iastore, 1) := by decide +kernel
theorem dX4_learn_103 : decode cX4_learn 103 = .ok (.iinc 2 1, 3) := by decide +kernel
theorem dX4_learn_106 : decode cX4_learn 106 = .ok (.goto (-27), 3) := by decide +kernel
theorem dX4_learn_109 : decode cX4_learn 109 = .ok (.aload_n 0, 1) := by decide +kernel
theorem dX4_learn_110 : decode cX4_learn 110 = .ok (.getfield 21, 3) := by decide +kernel
theorem dX4_learn_113 : decode cX4_learn 113 = .ok (.getfield 29, 3) := by decide +kernel
theorem dX4_learn_116 : decode cX4_learn 116 = .ok (.iconst 1, 1) := by decide +kernel
theorem dX4_learn_117 : decode cX4_learn 117 = .ok (.isub, 1) := by decide +kernel
theorem dX4_learn_118 : decode cX4_learn 118 = .ok (.istore_n 2, 1) := by decide +kernel
theorem dX4_learn_119 : decode cX4_learn 119 = .ok (.iload_n 2, 1) := by decide +kernel
theorem dX4_learn_120 : decode cX4_learn 120 = .ok (.ifCond .lt 54, 3) := by decide +kernel
theorem dX4_learn_123 : decode cX4_learn 123 = .ok (.iconst 0, 1) := by decide +kernel
theorem dX4_learn_124 : decode cX4_learn 124 = .ok (.istore_n 3, 1) := by decide +kernel
theorem dX4_learn_125 : decode cX4_learn 125 = .ok (.iload_n 3, 1) := by decide +kernel
theorem dX4_learn_126 : decode cX4_learn 126 = .ok (.iload_n 1, 1) := by decide +kernel
theorem dX4_learn_127 : decode cX4_learn 127 = .ok (.if_icmp .ge 41, 3) := by decide +kernel
theorem dX4_learn_130 : decode cX4_learn 130 = .ok (.aload_n 0, 1) := by decide +kernel
theorem dX4_learn_131 : decode cX4_learn 131 = .ok (.getfield 15, 3) := by decide +kernel
theorem dX4_learn_134 : decode cX4_learn 134 = .ok (.iload_n 2, 1) := by decide +kernel
theorem dX4_learn_135 : decode cX4_learn 135 = .ok (.sipush 256, 3) := by decide +kernel
theorem dX4_learn_138 : decode cX4_learn 138 = .ok (.imul, 1) := by decide +kernel
theorem dX4_learn_139 : decode cX4_learn 139 = .ok (.iload_n 3, 1) := by decide +kernel
theorem dX4_learn_140 : decode cX4_learn 140 = .ok (.iadd, 1) := by decide +kernel
theorem dX4_learn_141 : decode cX4_learn 141 = .ok (.aload_n 0, 1) := by decide +kernel
theorem dX4_learn_142 : decode cX4_learn 142 = .ok (.iload_n 2, 1) := by decide +kernel
theorem dX4_learn_143 : decode cX4_learn 143 = .ok (.iload_n 3, 1) := by decide +kernel
theorem dX4_learn_144 : decode cX4_learn 144 = .ok (.iload_n 2, 1) := by decide +kernel
theorem dX4_learn_145 : decode cX4_learn 145 = .ok (.iconst 1, 1) := by decide +kernel
theorem dX4_learn_146 : decode cX4_learn 146 = .ok (.iadd, 1) := by decide +kernel
theorem dX4_learn_147 : decode cX4_learn 147 = .ok (.sipush 256, 3) := by decide +kernel
theorem dX4_learn_150 : decode cX4_learn 150 = .ok (.imul, 1) := by decide +kernel
theorem dX4_learn_151 : decode cX4_learn 151 = .ok (.aload_n 0, 1) := by decide +kernel
theorem dX4_learn_152 : decode cX4_learn 152 = .ok (.getfield 21, 3) := by decide +kernel
theorem dX4_learn_155 : decode cX4_learn 155 = .ok (.getfield 35, 3) := by decide +kernel
theorem dX4_learn_158 : decode cX4_learn 158 = .ok (.invokevirtual 42, 3) := by decide +kernel
theorem dX4_learn_161 : decode cX4_learn 161 = .ok (.iastore, 1) := by decide +kernel
theorem dX4_learn_162 : decode cX4_learn 162 = .ok (.iinc 3 1, 3) := by decide +kernel
theorem dX4_learn_165 : decode cX4_learn 165 = .ok (.goto (-40), 3) := by decide +kernel
theorem dX4_learn_168 : decode cX4_learn 168 = .ok (.iinc 2 (-1), 3) := by decide +kernel
theorem dX4_learn_171 : decode cX4_learn 171 = .ok (.goto (-52), 3) := by decide +kernel
theorem dX4_learn_174 : decode cX4_learn 174 = .ok (.aload_n 0, 1) := by decide +kernel
theorem dX4_learn_175 : decode cX4_learn 175 = .ok (.aload_n 0, 1) := by decide +kernel
theorem dX4_learn_176 : decode cX4_learn 176 = .ok (.getfield 15, 3) := by decide +kernel
theorem dX4_learn_179 : decode cX4_learn 179 = .ok (.iconst 0, 1) := by decide +kernel
theorem dX4_learn_180 : decode cX4_learn 180 = .ok (.iaload, 1) := by decide +kernel
theorem dX4_learn_181 : decode cX4_learn 181 = .ok (.putfield 46, 3) := by decide +kernel
theorem dX4_learn_184 : decode cX4_learn 184 = .ok (.aload_n 0, 1) := by decide +kernel
theorem dX4_learn_185 : decode cX4_learn 185 = .ok (.invokevirtual 49, 3) := by decide +kernel
theorem dX4_learn_188 : decode cX4_learn 188 = .ok (.aload_n 0, 1) := by decide +kernel
theorem dX4_learn_189 : decode cX4_learn 189 = .ok (.iconst 1, 1) := by decide +kernel
theorem dX4_learn_190 : decode cX4_learn 190 = .ok (.putfield 25, 3) := by decide +kernel
theorem dX4_learn_193 : decode cX4_learn 193 = .ok (.return_, 1) := by decide +kernel
theorem dX4_bestFrom_0 : decode cX4_bestFrom 0 = .ok (.aload_n 0, 1) := by decide +kernel
theorem dX4_bestFrom_1 : decode cX4_bestFrom 1 = .ok (.getfield 15, 3) := by decide +kernel
theorem dX4_bestFrom_4 : decode cX4_bestFrom 4 = .ok (.iload_n 3, 1) := by decide +kernel
theorem dX4_bestFrom_5 : decode cX4_bestFrom 5 = .ok (.iload_n 2, 1) := by decide +kernel
theorem dX4_bestFrom_6 : decode cX4_bestFrom 6 = .ok (.iadd, 1) := by decide +kernel
theorem dX4_bestFrom_7 : decode cX4_bestFrom 7 = .ok (.iaload, 1) := by decide +kernel
theorem dX4_bestFrom_8 : decode cX4_bestFrom 8 = .ok (.istore 5, 2) := by decide +kernel
theorem dX4_bestFrom_10 : decode cX4_bestFrom 10 = .ok (.iconst 0, 1) := by decide +kernel
theorem dX4_bestFrom_11 : decode cX4_bestFrom 11 = .ok (.istore 6, 2) := by decide +kernel
theorem dX4_bestFrom_13 : decode cX4_bestFrom 13 = .ok (.iload 6, 2) := by decide +kernel
theorem dX4_bestFrom_15 : decode cX4_bestFrom 15 = .ok (.iload 4, 2) := by decide +kernel
theorem dX4_bestFrom_17 : decode cX4_bestFrom 17 = .ok (.if_icmp .ge 62, 3) := by decide +kernel
theorem dX4_bestFrom_20 : decode cX4_bestFrom 20 = .ok (.iload_n 2, 1) := by decide +kernel
theorem dX4_bestFrom_21 : decode cX4_bestFrom 21 = .ok (.iload 6, 2) := by decide +kernel
theorem dX4_bestFrom_23 : decode cX4_bestFrom 23 = .ok (.ishr, 1) := by decide +kernel
theorem dX4_bestFrom_24 : decode cX4_bestFrom 24 = .ok (.iconst 1, 1) := by decide +kernel
theorem dX4_bestFrom_25 : decode cX4_bestFrom 25 = .ok (.iand, 1) := by decide +kernel
theorem dX4_bestFrom_26 : decode cX4_bestFrom 26 = .ok (.ifCond .ne 47, 3) := by decide +kernel
theorem dX4_bestFrom_29 : decode cX4_bestFrom 29 = .ok (.aload_n 0, 1) := by decide +kernel
theorem dX4_bestFrom_30 : decode cX4_bestFrom 30 = .ok (.getfield 11, 3) := by decide +kernel
theorem dX4_bestFrom_33 : decode cX4_bestFrom 33 = .ok (.iload_n 1, 1) := by decide +kernel
theorem dX4_bestFrom_34 : decode cX4_bestFrom 34 = .ok (.bipush 9, 2) := by decide +kernel
theorem dX4_bestFrom_36 : decode cX4_bestFrom 36 = .ok (.imul, 1) := by decide +kernel
theorem dX4_bestFrom_37 : decode cX4_bestFrom 37 = .ok (.iload 6, 2) := by decide +kernel
theorem dX4_bestFrom_39 : decode cX4_bestFrom 39 = .ok (.iadd, 1) := by decide +kernel
theorem dX4_bestFrom_40 : decode cX4_bestFrom 40 = .ok (.iaload, 1) := by decide +kernel
theorem dX4_bestFrom_41 : decode cX4_bestFrom 41 = .ok (.aload_n 0, 1) := by decide +kernel
theorem dX4_bestFrom_42 : decode cX4_bestFrom 42 = .ok (.getfield 15, 3) := by decide +kernel
theorem dX4_bestFrom_45 : decode cX4_bestFrom 45 = .ok (.iload_n 3, 1) := by decide +kernel
theorem dX4_bestFrom_46 : decode cX4_bestFrom 46 = .ok (.iload_n 2, 1) := by decide +kernel
theorem dX4_bestFrom_47 : decode cX4_bestFrom 47 = .ok (.iconst 1, 1) := by decide +kernel
theorem dX4_bestFrom_48 : decode cX4_bestFrom 48 = .ok (.iload 6, 2) := by decide +kernel
theorem dX4_bestFrom_50 : decode cX4_bestFrom 50 = .ok (.ishl, 1) := by decide +kernel
theorem dX4_bestFrom_51 : decode cX4_bestFrom 51 = .ok (.ior, 1) := by decide +kernel
theorem dX4_bestFrom_52 : decode cX4_bestFrom 52 = .ok (.iadd, 1) := by decide +kernel
theorem dX4_bestFrom_53 : decode cX4_bestFrom 53 = .ok (.iaload, 1) := by decide +kernel
theorem dX4_bestFrom_54 : decode cX4_bestFrom 54 = .ok (.iadd, 1) := by decide +kernel
theorem dX4_bestFrom_55 : decode cX4_bestFrom 55 = .ok (.istore 7, 2) := by decide +kernel
theorem dX4_bestFrom_57 : decode cX4_bestFrom 57 = .ok (.iload 7, 2) := by decide +kernel
theorem dX4_bestFrom_59 : decode cX4_bestFrom 59 = .ok (.iload 5, 2) := by decide +kernel
theorem dX4_bestFrom_61 : decode cX4_bestFrom 61 = .ok (.if_icmp .le 8, 3) := by decide +kernel
theorem dX4_bestFrom_64 : decode cX4_bestFrom 64 = .ok (.iload 7, 2) := by decide +kernel
theorem dX4_bestFrom_66 : decode cX4_bestFrom 66 = .ok (.goto 5, 3) := by decide +kernel
theorem dX4_bestFrom_69 : decode cX4_bestFrom 69 = .ok (.iload 5, 2) := by decide +kernel
theorem dX4_bestFrom_71 : decode cX4_bestFrom 71 = .ok (.istore 5, 2) := by decide +kernel
theorem dX4_bestFrom_73 : decode cX4_bestFrom 73 = .ok (.iinc 6 1, 3) := by decide +kernel
theorem dX4_bestFrom_76 : decode cX4_bestFrom 76 = .ok (.goto (-63), 3) := by decide +kernel
theorem dX4_bestFrom_79 : decode cX4_bestFrom 79 = .ok (.iload 5, 2) := by decide +kernel
theorem dX4_bestFrom_81 : decode cX4_bestFrom 81 = .ok (.ireturn, 1) := by decide +kernel
theorem dX4_deal_0 : decode cX4_deal 0 = .ok (.iconst 0, 1) := by decide +kernel
theorem dX4_deal_1 : decode cX4_deal 1 = .ok (.istore_n 1, 1) := by decide +kernel
theorem dX4_deal_2 : decode cX4_deal 2 = .ok (.iconst 0, 1) := by decide +kernel
theorem dX4_deal_3 : decode cX4_deal 3 = .ok (.istore_n 2, 1) := by decide +kernel
theorem dX4_deal_4 : decode cX4_deal 4 = .ok (.iload_n 2, 1) := by decide +kernel
theorem dX4_deal_5 : decode cX4_deal 5 = .ok (.aload_n 0, 1) := by decide +kernel
theorem dX4_deal_6 : decode cX4_deal 6 = .ok (.getfield 21, 3) := by decide +kernel
theorem dX4_deal_9 : decode cX4_deal 9 = .ok (.getfield 29, 3) := by decide +kernel
theorem dX4_deal_12 : decode cX4_deal 12 = .ok (.if_icmp .ge 42, 3) := by decide +kernel
theorem dX4_deal_15 : decode cX4_deal 15 = .ok (.aload_n 0, 1) := by decide +kernel
theorem dX4_deal_16 : decode cX4_deal 16 = .ok (.getfield 18, 3) := by decide +kernel
theorem dX4_deal_19 : decode cX4_deal 19 = .ok (.iload_n 2, 1) := by decide +kernel
theorem dX4_deal_20 : decode cX4_deal 20 = .ok (.aload_n 0, 1) := by decide +kernel
theorem dX4_deal_21 : decode cX4_deal 21 = .ok (.iload_n 2, 1) := by decide +kernel
theorem dX4_deal_22 : decode cX4_deal 22 = .ok (.iload_n 1, 1) := by decide +kernel
theorem dX4_deal_23 : decode cX4_deal 23 = .ok (.invokevirtual 52, 3) := by decide +kernel
theorem dX4_deal_26 : decode cX4_deal 26 = .ok (.iastore, 1) := by decide +kernel
theorem dX4_deal_27 : decode cX4_deal 27 = .ok (.aload_n 0, 1) := by decide +kernel
theorem dX4_deal_28 : decode cX4_deal 28 = .ok (.getfield 18, 3) := by decide +kernel
theorem dX4_deal_31 : decode cX4_deal 31 = .ok (.iload_n 2, 1) := by decide +kernel
theorem dX4_deal_32 : decode cX4_deal 32 = .ok (.iaload, 1) := by decide +kernel
theorem dX4_deal_33 : decode cX4_deal 33 = .ok (.iconst (-1), 1) := by decide +kernel
theorem dX4_deal_34 : decode cX4_deal 34 = .ok (.if_icmp .eq 14, 3) := by decide +kernel
theorem dX4_deal_37 : decode cX4_deal 37 = .ok (.iload_n 1, 1) := by decide +kernel
theorem dX4_deal_38 : decode cX4_deal 38 = .ok (.iconst 1, 1) := by decide +kernel
theorem dX4_deal_39 : decode cX4_deal 39 = .ok (.aload_n 0, 1) := by decide +kernel
theorem dX4_deal_40 : decode cX4_deal 40 = .ok (.getfield 18, 3) := by decide +kernel
theorem dX4_deal_43 : decode cX4_deal 43 = .ok (.iload_n 2, 1) := by decide +kernel
theorem dX4_deal_44 : decode cX4_deal 44 = .ok (.iaload, 1) := by decide +kernel
theorem dX4_deal_45 : decode cX4_deal 45 = .ok (.ishl, 1) := by decide +kernel
theorem dX4_deal_46 : decode cX4_deal 46 = .ok (.ior, 1) := by decide +kernel
theorem dX4_deal_47 : decode cX4_deal 47 = .ok (.istore_n 1, 1) := by decide +kernel
theorem dX4_deal_48 : decode cX4_deal 48 = .ok (.iinc 2 1, 3) := by decide +kernel
theorem dX4_deal_51 : decode cX4_deal 51 = .ok (.goto (-47), 3) := by decide +kernel
theorem dX4_deal_54 : decode cX4_deal 54 = .ok (.return_, 1) := by decide +kernel
theorem dX4_firstGift_0 : decode cX4_firstGift 0 = .ok (.aload_n 0, 1) := by decide +kernel
theorem dX4_firstGift_1 : decode cX4_firstGift 1 = .ok (.getfield 15, 3) := by decide +kernel
theorem dX4_firstGift_4 : decode cX4_firstGift 4 = .ok (.iload_n 1, 1) := by decide +kernel
theorem dX4_firstGift_5 : decode cX4_firstGift 5 = .ok (.sipush 256, 3) := by decide +kernel
theorem dX4_firstGift_8 : decode cX4_firstGift 8 = .ok (.imul, 1) := by decide +kernel
theorem dX4_firstGift_9 : decode cX4_firstGift 9 = .ok (.iload_n 2, 1) := by decide +kernel
theorem dX4_firstGift_10 : decode cX4_firstGift 10 = .ok (.iadd, 1) := by decide +kernel
theorem dX4_firstGift_11 : decode cX4_firstGift 11 = .ok (.iaload, 1) := by decide +kernel
theorem dX4_firstGift_12 : decode cX4_firstGift 12 = .ok (.istore_n 3, 1) := by decide +kernel
theorem dX4_firstGift_13 : decode cX4_firstGift 13 = .ok (.iload_n 1, 1) := by decide +kernel
theorem dX4_firstGift_14 : decode cX4_firstGift 14 = .ok (.iconst 1, 1) := by decide +kernel
theorem dX4_firstGift_15 : decode cX4_firstGift 15 = .ok (.iadd, 1) := by decide +kernel
theorem dX4_firstGift_16 : decode cX4_firstGift 16 = .ok (.sipush 256, 3) := by decide +kernel
theorem dX4_firstGift_19 : decode cX4_firstGift 19 = .ok (.imul, 1) := by decide +kernel
theorem dX4_firstGift_20 : decode cX4_firstGift 20 = .ok (.istore 4, 2) := by decide +kernel
theorem dX4_firstGift_22 : decode cX4_firstGift 22 = .ok (.aload_n 0, 1) := by decide +kernel
theorem dX4_firstGift_23 : decode cX4_firstGift 23 = .ok (.getfield 15, 3) := by decide +kernel
theorem dX4_firstGift_26 : decode cX4_firstGift 26 = .ok (.iload 4, 2) := by decide +kernel
theorem dX4_firstGift_28 : decode cX4_firstGift 28 = .ok (.iload_n 2, 1) := by decide +kernel
theorem dX4_firstGift_29 : decode cX4_firstGift 29 = .ok (.iadd, 1) := by decide +kernel
theorem dX4_firstGift_30 : decode cX4_firstGift 30 = .ok (.iaload, 1) := by decide +kernel
theorem dX4_firstGift_31 : decode cX4_firstGift 31 = .ok (.iload_n 3, 1) := by decide +kernel
theorem dX4_firstGift_32 : decode cX4_firstGift 32 = .ok (.if_icmp .ne 5, 3) := by decide +kernel
theorem dX4_firstGift_35 : decode cX4_firstGift 35 = .ok (.iconst (-1), 1) := by decide +kernel
theorem dX4_firstGift_36 : decode cX4_firstGift 36 = .ok (.ireturn, 1) := by decide +kernel
theorem dX4_firstGift_37 : decode cX4_firstGift 37 = .ok (.iconst 0, 1) := by decide +kernel
theorem dX4_firstGift_38 : decode cX4_firstGift 38 = .ok (.istore 5, 2) := by decide +kernel
theorem dX4_firstGift_40 : decode cX4_firstGift 40 = .ok (.iload 5, 2) := by decide +kernel
theorem dX4_firstGift_42 : decode cX4_firstGift 42 = .ok (.aload_n 0, 1) := by decide +kernel
theorem dX4_firstGift_43 : decode cX4_firstGift 43 = .ok (.getfield 21, 3) := by decide +kernel
theorem dX4_firstGift_46 : decode cX4_firstGift 46 = .ok (.getfield 35, 3) := by decide +kernel
theorem dX4_firstGift_49 : decode cX4_firstGift 49 = .ok (.if_icmp .ge 52, 3) := by decide +kernel
theorem dX4_firstGift_52 : decode cX4_firstGift 52 = .ok (.iload_n 2, 1) := by decide +kernel
theorem dX4_firstGift_53 : decode cX4_firstGift 53 = .ok (.iload 5, 2) := by decide +kernel
theorem dX4_firstGift_55 : decode cX4_firstGift 55 = .ok (.ishr, 1) := by decide +kernel
theorem dX4_firstGift_56 : decode cX4_firstGift 56 = .ok (.iconst 1, 1) := by decide +kernel
theorem dX4_firstGift_57 : decode cX4_firstGift 57 = .ok (.iand, 1) := by decide +kernel
theorem dX4_firstGift_58 : decode cX4_firstGift 58 = .ok (.ifCond .ne 37, 3) := by decide +kernel
theorem dX4_firstGift_61 : decode cX4_firstGift 61 = .ok (.aload_n 0, 1) := by decide +kernel
theorem dX4_firstGift_62 : decode cX4_firstGift 62 = .ok (.getfield 11, 3) := by decide +kernel
theorem dX4_firstGift_65 : decode cX4_firstGift 65 = .ok (.iload_n 1, 1) := by decide +kernel
theorem dX4_firstGift_66 : decode cX4_firstGift 66 = .ok (.bipush 9, 2) := by decide +kernel
theorem dX4_firstGift_68 : decode cX4_firstGift 68 = .ok (.imul, 1) := by decide +kernel
theorem dX4_firstGift_69 : decode cX4_firstGift 69 = .ok (.iload 5, 2) := by decide +kernel
theorem dX4_firstGift_71 : decode cX4_firstGift 71 = .ok (.iadd, 1) := by decide +kernel
theorem dX4_firstGift_72 : decode cX4_firstGift 72 = .ok (.iaload, 1) := by decide +kernel
theorem dX4_firstGift_73 : decode cX4_firstGift 73 = .ok (.aload_n 0, 1) := by decide +kernel
theorem dX4_firstGift_74 : decode cX4_firstGift 74 = .ok (.getfield 15, 3) := by decide +kernel
theorem dX4_firstGift_77 : decode cX4_firstGift 77 = .ok (.iload 4, 2) := by decide +kernel
theorem dX4_firstGift_79 : decode cX4_firstGift 79 = .ok (.iload_n 2, 1) := by decide +kernel
theorem dX4_firstGift_80 : decode cX4_firstGift 80 = .ok (.iconst 1, 1) := by decide +kernel
theorem dX4_firstGift_81 : decode cX4_firstGift 81 = .ok (.iload 5, 2) := by decide +kernel
theorem dX4_firstGift_83 : decode cX4_firstGift 83 = .ok (.ishl, 1) := by decide +kernel
theorem dX4_firstGift_84 : decode cX4_firstGift 84 = .ok (.ior, 1) := by decide +kernel
theorem dX4_firstGift_85 : decode cX4_firstGift 85 = .ok (.iadd, 1) := by decide +kernel
theorem dX4_firstGift_86 : decode cX4_firstGift 86 = .ok (.iaload, 1) := by decide +kernel
theorem dX4_firstGift_87 : decode cX4_firstGift 87 = .ok (.iadd, 1) := by decide +kernel
theorem dX4_firstGift_88 : decode cX4_firstGift 88 = .ok (.iload_n 3, 1) := by decide +kernel
theorem dX4_firstGift_89 : decode cX4_firstGift 89 = .ok (.if_icmp .ne 6, 3) := by decide +kernel
theorem dX4_firstGift_92 : decode cX4_firstGift 92 = .ok (.iload 5, 2) := by decide +kernel
theorem dX4_firstGift_94 : decode cX4_firstGift 94 = .ok (.ireturn, 1) := by decide +kernel
theorem dX4_firstGift_95 : decode cX4_firstGift 95 = .ok (.iinc 5 1, 3) := by decide +kernel
theorem dX4_firstGift_98 : decode cX4_firstGift 98 = .ok (.goto (-58), 3) := by decide +kernel
theorem dX4_firstGift_101 : decode cX4_firstGift 101 = .ok (.iconst (-1), 1) := by decide +kernel
theorem dX4_firstGift_102 : decode cX4_firstGift 102 = .ok (.ireturn, 1) := by decide +kernel
theorem dX4_mostWith_0 : decode cX4_mostWith 0 = .ok (.aload_n 0, 1) := by decide +kernel
theorem dX4_mostWith_1 : decode cX4_mostWith 1 = .ok (.getfield 21, 3) := by decide +kernel
theorem dX4_mostWith_4 : decode cX4_mostWith 4 = .ok (.getfield 35, 3) := by decide +kernel
theorem dX4_mostWith_7 : decode cX4_mostWith 7 = .ok (.iconst 1, 1) := by decide +kernel
theorem dX4_mostWith_8 : decode cX4_mostWith 8 = .ok (.iadd, 1) := by decide +kernel
theorem dX4_mostWith_9 : decode cX4_mostWith 9 = .ok (.istore_n 3, 1) := by decide +kernel
theorem dX4_mostWith_10 : decode cX4_mostWith 10 = .ok (.iconst 1, 1) := by decide +kernel
theorem dX4_mostWith_11 : decode cX4_mostWith 11 = .ok (.iload_n 3, 1) := by decide +kernel
theorem dX4_mostWith_12 : decode cX4_mostWith 12 = .ok (.ishl, 1) := by decide +kernel
theorem dX4_mostWith_13 : decode cX4_mostWith 13 = .ok (.istore 4, 2) := by decide +kernel
theorem dX4_mostWith_15 : decode cX4_mostWith 15 = .ok (.iconst 0, 1) := by decide +kernel
theorem dX4_mostWith_16 : decode cX4_mostWith 16 = .ok (.istore 5, 2) := by decide +kernel
theorem dX4_mostWith_18 : decode cX4_mostWith 18 = .ok (.iload 5, 2) := by decide +kernel
theorem dX4_mostWith_20 : decode cX4_mostWith 20 = .ok (.iload 4, 2) := by decide +kernel
theorem dX4_mostWith_22 : decode cX4_mostWith 22 = .ok (.if_icmp .ge 17, 3) := by decide +kernel
theorem dX4_mostWith_25 : decode cX4_mostWith 25 = .ok (.aload_n 0, 1) := by decide +kernel
theorem dX4_mostWith_26 : decode cX4_mostWith 26 = .ok (.getfield 15, 3) := by decide +kernel
theorem dX4_mostWith_29 : decode cX4_mostWith 29 = .ok (.iload 5, 2) := by decide +kernel
theorem dX4_mostWith_31 : decode cX4_mostWith 31 = .ok (.iconst 0, 1) := by decide +kernel
theorem dX4_mostWith_32 : decode cX4_mostWith 32 = .ok (.iastore, 1) := by decide +kernel
theorem dX4_mostWith_33 : decode cX4_mostWith 33 = .ok (.iinc 5 1, 3) := by decide +kernel
theorem dX4_mostWith_36 : decode cX4_mostWith 36 = .ok (.goto (-18), 3) := by decide +kernel
theorem dX4_mostWith_39 : decode cX4_mostWith 39 = .ok (.aload_n 0, 1) := by decide +kernel
theorem dX4_mostWith_40 : decode cX4_mostWith 40 = .ok (.getfield 21, 3) := by decide +kernel
theorem dX4_mostWith_43 : decode cX4_mostWith 43 = .ok (.getfield 29, 3) := by decide +kernel
theorem dX4_mostWith_46 : decode cX4_mostWith 46 = .ok (.iconst 1, 1) := by decide +kernel
theorem dX4_mostWith_47 : decode cX4_mostWith 47 = .ok (.isub, 1) := by decide +kernel
theorem dX4_mostWith_48 : decode cX4_mostWith 48 = .ok (.istore 5, 2) := by decide +kernel
theorem dX4_mostWith_50 : decode cX4_mostWith 50 = .ok (.iload 5, 2) := by decide +kernel
theorem dX4_mostWith_52 : decode cX4_mostWith 52 = .ok (.ifCond .lt 85, 3) := by decide +kernel
theorem dX4_mostWith_55 : decode cX4_mostWith 55 = .ok (.aload_n 0, 1) := by decide +kernel
theorem dX4_mostWith_56 : decode cX4_mostWith 56 = .ok (.getfield 11, 3) := by decide +kernel
theorem dX4_mostWith_59 : decode cX4_mostWith 59 = .ok (.iload 5, 2) := by decide +kernel
theorem dX4_mostWith_61 : decode cX4_mostWith 61 = .ok (.bipush 9, 2) := by decide +kernel
theorem dX4_mostWith_63 : decode cX4_mostWith 63 = .ok (.imul, 1) := by decide +kernel
theorem dX4_mostWith_64 : decode cX4_mostWith 64 = .ok (.aload_n 0, 1) := by decide +kernel
theorem dX4_mostWith_65 : decode cX4_mostWith 65 = .ok (.getfield 21, 3) := by decide +kernel
theorem dX4_mostWith_68 : decode cX4_mostWith 68 = .ok (.getfield 35, 3) := by decide +kernel
theorem dX4_mostWith_71 : decode cX4_mostWith 71 = .ok (.iadd, 1) := by decide +kernel
theorem dX4_mostWith_72 : decode cX4_mostWith 72 = .ok (.iload_n 1, 1) := by decide +kernel
theorem dX4_mostWith_73 : decode cX4_mostWith 73 = .ok (.iload_n 2, 1) := by decide +kernel
theorem dX4_mostWith_74 : decode cX4_mostWith 74 = .ok (.aload_n 0, 1) := by decide +kernel
theorem dX4_mostWith_75 : decode cX4_mostWith 75 = .ok (.getfield 21, 3) := by decide +kernel
theorem dX4_mostWith_78 : decode cX4_mostWith 78 = .ok (.getfield 56, 3) := by decide +kernel
theorem dX4_mostWith_81 : decode cX4_mostWith 81 = .ok (.iload 5, 2) := by decide +kernel
theorem dX4_mostWith_83 : decode cX4_mostWith 83 = .ok (.iaload, 1) := by decide +kernel
theorem dX4_mostWith_84 : decode cX4_mostWith 84 = .ok (.aload_n 0, 1) := by decide +kernel
theorem dX4_mostWith_85 : decode cX4_mostWith 85 = .ok (.getfield 21, 3) := by decide +kernel
theorem dX4_mostWith_88 : decode cX4_mostWith 88 = .ok (.getfield 59, 3) := by decide +kernel
theorem dX4_mostWith_91 : decode cX4_mostWith 91 = .ok (.iload 5, 2) := by decide +kernel
theorem dX4_mostWith_93 : decode cX4_mostWith 93 = .ok (.iaload, 1) := by decide +kernel
theorem dX4_mostWith_94 : decode cX4_mostWith 94 = .ok (.invokestatic 62, 3) := by decide +kernel
theorem dX4_mostWith_97 : decode cX4_mostWith 97 = .ok (.iastore, 1) := by decide +kernel
theorem dX4_mostWith_98 : decode cX4_mostWith 98 = .ok (.iconst 0, 1) := by decide +kernel
theorem dX4_mostWith_99 : decode cX4_mostWith 99 = .ok (.istore 6, 2) := by decide +kernel
theorem dX4_mostWith_101 : decode cX4_mostWith 101 = .ok (.iload 6, 2) := by decide +kernel
theorem dX4_mostWith_103 : decode cX4_mostWith 103 = .ok (.iload 4, 2) := by decide +kernel
theorem dX4_mostWith_105 : decode cX4_mostWith 105 = .ok (.if_icmp .ge 26, 3) := by decide +kernel
theorem dX4_mostWith_108 : decode cX4_mostWith 108 = .ok (.aload_n 0, 1) := by decide +kernel
theorem dX4_mostWith_109 : decode cX4_mostWith 109 = .ok (.getfield 15, 3) := by decide +kernel
theorem dX4_mostWith_112 : decode cX4_mostWith 112 = .ok (.iload 6, 2) := by decide +kernel
theorem dX4_mostWith_114 : decode cX4_mostWith 114 = .ok (.aload_n 0, 1) := by decide +kernel
theorem dX4_mostWith_115 : decode cX4_mostWith 115 = .ok (.iload 5, 2) := by decide +kernel
theorem dX4_mostWith_117 : decode cX4_mostWith 117 = .ok (.iload 6, 2) := by decide +kernel
theorem dX4_mostWith_119 : decode cX4_mostWith 119 = .ok (.iconst 0, 1) := by decide +kernel
theorem dX4_mostWith_120 : decode cX4_mostWith 120 = .ok (.iload_n 3, 1) := by decide +kernel
theorem dX4_mostWith_121 : decode cX4_mostWith 121 = .ok (.invokevirtual 42, 3) := by decide +kernel
theorem dX4_mostWith_124 : decode cX4_mostWith 124 = .ok (.iastore, 1) := by decide +kernel
theorem dX4_mostWith_125 : decode cX4_mostWith 125 = .ok (.iinc 6 1, 3) := by decide +kernel
theorem dX4_mostWith_128 : decode cX4_mostWith 128 = .ok (.goto (-27), 3) := by decide +kernel
theorem dX4_mostWith_131 : decode cX4_mostWith 131 = .ok (.iinc 5 (-1), 3) := by decide +kernel
theorem dX4_mostWith_134 : decode cX4_mostWith 134 = .ok (.goto (-84), 3) := by decide +kernel
theorem dX4_mostWith_137 : decode cX4_mostWith 137 = .ok (.aload_n 0, 1) := by decide +kernel
theorem dX4_mostWith_138 : decode cX4_mostWith 138 = .ok (.getfield 15, 3) := by decide +kernel
theorem dX4_mostWith_141 : decode cX4_mostWith 141 = .ok (.iconst 0, 1) := by decide +kernel
theorem dX4_mostWith_142 : decode cX4_mostWith 142 = .ok (.iaload, 1) := by decide +kernel
theorem dX4_mostWith_143 : decode cX4_mostWith 143 = .ok (.ireturn, 1) := by decide +kernel
theorem dX4_takersAt_0 : decode cX4_takersAt 0 = .ok (.iconst 0, 1) := by decide +kernel
theorem dX4_takersAt_1 : decode cX4_takersAt 1 = .ok (.istore_n 2, 1) := by decide +kernel
theorem dX4_takersAt_2 : decode cX4_takersAt 2 = .ok (.iconst 0, 1) := by decide +kernel
theorem dX4_takersAt_3 : decode cX4_takersAt 3 = .ok (.istore_n 3, 1) := by decide +kernel
theorem dX4_takersAt_4 : decode cX4_takersAt 4 = .ok (.iload_n 3, 1) := by decide +kernel
theorem dX4_takersAt_5 : decode cX4_takersAt 5 = .ok (.aload_n 0, 1) := by decide +kernel
theorem dX4_takersAt_6 : decode cX4_takersAt 6 = .ok (.getfield 21, 3) := by decide +kernel
theorem dX4_takersAt_9 : decode cX4_takersAt 9 = .ok (.getfield 29, 3) := by decide +kernel
theorem dX4_takersAt_12 : decode cX4_takersAt 12 = .ok (.if_icmp .ge 21, 3) := by decide +kernel
theorem dX4_takersAt_15 : decode cX4_takersAt 15 = .ok (.aload_n 0, 1) := by decide +kernel
theorem dX4_takersAt_16 : decode cX4_takersAt 16 = .ok (.iload_n 3, 1) := by decide +kernel
theorem dX4_takersAt_17 : decode cX4_takersAt 17 = .ok (.invokevirtual 65, 3) := by decide +kernel
theorem dX4_takersAt_20 : decode cX4_takersAt 20 = .ok (.iload_n 1, 1) := by decide +kernel
theorem dX4_takersAt_21 : decode cX4_takersAt 21 = .ok (.if_icmp .lt 6, 3) := by decide +kernel
theorem dX4_takersAt_24 : decode cX4_takersAt 24 = .ok (.iinc 2 1, 3) := by decide +kernel
theorem dX4_takersAt_27 : decode cX4_takersAt 27 = .ok (.iinc 3 1, 3) := by decide +kernel
theorem dX4_takersAt_30 : decode cX4_takersAt 30 = .ok (.goto (-26), 3) := by decide +kernel
theorem dX4_takersAt_33 : decode cX4_takersAt 33 = .ok (.iload_n 2, 1) := by decide +kernel
theorem dX4_takersAt_34 : decode cX4_takersAt 34 = .ok (.ireturn, 1) := by decide +kernel
theorem dX4_bestOf_0 : decode cX4_bestOf 0 = .ok (.iconst (-1), 1) := by decide +kernel
theorem dX4_bestOf_1 : decode cX4_bestOf 1 = .ok (.istore_n 2, 1) := by decide +kernel
theorem dX4_bestOf_2 : decode cX4_bestOf 2 = .ok (.iconst 0, 1) := by decide +kernel
theorem dX4_bestOf_3 : decode cX4_bestOf 3 = .ok (.istore_n 3, 1) := by decide +kernel
theorem dX4_bestOf_4 : decode cX4_bestOf 4 = .ok (.iload_n 3, 1) := by decide +kernel
theorem dX4_bestOf_5 : decode cX4_bestOf 5 = .ok (.aload_n 0, 1) := by decide +kernel
theorem dX4_bestOf_6 : decode cX4_bestOf 6 = .ok (.getfield 21, 3) := by decide +kernel
theorem dX4_bestOf_9 : decode cX4_bestOf 9 = .ok (.getfield 35, 3) := by decide +kernel
theorem dX4_bestOf_12 : decode cX4_bestOf 12 = .ok (.if_icmp .ge 36, 3) := by decide +kernel
theorem dX4_bestOf_15 : decode cX4_bestOf 15 = .ok (.aload_n 0, 1) := by decide +kernel
theorem dX4_bestOf_16 : decode cX4_bestOf 16 = .ok (.getfield 11, 3) := by decide +kernel
theorem dX4_bestOf_19 : decode cX4_bestOf 19 = .ok (.iload_n 1, 1) := by decide +kernel
theorem dX4_bestOf_20 : decode cX4_bestOf 20 = .ok (.bipush 9, 2) := by decide +kernel
theorem dX4_bestOf_22 : decode cX4_bestOf 22 = .ok (.imul, 1) := by decide +kernel
theorem dX4_bestOf_23 : decode cX4_bestOf 23 = .ok (.iload_n 3, 1) := by decide +kernel
theorem dX4_bestOf_24 : decode cX4_bestOf 24 = .ok (.iadd, 1) := by decide +kernel
theorem dX4_bestOf_25 : decode cX4_bestOf 25 = .ok (.iaload, 1) := by decide +kernel
theorem dX4_bestOf_26 : decode cX4_bestOf 26 = .ok (.iload_n 2, 1) := by decide +kernel
theorem dX4_bestOf_27 : decode cX4_bestOf 27 = .ok (.if_icmp .le 15, 3) := by decide +kernel
theorem dX4_bestOf_30 : decode cX4_bestOf 30 = .ok (.aload_n 0, 1) := by decide +kernel
theorem dX4_bestOf_31 : decode cX4_bestOf 31 = .ok (.getfield 11, 3) := by decide +kernel
theorem dX4_bestOf_34 : decode cX4_bestOf 34 = .ok (.iload_n 1, 1) := by decide +kernel
theorem dX4_bestOf_35 : decode cX4_bestOf 35 = .ok (.bipush 9, 2) := by decide +kernel
theorem dX4_bestOf_37 : decode cX4_bestOf 37 = .ok (.imul, 1) := by decide +kernel
theorem dX4_bestOf_38 : decode cX4_bestOf 38 = .ok (.iload_n 3, 1) := by decide +kernel
theorem dX4_bestOf_39 : decode cX4_bestOf 39 = .ok (.iadd, 1) := by decide +kernel
theorem dX4_bestOf_40 : decode cX4_bestOf 40 = .ok (.iaload, 1) := by decide +kernel
theorem dX4_bestOf_41 : decode cX4_bestOf 41 = .ok (.istore_n 2, 1) := by decide +kernel
theorem dX4_bestOf_42 : decode cX4_bestOf 42 = .ok (.iinc 3 1, 3) := by decide +kernel
theorem dX4_bestOf_45 : decode cX4_bestOf 45 = .ok (.goto (-41), 3) := by decide +kernel
theorem dX4_bestOf_48 : decode cX4_bestOf 48 = .ok (.iload_n 2, 1) := by decide +kernel
theorem dX4_bestOf_49 : decode cX4_bestOf 49 = .ok (.ireturn, 1) := by decide +kernel
theorem dX5_init_0 : decode cX5_init 0 = .ok (.aload_n 0, 1) := by decide +kernel
theorem dX5_init_1 : decode cX5_init 1 = .ok (.invokespecial 3, 3) := by decide +kernel
theorem dX5_init_4 : decode cX5_init 4 = .ok (.aload_n 0, 1) := by decide +kernel
theorem dX5_init_5 : decode cX5_init 5 = .ok (.sipush 150, 3) := by decide +kernel
theorem dX5_init_8 : decode cX5_init 8 = .ok (.newarray .int, 2) := by decide +kernel
theorem dX5_init_10 : decode cX5_init 10 = .ok (.putfield 9, 3) := by decide +kernel
theorem dX5_init_13 : decode cX5_init 13 = .ok (.aload_n 0, 1) := by decide +kernel
theorem dX5_init_14 : decode cX5_init 14 = .ok (.aload_n 1, 1) := by decide +kernel
theorem dX5_init_15 : decode cX5_init 15 = .ok (.putfield 15, 3) := by decide +kernel
theorem dX5_init_18 : decode cX5_init 18 = .ok (.return_, 1) := by decide +kernel
theorem dX5_read_0 : decode cX5_read 0 = .ok (.aload_n 0, 1) := by decide +kernel
theorem dX5_read_1 : decode cX5_read 1 = .ok (.iconst 0, 1) := by decide +kernel
theorem dX5_read_2 : decode cX5_read 2 = .ok (.putfield 19, 3) := by decide +kernel
theorem dX5_read_5 : decode cX5_read 5 = .ok (.aload_n 0, 1) := by decide +kernel
theorem dX5_read_6 : decode cX5_read 6 = .ok (.iconst 0, 1) := by decide +kernel
theorem dX5_read_7 : decode cX5_read 7 = .ok (.putfield 23, 3) := by decide +kernel
theorem dX5_read_10 : decode cX5_read 10 = .ok (.aload_n 0, 1) := by decide +kernel
theorem dX5_read_11 : decode cX5_read 11 = .ok (.iconst 0, 1) := by decide +kernel
theorem dX5_read_12 : decode cX5_read 12 = .ok (.invokevirtual 27, 3) := by decide +kernel
theorem dX5_read_15 : decode cX5_read 15 = .ok (.ifCond .ne 5, 3) := by decide +kernel
theorem dX5_read_18 : decode cX5_read 18 = .ok (.iconst 0, 1) := by decide +kernel
theorem dX5_read_19 : decode cX5_read 19 = .ok (.ireturn, 1) := by decide +kernel
theorem dX5_read_20 : decode cX5_read 20 = .ok (.aload_n 0, 1) := by decide +kernel
theorem dX5_read_21 : decode cX5_read 21 = .ok (.getfield 15, 3) := by decide +kernel
theorem dX5_read_24 : decode cX5_read 24 = .ok (.invokevirtual 31, 3) := by decide +kernel
theorem dX5_read_27 : decode cX5_read 27 = .ok (.iconst (-1), 1) := by decide +kernel
theorem dX5_read_28 : decode cX5_read 28 = .ok (.if_icmp .eq 21, 3) := by decide +kernel
theorem dX5_read_31 : decode cX5_read 31 = .ok (.aload_n 0, 1) := by decide +kernel
theorem dX5_read_32 : decode cX5_read 32 = .ok (.getfield 15, 3) := by decide +kernel
theorem dX5_read_35 : decode cX5_read 35 = .ok (.iconst 1, 1) := by decide +kernel
theorem dX5_read_36 : decode cX5_read 36 = .ok (.aload_n 0, 1) := by decide +kernel
theorem dX5_read_37 : decode cX5_read 37 = .ok (.getfield 15, 3) := by decide +kernel
theorem dX5_read_40 : decode cX5_read 40 = .ok (.getfield 37, 3) := by decide +kernel
theorem dX5_read_43 : decode cX5_read 43 = .ok (.invokevirtual 40, 3) := by decide +kernel
theorem dX5_read_46 : decode cX5_read 46 = .ok (.ifCond .eq 7, 3) := by decide +kernel
theorem dX5_read_49 : decode cX5_read 49 = .ok (.iconst 1, 1) := by decide +kernel
theorem dX5_read_50 : decode cX5_read 50 = .ok (.goto 4, 3) := by decide +kernel
theorem dX5_read_53 : decode cX5_read 53 = .ok (.iconst 0, 1) := by decide +kernel
theorem dX5_read_54 : decode cX5_read 54 = .ok (.ireturn, 1) := by decide +kernel
theorem dX5_readSum_0 : decode cX5_readSum 0 = .ok (.aload_n 0, 1) := by decide +kernel
theorem dX5_readSum_1 : decode cX5_readSum 1 = .ok (.iload_n 1, 1) := by decide +kernel
theorem dX5_readSum_2 : decode cX5_readSum 2 = .ok (.invokevirtual 44, 3) := by decide +kernel
theorem dX5_readSum_5 : decode cX5_readSum 5 = .ok (.istore_n 2, 1) := by decide +kernel
theorem dX5_readSum_6 : decode cX5_readSum 6 = .ok (.iconst 0, 1) := by decide +kernel
theorem dX5_readSum_7 : decode cX5_readSum 7 = .ok (.istore_n 3, 1) := by decide +kernel
theorem dX5_readSum_8 : decode cX5_readSum 8 = .ok (.iload_n 2, 1) := by decide +kernel
theorem dX5_readSum_9 : decode cX5_readSum 9 = .ok (.ifCond .eq 80, 3) := by decide +kernel
theorem dX5_readSum_12 : decode cX5_readSum 12 = .ok (.iload_n 3, 1) := by decide +kernel
theorem dX5_readSum_13 : decode cX5_readSum 13 = .ok (.sipush 150, 3) := by decide +kernel
theorem dX5_readSum_16 : decode cX5_readSum 16 = .ok (.if_icmp .ge 73, 3) := by decide +kernel
theorem dX5_readSum_19 : decode cX5_readSum 19 = .ok (.aload_n 0, 1) := by decide +kernel
theorem dX5_readSum_20 : decode cX5_readSum 20 = .ok (.getfield 15, 3) := by decide +kernel
theorem dX5_readSum_23 : decode cX5_readSum 23 = .ok (.invokevirtual 31, 3) := by decide +kernel
theorem dX5_readSum_26 : decode cX5_readSum 26 = .ok (.istore 4, 2) := by decide +kernel
theorem dX5_readSum_28 : decode cX5_readSum 28 = .ok (.iload 4, 2) := by decide +kernel
theorem dX5_readSum_30 : decode cX5_readSum 30 = .ok (.bipush 43, 2) := by decide +kernel
theorem dX5_readSum_32 : decode cX5_readSum 32 = .ok (.if_icmp .eq 12, 3) := by decide +kernel
theorem dX5_readSum_35 : decode cX5_readSum 35 = .ok (.iload 4, 2) := by decide +kernel
theorem dX5_readSum_37 : decode cX5_readSum 37 = .ok (.bipush 45, 2) := by decide +kernel
theorem dX5_readSum_39 : decode cX5_readSum 39 = .ok (.if_icmp .eq 5, 3) := by decide +kernel
theorem dX5_readSum_42 : decode cX5_readSum 42 = .ok (.iconst 1, 1) := by decide +kernel
theorem dX5_readSum_43 : decode cX5_readSum 43 = .ok (.ireturn, 1) := by decide +kernel
theorem dX5_readSum_44 : decode cX5_readSum 44 = .ok (.aload_n 0, 1) := by decide +kernel
theorem dX5_readSum_45 : decode cX5_readSum 45 = .ok (.getfield 15, 3) := by decide +kernel
theorem dX5_readSum_48 : decode cX5_readSum 48 = .ok (.dup, 1) := by decide +kernel
theorem dX5_readSum_49 : decode cX5_readSum 49 = .ok (.getfield 37, 3) := by decide +kernel
theorem dX5_readSum_52 : decode cX5_readSum 52 = .ok (.iconst 1, 1) := by decide +kernel
theorem dX5_readSum_53 : decode cX5_readSum 53 = .ok (.iadd, 1) := by decide +kernel
theorem dX5_readSum_54 : decode cX5_readSum 54 = .ok (.putfield 37, 3) := by decide +kernel
theorem dX5_readSum_57 : decode cX5_readSum 57 = .ok (.aload_n 0, 1) := by decide +kernel
theorem dX5_readSum_58 : decode cX5_readSum 58 = .ok (.iload_n 1, 1) := by decide +kernel
theorem dX5_readSum_59 : decode cX5_readSum 59 = .ok (.invokevirtual 44, 3) := by decide +kernel
theorem dX5_readSum_62 : decode cX5_readSum 62 = .ok (.istore_n 2, 1) := by decide +kernel
theorem dX5_readSum_63 : decode cX5_readSum 63 = .ok (.aload_n 0, 1) := by decide +kernel
theorem dX5_readSum_64 : decode cX5_readSum 64 = .ok (.iload 4, 2) := by decide +kernel
theorem dX5_readSum_66 : decode cX5_readSum 66 = .ok (.bipush 43, 2) := by decide +kernel
theorem dX5_readSum_68 : decode cX5_readSum 68 = .ok (.if_icmp .ne 9, 3) := by decide +kernel
theorem dX5_readSum_71 : decode cX5_readSum 71 = .ok (.sipush 200, 3) := by decide +kernel
theorem dX5_readSum_74 : decode cX5_readSum 74 = .ok (.goto 6, 3) := by decide +kernel
theorem dX5_readSum_77 : decode cX5_readSum 77 = .ok (.sipush 201, 3) := by decide +kernel
theorem dX5_readSum_80 : decode cX5_readSum 80 = .ok (.invokevirtual 49, 3) := by decide +kernel
theorem dX5_readSum_83 : decode cX5_readSum 83 = .ok (.iinc 3 1, 3) := by decide +kernel
theorem dX5_readSum_86 : decode cX5_readSum 86 = .ok (.goto (-78), 3) := by decide +kernel
theorem dX5_readSum_89 : decode cX5_readSum 89 = .ok (.iload_n 2, 1) := by decide +kernel
theorem dX5_readSum_90 : decode cX5_readSum 90 = .ok (.ireturn, 1) := by decide +kernel
theorem dX5_readProduct_0 : decode cX5_readProduct 0 = .ok (.aload_n 0, 1) := by decide +kernel
theorem dX5_readProduct_1 : decode cX5_readProduct 1 = .ok (.iload_n 1, 1) := by decide +kernel
theorem dX5_readProduct_2 : decode cX5_readProduct 2 = .ok (.invokevirtual 53, 3) := by decide +kernel
theorem dX5_readProduct_5 : decode cX5_readProduct 5 = .ok (.istore_n 2, 1) := by decide +kernel
theorem dX5_readProduct_6 : decode cX5_readProduct 6 = .ok (.iconst 0, 1) := by decide +kernel
theorem dX5_readProduct_7 : decode cX5_readProduct 7 = .ok (.istore_n 3, 1) := by decide +kernel
theorem dX5_readProduct_8 : decode cX5_readProduct 8 = .ok (.iload_n 2, 1) := by decide +kernel
theorem dX5_readProduct_9 : decode cX5_readProduct 9 = .ok (.ifCond .eq 100, 3) := by decide +kernel
theorem dX5_readProduct_12 : decode cX5_readProduct 12 = .ok (.iload_n 3, 1) := by decide +kernel
theorem dX5_readProduct_13 : decode cX5_readProduct 13 = .ok (.sipush 150, 3) := by decide +kernel
theorem dX5_readProduct_16 : decode cX5_readProduct 16 = .ok (.if_icmp .ge 93, 3) := by decide +kernel
theorem dX5_readProduct_19 : decode cX5_readProduct 19 = .ok (.aload_n 0, 1) := by decide +kernel
theorem dX5_readProduct_20 : decode cX5_readProduct 20 = .ok (.getfield 15, 3) := by decide +kernel
theorem dX5_readProduct_23 : decode cX5_readProduct 23 = .ok (.invokevirtual 31, 3) := by decide +kernel
theorem dX5_readProduct_26 : decode cX5_readProduct 26 = .ok (.istore 4, 2) := by decide +kernel
theorem dX5_readProduct_28 : decode cX5_readProduct 28 = .ok (.iload 4, 2) := by decide +kernel
theorem dX5_readProduct_30 : decode cX5_readProduct 30 = .ok (.bipush 42, 2) := by decide +kernel
theorem dX5_readProduct_32 : decode cX5_readProduct 32 = .ok (.if_icmp .eq 19, 3) := by decide +kernel
theorem dX5_readProduct_35 : decode cX5_readProduct 35 = .ok (.iload 4, 2) := by decide +kernel
theorem dX5_readProduct_37 : decode cX5_readProduct 37 = .ok (.bipush 47, 2) := by decide +kernel
theorem dX5_readProduct_39 : decode cX5_readProduct 39 = .ok (.if_icmp .eq 12, 3) := by decide +kernel
theorem dX5_readProduct_42 : decode cX5_readProduct 42 = .ok (.iload 4, 2) := by decide +kernel
theorem dX5_readProduct_44 : decode cX5_readProduct 44 = .ok (.bipush 37, 2) := by decide +kernel
theorem dX5_readProduct_46 : decode cX5_readProduct 46 = .ok (.if_icmp .eq 5, 3) := by decide +kernel
theorem dX5_readProduct_49 : decode cX5_readProduct 49 = .ok (.iconst 1, 1) := by decide +kernel
theorem dX5_readProduct_50 : decode cX5_readProduct 50 = .ok (.ireturn, 1) := by decide +kernel
theorem dX5_readProduct_51 : decode cX5_readProduct 51 = .ok (.aload_n 0, 1) := by decide +kernel
theorem dX5_readProduct_52 : decode cX5_readProduct 52 = .ok (.getfield 15, 3) := by decide +kernel
theorem dX5_readProduct_55 : decode cX5_readProduct 55 = .ok (.dup, 1) := by decide +kernel
theorem dX5_readProduct_56 : decode cX5_readProduct 56 = .ok (.getfield 37, 3) := by decide +kernel
theorem dX5_readProduct_59 : decode cX5_readProduct 59 = .ok (.iconst 1, 1) := by decide +kernel
theorem dX5_readProduct_60 : decode cX5_readProduct 60 = .ok (.iadd, 1) := by decide +kernel
theorem dX5_readProduct_61 : decode cX5_readProduct 61 = .ok (.putfield 37, 3) := by decide +kernel
theorem dX5_readProduct_64 : decode cX5_readProduct 64 = .ok (.aload_n 0, 1) := by decide +kernel
theorem dX5_readProduct_65 : decode cX5_readProduct 65 = .ok (.iload_n 1, 1) := by decide +kernel
theorem dX5_readProduct_66 : decode cX5_readProduct 66 = .ok (.invokevirtual 53, 3) := by decide +kernel
theorem dX5_readProduct_69 : decode cX5_readProduct 69 = .ok (.istore_n 2, 1) := by decide +kernel
theorem dX5_readProduct_70 : decode cX5_readProduct 70 = .ok (.aload_n 0, 1) := by decide +kernel
theorem dX5_readProduct_71 : decode cX5_readProduct 71 = .ok (.iload 4, 2) := by decide +kernel
theorem dX5_readProduct_73 : decode cX5_readProduct 73 = .ok (.bipush 42, 2) := by decide +kernel
theorem dX5_readProduct_75 : decode cX5_readProduct 75 = .ok (.if_icmp .ne 9, 3) := by decide +kernel
theorem dX5_readProduct_78 : decode cX5_readProduct 78 = .ok (.sipush 202, 3) := by decide +kernel
theorem dX5_readProduct_81 : decode cX5_readProduct 81 = .ok (.goto 19, 3) := by decide +kernel
theorem dX5_readProduct_84 : decode cX5_readProduct 84 = .ok (.iload 4, 2) := by decide +kernel
theorem dX5_readProduct_86 : decode cX5_readProduct 86 = .ok (.bipush 47, 2) := by decide +kernel
theorem dX5_readProduct_88 : decode cX5_readProduct 88 = .ok (.if_icmp .ne 9, 3) := by decide +kernel
theorem dX5_readProduct_91 : decode cX5_readProduct 91 = .ok (.sipush 203, 3) := by decide +kernel
theorem dX5_readProduct_94 : decode cX5_readProduct 94 = .ok (.goto 6, 3) := by decide +kernel
theorem dX5_readProduct_97 : decode cX5_readProduct 97 = .ok (.sipush 204, 3) := by decide +kernel
theorem dX5_readProduct_100 : decode cX5_readProduct 100 = .ok (.invokevirtual 49, 3) := by decide +kernel
theorem dX5_readProduct_103 : decode cX5_readProduct 103 = .ok (.iinc 3 1, 3) := by decide +kernel
theorem dX5_readProduct_106 : decode cX5_readProduct 106 = .ok (.goto (-98), 3) := by decide +kernel
theorem dX5_readProduct_109 : decode cX5_readProduct 109 = .ok (.iload_n 2, 1) := by decide +kernel
theorem dX5_readProduct_110 : decode cX5_readProduct 110 = .ok (.ireturn, 1) := by decide +kernel
theorem dX5_readUnit_0 : decode cX5_readUnit 0 = .ok (.aload_n 0, 1) := by decide +kernel
theorem dX5_readUnit_1 : decode cX5_readUnit 1 = .ok (.getfield 15, 3) := by decide +kernel
theorem dX5_readUnit_4 : decode cX5_readUnit 4 = .ok (.invokevirtual 31, 3) := by decide +kernel
theorem dX5_readUnit_7 : decode cX5_readUnit 7 = .ok (.istore_n 2, 1) := by decide +kernel
theorem dX5_readUnit_8 : decode cX5_readUnit 8 = .ok (.iload_n 2, 1) := by decide +kernel
theorem dX5_readUnit_9 : decode cX5_readUnit 9 = .ok (.invokestatic 56, 3) := by decide +kernel
theorem dX5_readUnit_12 : decode cX5_readUnit 12 = .ok (.ifCond .eq 30, 3) := by decide +kernel
theorem dX5_readUnit_15 : decode cX5_readUnit 15 = .ok (.aload_n 0, 1) := by decide +kernel
theorem dX5_readUnit_16 : decode cX5_readUnit 16 = .ok (.getfield 15, 3) := by decide +kernel
theorem dX5_readUnit_19 : decode cX5_readUnit 19 = .ok (.iconst 0, 1) := by decide +kernel
theorem dX5_readUnit_20 : decode cX5_readUnit 20 = .ok (.bipush 99, 2) := by decide +kernel
theorem dX5_readUnit_22 : decode cX5_readUnit 22 = .ok (.invokevirtual 59, 3) := by decide +kernel
theorem dX5_readUnit_25 : decode cX5_readUnit 25 = .ok (.istore_n 3, 1) := by decide +kernel
theorem dX5_readUnit_26 : decode cX5_readUnit 26 = .ok (.aload_n 0, 1) := by decide +kernel
theorem dX5_readUnit_27 : decode cX5_readUnit 27 = .ok (.iload_n 3, 1) := by decide +kernel
theorem dX5_readUnit_28 : decode cX5_readUnit 28 = .ok (.invokevirtual 49, 3) := by decide +kernel
theorem dX5_readUnit_31 : decode cX5_readUnit 31 = .ok (.iload_n 3, 1) := by decide +kernel
theorem dX5_readUnit_32 : decode cX5_readUnit 32 = .ok (.iconst (-1), 1) := by decide +kernel
theorem dX5_readUnit_33 : decode cX5_readUnit 33 = .ok (.if_icmp .eq 7, 3) := by decide +kernel
theorem dX5_readUnit_36 : decode cX5_readUnit 36 = .ok (.iconst 1, 1) := by decide +kernel
theorem dX5_readUnit_37 : decode cX5_readUnit 37 = .ok (.goto 4, 3) := by decide +kernel
theorem dX5_readUnit_40 : decode cX5_readUnit 40 = .ok (.iconst 0, 1) := by decide +kernel
theorem dX5_readUnit_41 : decode cX5_readUnit 41 = .ok (.ireturn, 1) := by decide +kernel
theorem dX5_readUnit_42 : decode cX5_readUnit 42 = .ok (.iload_n 2, 1) := by decide +kernel
theorem dX5_readUnit_43 : decode cX5_readUnit 43 = .ok (.bipush 40, 2) := by decide +kernel
theorem dX5_readUnit_45 : decode cX5_readUnit 45 = .ok (.if_icmp .ne 51, 3) := by decide +kernel
theorem dX5_readUnit_48 : decode cX5_readUnit 48 = .ok (.aload_n 0, 1) := by decide +kernel
theorem dX5_readUnit_49 : decode cX5_readUnit 49 = .ok (.iload_n 1, 1) := by decide +kernel
theorem dX5_readUnit_50 : decode cX5_readUnit 50 = .ok (.invokevirtual 63, 3) := by decide +kernel
theorem dX5_readUnit_53 : decode cX5_readUnit 53 = .ok (.ifCond .eq 41, 3) := by decide +kernel
theorem dX5_readUnit_56 : decode cX5_readUnit 56 = .ok (.aload_n 0, 1) := by decide +kernel
theorem dX5_readUnit_57 : decode cX5_readUnit 57 = .ok (.getfield 15, 3) := by decide +kernel
theorem dX5_readUnit_60 : decode cX5_readUnit 60 = .ok (.bipush 40, 2) := by decide +kernel
theorem dX5_readUnit_62 : decode cX5_readUnit 62 = .ok (.invokevirtual 66, 3) := by decide +kernel
theorem dX5_readUnit_65 : decode cX5_readUnit 65 = .ok (.ifCond .eq 29, 3) := by decide +kernel
theorem dX5_readUnit_68 : decode cX5_readUnit 68 = .ok (.aload_n 0, 1) := by decide +kernel
theorem dX5_readUnit_69 : decode cX5_readUnit 69 = .ok (.iload_n 1, 1) := by decide +kernel
theorem dX5_readUnit_70 : decode cX5_readUnit 70 = .ok (.iconst 1, 1) := by decide +kernel
theorem dX5_readUnit_71 : decode cX5_readUnit 71 = .ok (.iadd, 1) := by decide +kernel
theorem dX5_readUnit_72 : decode cX5_readUnit 72 = .ok (.invokevirtual 27, 3) := by decide +kernel
theorem dX5_readUnit_75 : decode cX5_readUnit 75 = .ok (.ifCond .eq 19, 3) := by decide +kernel
theorem dX5_readUnit_78 : decode cX5_readUnit 78 = .ok (.aload_n 0, 1) := by decide +kernel
theorem dX5_readUnit_79 : decode cX5_readUnit 79 = .ok (.getfield 15, 3) := by decide +kernel
theorem dX5_readUnit_82 : decode cX5_readUnit 82 = .ok (.bipush 41, 2) := by decide +kernel
theorem dX5_readUnit_84 : decode cX5_readUnit 84 = .ok (.invokevirtual 66, 3) := by decide +kernel
theorem dX5_readUnit_87 : decode cX5_readUnit 87 = .ok (.ifCond .eq 7, 3) := by decide +kernel
theorem dX5_readUnit_90 : decode cX5_readUnit 90 = .ok (.iconst 1, 1) := by decide +kernel
theorem dX5_readUnit_91 : decode cX5_readUnit 91 = .ok (.goto 4, 3) := by decide +kernel
theorem dX5_readUnit_94 : decode cX5_readUnit 94 = .ok (.iconst 0, 1) := by decide +kernel
theorem dX5_readUnit_95 : decode cX5_readUnit 95 = .ok (.ireturn, 1) := by decide +kernel
theorem dX5_readUnit_96 : decode cX5_readUnit 96 = .ok (.aload_n 0, 1) := by decide +kernel
theorem dX5_readUnit_97 : decode cX5_readUnit 97 = .ok (.getfield 15, 3) := by decide +kernel
theorem dX5_readUnit_100 : decode cX5_readUnit 100 = .ok (.ldc 70, 2) := by decide +kernel
theorem dX5_readUnit_102 : decode cX5_readUnit 102 = .ok (.invokevirtual 72, 3) := by decide +kernel
theorem dX5_readUnit_105 : decode cX5_readUnit 105 = .ok (.istore_n 3, 1) := by decide +kernel
theorem dX5_readUnit_106 : decode cX5_readUnit 106 = .ok (.iload_n 3, 1) := by decide +kernel
theorem dX5_readUnit_107 : decode cX5_readUnit 107 = .ok (.iconst (-1), 1) := by decide +kernel
theorem dX5_readUnit_108 : decode cX5_readUnit 108 = .ok (.if_icmp .ne 19, 3) := by decide +kernel
theorem dX5_readUnit_111 : decode cX5_readUnit 111 = .ok (.aload_n 0, 1) := by decide +kernel
theorem dX5_readUnit_112 : decode cX5_readUnit 112 = .ok (.getfield 15, 3) := by decide +kernel
theorem dX5_readUnit_115 : decode cX5_readUnit 115 = .ok (.iconst 1, 1) := by decide +kernel
theorem dX5_readUnit_116 : decode cX5_readUnit 116 = .ok (.aload_n 0, 1) := by decide +kernel
theorem dX5_readUnit_117 : decode cX5_readUnit 117 = .ok (.getfield 15, 3) := by decide +kernel
theorem dX5_readUnit_120 : decode cX5_readUnit 120 = .ok (.getfield 37, 3) := by decide +kernel
theorem dX5_readUnit_123 : decode cX5_readUnit 123 = .ok (.invokevirtual 40, 3) := by decide +kernel
theorem dX5_readUnit_126 : decode cX5_readUnit 126 = .ok (.ireturn, 1) := by decide +kernel
theorem dX5_readUnit_127 : decode cX5_readUnit 127 = .ok (.iload_n 3, 1) := by decide +kernel
theorem dX5_readUnit_128 : decode cX5_readUnit 128 = .ok (.bipush 11, 2) := by decide +kernel
theorem dX5_readUnit_130 : decode cX5_readUnit 130 = .ok (.if_icmp .lt 13, 3) := by decide +kernel
theorem dX5_readUnit_133 : decode cX5_readUnit 133 = .ok (.aload_n 0, 1) := by decide +kernel
theorem dX5_readUnit_134 : decode cX5_readUnit 134 = .ok (.iload_n 1, 1) := by decide +kernel
theorem dX5_readUnit_135 : decode cX5_readUnit 135 = .ok (.invokevirtual 63, 3) := by decide +kernel
theorem dX5_readUnit_138 : decode cX5_readUnit 138 = .ok (.ifCond .ne 5, 3) := by decide +kernel
theorem dX5_readUnit_141 : decode cX5_readUnit 141 = .ok (.iconst 0, 1) := by decide +kernel
theorem dX5_readUnit_142 : decode cX5_readUnit 142 = .ok (.ireturn, 1) := by decide +kernel
theorem dX5_readUnit_143 : decode cX5_readUnit 143 = .ok (.aload_n 0, 1) := by decide +kernel
theorem dX5_readUnit_144 : decode cX5_readUnit 144 = .ok (.getfield 15, 3) := by decide +kernel
theorem dX5_readUnit_147 : decode cX5_readUnit 147 = .ok (.invokevirtual 76, 3) := by decide +kernel
theorem dX5_readUnit_150 : decode cX5_readUnit 150 = .ok (.iload_n 3, 1) := by decide +kernel
theorem dX5_readUnit_151 : decode cX5_readUnit 151 = .ok (.bipush 11, 2) := by decide +kernel
theorem dX5_readUnit_153 : decode cX5_readUnit 153 = .ok (.if_icmp .eq 9, 3) := by decide +kernel
theorem dX5_readUnit_156 : decode cX5_readUnit 156 = .ok (.iload_n 3, 1) := by decide +kernel
theorem dX5_readUnit_157 : decode cX5_readUnit 157 = .ok (.bipush 12, 2) := by decide +kernel
theorem dX5_readUnit_159 : decode cX5_readUnit 159 = .ok (.if_icmp .ne 26, 3) := by decide +kernel
theorem dX5_readUnit_162 : decode cX5_readUnit 162 = .ok (.aload_n 0, 1) := by decide +kernel
theorem dX5_readUnit_163 : decode cX5_readUnit 163 = .ok (.iload_n 3, 1) := by decide +kernel
theorem dX5_readUnit_164 : decode cX5_readUnit 164 = .ok (.bipush 11, 2) := by decide +kernel
theorem dX5_readUnit_166 : decode cX5_readUnit 166 = .ok (.if_icmp .ne 9, 3) := by decide +kernel
theorem dX5_readUnit_169 : decode cX5_readUnit 169 = .ok (.sipush 205, 3) := by decide +kernel
theorem dX5_readUnit_172 : decode cX5_readUnit 172 = .ok (.goto 6, 3) := by decide +kernel
theorem dX5_readUnit_175 : decode cX5_readUnit 175 = .ok (.sipush 206, 3) := by decide +kernel
theorem dX5_readUnit_178 : decode cX5_readUnit 178 = .ok (.iload_n 1, 1) := by decide +kernel
theorem dX5_readUnit_179 : decode cX5_readUnit 179 = .ok (.iconst 1, 1) := by decide +kernel
theorem dX5_readUnit_180 : decode cX5_readUnit 180 = .ok (.iadd, 1) := by decide +kernel
theorem dX5_readUnit_181 : decode cX5_readUnit 181 = .ok (.invokevirtual 79, 3) := by decide +kernel
theorem dX5_readUnit_184 : decode cX5_readUnit 184 = .ok (.ireturn, 1) := by decide +kernel
theorem dX5_readUnit_185 : decode cX5_readUnit 185 = .ok (.iload_n 3, 1) := by decide +kernel
theorem dX5_readUnit_186 : decode cX5_readUnit 186 = .ok (.bipush 13, 2) := by decide +kernel
theorem dX5_readUnit_188 : decode cX5_readUnit 188 = .ok (.if_icmp .ne 11, 3) := by decide +kernel
theorem dX5_readUnit_191 : decode cX5_readUnit 191 = .ok (.aload_n 0, 1) := by decide +kernel
theorem dX5_readUnit_192 : decode cX5_readUnit 192 = .ok (.iload_n 1, 1) := by decide +kernel
theorem dX5_readUnit_193 : decode cX5_readUnit 193 = .ok (.iconst 1, 1) := by decide +kernel
theorem dX5_readUnit_194 : decode cX5_readUnit 194 = .ok (.iadd, 1) := by decide +kernel
theorem dX5_readUnit_195 : decode cX5_readUnit 195 = .ok (.invokevirtual 82, 3) := by decide +kernel
theorem dX5_readUnit_198 : decode cX5_readUnit 198 = .ok (.ireturn, 1) := by decide +kernel
theorem dX5_readUnit_199 : decode cX5_readUnit 199 = .ok (.aload_n 0, 1) := by decide +kernel
theorem dX5_readUnit_200 : decode cX5_readUnit 200 = .ok (.dup, 1) := by decide +kernel
theorem dX5_readUnit_201 : decode cX5_readUnit 201 = .ok (.getfield 23, 3) := by decide +kernel
theorem dX5_readUnit_204 : decode cX5_readUnit 204 = .ok (.iload_n 3, 1) := by decide +kernel
theorem dX5_readUnit_205 : decode cX5_readUnit 205 = .ok (.bipush 6, 2) := by decide +kernel
theorem dX5_readUnit_207 : decode cX5_readUnit 207 = .ok (.if_icmp .ne 7, 3) := by decide +kernel
theorem dX5_readUnit_210 : decode cX5_readUnit 210 = .ok (.iconst 1, 1) := by decide +kernel
theorem dX5_readUnit_211 : decode cX5_readUnit 211 = .ok (.goto 4, 3) := by decide +kernel
theorem dX5_readUnit_214 : decode cX5_readUnit 214 = .ok (.iconst 0, 1) := by decide +kernel
theorem dX5_readUnit_215 : decode cX5_readUnit 215 = .ok (.ior, 1) := by decide +kernel
theorem dX5_readUnit_216 : decode cX5_readUnit 216 = .ok (.putfield 23, 3) := by decide +kernel
theorem dX5_readUnit_219 : decode cX5_readUnit 219 = .ok (.aload_n 0, 1) := by decide +kernel
theorem dX5_readUnit_220 : decode cX5_readUnit 220 = .ok (.bipush 100, 2) := by decide +kernel
theorem dX5_readUnit_222 : decode cX5_readUnit 222 = .ok (.iload_n 3, 1) := by decide +kernel
theorem dX5_readUnit_223 : decode cX5_readUnit 223 = .ok (.iadd, 1) := by decide +kernel
theorem dX5_readUnit_224 : decode cX5_readUnit 224 = .ok (.invokevirtual 49, 3) := by decide +kernel
theorem dX5_readUnit_227 : decode cX5_readUnit 227 = .ok (.iconst 1, 1) := by decide +kernel
theorem dX5_readUnit_228 : decode cX5_readUnit 228 = .ok (.ireturn, 1) := by decide +kernel
theorem dX5_mayOpen_0 : decode cX5_mayOpen 0 = .ok (.iload_n 1, 1) := by decide +kernel
theorem dX5_mayOpen_1 : decode cX5_mayOpen 1 = .ok (.bipush 6, 2) := by decide +kernel
theorem dX5_mayOpen_3 : decode cX5_mayOpen 3 = .ok (.if_icmp .lt 21, 3) := by decide +kernel
theorem dX5_mayOpen_6 : decode cX5_mayOpen 6 = .ok (.aload_n 0, 1) := by decide +kernel
theorem dX5_mayOpen_7 : decode cX5_mayOpen 7 = .ok (.getfield 15, 3) := by decide +kernel
theorem dX5_mayOpen_10 : decode cX5_mayOpen 10 = .ok (.iconst 3, 1) := by decide +kernel
theorem dX5_mayOpen_11 : decode cX5_mayOpen 11 = .ok (.aload_n 0, 1) := by decide +kernel
theorem dX5_mayOpen_12 : decode cX5_mayOpen 12 = .ok (.getfield 15, 3) := by decide +kernel
theorem dX5_mayOpen_15 : decode cX5_mayOpen 15 = .ok (.getfield 37, 3) := by decide +kernel
theorem dX5_mayOpen_18 : decode cX5_mayOpen 18 = .ok (.invokevirtual 40, 3) := by decide +kernel
theorem dX5_mayOpen_21 : decode cX5_mayOpen 21 = .ok (.ifCond .eq 7, 3) := by decide +kernel
theorem dX5_mayOpen_24 : decode cX5_mayOpen 24 = .ok (.iconst 1, 1) := by decide +kernel
theorem dX5_mayOpen_25 : decode cX5_mayOpen 25 = .ok (.goto 4, 3) := by decide +kernel
theorem dX5_mayOpen_28 : decode cX5_mayOpen 28 = .ok (.iconst 0, 1) := by decide +kernel
theorem dX5_mayOpen_29 : decode cX5_mayOpen 29 = .ok (.ireturn, 1) := by decide +kernel
theorem dX5_readPair_0 : decode cX5_readPair 0 = .ok (.aload_n 0, 1) := by decide +kernel
theorem dX5_readPair_1 : decode cX5_readPair 1 = .ok (.getfield 15, 3) := by decide +kernel
theorem dX5_readPair_4 : decode cX5_readPair 4 = .ok (.bipush 91, 2) := by decide +kernel
theorem dX5_readPair_6 : decode cX5_readPair 6 = .ok (.invokevirtual 66, 3) := by decide +kernel
theorem dX5_readPair_9 : decode cX5_readPair 9 = .ok (.ifCond .eq 43, 3) := by decide +kernel
theorem dX5_readPair_12 : decode cX5_readPair 12 = .ok (.aload_n 0, 1) := by decide +kernel
theorem dX5_readPair_13 : decode cX5_readPair 13 = .ok (.iload_n 2, 1) := by decide +kernel
theorem dX5_readPair_14 : decode cX5_readPair 14 = .ok (.invokevirtual 27, 3) := by decide +kernel
theorem dX5_readPair_17 : decode cX5_readPair 17 = .ok (.ifCond .eq 35, 3) := by decide +kernel
theorem dX5_readPair_20 : decode cX5_readPair 20 = .ok (.aload_n 0, 1) := by decide +kernel
theorem dX5_readPair_21 : decode cX5_readPair 21 = .ok (.getfield 15, 3) := by decide +kernel
theorem dX5_readPair_24 : decode cX5_readPair 24 = .ok (.bipush 44, 2) := by decide +kernel
theorem dX5_readPair_26 : decode cX5_readPair 26 = .ok (.invokevirtual 66, 3) := by decide +kernel
theorem dX5_readPair_29 : decode cX5_readPair 29 = .ok (.ifCond .eq 23, 3) := by decide +kernel
theorem dX5_readPair_32 : decode cX5_readPair 32 = .ok (.aload_n 0, 1) := by decide +kernel
theorem dX5_readPair_33 : decode cX5_readPair 33 = .ok (.iload_n 2, 1) := by decide +kernel
theorem dX5_readPair_34 : decode cX5_readPair 34 = .ok (.invokevirtual 27, 3) := by decide +kernel
theorem dX5_readPair_37 : decode cX5_readPair 37 = .ok (.ifCond .eq 15, 3) := by decide +kernel
theorem dX5_readPair_40 : decode cX5_readPair 40 = .ok (.aload_n 0, 1) := by decide +kernel
theorem dX5_readPair_41 : decode cX5_readPair 41 = .ok (.getfield 15, 3) := by decide +kernel
theorem dX5_readPair_44 : decode cX5_readPair 44 = .ok (.bipush 93, 2) := by decide +kernel
theorem dX5_readPair_46 : decode cX5_readPair 46 = .ok (.invokevirtual 66, 3) := by decide +kernel
theorem dX5_readPair_49 : decode cX5_readPair 49 = .ok (.ifCond .ne 5, 3) := by decide +kernel
theorem dX5_readPair_52 : decode cX5_readPair 52 = .ok (.iconst 0, 1) := by decide +kernel
theorem dX5_readPair_53 : decode cX5_readPair 53 = .ok (.ireturn, 1) := by decide +kernel
theorem dX5_readPair_54 : decode cX5_readPair 54 = .ok (.aload_n 0, 1) := by decide +kernel
theorem dX5_readPair_55 : decode cX5_readPair 55 = .ok (.iload_n 1, 1) := by decide +kernel
theorem dX5_readPair_56 : decode cX5_readPair 56 = .ok (.invokevirtual 49, 3) := by decide +kernel
theorem dX5_readPair_59 : decode cX5_readPair 59 = .ok (.iconst 1, 1) := by decide +kernel
theorem dX5_readPair_60 : decode cX5_readPair 60 = .ok (.ireturn, 1) := by decide +kernel
theorem dX5_readChoice_0 : decode cX5_readChoice 0 = .ok (.aload_n 0, 1) := by decide +kernel
theorem dX5_readChoice_1 : decode cX5_readChoice 1 = .ok (.iload_n 1, 1) := by decide +kernel
theorem dX5_readChoice_2 : decode cX5_readChoice 2 = .ok (.invokevirtual 27, 3) := by decide +kernel
theorem dX5_readChoice_5 : decode cX5_readChoice 5 = .ok (.ifCond .ne 5, 3) := by decide +kernel
theorem dX5_readChoice_8 : decode cX5_readChoice 8 = .ok (.iconst 0, 1) := by decide +kernel
theorem dX5_readChoice_9 : decode cX5_readChoice 9 = .ok (.ireturn, 1) := by decide +kernel
theorem dX5_readChoice_10 : decode cX5_readChoice 10 = .ok (.aload_n 0, 1) := by decide +kernel
theorem dX5_readChoice_11 : decode cX5_readChoice 11 = .ok (.getfield 15, 3) := by decide +kernel
theorem dX5_readChoice_14 : decode cX5_readChoice 14 = .ok (.invokevirtual 31, 3) := by decide +kernel
theorem dX5_readChoice_17 : decode cX5_readChoice 17 = .ok (.istore_n 2, 1) := by decide +kernel
theorem dX5_readChoice_18 : decode cX5_readChoice 18 = .ok (.iload_n 2, 1) := by decide +kernel
theorem dX5_readChoice_19 : decode cX5_readChoice 19 = .ok (.bipush 60, 2) := by decide +kernel
theorem dX5_readChoice_21 : decode cX5_readChoice 21 = .ok (.if_icmp .eq 31, 3) := by decide +kernel
theorem dX5_readChoice_24 : decode cX5_readChoice 24 = .ok (.iload_n 2, 1) := by decide +kernel
theorem dX5_readChoice_25 : decode cX5_readChoice 25 = .ok (.bipush 62, 2) := by decide +kernel
theorem dX5_readChoice_27 : decode cX5_readChoice 27 = .ok (.if_icmp .eq 25, 3) := by decide +kernel
theorem dX5_readChoice_30 : decode cX5_readChoice 30 = .ok (.iload_n 2, 1) := by decide +kernel
theorem dX5_readChoice_31 : decode cX5_readChoice 31 = .ok (.bipush 61, 2) := by decide +kernel
theorem dX5_readChoice_33 : decode cX5_readChoice 33 = .ok (.if_icmp .eq 19, 3) := by decide +kernel
theorem dX5_readChoice_36 : decode cX5_readChoice 36 = .ok (.aload_n 0, 1) := by decide +kernel
theorem dX5_readChoice_37 : decode cX5_readChoice 37 = .ok (.getfield 15, 3) := by decide +kernel
theorem dX5_readChoice_40 : decode cX5_readChoice 40 = .ok (.iconst 1, 1) := by decide +kernel
theorem dX5_readChoice_41 : decode cX5_readChoice 41 = .ok (.aload_n 0, 1) := by decide +kernel
theorem dX5_readChoice_42 : decode cX5_readChoice 42 = .ok (.getfield 15, 3) := by decide +kernel
theorem dX5_readChoice_45 : decode cX5_readChoice 45 = .ok (.getfield 37, 3) := by decide +kernel
theorem dX5_readChoice_48 : decode cX5_readChoice 48 = .ok (.invokevirtual 40, 3) := by decide +kernel
theorem dX5_readChoice_51 : decode cX5_readChoice 51 = .ok (.ireturn, 1) := by decide +kernel
theorem dX5_readChoice_52 : decode cX5_readChoice 52 = .ok (.aload_n 0, 1) := by decide +kernel
theorem dX5_readChoice_53 : decode cX5_readChoice 53 = .ok (.getfield 15, 3) := by decide +kernel
theorem dX5_readChoice_56 : decode cX5_readChoice 56 = .ok (.dup, 1) := by decide +kernel
theorem dX5_readChoice_57 : decode cX5_readChoice 57 = .ok (.getfield 37, 3) := by decide +kernel
theorem dX5_readChoice_60 : decode cX5_readChoice 60 = .ok (.iconst 1, 1) := by decide +kernel
theorem dX5_readChoice_61 : decode cX5_readChoice 61 = .ok (.iadd, 1) := by decide +kernel
theorem dX5_readChoice_62 : decode cX5_readChoice 62 = .ok (.putfield 37, 3) := by decide +kernel
theorem dX5_readChoice_65 : decode cX5_readChoice 65 = .ok (.aload_n 0, 1) := by decide +kernel
theorem dX5_readChoice_66 : decode cX5_readChoice 66 = .ok (.iload_n 1, 1) := by decide +kernel
theorem dX5_readChoice_67 : decode cX5_readChoice 67 = .ok (.invokevirtual 27, 3) := by decide +kernel
theorem dX5_readChoice_70 : decode cX5_readChoice 70 = .ok (.ifCond .ne 5, 3) := by decide +kernel
theorem dX5_readChoice_73 : decode cX5_readChoice 73 = .ok (.iconst 0, 1) := by decide +kernel
theorem dX5_readChoice_74 : decode cX5_readChoice 74 = .ok (.ireturn, 1) := by decide +kernel
theorem dX5_readChoice_75 : decode cX5_readChoice 75 = .ok (.aload_n 0, 1) := by decide +kernel
theorem dX5_readChoice_76 : decode cX5_readChoice 76 = .ok (.iload_n 2, 1) := by decide +kernel
theorem dX5_readChoice_77 : decode cX5_readChoice 77 = .ok (.bipush 60, 2) := by decide +kernel
theorem dX5_readChoice_79 : decode cX5_readChoice 79 = .ok (.if_icmp .ne 9, 3) := by decide +kernel
theorem dX5_readChoice_82 : decode cX5_readChoice 82 = .ok (.sipush 207, 3) := by decide +kernel
theorem dX5_readChoice_85 : decode cX5_readChoice 85 = .ok (.goto 18, 3) := by decide +kernel
theorem dX5_readChoice_88 : decode cX5_readChoice 88 = .ok (.iload_n 2, 1) := by decide +kernel
theorem dX5_readChoice_89 : decode cX5_readChoice 89 = .ok (.bipush 62, 2) := by decide +kernel
theorem dX5_readChoice_91 : decode cX5_readChoice 91 = .ok (.if_icmp .ne 9, 3) := by decide +kernel
theorem dX5_readChoice_94 : decode cX5_readChoice 94 = .ok (.sipush 208, 3) := by decide +kernel
theorem dX5_readChoice_97 : decode cX5_readChoice 97 = .ok (.goto 6, 3) := by decide +kernel
theorem dX5_readChoice_100 : decode cX5_readChoice 100 = .ok (.sipush 209, 3) := by decide +kernel
theorem dX5_readChoice_103 : decode cX5_readChoice 103 = .ok (.invokevirtual 49, 3) := by decide +kernel
theorem dX5_readChoice_106 : decode cX5_readChoice 106 = .ok (.aload_n 0, 1) := by decide +kernel
theorem dX5_readChoice_107 : decode cX5_readChoice 107 = .ok (.getfield 15, 3) := by decide +kernel
theorem dX5_readChoice_110 : decode cX5_readChoice 110 = .ok (.ldc 85, 2) := by decide +kernel
theorem dX5_readChoice_112 : decode cX5_readChoice 112 = .ok (.invokevirtual 87, 3) := by decide +kernel
theorem dX5_readChoice_115 : decode cX5_readChoice 115 = .ok (.ifCond .eq 31, 3) := by decide +kernel
theorem dX5_readChoice_118 : decode cX5_readChoice 118 = .ok (.aload_n 0, 1) := by decide +kernel
theorem dX5_readChoice_119 : decode cX5_readChoice 119 = .ok (.iload_n 1, 1) := by decide +kernel
theorem dX5_readChoice_120 : decode cX5_readChoice 120 = .ok (.invokevirtual 27, 3) := by decide +kernel
theorem dX5_readChoice_123 : decode cX5_readChoice 123 = .ok (.ifCond .eq 23, 3) := by decide +kernel
theorem dX5_readChoice_126 : decode cX5_readChoice 126 = .ok (.aload_n 0, 1) := by decide +kernel
theorem dX5_readChoice_127 : decode cX5_readChoice 127 = .ok (.getfield 15, 3) := by decide +kernel
theorem dX5_readChoice_130 : decode cX5_readChoice 130 = .ok (.ldc 91, 2) := by decide +kernel
theorem dX5_readChoice_132 : decode cX5_readChoice 132 = .ok (.invokevirtual 87, 3) := by decide +kernel
theorem dX5_readChoice_135 : decode cX5_readChoice 135 = .ok (.ifCond .eq 11, 3) := by decide +kernel
theorem dX5_readChoice_138 : decode cX5_readChoice 138 = .ok (.aload_n 0, 1) := by decide +kernel
theorem dX5_readChoice_139 : decode cX5_readChoice 139 = .ok (.iload_n 1, 1) := by decide +kernel
theorem dX5_readChoice_140 : decode cX5_readChoice 140 = .ok (.invokevirtual 27, 3) := by decide +kernel
theorem dX5_readChoice_143 : decode cX5_readChoice 143 = .ok (.ifCond .ne 5, 3) := by decide +kernel
theorem dX5_readChoice_146 : decode cX5_readChoice 146 = .ok (.iconst 0, 1) := by decide +kernel
theorem dX5_readChoice_147 : decode cX5_readChoice 147 = .ok (.ireturn, 1) := by decide +kernel
theorem dX5_readChoice_148 : decode cX5_readChoice 148 = .ok (.aload_n 0, 1) := by decide +kernel
theorem dX5_readChoice_149 : decode cX5_readChoice 149 = .ok (.sipush 210, 3) := by decide +kernel
theorem dX5_readChoice_152 : decode cX5_readChoice 152 = .ok (.invokevirtual 49, 3) := by decide +kernel
theorem dX5_readChoice_155 : decode cX5_readChoice 155 = .ok (.iconst 1, 1) := by decide +kernel
theorem dX5_readChoice_156 : decode cX5_readChoice 156 = .ok (.ireturn, 1) := by decide +kernel

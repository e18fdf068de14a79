theorem dX11_turnsOf_0 : decode cX11_turnsOf 0 = .ok (.aload_n 0, 1) := by decide +kernel
theorem dX11_turnsOf_1 : decode cX11_turnsOf 1 = .ok (.iload_n 1, 1) := by decide +kernel
theorem dX11_turnsOf_2 : decode cX11_turnsOf 2 = .ok (.iconst 1, 1) := by decide +kernel
theorem dX11_turnsOf_3 : decode cX11_turnsOf 3 = .ok (.bipush 99, 2) := by decide +kernel
theorem dX11_turnsOf_5 : decode cX11_turnsOf 5 = .ok (.invokevirtual 116, 3) := by decide +kernel
theorem dX11_turnsOf_8 : decode cX11_turnsOf 8 = .ok (.aload_n 0, 1) := by decide +kernel
theorem dX11_turnsOf_9 : decode cX11_turnsOf 9 = .ok (.getfield 25, 3) := by decide +kernel
theorem dX11_turnsOf_12 : decode cX11_turnsOf 12 = .ok (.getfield 144, 3) := by decide +kernel
theorem dX11_turnsOf_15 : decode cX11_turnsOf 15 = .ok (.istore_n 2, 1) := by decide +kernel
theorem dX11_turnsOf_16 : decode cX11_turnsOf 16 = .ok (.iload_n 2, 1) := by decide +kernel
theorem dX11_turnsOf_17 : decode cX11_turnsOf 17 = .ok (.ifCond .ne 5, 3) := by decide +kernel
theorem dX11_turnsOf_20 : decode cX11_turnsOf 20 = .ok (.iconst 0, 1) := by decide +kernel
theorem dX11_turnsOf_21 : decode cX11_turnsOf 21 = .ok (.ireturn, 1) := by decide +kernel
theorem dX11_turnsOf_22 : decode cX11_turnsOf 22 = .ok (.aload_n 0, 1) := by decide +kernel
theorem dX11_turnsOf_23 : decode cX11_turnsOf 23 = .ok (.invokevirtual 326, 3) := by decide +kernel
theorem dX11_turnsOf_26 : decode cX11_turnsOf 26 = .ok (.aload_n 0, 1) := by decide +kernel
theorem dX11_turnsOf_27 : decode cX11_turnsOf 27 = .ok (.getfield 25, 3) := by decide +kernel
theorem dX11_turnsOf_30 : decode cX11_turnsOf 30 = .ok (.getfield 172, 3) := by decide +kernel
theorem dX11_turnsOf_33 : decode cX11_turnsOf 33 = .ok (.iload_n 2, 1) := by decide +kernel
theorem dX11_turnsOf_34 : decode cX11_turnsOf 34 = .ok (.invokestatic 150, 3) := by decide +kernel
theorem dX11_turnsOf_37 : decode cX11_turnsOf 37 = .ok (.istore_n 3, 1) := by decide +kernel
theorem dX11_turnsOf_38 : decode cX11_turnsOf 38 = .ok (.iconst 0, 1) := by decide +kernel
theorem dX11_turnsOf_39 : decode cX11_turnsOf 39 = .ok (.istore 4, 2) := by decide +kernel
theorem dX11_turnsOf_41 : decode cX11_turnsOf 41 = .ok (.iload 4, 2) := by decide +kernel
theorem dX11_turnsOf_43 : decode cX11_turnsOf 43 = .ok (.iload_n 1, 1) := by decide +kernel
theorem dX11_turnsOf_44 : decode cX11_turnsOf 44 = .ok (.if_icmp .ge 48, 3) := by decide +kernel
theorem dX11_turnsOf_47 : decode cX11_turnsOf 47 = .ok (.iconst 0, 1) := by decide +kernel
theorem dX11_turnsOf_48 : decode cX11_turnsOf 48 = .ok (.istore 5, 2) := by decide +kernel
theorem dX11_turnsOf_50 : decode cX11_turnsOf 50 = .ok (.iload 5, 2) := by decide +kernel
theorem dX11_turnsOf_52 : decode cX11_turnsOf 52 = .ok (.iload_n 3, 1) := by decide +kernel
theorem dX11_turnsOf_53 : decode cX11_turnsOf 53 = .ok (.if_icmp .ge 33, 3) := by decide +kernel
theorem dX11_turnsOf_56 : decode cX11_turnsOf 56 = .ok (.aload_n 0, 1) := by decide +kernel
theorem dX11_turnsOf_57 : decode cX11_turnsOf 57 = .ok (.getfield 98, 3) := by decide +kernel
theorem dX11_turnsOf_60 : decode cX11_turnsOf 60 = .ok (.iload 4, 2) := by decide +kernel
theorem dX11_turnsOf_62 : decode cX11_turnsOf 62 = .ok (.aload_n 0, 1) := by decide +kernel
theorem dX11_turnsOf_63 : decode cX11_turnsOf 63 = .ok (.getfield 25, 3) := by decide +kernel
theorem dX11_turnsOf_66 : decode cX11_turnsOf 66 = .ok (.getfield 172, 3) := by decide +kernel
theorem dX11_turnsOf_69 : decode cX11_turnsOf 69 = .ok (.imul, 1) := by decide +kernel
theorem dX11_turnsOf_70 : decode cX11_turnsOf 70 = .ok (.iload 5, 2) := by decide +kernel
theorem dX11_turnsOf_72 : decode cX11_turnsOf 72 = .ok (.iadd, 1) := by decide +kernel
theorem dX11_turnsOf_73 : decode cX11_turnsOf 73 = .ok (.iload_n 2, 1) := by decide +kernel
theorem dX11_turnsOf_74 : decode cX11_turnsOf 74 = .ok (.irem, 1) := by decide +kernel
theorem dX11_turnsOf_75 : decode cX11_turnsOf 75 = .ok (.dup2, 1) := by decide +kernel
theorem dX11_turnsOf_76 : decode cX11_turnsOf 76 = .ok (.iaload, 1) := by decide +kernel
theorem dX11_turnsOf_77 : decode cX11_turnsOf 77 = .ok (.iconst 1, 1) := by decide +kernel
theorem dX11_turnsOf_78 : decode cX11_turnsOf 78 = .ok (.iadd, 1) := by decide +kernel
theorem dX11_turnsOf_79 : decode cX11_turnsOf 79 = .ok (.iastore, 1) := by decide +kernel
theorem dX11_turnsOf_80 : decode cX11_turnsOf 80 = .ok (.iinc 5 1, 3) := by decide +kernel
theorem dX11_turnsOf_83 : decode cX11_turnsOf 83 = .ok (.goto (-33), 3) := by decide +kernel
theorem dX11_turnsOf_86 : decode cX11_turnsOf 86 = .ok (.iinc 4 1, 3) := by decide +kernel
theorem dX11_turnsOf_89 : decode cX11_turnsOf 89 = .ok (.goto (-48), 3) := by decide +kernel
theorem dX11_turnsOf_92 : decode cX11_turnsOf 92 = .ok (.aload_n 0, 1) := by decide +kernel
theorem dX11_turnsOf_93 : decode cX11_turnsOf 93 = .ok (.getfield 98, 3) := by decide +kernel
theorem dX11_turnsOf_96 : decode cX11_turnsOf 96 = .ok (.iconst 0, 1) := by decide +kernel
theorem dX11_turnsOf_97 : decode cX11_turnsOf 97 = .ok (.iaload, 1) := by decide +kernel
theorem dX11_turnsOf_98 : decode cX11_turnsOf 98 = .ok (.istore 4, 2) := by decide +kernel
theorem dX11_turnsOf_100 : decode cX11_turnsOf 100 = .ok (.aload_n 0, 1) := by decide +kernel
theorem dX11_turnsOf_101 : decode cX11_turnsOf 101 = .ok (.getfield 98, 3) := by decide +kernel
theorem dX11_turnsOf_104 : decode cX11_turnsOf 104 = .ok (.iconst 0, 1) := by decide +kernel
theorem dX11_turnsOf_105 : decode cX11_turnsOf 105 = .ok (.iaload, 1) := by decide +kernel
theorem dX11_turnsOf_106 : decode cX11_turnsOf 106 = .ok (.istore 5, 2) := by decide +kernel
theorem dX11_turnsOf_108 : decode cX11_turnsOf 108 = .ok (.iconst 1, 1) := by decide +kernel
theorem dX11_turnsOf_109 : decode cX11_turnsOf 109 = .ok (.istore 6, 2) := by decide +kernel
theorem dX11_turnsOf_111 : decode cX11_turnsOf 111 = .ok (.iload 6, 2) := by decide +kernel
theorem dX11_turnsOf_113 : decode cX11_turnsOf 113 = .ok (.iload_n 2, 1) := by decide +kernel
theorem dX11_turnsOf_114 : decode cX11_turnsOf 114 = .ok (.if_icmp .ge 37, 3) := by decide +kernel
theorem dX11_turnsOf_117 : decode cX11_turnsOf 117 = .ok (.iload 4, 2) := by decide +kernel
theorem dX11_turnsOf_119 : decode cX11_turnsOf 119 = .ok (.aload_n 0, 1) := by decide +kernel
theorem dX11_turnsOf_120 : decode cX11_turnsOf 120 = .ok (.getfield 98, 3) := by decide +kernel
theorem dX11_turnsOf_123 : decode cX11_turnsOf 123 = .ok (.iload 6, 2) := by decide +kernel
theorem dX11_turnsOf_125 : decode cX11_turnsOf 125 = .ok (.iaload, 1) := by decide +kernel
theorem dX11_turnsOf_126 : decode cX11_turnsOf 126 = .ok (.invokestatic 329, 3) := by decide +kernel
theorem dX11_turnsOf_129 : decode cX11_turnsOf 129 = .ok (.istore 4, 2) := by decide +kernel
theorem dX11_turnsOf_131 : decode cX11_turnsOf 131 = .ok (.iload 5, 2) := by decide +kernel
theorem dX11_turnsOf_133 : decode cX11_turnsOf 133 = .ok (.aload_n 0, 1) := by decide +kernel
theorem dX11_turnsOf_134 : decode cX11_turnsOf 134 = .ok (.getfield 98, 3) := by decide +kernel
theorem dX11_turnsOf_137 : decode cX11_turnsOf 137 = .ok (.iload 6, 2) := by decide +kernel
theorem dX11_turnsOf_139 : decode cX11_turnsOf 139 = .ok (.iaload, 1) := by decide +kernel
theorem dX11_turnsOf_140 : decode cX11_turnsOf 140 = .ok (.invokestatic 150, 3) := by decide +kernel
theorem dX11_turnsOf_143 : decode cX11_turnsOf 143 = .ok (.istore 5, 2) := by decide +kernel
theorem dX11_turnsOf_145 : decode cX11_turnsOf 145 = .ok (.iinc 6 1, 3) := by decide +kernel
theorem dX11_turnsOf_148 : decode cX11_turnsOf 148 = .ok (.goto (-37), 3) := by decide +kernel
theorem dX11_turnsOf_151 : decode cX11_turnsOf 151 = .ok (.iload 4, 2) := by decide +kernel
theorem dX11_turnsOf_153 : decode cX11_turnsOf 153 = .ok (.iload 5, 2) := by decide +kernel
theorem dX11_turnsOf_155 : decode cX11_turnsOf 155 = .ok (.isub, 1) := by decide +kernel
theorem dX11_turnsOf_156 : decode cX11_turnsOf 156 = .ok (.ireturn, 1) := by decide +kernel
theorem dX11_lot_0 : decode cX11_lot 0 = .ok (.aload_n 0, 1) := by decide +kernel
theorem dX11_lot_1 : decode cX11_lot 1 = .ok (.iload_n 2, 1) := by decide +kernel
theorem dX11_lot_2 : decode cX11_lot 2 = .ok (.iconst 0, 1) := by decide +kernel
theorem dX11_lot_3 : decode cX11_lot 3 = .ok (.iconst 2, 1) := by decide +kernel
theorem dX11_lot_4 : decode cX11_lot 4 = .ok (.invokevirtual 116, 3) := by decide +kernel
theorem dX11_lot_7 : decode cX11_lot 7 = .ok (.aload_n 0, 1) := by decide +kernel
theorem dX11_lot_8 : decode cX11_lot 8 = .ok (.getfield 60, 3) := by decide +kernel
theorem dX11_lot_11 : decode cX11_lot 11 = .ok (.aload_n 0, 1) := by decide +kernel
theorem dX11_lot_12 : decode cX11_lot 12 = .ok (.getfield 138, 3) := by decide +kernel
theorem dX11_lot_15 : decode cX11_lot 15 = .ok (.invokevirtual 262, 3) := by decide +kernel
theorem dX11_lot_18 : decode cX11_lot 18 = .ok (.aload_n 0, 1) := by decide +kernel
theorem dX11_lot_19 : decode cX11_lot 19 = .ok (.getfield 60, 3) := by decide +kernel
theorem dX11_lot_22 : decode cX11_lot 22 = .ok (.aload_n 0, 1) := by decide +kernel
theorem dX11_lot_23 : decode cX11_lot 23 = .ok (.getfield 138, 3) := by decide +kernel
theorem dX11_lot_26 : decode cX11_lot 26 = .ok (.aload_n 0, 1) := by decide +kernel
theorem dX11_lot_27 : decode cX11_lot 27 = .ok (.getfield 95, 3) := by decide +kernel
theorem dX11_lot_30 : decode cX11_lot 30 = .ok (.invokevirtual 322, 3) := by decide +kernel
theorem dX11_lot_33 : decode cX11_lot 33 = .ok (.aload_n 0, 1) := by decide +kernel
theorem dX11_lot_34 : decode cX11_lot 34 = .ok (.getfield 76, 3) := by decide +kernel
theorem dX11_lot_37 : decode cX11_lot 37 = .ok (.iload_n 1, 1) := by decide +kernel
theorem dX11_lot_38 : decode cX11_lot 38 = .ok (.invokevirtual 332, 3) := by decide +kernel
theorem dX11_lot_41 : decode cX11_lot 41 = .ok (.pop, 1) := by decide +kernel
theorem dX11_lot_42 : decode cX11_lot 42 = .ok (.aload_n 0, 1) := by decide +kernel
theorem dX11_lot_43 : decode cX11_lot 43 = .ok (.getfield 76, 3) := by decide +kernel
theorem dX11_lot_46 : decode cX11_lot 46 = .ok (.aload_n 0, 1) := by decide +kernel
theorem dX11_lot_47 : decode cX11_lot 47 = .ok (.getfield 95, 3) := by decide +kernel
theorem dX11_lot_50 : decode cX11_lot 50 = .ok (.aload_n 0, 1) := by decide +kernel
theorem dX11_lot_51 : decode cX11_lot 51 = .ok (.getfield 25, 3) := by decide +kernel
theorem dX11_lot_54 : decode cX11_lot 54 = .ok (.getfield 178, 3) := by decide +kernel
theorem dX11_lot_57 : decode cX11_lot 57 = .ok (.invokevirtual 303, 3) := by decide +kernel
theorem dX11_lot_60 : decode cX11_lot 60 = .ok (.iload_n 2, 1) := by decide +kernel
theorem dX11_lot_61 : decode cX11_lot 61 = .ok (.ifCond .ne 12, 3) := by decide +kernel
theorem dX11_lot_64 : decode cX11_lot 64 = .ok (.aload_n 0, 1) := by decide +kernel
theorem dX11_lot_65 : decode cX11_lot 65 = .ok (.getfield 76, 3) := by decide +kernel
theorem dX11_lot_68 : decode cX11_lot 68 = .ok (.iconst 3, 1) := by decide +kernel
theorem dX11_lot_69 : decode cX11_lot 69 = .ok (.invokevirtual 224, 3) := by decide +kernel
theorem dX11_lot_72 : decode cX11_lot 72 = .ok (.ireturn, 1) := by decide +kernel
theorem dX11_lot_73 : decode cX11_lot 73 = .ok (.iload_n 2, 1) := by decide +kernel
theorem dX11_lot_74 : decode cX11_lot 74 = .ok (.iconst 1, 1) := by decide +kernel
theorem dX11_lot_75 : decode cX11_lot 75 = .ok (.if_icmp .ne 13, 3) := by decide +kernel
theorem dX11_lot_78 : decode cX11_lot 78 = .ok (.aload_n 0, 1) := by decide +kernel
theorem dX11_lot_79 : decode cX11_lot 79 = .ok (.getfield 76, 3) := by decide +kernel
theorem dX11_lot_82 : decode cX11_lot 82 = .ok (.invokevirtual 235, 3) := by decide +kernel
theorem dX11_lot_85 : decode cX11_lot 85 = .ok (.goto 10, 3) := by decide +kernel
theorem dX11_lot_88 : decode cX11_lot 88 = .ok (.aload_n 0, 1) := by decide +kernel
theorem dX11_lot_89 : decode cX11_lot 89 = .ok (.getfield 76, 3) := by decide +kernel
theorem dX11_lot_92 : decode cX11_lot 92 = .ok (.invokevirtual 228, 3) := by decide +kernel
theorem dX11_lot_95 : decode cX11_lot 95 = .ok (.ireturn, 1) := by decide +kernel
theorem dX11_lucky_0 : decode cX11_lucky 0 = .ok (.aload_n 0, 1) := by decide +kernel
theorem dX11_lucky_1 : decode cX11_lucky 1 = .ok (.iload_n 1, 1) := by decide +kernel
theorem dX11_lucky_2 : decode cX11_lucky 2 = .ok (.invokevirtual 147, 3) := by decide +kernel
theorem dX11_lucky_5 : decode cX11_lucky 5 = .ok (.aload_n 0, 1) := by decide +kernel
theorem dX11_lucky_6 : decode cX11_lucky 6 = .ok (.iload_n 3, 1) := by decide +kernel
theorem dX11_lucky_7 : decode cX11_lucky 7 = .ok (.iconst 1, 1) := by decide +kernel
theorem dX11_lucky_8 : decode cX11_lucky 8 = .ok (.bipush 40, 2) := by decide +kernel
theorem dX11_lucky_10 : decode cX11_lucky 10 = .ok (.invokevirtual 116, 3) := by decide +kernel
theorem dX11_lucky_13 : decode cX11_lucky 13 = .ok (.aload_n 0, 1) := by decide +kernel
theorem dX11_lucky_14 : decode cX11_lucky 14 = .ok (.getfield 60, 3) := by decide +kernel
theorem dX11_lucky_17 : decode cX11_lucky 17 = .ok (.aload_n 0, 1) := by decide +kernel
theorem dX11_lucky_18 : decode cX11_lucky 18 = .ok (.getfield 138, 3) := by decide +kernel
theorem dX11_lucky_21 : decode cX11_lucky 21 = .ok (.invokevirtual 262, 3) := by decide +kernel
theorem dX11_lucky_24 : decode cX11_lucky 24 = .ok (.aload_n 0, 1) := by decide +kernel
theorem dX11_lucky_25 : decode cX11_lucky 25 = .ok (.getfield 60, 3) := by decide +kernel
theorem dX11_lucky_28 : decode cX11_lucky 28 = .ok (.aload_n 0, 1) := by decide +kernel
theorem dX11_lucky_29 : decode cX11_lucky 29 = .ok (.getfield 138, 3) := by decide +kernel
theorem dX11_lucky_32 : decode cX11_lucky 32 = .ok (.aload_n 0, 1) := by decide +kernel
theorem dX11_lucky_33 : decode cX11_lucky 33 = .ok (.getfield 95, 3) := by decide +kernel
theorem dX11_lucky_36 : decode cX11_lucky 36 = .ok (.invokevirtual 322, 3) := by decide +kernel
theorem dX11_lucky_39 : decode cX11_lucky 39 = .ok (.iconst 0, 1) := by decide +kernel
theorem dX11_lucky_40 : decode cX11_lucky 40 = .ok (.istore 4, 2) := by decide +kernel
theorem dX11_lucky_42 : decode cX11_lucky 42 = .ok (.iconst 0, 1) := by decide +kernel
theorem dX11_lucky_43 : decode cX11_lucky 43 = .ok (.istore 5, 2) := by decide +kernel
theorem dX11_lucky_45 : decode cX11_lucky 45 = .ok (.iload 5, 2) := by decide +kernel
theorem dX11_lucky_47 : decode cX11_lucky 47 = .ok (.iload_n 3, 1) := by decide +kernel
theorem dX11_lucky_48 : decode cX11_lucky 48 = .ok (.if_icmp .ge 59, 3) := by decide +kernel
theorem dX11_lucky_51 : decode cX11_lucky 51 = .ok (.aload_n 0, 1) := by decide +kernel
theorem dX11_lucky_52 : decode cX11_lucky 52 = .ok (.getfield 76, 3) := by decide +kernel
theorem dX11_lucky_55 : decode cX11_lucky 55 = .ok (.iload_n 2, 1) := by decide +kernel
theorem dX11_lucky_56 : decode cX11_lucky 56 = .ok (.iload 5, 2) := by decide +kernel
theorem dX11_lucky_58 : decode cX11_lucky 58 = .ok (.iadd, 1) := by decide +kernel
theorem dX11_lucky_59 : decode cX11_lucky 59 = .ok (.invokevirtual 332, 3) := by decide +kernel
theorem dX11_lucky_62 : decode cX11_lucky 62 = .ok (.pop, 1) := by decide +kernel
theorem dX11_lucky_63 : decode cX11_lucky 63 = .ok (.aload_n 0, 1) := by decide +kernel
theorem dX11_lucky_64 : decode cX11_lucky 64 = .ok (.getfield 76, 3) := by decide +kernel
theorem dX11_lucky_67 : decode cX11_lucky 67 = .ok (.aload_n 0, 1) := by decide +kernel
theorem dX11_lucky_68 : decode cX11_lucky 68 = .ok (.getfield 95, 3) := by decide +kernel
theorem dX11_lucky_71 : decode cX11_lucky 71 = .ok (.aload_n 0, 1) := by decide +kernel
theorem dX11_lucky_72 : decode cX11_lucky 72 = .ok (.getfield 25, 3) := by decide +kernel
theorem dX11_lucky_75 : decode cX11_lucky 75 = .ok (.getfield 178, 3) := by decide +kernel
theorem dX11_lucky_78 : decode cX11_lucky 78 = .ok (.invokevirtual 303, 3) := by decide +kernel
theorem dX11_lucky_81 : decode cX11_lucky 81 = .ok (.aload_n 0, 1) := by decide +kernel
theorem dX11_lucky_82 : decode cX11_lucky 82 = .ok (.getfield 76, 3) := by decide +kernel
theorem dX11_lucky_85 : decode cX11_lucky 85 = .ok (.getfield 215, 3) := by decide +kernel
theorem dX11_lucky_88 : decode cX11_lucky 88 = .ok (.iload_n 1, 1) := by decide +kernel
theorem dX11_lucky_89 : decode cX11_lucky 89 = .ok (.bipush 8, 2) := by decide +kernel
theorem dX11_lucky_91 : decode cX11_lucky 91 = .ok (.imul, 1) := by decide +kernel
theorem dX11_lucky_92 : decode cX11_lucky 92 = .ok (.iconst 5, 1) := by decide +kernel
theorem dX11_lucky_93 : decode cX11_lucky 93 = .ok (.iadd, 1) := by decide +kernel
theorem dX11_lucky_94 : decode cX11_lucky 94 = .ok (.iaload, 1) := by decide +kernel
theorem dX11_lucky_95 : decode cX11_lucky 95 = .ok (.ifCond .le 6, 3) := by decide +kernel
theorem dX11_lucky_98 : decode cX11_lucky 98 = .ok (.iinc 4 1, 3) := by decide +kernel
theorem dX11_lucky_101 : decode cX11_lucky 101 = .ok (.iinc 5 1, 3) := by decide +kernel
theorem dX11_lucky_104 : decode cX11_lucky 104 = .ok (.goto (-59), 3) := by decide +kernel
theorem dX11_lucky_107 : decode cX11_lucky 107 = .ok (.iload 4, 2) := by decide +kernel
theorem dX11_lucky_109 : decode cX11_lucky 109 = .ok (.ireturn, 1) := by decide +kernel
theorem dX11_summer_0 : decode cX11_summer 0 = .ok (.aload_n 0, 1) := by decide +kernel
theorem dX11_summer_1 : decode cX11_summer 1 = .ok (.iload_n 2, 1) := by decide +kernel
theorem dX11_summer_2 : decode cX11_summer 2 = .ok (.iconst 1, 1) := by decide +kernel
theorem dX11_summer_3 : decode cX11_summer 3 = .ok (.bipush 60, 2) := by decide +kernel
theorem dX11_summer_5 : decode cX11_summer 5 = .ok (.invokevirtual 116, 3) := by decide +kernel
theorem dX11_summer_8 : decode cX11_summer 8 = .ok (.aload_n 0, 1) := by decide +kernel
theorem dX11_summer_9 : decode cX11_summer 9 = .ok (.iload_n 3, 1) := by decide +kernel
theorem dX11_summer_10 : decode cX11_summer 10 = .ok (.iconst 0, 1) := by decide +kernel
theorem dX11_summer_11 : decode cX11_summer 11 = .ok (.iconst 3, 1) := by decide +kernel
theorem dX11_summer_12 : decode cX11_summer 12 = .ok (.invokevirtual 116, 3) := by decide +kernel
theorem dX11_summer_15 : decode cX11_summer 15 = .ok (.aload_n 0, 1) := by decide +kernel
theorem dX11_summer_16 : decode cX11_summer 16 = .ok (.invokevirtual 326, 3) := by decide +kernel
theorem dX11_summer_19 : decode cX11_summer 19 = .ok (.iload_n 1, 1) := by decide +kernel
theorem dX11_summer_20 : decode cX11_summer 20 = .ok (.istore 4, 2) := by decide +kernel
theorem dX11_summer_22 : decode cX11_summer 22 = .ok (.iconst 0, 1) := by decide +kernel
theorem dX11_summer_23 : decode cX11_summer 23 = .ok (.istore 5, 2) := by decide +kernel
theorem dX11_summer_25 : decode cX11_summer 25 = .ok (.iconst 0, 1) := by decide +kernel
theorem dX11_summer_26 : decode cX11_summer 26 = .ok (.istore 6, 2) := by decide +kernel
theorem dX11_summer_28 : decode cX11_summer 28 = .ok (.iconst 0, 1) := by decide +kernel
theorem dX11_summer_29 : decode cX11_summer 29 = .ok (.istore 7, 2) := by decide +kernel
theorem dX11_summer_31 : decode cX11_summer 31 = .ok (.iload 7, 2) := by decide +kernel
theorem dX11_summer_33 : decode cX11_summer 33 = .ok (.iload_n 2, 1) := by decide +kernel
theorem dX11_summer_34 : decode cX11_summer 34 = .ok (.if_icmp .ge 117, 3) := by decide +kernel
theorem dX11_summer_37 : decode cX11_summer 37 = .ok (.iload 7, 2) := by decide +kernel
theorem dX11_summer_39 : decode cX11_summer 39 = .ok (.ifCond .ne 17, 3) := by decide +kernel
theorem dX11_summer_42 : decode cX11_summer 42 = .ok (.aload_n 0, 1) := by decide +kernel
theorem dX11_summer_43 : decode cX11_summer 43 = .ok (.getfield 25, 3) := by decide +kernel
theorem dX11_summer_46 : decode cX11_summer 46 = .ok (.aload_n 0, 1) := by decide +kernel
theorem dX11_summer_47 : decode cX11_summer 47 = .ok (.getfield 95, 3) := by decide +kernel
theorem dX11_summer_50 : decode cX11_summer 50 = .ok (.invokevirtual 335, 3) := by decide +kernel
theorem dX11_summer_53 : decode cX11_summer 53 = .ok (.goto 27, 3) := by decide +kernel
theorem dX11_summer_56 : decode cX11_summer 56 = .ok (.aload_n 0, 1) := by decide +kernel
theorem dX11_summer_57 : decode cX11_summer 57 = .ok (.getfield 35, 3) := by decide +kernel
theorem dX11_summer_60 : decode cX11_summer 60 = .ok (.aload_n 0, 1) := by decide +kernel
theorem dX11_summer_61 : decode cX11_summer 61 = .ok (.getfield 76, 3) := by decide +kernel
theorem dX11_summer_64 : decode cX11_summer 64 = .ok (.aload_n 0, 1) := by decide +kernel
theorem dX11_summer_65 : decode cX11_summer 65 = .ok (.getfield 60, 3) := by decide +kernel
theorem dX11_summer_68 : decode cX11_summer 68 = .ok (.getfield 338, 3) := by decide +kernel
theorem dX11_summer_71 : decode cX11_summer 71 = .ok (.iload 7, 2) := by decide +kernel
theorem dX11_summer_73 : decode cX11_summer 73 = .ok (.aload_n 0, 1) := by decide +kernel
theorem dX11_summer_74 : decode cX11_summer 74 = .ok (.getfield 95, 3) := by decide +kernel
theorem dX11_summer_77 : decode cX11_summer 77 = .ok (.invokevirtual 341, 3) := by decide +kernel
theorem dX11_summer_80 : decode cX11_summer 80 = .ok (.aload_n 0, 1) := by decide +kernel
theorem dX11_summer_81 : decode cX11_summer 81 = .ok (.getfield 76, 3) := by decide +kernel
theorem dX11_summer_84 : decode cX11_summer 84 = .ok (.iload 4, 2) := by decide +kernel
theorem dX11_summer_86 : decode cX11_summer 86 = .ok (.invokevirtual 332, 3) := by decide +kernel
theorem dX11_summer_89 : decode cX11_summer 89 = .ok (.istore 4, 2) := by decide +kernel
theorem dX11_summer_91 : decode cX11_summer 91 = .ok (.aload_n 0, 1) := by decide +kernel
theorem dX11_summer_92 : decode cX11_summer 92 = .ok (.getfield 76, 3) := by decide +kernel
theorem dX11_summer_95 : decode cX11_summer 95 = .ok (.aload_n 0, 1) := by decide +kernel
theorem dX11_summer_96 : decode cX11_summer 96 = .ok (.getfield 95, 3) := by decide +kernel
theorem dX11_summer_99 : decode cX11_summer 99 = .ok (.aload_n 0, 1) := by decide +kernel
theorem dX11_summer_100 : decode cX11_summer 100 = .ok (.getfield 25, 3) := by decide +kernel
theorem dX11_summer_103 : decode cX11_summer 103 = .ok (.getfield 178, 3) := by decide +kernel
theorem dX11_summer_106 : decode cX11_summer 106 = .ok (.invokevirtual 303, 3) := by decide +kernel
theorem dX11_summer_109 : decode cX11_summer 109 = .ok (.iload 5, 2) := by decide +kernel
theorem dX11_summer_111 : decode cX11_summer 111 = .ok (.aload_n 0, 1) := by decide +kernel
theorem dX11_summer_112 : decode cX11_summer 112 = .ok (.getfield 76, 3) := by decide +kernel
theorem dX11_summer_115 : decode cX11_summer 115 = .ok (.iconst 3, 1) := by decide +kernel
theorem dX11_summer_116 : decode cX11_summer 116 = .ok (.invokevirtual 224, 3) := by decide +kernel
theorem dX11_summer_119 : decode cX11_summer 119 = .ok (.iadd, 1) := by decide +kernel
theorem dX11_summer_120 : decode cX11_summer 120 = .ok (.istore 5, 2) := by decide +kernel
theorem dX11_summer_122 : decode cX11_summer 122 = .ok (.iload 6, 2) := by decide +kernel
theorem dX11_summer_124 : decode cX11_summer 124 = .ok (.aload_n 0, 1) := by decide +kernel
theorem dX11_summer_125 : decode cX11_summer 125 = .ok (.getfield 76, 3) := by decide +kernel
theorem dX11_summer_128 : decode cX11_summer 128 = .ok (.invokevirtual 228, 3) := by decide +kernel
theorem dX11_summer_131 : decode cX11_summer 131 = .ok (.iadd, 1) := by decide +kernel
theorem dX11_summer_132 : decode cX11_summer 132 = .ok (.istore 6, 2) := by decide +kernel
theorem dX11_summer_134 : decode cX11_summer 134 = .ok (.aload_n 0, 1) := by decide +kernel
theorem dX11_summer_135 : decode cX11_summer 135 = .ok (.aload_n 0, 1) := by decide +kernel
theorem dX11_summer_136 : decode cX11_summer 136 = .ok (.getfield 76, 3) := by decide +kernel
theorem dX11_summer_139 : decode cX11_summer 139 = .ok (.invokevirtual 235, 3) := by decide +kernel
theorem dX11_summer_142 : decode cX11_summer 142 = .ok (.invokevirtual 345, 3) := by decide +kernel
theorem dX11_summer_145 : decode cX11_summer 145 = .ok (.iinc 7 1, 3) := by decide +kernel
theorem dX11_summer_148 : decode cX11_summer 148 = .ok (.goto (-117), 3) := by decide +kernel
theorem dX11_summer_151 : decode cX11_summer 151 = .ok (.iload_n 3, 1) := by decide +kernel
theorem dX11_summer_152 : decode cX11_summer 152 = .ok (.tableswitch 39 0 2 #[28, 31, 34], 28) := by decide +kernel
theorem dX11_summer_180 : decode cX11_summer 180 = .ok (.iload 5, 2) := by decide +kernel
theorem dX11_summer_182 : decode cX11_summer 182 = .ok (.ireturn, 1) := by decide +kernel
theorem dX11_summer_183 : decode cX11_summer 183 = .ok (.iload 6, 2) := by decide +kernel
theorem dX11_summer_185 : decode cX11_summer 185 = .ok (.ireturn, 1) := by decide +kernel
theorem dX11_summer_186 : decode cX11_summer 186 = .ok (.aload_n 0, 1) := by decide +kernel
theorem dX11_summer_187 : decode cX11_summer 187 = .ok (.invokevirtual 348, 3) := by decide +kernel
theorem dX11_summer_190 : decode cX11_summer 190 = .ok (.ireturn, 1) := by decide +kernel
theorem dX11_summer_191 : decode cX11_summer 191 = .ok (.aload_n 0, 1) := by decide +kernel
theorem dX11_summer_192 : decode cX11_summer 192 = .ok (.getfield 76, 3) := by decide +kernel
theorem dX11_summer_195 : decode cX11_summer 195 = .ok (.invokevirtual 232, 3) := by decide +kernel
theorem dX11_summer_198 : decode cX11_summer 198 = .ok (.ireturn, 1) := by decide +kernel
theorem dX11_fits_0 : decode cX11_fits 0 = .ok (.aload_n 0, 1) := by decide +kernel
theorem dX11_fits_1 : decode cX11_fits 1 = .ok (.iload_n 1, 1) := by decide +kernel
theorem dX11_fits_2 : decode cX11_fits 2 = .ok (.invokevirtual 147, 3) := by decide +kernel
theorem dX11_fits_5 : decode cX11_fits 5 = .ok (.iconst 0, 1) := by decide +kernel
theorem dX11_fits_6 : decode cX11_fits 6 = .ok (.istore_n 2, 1) := by decide +kernel
theorem dX11_fits_7 : decode cX11_fits 7 = .ok (.iconst 0, 1) := by decide +kernel
theorem dX11_fits_8 : decode cX11_fits 8 = .ok (.istore_n 3, 1) := by decide +kernel
theorem dX11_fits_9 : decode cX11_fits 9 = .ok (.iload_n 3, 1) := by decide +kernel
theorem dX11_fits_10 : decode cX11_fits 10 = .ok (.aload_n 0, 1) := by decide +kernel
theorem dX11_fits_11 : decode cX11_fits 11 = .ok (.getfield 25, 3) := by decide +kernel
theorem dX11_fits_14 : decode cX11_fits 14 = .ok (.getfield 144, 3) := by decide +kernel
theorem dX11_fits_17 : decode cX11_fits 17 = .ok (.if_icmp .ge 64, 3) := by decide +kernel
theorem dX11_fits_20 : decode cX11_fits 20 = .ok (.aload_n 0, 1) := by decide +kernel
theorem dX11_fits_21 : decode cX11_fits 21 = .ok (.getfield 64, 3) := by decide +kernel
theorem dX11_fits_24 : decode cX11_fits 24 = .ok (.invokevirtual 351, 3) := by decide +kernel
theorem dX11_fits_27 : decode cX11_fits 27 = .ok (.aload_n 0, 1) := by decide +kernel
theorem dX11_fits_28 : decode cX11_fits 28 = .ok (.getfield 64, 3) := by decide +kernel
theorem dX11_fits_31 : decode cX11_fits 31 = .ok (.getfield 338, 3) := by decide +kernel
theorem dX11_fits_34 : decode cX11_fits 34 = .ok (.iload_n 1, 1) := by decide +kernel
theorem dX11_fits_35 : decode cX11_fits 35 = .ok (.iload_n 3, 1) := by decide +kernel
theorem dX11_fits_36 : decode cX11_fits 36 = .ok (.iastore, 1) := by decide +kernel
theorem dX11_fits_37 : decode cX11_fits 37 = .ok (.aload_n 0, 1) := by decide +kernel
theorem dX11_fits_38 : decode cX11_fits 38 = .ok (.getfield 51, 3) := by decide +kernel
theorem dX11_fits_41 : decode cX11_fits 41 = .ok (.iload_n 1, 1) := by decide +kernel
theorem dX11_fits_42 : decode cX11_fits 42 = .ok (.aload_n 0, 1) := by decide +kernel
theorem dX11_fits_43 : decode cX11_fits 43 = .ok (.getfield 64, 3) := by decide +kernel
theorem dX11_fits_46 : decode cX11_fits 46 = .ok (.invokevirtual 352, 3) := by decide +kernel
theorem dX11_fits_49 : decode cX11_fits 49 = .ok (.aload_n 0, 1) := by decide +kernel
theorem dX11_fits_50 : decode cX11_fits 50 = .ok (.getfield 51, 3) := by decide +kernel
theorem dX11_fits_53 : decode cX11_fits 53 = .ok (.getfield 166, 3) := by decide +kernel
theorem dX11_fits_56 : decode cX11_fits 56 = .ok (.if_icmp .ne 9, 3) := by decide +kernel
theorem dX11_fits_59 : decode cX11_fits 59 = .ok (.iload_n 2, 1) := by decide +kernel
theorem dX11_fits_60 : decode cX11_fits 60 = .ok (.iconst 1, 1) := by decide +kernel
theorem dX11_fits_61 : decode cX11_fits 61 = .ok (.iload_n 3, 1) := by decide +kernel
theorem dX11_fits_62 : decode cX11_fits 62 = .ok (.ishl, 1) := by decide +kernel
theorem dX11_fits_63 : decode cX11_fits 63 = .ok (.ior, 1) := by decide +kernel
theorem dX11_fits_64 : decode cX11_fits 64 = .ok (.istore_n 2, 1) := by decide +kernel
theorem dX11_fits_65 : decode cX11_fits 65 = .ok (.aload_n 0, 1) := by decide +kernel
theorem dX11_fits_66 : decode cX11_fits 66 = .ok (.getfield 64, 3) := by decide +kernel
theorem dX11_fits_69 : decode cX11_fits 69 = .ok (.getfield 338, 3) := by decide +kernel
theorem dX11_fits_72 : decode cX11_fits 72 = .ok (.iload_n 1, 1) := by decide +kernel
theorem dX11_fits_73 : decode cX11_fits 73 = .ok (.iload_n 1, 1) := by decide +kernel
theorem dX11_fits_74 : decode cX11_fits 74 = .ok (.iastore, 1) := by decide +kernel
theorem dX11_fits_75 : decode cX11_fits 75 = .ok (.iinc 3 1, 3) := by decide +kernel
theorem dX11_fits_78 : decode cX11_fits 78 = .ok (.goto (-69), 3) := by decide +kernel
theorem dX11_fits_81 : decode cX11_fits 81 = .ok (.iload_n 2, 1) := by decide +kernel
theorem dX11_fits_82 : decode cX11_fits 82 = .ok (.ireturn, 1) := by decide +kernel
theorem dX11_right_0 : decode cX11_right 0 = .ok (.aload_n 0, 1) := by decide +kernel
theorem dX11_right_1 : decode cX11_right 1 = .ok (.getfield 51, 3) := by decide +kernel
theorem dX11_right_4 : decode cX11_right 4 = .ok (.iconst (-1), 1) := by decide +kernel
theorem dX11_right_5 : decode cX11_right 5 = .ok (.aload_n 0, 1) := by decide +kernel
theorem dX11_right_6 : decode cX11_right 6 = .ok (.getfield 60, 3) := by decide +kernel
theorem dX11_right_9 : decode cX11_right 9 = .ok (.invokevirtual 352, 3) := by decide +kernel
theorem dX11_right_12 : decode cX11_right 12 = .ok (.ireturn, 1) := by decide +kernel
theorem dX11_early_0 : decode cX11_early 0 = .ok (.aload_n 0, 1) := by decide +kernel
theorem dX11_early_1 : decode cX11_early 1 = .ok (.iload_n 1, 1) := by decide +kernel
theorem dX11_early_2 : decode cX11_early 2 = .ok (.iconst 0, 1) := by decide +kernel
theorem dX11_early_3 : decode cX11_early 3 = .ok (.bipush 23, 2) := by decide +kernel
theorem dX11_early_5 : decode cX11_early 5 = .ok (.invokevirtual 116, 3) := by decide +kernel
theorem dX11_early_8 : decode cX11_early 8 = .ok (.aload_n 0, 1) := by decide +kernel
theorem dX11_early_9 : decode cX11_early 9 = .ok (.invokevirtual 193, 3) := by decide +kernel
theorem dX11_early_12 : decode cX11_early 12 = .ok (.iconst 0, 1) := by decide +kernel
theorem dX11_early_13 : decode cX11_early 13 = .ok (.istore_n 2, 1) := by decide +kernel
theorem dX11_early_14 : decode cX11_early 14 = .ok (.iconst 0, 1) := by decide +kernel
theorem dX11_early_15 : decode cX11_early 15 = .ok (.istore_n 3, 1) := by decide +kernel
theorem dX11_early_16 : decode cX11_early 16 = .ok (.iload_n 3, 1) := by decide +kernel
theorem dX11_early_17 : decode cX11_early 17 = .ok (.aload_n 0, 1) := by decide +kernel
theorem dX11_early_18 : decode cX11_early 18 = .ok (.getfield 25, 3) := by decide +kernel
theorem dX11_early_21 : decode cX11_early 21 = .ok (.getfield 144, 3) := by decide +kernel
theorem dX11_early_24 : decode cX11_early 24 = .ok (.if_icmp .ge 33, 3) := by decide +kernel
theorem dX11_early_27 : decode cX11_early 27 = .ok (.aload_n 0, 1) := by decide +kernel
theorem dX11_early_28 : decode cX11_early 28 = .ok (.getfield 72, 3) := by decide +kernel
theorem dX11_early_31 : decode cX11_early 31 = .ok (.getfield 215, 3) := by decide +kernel
theorem dX11_early_34 : decode cX11_early 34 = .ok (.iload_n 3, 1) := by decide +kernel
theorem dX11_early_35 : decode cX11_early 35 = .ok (.bipush 8, 2) := by decide +kernel
theorem dX11_early_37 : decode cX11_early 37 = .ok (.imul, 1) := by decide +kernel
theorem dX11_early_38 : decode cX11_early 38 = .ok (.iconst 0, 1) := by decide +kernel
theorem dX11_early_39 : decode cX11_early 39 = .ok (.iadd, 1) := by decide +kernel
theorem dX11_early_40 : decode cX11_early 40 = .ok (.iaload, 1) := by decide +kernel
theorem dX11_early_41 : decode cX11_early 41 = .ok (.iload_n 1, 1) := by decide +kernel
theorem dX11_early_42 : decode cX11_early 42 = .ok (.if_icmp .gt 9, 3) := by decide +kernel
theorem dX11_early_45 : decode cX11_early 45 = .ok (.iload_n 2, 1) := by decide +kernel
theorem dX11_early_46 : decode cX11_early 46 = .ok (.iconst 1, 1) := by decide +kernel
theorem dX11_early_47 : decode cX11_early 47 = .ok (.iload_n 3, 1) := by decide +kernel
theorem dX11_early_48 : decode cX11_early 48 = .ok (.ishl, 1) := by decide +kernel
theorem dX11_early_49 : decode cX11_early 49 = .ok (.ior, 1) := by decide +kernel
theorem dX11_early_50 : decode cX11_early 50 = .ok (.istore_n 2, 1) := by decide +kernel
theorem dX11_early_51 : decode cX11_early 51 = .ok (.iinc 3 1, 3) := by decide +kernel
theorem dX11_early_54 : decode cX11_early 54 = .ok (.goto (-38), 3) := by decide +kernel
theorem dX11_early_57 : decode cX11_early 57 = .ok (.iload_n 2, 1) := by decide +kernel
theorem dX11_early_58 : decode cX11_early 58 = .ok (.ireturn, 1) := by decide +kernel
theorem dX11_hotel_0 : decode cX11_hotel 0 = .ok (.aload_n 0, 1) := by decide +kernel
theorem dX11_hotel_1 : decode cX11_hotel 1 = .ok (.iload_n 1, 1) := by decide +kernel
theorem dX11_hotel_2 : decode cX11_hotel 2 = .ok (.iconst 0, 1) := by decide +kernel
theorem dX11_hotel_3 : decode cX11_hotel 3 = .ok (.bipush 23, 2) := by decide +kernel
theorem dX11_hotel_5 : decode cX11_hotel 5 = .ok (.invokevirtual 116, 3) := by decide +kernel
theorem dX11_hotel_8 : decode cX11_hotel 8 = .ok (.aload_n 0, 1) := by decide +kernel
theorem dX11_hotel_9 : decode cX11_hotel 9 = .ok (.iload_n 2, 1) := by decide +kernel
theorem dX11_hotel_10 : decode cX11_hotel 10 = .ok (.iconst 1, 1) := by decide +kernel
theorem dX11_hotel_11 : decode cX11_hotel 11 = .ok (.bipush 23, 2) := by decide +kernel
theorem dX11_hotel_13 : decode cX11_hotel 13 = .ok (.invokevirtual 116, 3) := by decide +kernel
theorem dX11_hotel_16 : decode cX11_hotel 16 = .ok (.aload_n 0, 1) := by decide +kernel
theorem dX11_hotel_17 : decode cX11_hotel 17 = .ok (.getfield 91, 3) := by decide +kernel
theorem dX11_hotel_20 : decode cX11_hotel 20 = .ok (.iconst 0, 1) := by decide +kernel
theorem dX11_hotel_21 : decode cX11_hotel 21 = .ok (.aload_n 0, 1) := by decide +kernel
theorem dX11_hotel_22 : decode cX11_hotel 22 = .ok (.getfield 25, 3) := by decide +kernel
theorem dX11_hotel_25 : decode cX11_hotel 25 = .ok (.getfield 175, 3) := by decide +kernel
theorem dX11_hotel_28 : decode cX11_hotel 28 = .ok (.aload_n 0, 1) := by decide +kernel
theorem dX11_hotel_29 : decode cX11_hotel 29 = .ok (.getfield 25, 3) := by decide +kernel
theorem dX11_hotel_32 : decode cX11_hotel 32 = .ok (.getfield 178, 3) := by decide +kernel
theorem dX11_hotel_35 : decode cX11_hotel 35 = .ok (.invokevirtual 356, 3) := by decide +kernel
theorem dX11_hotel_38 : decode cX11_hotel 38 = .ok (.ifCond .ne 5, 3) := by decide +kernel
theorem dX11_hotel_41 : decode cX11_hotel 41 = .ok (.iconst 0, 1) := by decide +kernel
theorem dX11_hotel_42 : decode cX11_hotel 42 = .ok (.ireturn, 1) := by decide +kernel
theorem dX11_hotel_43 : decode cX11_hotel 43 = .ok (.aload_n 0, 1) := by decide +kernel
theorem dX11_hotel_44 : decode cX11_hotel 44 = .ok (.getfield 25, 3) := by decide +kernel
theorem dX11_hotel_47 : decode cX11_hotel 47 = .ok (.iload_n 1, 1) := by decide +kernel
theorem dX11_hotel_48 : decode cX11_hotel 48 = .ok (.putfield 175, 3) := by decide +kernel
theorem dX11_hotel_51 : decode cX11_hotel 51 = .ok (.aload_n 0, 1) := by decide +kernel
theorem dX11_hotel_52 : decode cX11_hotel 52 = .ok (.getfield 25, 3) := by decide +kernel
theorem dX11_hotel_55 : decode cX11_hotel 55 = .ok (.iload_n 2, 1) := by decide +kernel
theorem dX11_hotel_56 : decode cX11_hotel 56 = .ok (.putfield 178, 3) := by decide +kernel
theorem dX11_hotel_59 : decode cX11_hotel 59 = .ok (.aload_n 0, 1) := by decide +kernel
theorem dX11_hotel_60 : decode cX11_hotel 60 = .ok (.invokevirtual 141, 3) := by decide +kernel
theorem dX11_hotel_63 : decode cX11_hotel 63 = .ok (.iconst 1, 1) := by decide +kernel
theorem dX11_hotel_64 : decode cX11_hotel 64 = .ok (.ireturn, 1) := by decide +kernel
theorem dX11_hire_0 : decode cX11_hire 0 = .ok (.aload_n 0, 1) := by decide +kernel
theorem dX11_hire_1 : decode cX11_hire 1 = .ok (.iload_n 1, 1) := by decide +kernel
theorem dX11_hire_2 : decode cX11_hire 2 = .ok (.iconst 0, 1) := by decide +kernel
theorem dX11_hire_3 : decode cX11_hire 3 = .ok (.bipush 99, 2) := by decide +kernel
theorem dX11_hire_5 : decode cX11_hire 5 = .ok (.invokevirtual 116, 3) := by decide +kernel
theorem dX11_hire_8 : decode cX11_hire 8 = .ok (.aload_n 0, 1) := by decide +kernel
theorem dX11_hire_9 : decode cX11_hire 9 = .ok (.getfield 91, 3) := by decide +kernel
theorem dX11_hire_12 : decode cX11_hire 12 = .ok (.iconst 1, 1) := by decide +kernel
theorem dX11_hire_13 : decode cX11_hire 13 = .ok (.aload_n 0, 1) := by decide +kernel
theorem dX11_hire_14 : decode cX11_hire 14 = .ok (.getfield 25, 3) := by decide +kernel
theorem dX11_hire_17 : decode cX11_hire 17 = .ok (.getfield 181, 3) := by decide +kernel
theorem dX11_hire_20 : decode cX11_hire 20 = .ok (.iconst 0, 1) := by decide +kernel
theorem dX11_hire_21 : decode cX11_hire 21 = .ok (.invokevirtual 356, 3) := by decide +kernel
theorem dX11_hire_24 : decode cX11_hire 24 = .ok (.ifCond .ne 5, 3) := by decide +kernel
theorem dX11_hire_27 : decode cX11_hire 27 = .ok (.iconst 0, 1) := by decide +kernel
theorem dX11_hire_28 : decode cX11_hire 28 = .ok (.ireturn, 1) := by decide +kernel
theorem dX11_hire_29 : decode cX11_hire 29 = .ok (.aload_n 0, 1) := by decide +kernel
theorem dX11_hire_30 : decode cX11_hire 30 = .ok (.getfield 25, 3) := by decide +kernel
theorem dX11_hire_33 : decode cX11_hire 33 = .ok (.iload_n 1, 1) := by decide +kernel
theorem dX11_hire_34 : decode cX11_hire 34 = .ok (.putfield 181, 3) := by decide +kernel
theorem dX11_hire_37 : decode cX11_hire 37 = .ok (.aload_n 0, 1) := by decide +kernel
theorem dX11_hire_38 : decode cX11_hire 38 = .ok (.invokevirtual 141, 3) := by decide +kernel
theorem dX11_hire_41 : decode cX11_hire 41 = .ok (.iconst 1, 1) := by decide +kernel
theorem dX11_hire_42 : decode cX11_hire 42 = .ok (.ireturn, 1) := by decide +kernel
theorem dX11_wakes_0 : decode cX11_wakes 0 = .ok (.aload_n 0, 1) := by decide +kernel
theorem dX11_wakes_1 : decode cX11_wakes 1 = .ok (.iload_n 1, 1) := by decide +kernel
theorem dX11_wakes_2 : decode cX11_wakes 2 = .ok (.invokevirtual 147, 3) := by decide +kernel
theorem dX11_wakes_5 : decode cX11_wakes 5 = .ok (.aload_n 0, 1) := by decide +kernel
theorem dX11_wakes_6 : decode cX11_wakes 6 = .ok (.iload_n 2, 1) := by decide +kernel
theorem dX11_wakes_7 : decode cX11_wakes 7 = .ok (.iconst 0, 1) := by decide +kernel
theorem dX11_wakes_8 : decode cX11_wakes 8 = .ok (.bipush 23, 2) := by decide +kernel
theorem dX11_wakes_10 : decode cX11_wakes 10 = .ok (.invokevirtual 116, 3) := by decide +kernel
theorem dX11_wakes_13 : decode cX11_wakes 13 = .ok (.aload_n 0, 1) := by decide +kernel
theorem dX11_wakes_14 : decode cX11_wakes 14 = .ok (.getfield 91, 3) := by decide +kernel
theorem dX11_wakes_17 : decode cX11_wakes 17 = .ok (.iconst 2, 1) := by decide +kernel
theorem dX11_wakes_18 : decode cX11_wakes 18 = .ok (.iload_n 1, 1) := by decide +kernel
theorem dX11_wakes_19 : decode cX11_wakes 19 = .ok (.aload_n 0, 1) := by decide +kernel
theorem dX11_wakes_20 : decode cX11_wakes 20 = .ok (.getfield 25, 3) := by decide +kernel
theorem dX11_wakes_23 : decode cX11_wakes 23 = .ok (.getfield 199, 3) := by decide +kernel
theorem dX11_wakes_26 : decode cX11_wakes 26 = .ok (.iload_n 1, 1) := by decide +kernel
theorem dX11_wakes_27 : decode cX11_wakes 27 = .ok (.iaload, 1) := by decide +kernel
theorem dX11_wakes_28 : decode cX11_wakes 28 = .ok (.invokevirtual 356, 3) := by decide +kernel
theorem dX11_wakes_31 : decode cX11_wakes 31 = .ok (.ifCond .ne 5, 3) := by decide +kernel
theorem dX11_wakes_34 : decode cX11_wakes 34 = .ok (.iconst 0, 1) := by decide +kernel
theorem dX11_wakes_35 : decode cX11_wakes 35 = .ok (.ireturn, 1) := by decide +kernel
theorem dX11_wakes_36 : decode cX11_wakes 36 = .ok (.aload_n 0, 1) := by decide +kernel
theorem dX11_wakes_37 : decode cX11_wakes 37 = .ok (.getfield 25, 3) := by decide +kernel
theorem dX11_wakes_40 : decode cX11_wakes 40 = .ok (.getfield 199, 3) := by decide +kernel
theorem dX11_wakes_43 : decode cX11_wakes 43 = .ok (.iload_n 1, 1) := by decide +kernel
theorem dX11_wakes_44 : decode cX11_wakes 44 = .ok (.iload_n 2, 1) := by decide +kernel
theorem dX11_wakes_45 : decode cX11_wakes 45 = .ok (.iastore, 1) := by decide +kernel
theorem dX11_wakes_46 : decode cX11_wakes 46 = .ok (.aload_n 0, 1) := by decide +kernel
theorem dX11_wakes_47 : decode cX11_wakes 47 = .ok (.invokevirtual 141, 3) := by decide +kernel
theorem dX11_wakes_50 : decode cX11_wakes 50 = .ok (.iconst 1, 1) := by decide +kernel
theorem dX11_wakes_51 : decode cX11_wakes 51 = .ok (.ireturn, 1) := by decide +kernel
theorem dX11_undo_0 : decode cX11_undo 0 = .ok (.aload_n 0, 1) := by decide +kernel
theorem dX11_undo_1 : decode cX11_undo 1 = .ok (.getfield 91, 3) := by decide +kernel
theorem dX11_undo_4 : decode cX11_undo 4 = .ok (.getfield 360, 3) := by decide +kernel
theorem dX11_undo_7 : decode cX11_undo 7 = .ok (.ifCond .ne 5, 3) := by decide +kernel
theorem dX11_undo_10 : decode cX11_undo 10 = .ok (.iconst (-1), 1) := by decide +kernel
theorem dX11_undo_11 : decode cX11_undo 11 = .ok (.ireturn, 1) := by decide +kernel
theorem dX11_undo_12 : decode cX11_undo 12 = .ok (.aload_n 0, 1) := by decide +kernel
theorem dX11_undo_13 : decode cX11_undo 13 = .ok (.getfield 91, 3) := by decide +kernel
theorem dX11_undo_16 : decode cX11_undo 16 = .ok (.aload_n 0, 1) := by decide +kernel
theorem dX11_undo_17 : decode cX11_undo 17 = .ok (.getfield 25, 3) := by decide +kernel
theorem dX11_undo_20 : decode cX11_undo 20 = .ok (.invokevirtual 361, 3) := by decide +kernel
theorem dX11_undo_23 : decode cX11_undo 23 = .ok (.aload_n 0, 1) := by decide +kernel
theorem dX11_undo_24 : decode cX11_undo 24 = .ok (.invokevirtual 141, 3) := by decide +kernel
theorem dX11_undo_27 : decode cX11_undo 27 = .ok (.aload_n 0, 1) := by decide +kernel
theorem dX11_undo_28 : decode cX11_undo 28 = .ok (.getfield 91, 3) := by decide +kernel
theorem dX11_undo_31 : decode cX11_undo 31 = .ok (.getfield 360, 3) := by decide +kernel
theorem dX11_undo_34 : decode cX11_undo 34 = .ok (.ireturn, 1) := by decide +kernel
theorem dX11_image_0 : decode cX11_image 0 = .ok (.aload_n 0, 1) := by decide +kernel
theorem dX11_image_1 : decode cX11_image 1 = .ok (.getfield 91, 3) := by decide +kernel
theorem dX11_image_4 : decode cX11_image 4 = .ok (.aload_n 0, 1) := by decide +kernel
theorem dX11_image_5 : decode cX11_image 5 = .ok (.getfield 25, 3) := by decide +kernel
theorem dX11_image_8 : decode cX11_image 8 = .ok (.aload_n 0, 1) := by decide +kernel
theorem dX11_image_9 : decode cX11_image 9 = .ok (.getfield 138, 3) := by decide +kernel
theorem dX11_image_12 : decode cX11_image 12 = .ok (.invokevirtual 364, 3) := by decide +kernel
theorem dX11_image_15 : decode cX11_image 15 = .ok (.ifCond .eq 13, 3) := by decide +kernel
theorem dX11_image_18 : decode cX11_image 18 = .ok (.aload_n 0, 1) := by decide +kernel
theorem dX11_image_19 : decode cX11_image 19 = .ok (.getfield 91, 3) := by decide +kernel
theorem dX11_image_22 : decode cX11_image 22 = .ok (.getfield 368, 3) := by decide +kernel
theorem dX11_image_25 : decode cX11_image 25 = .ok (.goto 4, 3) := by decide +kernel
theorem dX11_image_28 : decode cX11_image 28 = .ok (.iconst (-1), 1) := by decide +kernel
theorem dX11_image_29 : decode cX11_image 29 = .ok (.ireturn, 1) := by decide +kernel
theorem dX11_restore_0 : decode cX11_restore 0 = .ok (.aload_n 0, 1) := by decide +kernel
theorem dX11_restore_1 : decode cX11_restore 1 = .ok (.getfield 91, 3) := by decide +kernel
theorem dX11_restore_4 : decode cX11_restore 4 = .ok (.invokevirtual 371, 3) := by decide +kernel
theorem dX11_restore_7 : decode cX11_restore 7 = .ok (.astore_n 1, 1) := by decide +kernel
theorem dX11_restore_8 : decode cX11_restore 8 = .ok (.aload_n 1, 1) := by decide +kernel
theorem dX11_restore_9 : decode cX11_restore 9 = .ok (.ifnonnull 5, 3) := by decide +kernel
theorem dX11_restore_12 : decode cX11_restore 12 = .ok (.iconst (-1), 1) := by decide +kernel
theorem dX11_restore_13 : decode cX11_restore 13 = .ok (.ireturn, 1) := by decide +kernel
theorem dX11_restore_14 : decode cX11_restore 14 = .ok (.aload_n 1, 1) := by decide +kernel
theorem dX11_restore_15 : decode cX11_restore 15 = .ok (.aload_n 0, 1) := by decide +kernel
theorem dX11_restore_16 : decode cX11_restore 16 = .ok (.getfield 25, 3) := by decide +kernel
theorem dX11_restore_19 : decode cX11_restore 19 = .ok (.aload_n 0, 1) := by decide +kernel
theorem dX11_restore_20 : decode cX11_restore 20 = .ok (.getfield 91, 3) := by decide +kernel
theorem dX11_restore_23 : decode cX11_restore 23 = .ok (.invokevirtual 375, 3) := by decide +kernel
theorem dX11_restore_26 : decode cX11_restore 26 = .ok (.aload_n 0, 1) := by decide +kernel
theorem dX11_restore_27 : decode cX11_restore 27 = .ok (.aload_n 1, 1) := by decide +kernel
theorem dX11_restore_28 : decode cX11_restore 28 = .ok (.getfield 381, 3) := by decide +kernel
theorem dX11_restore_31 : decode cX11_restore 31 = .ok (.putfield 138, 3) := by decide +kernel
theorem dX11_restore_34 : decode cX11_restore 34 = .ok (.aload_n 0, 1) := by decide +kernel
theorem dX11_restore_35 : decode cX11_restore 35 = .ok (.invokevirtual 141, 3) := by decide +kernel
theorem dX11_restore_38 : decode cX11_restore 38 = .ok (.aload_n 0, 1) := by decide +kernel
theorem dX11_restore_39 : decode cX11_restore 39 = .ok (.getfield 91, 3) := by decide +kernel
theorem dX11_restore_42 : decode cX11_restore 42 = .ok (.getfield 368, 3) := by decide +kernel
theorem dX11_restore_45 : decode cX11_restore 45 = .ok (.ireturn, 1) := by decide +kernel
theorem dX11_status_0 : decode cX11_status 0 = .ok (.iload_n 1, 1) := by decide +kernel
theorem dX11_status_1 : decode cX11_status 1 = .ok (.ifCond .lt 12, 3) := by decide +kernel
theorem dX11_status_4 : decode cX11_status 4 = .ok (.iload_n 1, 1) := by decide +kernel
theorem dX11_status_5 : decode cX11_status 5 = .ok (.aload_n 0, 1) := by decide +kernel
theorem dX11_status_6 : decode cX11_status 6 = .ok (.getfield 101, 3) := by decide +kernel
theorem dX11_status_9 : decode cX11_status 9 = .ok (.arraylength, 1) := by decide +kernel
theorem dX11_status_10 : decode cX11_status 10 = .ok (.if_icmp .lt 7, 3) := by decide +kernel
theorem dX11_status_13 : decode cX11_status 13 = .ok (.iconst (-1), 1) := by decide +kernel
theorem dX11_status_14 : decode cX11_status 14 = .ok (.goto 9, 3) := by decide +kernel
theorem dX11_status_17 : decode cX11_status 17 = .ok (.aload_n 0, 1) := by decide +kernel
theorem dX11_status_18 : decode cX11_status 18 = .ok (.getfield 101, 3) := by decide +kernel
theorem dX11_status_21 : decode cX11_status 21 = .ok (.iload_n 1, 1) := by decide +kernel
theorem dX11_status_22 : decode cX11_status 22 = .ok (.iaload, 1) := by decide +kernel
theorem dX11_status_23 : decode cX11_status 23 = .ok (.ireturn, 1) := by decide +kernel
theorem dX11_count_0 : decode cX11_count 0 = .ok (.iload_n 1, 1) := by decide +kernel
theorem dX11_count_1 : decode cX11_count 1 = .ok (.tableswitch 48 0 2 #[27, 35, 40], 27) := by decide +kernel
theorem dX11_count_28 : decode cX11_count 28 = .ok (.aload_n 0, 1) := by decide +kernel
theorem dX11_count_29 : decode cX11_count 29 = .ok (.getfield 91, 3) := by decide +kernel
theorem dX11_count_32 : decode cX11_count 32 = .ok (.getfield 368, 3) := by decide +kernel
theorem dX11_count_35 : decode cX11_count 35 = .ok (.ireturn, 1) := by decide +kernel
theorem dX11_count_36 : decode cX11_count 36 = .ok (.aload_n 0, 1) := by decide +kernel
theorem dX11_count_37 : decode cX11_count 37 = .ok (.getfield 108, 3) := by decide +kernel
theorem dX11_count_40 : decode cX11_count 40 = .ok (.ireturn, 1) := by decide +kernel
theorem dX11_count_41 : decode cX11_count 41 = .ok (.aload_n 0, 1) := by decide +kernel
theorem dX11_count_42 : decode cX11_count 42 = .ok (.getfield 91, 3) := by decide +kernel
theorem dX11_count_45 : decode cX11_count 45 = .ok (.getfield 360, 3) := by decide +kernel
theorem dX11_count_48 : decode cX11_count 48 = .ok (.ireturn, 1) := by decide +kernel
theorem dX11_count_49 : decode cX11_count 49 = .ok (.iconst (-1), 1) := by decide +kernel
theorem dX11_count_50 : decode cX11_count 50 = .ok (.ireturn, 1) := by decide +kernel
theorem dX11_putBytes_0 : decode cX11_putBytes 0 = .ok (.bipush 24, 2) := by decide +kernel
theorem dX11_putBytes_2 : decode cX11_putBytes 2 = .ok (.istore_n 2, 1) := by decide +kernel
theorem dX11_putBytes_3 : decode cX11_putBytes 3 = .ok (.iload_n 2, 1) := by decide +kernel
theorem dX11_putBytes_4 : decode cX11_putBytes 4 = .ok (.ifCond .lt 35, 3) := by decide +kernel
theorem dX11_putBytes_7 : decode cX11_putBytes 7 = .ok (.aload_n 0, 1) := by decide +kernel
theorem dX11_putBytes_8 : decode cX11_putBytes 8 = .ok (.getfield 9, 3) := by decide +kernel
theorem dX11_putBytes_11 : decode cX11_putBytes 11 = .ok (.aload_n 0, 1) := by decide +kernel
theorem dX11_putBytes_12 : decode cX11_putBytes 12 = .ok (.getfield 108, 3) := by decide +kernel
theorem dX11_putBytes_15 : decode cX11_putBytes 15 = .ok (.iload_n 1, 1) := by decide +kernel
theorem dX11_putBytes_16 : decode cX11_putBytes 16 = .ok (.iload_n 2, 1) := by decide +kernel
theorem dX11_putBytes_17 : decode cX11_putBytes 17 = .ok (.iushr, 1) := by decide +kernel
theorem dX11_putBytes_18 : decode cX11_putBytes 18 = .ok (.sipush 255, 3) := by decide +kernel
theorem dX11_putBytes_21 : decode cX11_putBytes 21 = .ok (.iand, 1) := by decide +kernel
theorem dX11_putBytes_22 : decode cX11_putBytes 22 = .ok (.iastore, 1) := by decide +kernel
theorem dX11_putBytes_23 : decode cX11_putBytes 23 = .ok (.aload_n 0, 1) := by decide +kernel
theorem dX11_putBytes_24 : decode cX11_putBytes 24 = .ok (.dup, 1) := by decide +kernel
theorem dX11_putBytes_25 : decode cX11_putBytes 25 = .ok (.getfield 108, 3) := by decide +kernel
theorem dX11_putBytes_28 : decode cX11_putBytes 28 = .ok (.iconst 1, 1) := by decide +kernel
theorem dX11_putBytes_29 : decode cX11_putBytes 29 = .ok (.iadd, 1) := by decide +kernel
theorem dX11_putBytes_30 : decode cX11_putBytes 30 = .ok (.putfield 108, 3) := by decide +kernel
theorem dX11_putBytes_33 : decode cX11_putBytes 33 = .ok (.iinc 2 (-8), 3) := by decide +kernel
theorem dX11_putBytes_36 : decode cX11_putBytes 36 = .ok (.goto (-33), 3) := by decide +kernel
theorem dX11_putBytes_39 : decode cX11_putBytes 39 = .ok (.return_, 1) := by decide +kernel
theorem dX11_startText_0 : decode cX11_startText 0 = .ok (.aload_n 0, 1) := by decide +kernel
theorem dX11_startText_1 : decode cX11_startText 1 = .ok (.getfield 18, 3) := by decide +kernel
theorem dX11_startText_4 : decode cX11_startText 4 = .ok (.iload_n 1, 1) := by decide +kernel
theorem dX11_startText_5 : decode cX11_startText 5 = .ok (.invokevirtual 382, 3) := by decide +kernel
theorem dX11_startText_8 : decode cX11_startText 8 = .ok (.aload_n 0, 1) := by decide +kernel
theorem dX11_startText_9 : decode cX11_startText 9 = .ok (.iconst 0, 1) := by decide +kernel
theorem dX11_startText_10 : decode cX11_startText 10 = .ok (.putfield 108, 3) := by decide +kernel
theorem dX11_startText_13 : decode cX11_startText 13 = .ok (.return_, 1) := by decide +kernel
theorem dX11_forgetDays_0 : decode cX11_forgetDays 0 = .ok (.aload_n 0, 1) := by decide +kernel
theorem dX11_forgetDays_1 : decode cX11_forgetDays 1 = .ok (.getfield 60, 3) := by decide +kernel
theorem dX11_forgetDays_4 : decode cX11_forgetDays 4 = .ok (.invokevirtual 351, 3) := by decide +kernel
theorem dX11_forgetDays_7 : decode cX11_forgetDays 7 = .ok (.aload_n 0, 1) := by decide +kernel
theorem dX11_forgetDays_8 : decode cX11_forgetDays 8 = .ok (.iconst 0, 1) := by decide +kernel
theorem dX11_forgetDays_9 : decode cX11_forgetDays 9 = .ok (.putfield 211, 3) := by decide +kernel
theorem dX11_forgetDays_12 : decode cX11_forgetDays 12 = .ok (.aload_n 0, 1) := by decide +kernel
theorem dX11_forgetDays_13 : decode cX11_forgetDays 13 = .ok (.getfield 278, 3) := by decide +kernel
theorem dX11_forgetDays_16 : decode cX11_forgetDays 16 = .ok (.ifnull 10, 3) := by decide +kernel
theorem dX11_forgetDays_19 : decode cX11_forgetDays 19 = .ok (.aload_n 0, 1) := by decide +kernel
theorem dX11_forgetDays_20 : decode cX11_forgetDays 20 = .ok (.getfield 278, 3) := by decide +kernel
theorem dX11_forgetDays_23 : decode cX11_forgetDays 23 = .ok (.invokevirtual 385, 3) := by decide +kernel
theorem dX11_forgetDays_26 : decode cX11_forgetDays 26 = .ok (.return_, 1) := by decide +kernel
theorem dX11_look_0 : decode cX11_look 0 = .ok (.aload_n 0, 1) := by decide +kernel
theorem dX11_look_1 : decode cX11_look 1 = .ok (.getfield 211, 3) := by decide +kernel
theorem dX11_look_4 : decode cX11_look 4 = .ok (.ifCond .ne 52, 3) := by decide +kernel
theorem dX11_look_7 : decode cX11_look 7 = .ok (.aload_n 0, 1) := by decide +kernel
theorem dX11_look_8 : decode cX11_look 8 = .ok (.getfield 60, 3) := by decide +kernel
theorem dX11_look_11 : decode cX11_look 11 = .ok (.aload_n 0, 1) := by decide +kernel
theorem dX11_look_12 : decode cX11_look 12 = .ok (.getfield 138, 3) := by decide +kernel
theorem dX11_look_15 : decode cX11_look 15 = .ok (.invokevirtual 262, 3) := by decide +kernel
theorem dX11_look_18 : decode cX11_look 18 = .ok (.aload_n 0, 1) := by decide +kernel
theorem dX11_look_19 : decode cX11_look 19 = .ok (.getfield 60, 3) := by decide +kernel
theorem dX11_look_22 : decode cX11_look 22 = .ok (.aload_n 0, 1) := by decide +kernel
theorem dX11_look_23 : decode cX11_look 23 = .ok (.getfield 138, 3) := by decide +kernel
theorem dX11_look_26 : decode cX11_look 26 = .ok (.aload_n 0, 1) := by decide +kernel
theorem dX11_look_27 : decode cX11_look 27 = .ok (.getfield 95, 3) := by decide +kernel
theorem dX11_look_30 : decode cX11_look 30 = .ok (.invokevirtual 322, 3) := by decide +kernel
theorem dX11_look_33 : decode cX11_look 33 = .ok (.aload_n 0, 1) := by decide +kernel
theorem dX11_look_34 : decode cX11_look 34 = .ok (.getfield 72, 3) := by decide +kernel
theorem dX11_look_37 : decode cX11_look 37 = .ok (.aload_n 0, 1) := by decide +kernel
theorem dX11_look_38 : decode cX11_look 38 = .ok (.getfield 95, 3) := by decide +kernel
theorem dX11_look_41 : decode cX11_look 41 = .ok (.aload_n 0, 1) := by decide +kernel
theorem dX11_look_42 : decode cX11_look 42 = .ok (.getfield 25, 3) := by decide +kernel
theorem dX11_look_45 : decode cX11_look 45 = .ok (.getfield 178, 3) := by decide +kernel
theorem dX11_look_48 : decode cX11_look 48 = .ok (.invokevirtual 303, 3) := by decide +kernel
theorem dX11_look_51 : decode cX11_look 51 = .ok (.aload_n 0, 1) := by decide +kernel
theorem dX11_look_52 : decode cX11_look 52 = .ok (.iconst 1, 1) := by decide +kernel
theorem dX11_look_53 : decode cX11_look 53 = .ok (.putfield 211, 3) := by decide +kernel
theorem dX11_look_56 : decode cX11_look 56 = .ok (.return_, 1) := by decide +kernel
theorem dX11_clearTally_0 : decode cX11_clearTally 0 = .ok (.iconst 0, 1) := by decide +kernel
theorem dX11_clearTally_1 : decode cX11_clearTally 1 = .ok (.istore_n 1, 1) := by decide +kernel
theorem dX11_clearTally_2 : decode cX11_clearTally 2 = .ok (.iload_n 1, 1) := by decide +kernel
theorem dX11_clearTally_3 : decode cX11_clearTally 3 = .ok (.bipush 8, 2) := by decide +kernel
theorem dX11_clearTally_5 : decode cX11_clearTally 5 = .ok (.if_icmp .ge 16, 3) := by decide +kernel
theorem dX11_clearTally_8 : decode cX11_clearTally 8 = .ok (.aload_n 0, 1) := by decide +kernel
theorem dX11_clearTally_9 : decode cX11_clearTally 9 = .ok (.getfield 98, 3) := by decide +kernel
theorem dX11_clearTally_12 : decode cX11_clearTally 12 = .ok (.iload_n 1, 1) := by decide +kernel
theorem dX11_clearTally_13 : decode cX11_clearTally 13 = .ok (.iconst 0, 1) := by decide +kernel
theorem dX11_clearTally_14 : decode cX11_clearTally 14 = .ok (.iastore, 1) := by decide +kernel
theorem dX11_clearTally_15 : decode cX11_clearTally 15 = .ok (.iinc 1 1, 3) := by decide +kernel
theorem dX11_clearTally_18 : decode cX11_clearTally 18 = .ok (.goto (-16), 3) := by decide +kernel
theorem dX11_clearTally_21 : decode cX11_clearTally 21 = .ok (.return_, 1) := by decide +kernel
theorem dX11_tallySeated_0 : decode cX11_tallySeated 0 = .ok (.iconst 0, 1) := by decide +kernel
theorem dX11_tallySeated_1 : decode cX11_tallySeated 1 = .ok (.istore_n 2, 1) := by decide +kernel
theorem dX11_tallySeated_2 : decode cX11_tallySeated 2 = .ok (.iload_n 2, 1) := by decide +kernel
theorem dX11_tallySeated_3 : decode cX11_tallySeated 3 = .ok (.bipush 8, 2) := by decide +kernel
theorem dX11_tallySeated_5 : decode cX11_tallySeated 5 = .ok (.if_icmp .ge 23, 3) := by decide +kernel
theorem dX11_tallySeated_8 : decode cX11_tallySeated 8 = .ok (.aload_n 0, 1) := by decide +kernel
theorem dX11_tallySeated_9 : decode cX11_tallySeated 9 = .ok (.getfield 98, 3) := by decide +kernel
theorem dX11_tallySeated_12 : decode cX11_tallySeated 12 = .ok (.iload_n 2, 1) := by decide +kernel
theorem dX11_tallySeated_13 : decode cX11_tallySeated 13 = .ok (.dup2, 1) := by decide +kernel
theorem dX11_tallySeated_14 : decode cX11_tallySeated 14 = .ok (.iaload, 1) := by decide +kernel
theorem dX11_tallySeated_15 : decode cX11_tallySeated 15 = .ok (.iload_n 1, 1) := by decide +kernel
theorem dX11_tallySeated_16 : decode cX11_tallySeated 16 = .ok (.iload_n 2, 1) := by decide +kernel
theorem dX11_tallySeated_17 : decode cX11_tallySeated 17 = .ok (.ishr, 1) := by decide +kernel
theorem dX11_tallySeated_18 : decode cX11_tallySeated 18 = .ok (.iconst 1, 1) := by decide +kernel
theorem dX11_tallySeated_19 : decode cX11_tallySeated 19 = .ok (.iand, 1) := by decide +kernel
theorem dX11_tallySeated_20 : decode cX11_tallySeated 20 = .ok (.iadd, 1) := by decide +kernel
theorem dX11_tallySeated_21 : decode cX11_tallySeated 21 = .ok (.iastore, 1) := by decide +kernel
theorem dX11_tallySeated_22 : decode cX11_tallySeated 22 = .ok (.iinc 2 1, 3) := by decide +kernel
theorem dX11_tallySeated_25 : decode cX11_tallySeated 25 = .ok (.goto (-23), 3) := by decide +kernel
theorem dX11_tallySeated_28 : decode cX11_tallySeated 28 = .ok (.return_, 1) := by decide +kernel
theorem dX11_firstOfMost_0 : decode cX11_firstOfMost 0 = .ok (.iconst (-1), 1) := by decide +kernel
theorem dX11_firstOfMost_1 : decode cX11_firstOfMost 1 = .ok (.istore_n 1, 1) := by decide +kernel
theorem dX11_firstOfMost_2 : decode cX11_firstOfMost 2 = .ok (.iconst 0, 1) := by decide +kernel
theorem dX11_firstOfMost_3 : decode cX11_firstOfMost 3 = .ok (.istore_n 2, 1) := by decide +kernel
theorem dX11_firstOfMost_4 : decode cX11_firstOfMost 4 = .ok (.iload_n 2, 1) := by decide +kernel
theorem dX11_firstOfMost_5 : decode cX11_firstOfMost 5 = .ok (.aload_n 0, 1) := by decide +kernel
theorem dX11_firstOfMost_6 : decode cX11_firstOfMost 6 = .ok (.getfield 25, 3) := by decide +kernel
theorem dX11_firstOfMost_9 : decode cX11_firstOfMost 9 = .ok (.getfield 144, 3) := by decide +kernel
theorem dX11_firstOfMost_12 : decode cX11_firstOfMost 12 = .ok (.if_icmp .ge 31, 3) := by decide +kernel
theorem dX11_firstOfMost_15 : decode cX11_firstOfMost 15 = .ok (.iload_n 1, 1) := by decide +kernel
theorem dX11_firstOfMost_16 : decode cX11_firstOfMost 16 = .ok (.iconst (-1), 1) := by decide +kernel
theorem dX11_firstOfMost_17 : decode cX11_firstOfMost 17 = .ok (.if_icmp .eq 18, 3) := by decide +kernel
theorem dX11_firstOfMost_20 : decode cX11_firstOfMost 20 = .ok (.aload_n 0, 1) := by decide +kernel
theorem dX11_firstOfMost_21 : decode cX11_firstOfMost 21 = .ok (.getfield 98, 3) := by decide +kernel
theorem dX11_firstOfMost_24 : decode cX11_firstOfMost 24 = .ok (.iload_n 2, 1) := by decide +kernel
theorem dX11_firstOfMost_25 : decode cX11_firstOfMost 25 = .ok (.iaload, 1) := by decide +kernel
theorem dX11_firstOfMost_26 : decode cX11_firstOfMost 26 = .ok (.aload_n 0, 1) := by decide +kernel
theorem dX11_firstOfMost_27 : decode cX11_firstOfMost 27 = .ok (.getfield 98, 3) := by decide +kernel
theorem dX11_firstOfMost_30 : decode cX11_firstOfMost 30 = .ok (.iload_n 1, 1) := by decide +kernel
theorem dX11_firstOfMost_31 : decode cX11_firstOfMost 31 = .ok (.iaload, 1) := by decide +kernel
theorem dX11_firstOfMost_32 : decode cX11_firstOfMost 32 = .ok (.if_icmp .le 5, 3) := by decide +kernel
theorem dX11_firstOfMost_35 : decode cX11_firstOfMost 35 = .ok (.iload_n 2, 1) := by decide +kernel
theorem dX11_firstOfMost_36 : decode cX11_firstOfMost 36 = .ok (.istore_n 1, 1) := by decide +kernel
theorem dX11_firstOfMost_37 : decode cX11_firstOfMost 37 = .ok (.iinc 2 1, 3) := by decide +kernel
theorem dX11_firstOfMost_40 : decode cX11_firstOfMost 40 = .ok (.goto (-36), 3) := by decide +kernel
theorem dX11_firstOfMost_43 : decode cX11_firstOfMost 43 = .ok (.iload_n 1, 1) := by decide +kernel
theorem dX11_firstOfMost_44 : decode cX11_firstOfMost 44 = .ok (.ireturn, 1) := by decide +kernel
theorem dX11_needGuest_0 : decode cX11_needGuest 0 = .ok (.iload_n 1, 1) := by decide +kernel
theorem dX11_needGuest_1 : decode cX11_needGuest 1 = .ok (.ifCond .lt 14, 3) := by decide +kernel
theorem dX11_needGuest_4 : decode cX11_needGuest 4 = .ok (.iload_n 1, 1) := by decide +kernel
theorem dX11_needGuest_5 : decode cX11_needGuest 5 = .ok (.aload_n 0, 1) := by decide +kernel
theorem dX11_needGuest_6 : decode cX11_needGuest 6 = .ok (.getfield 25, 3) := by decide +kernel
theorem dX11_needGuest_9 : decode cX11_needGuest 9 = .ok (.getfield 144, 3) := by decide +kernel
theorem dX11_needGuest_12 : decode cX11_needGuest 12 = .ok (.if_icmp .lt 24, 3) := by decide +kernel
theorem dX11_needGuest_15 : decode cX11_needGuest 15 = .ok (.aload_n 0, 1) := by decide +kernel
theorem dX11_needGuest_16 : decode cX11_needGuest 16 = .ok (.getfield 101, 3) := by decide +kernel
theorem dX11_needGuest_19 : decode cX11_needGuest 19 = .ok (.iconst 0, 1) := by decide +kernel
theorem dX11_needGuest_20 : decode cX11_needGuest 20 = .ok (.dup2, 1) := by decide +kernel
theorem dX11_needGuest_21 : decode cX11_needGuest 21 = .ok (.iaload, 1) := by decide +kernel
theorem dX11_needGuest_22 : decode cX11_needGuest 22 = .ok (.iconst 1, 1) := by decide +kernel
theorem dX11_needGuest_23 : decode cX11_needGuest 23 = .ok (.iadd, 1) := by decide +kernel
theorem dX11_needGuest_24 : decode cX11_needGuest 24 = .ok (.iastore, 1) := by decide +kernel
theorem dX11_needGuest_25 : decode cX11_needGuest 25 = .ok (.new 386, 3) := by decide +kernel
theorem dX11_needGuest_28 : decode cX11_needGuest 28 = .ok (.dup, 1) := by decide +kernel
theorem dX11_needGuest_29 : decode cX11_needGuest 29 = .ok (.ldc_w 388, 3) := by decide +kernel
theorem dX11_needGuest_32 : decode cX11_needGuest 32 = .ok (.invokespecial 390, 3) := by decide +kernel
theorem dX11_needGuest_35 : decode cX11_needGuest 35 = .ok (.athrow, 1) := by decide +kernel
theorem dX11_needGuest_36 : decode cX11_needGuest 36 = .ok (.return_, 1) := by decide +kernel
theorem dX11_needChair_0 : decode cX11_needChair 0 = .ok (.iload_n 1, 1) := by decide +kernel
theorem dX11_needChair_1 : decode cX11_needChair 1 = .ok (.ifCond .lt 14, 3) := by decide +kernel
theorem dX11_needChair_4 : decode cX11_needChair 4 = .ok (.iload_n 1, 1) := by decide +kernel
theorem dX11_needChair_5 : decode cX11_needChair 5 = .ok (.aload_n 0, 1) := by decide +kernel
theorem dX11_needChair_6 : decode cX11_needChair 6 = .ok (.getfield 25, 3) := by decide +kernel
theorem dX11_needChair_9 : decode cX11_needChair 9 = .ok (.getfield 172, 3) := by decide +kernel
theorem dX11_needChair_12 : decode cX11_needChair 12 = .ok (.if_icmp .lt 24, 3) := by decide +kernel
theorem dX11_needChair_15 : decode cX11_needChair 15 = .ok (.aload_n 0, 1) := by decide +kernel
theorem dX11_needChair_16 : decode cX11_needChair 16 = .ok (.getfield 101, 3) := by decide +kernel
theorem dX11_needChair_19 : decode cX11_needChair 19 = .ok (.iconst 0, 1) := by decide +kernel
theorem dX11_needChair_20 : decode cX11_needChair 20 = .ok (.dup2, 1) := by decide +kernel
theorem dX11_needChair_21 : decode cX11_needChair 21 = .ok (.iaload, 1) := by decide +kernel
theorem dX11_needChair_22 : decode cX11_needChair 22 = .ok (.iconst 1, 1) := by decide +kernel
theorem dX11_needChair_23 : decode cX11_needChair 23 = .ok (.iadd, 1) := by decide +kernel
theorem dX11_needChair_24 : decode cX11_needChair 24 = .ok (.iastore, 1) := by decide +kernel
theorem dX11_needChair_25 : decode cX11_needChair 25 = .ok (.new 386, 3) := by decide +kernel
theorem dX11_needChair_28 : decode cX11_needChair 28 = .ok (.dup, 1) := by decide +kernel
theorem dX11_needChair_29 : decode cX11_needChair 29 = .ok (.ldc_w 393, 3) := by decide +kernel
theorem dX11_needChair_32 : decode cX11_needChair 32 = .ok (.invokespecial 390, 3) := by decide +kernel
theorem dX11_needChair_35 : decode cX11_needChair 35 = .ok (.athrow, 1) := by decide +kernel
theorem dX11_needChair_36 : decode cX11_needChair 36 = .ok (.return_, 1) := by decide +kernel
theorem dX11_needWithin_0 : decode cX11_needWithin 0 = .ok (.aload_n 0, 1) := by decide +kernel
theorem dX11_needWithin_1 : decode cX11_needWithin 1 = .ok (.iload_n 1, 1) := by decide +kernel
theorem dX11_needWithin_2 : decode cX11_needWithin 2 = .ok (.iload_n 2, 1) := by decide +kernel
theorem dX11_needWithin_3 : decode cX11_needWithin 3 = .ok (.if_icmp .lt 12, 3) := by decide +kernel
theorem dX11_needWithin_6 : decode cX11_needWithin 6 = .ok (.iload_n 1, 1) := by decide +kernel
theorem dX11_needWithin_7 : decode cX11_needWithin 7 = .ok (.iload_n 3, 1) := by decide +kernel
theorem dX11_needWithin_8 : decode cX11_needWithin 8 = .ok (.if_icmp .gt 7, 3) := by decide +kernel
theorem dX11_needWithin_11 : decode cX11_needWithin 11 = .ok (.iconst 1, 1) := by decide +kernel
theorem dX11_needWithin_12 : decode cX11_needWithin 12 = .ok (.goto 4, 3) := by decide +kernel
theorem dX11_needWithin_15 : decode cX11_needWithin 15 = .ok (.iconst 0, 1) := by decide +kernel
theorem dX11_needWithin_16 : decode cX11_needWithin 16 = .ok (.invokevirtual 296, 3) := by decide +kernel
theorem dX11_needWithin_19 : decode cX11_needWithin 19 = .ok (.return_, 1) := by decide +kernel
theorem dX11_needArgument_0 : decode cX11_needArgument 0 = .ok (.iload_n 1, 1) := by decide +kernel
theorem dX11_needArgument_1 : decode cX11_needArgument 1 = .ok (.ifCond .ne 24, 3) := by decide +kernel
theorem dX11_needArgument_4 : decode cX11_needArgument 4 = .ok (.aload_n 0, 1) := by decide +kernel
theorem dX11_needArgument_5 : decode cX11_needArgument 5 = .ok (.getfield 101, 3) := by decide +kernel
theorem dX11_needArgument_8 : decode cX11_needArgument 8 = .ok (.iconst 1, 1) := by decide +kernel
theorem dX11_needArgument_9 : decode cX11_needArgument 9 = .ok (.dup2, 1) := by decide +kernel
theorem dX11_needArgument_10 : decode cX11_needArgument 10 = .ok (.iaload, 1) := by decide +kernel
theorem dX11_needArgument_11 : decode cX11_needArgument 11 = .ok (.iconst 1, 1) := by decide +kernel
theorem dX11_needArgument_12 : decode cX11_needArgument 12 = .ok (.iadd, 1) := by decide +kernel
theorem dX11_needArgument_13 : decode cX11_needArgument 13 = .ok (.iastore, 1) := by decide +kernel
theorem dX11_needArgument_14 : decode cX11_needArgument 14 = .ok (.new 395, 3) := by decide +kernel
theorem dX11_needArgument_17 : decode cX11_needArgument 17 = .ok (.dup, 1) := by decide +kernel
theorem dX11_needArgument_18 : decode cX11_needArgument 18 = .ok (.ldc_w 397, 3) := by decide +kernel
theorem dX11_needArgument_21 : decode cX11_needArgument 21 = .ok (.invokespecial 399, 3) := by decide +kernel
theorem dX11_needArgument_24 : decode cX11_needArgument 24 = .ok (.athrow, 1) := by decide +kernel
theorem dX11_needArgument_25 : decode cX11_needArgument 25 = .ok (.return_, 1) := by decide +kernel
theorem dX11_needFewGuests_0 : decode cX11_needFewGuests 0 = .ok (.aload_n 0, 1) := by decide +kernel
theorem dX11_needFewGuests_1 : decode cX11_needFewGuests 1 = .ok (.getfield 25, 3) := by decide +kernel
theorem dX11_needFewGuests_4 : decode cX11_needFewGuests 4 = .ok (.getfield 144, 3) := by decide +kernel
theorem dX11_needFewGuests_7 : decode cX11_needFewGuests 7 = .ok (.iconst 4, 1) := by decide +kernel
theorem dX11_needFewGuests_8 : decode cX11_needFewGuests 8 = .ok (.if_icmp .le 24, 3) := by decide +kernel
theorem dX11_needFewGuests_11 : decode cX11_needFewGuests 11 = .ok (.aload_n 0, 1) := by decide +kernel
theorem dX11_needFewGuests_12 : decode cX11_needFewGuests 12 = .ok (.getfield 101, 3) := by decide +kernel
theorem dX11_needFewGuests_15 : decode cX11_needFewGuests 15 = .ok (.iconst 2, 1) := by decide +kernel
theorem dX11_needFewGuests_16 : decode cX11_needFewGuests 16 = .ok (.dup2, 1) := by decide +kernel
theorem dX11_needFewGuests_17 : decode cX11_needFewGuests 17 = .ok (.iaload, 1) := by decide +kernel
theorem dX11_needFewGuests_18 : decode cX11_needFewGuests 18 = .ok (.iconst 1, 1) := by decide +kernel
theorem dX11_needFewGuests_19 : decode cX11_needFewGuests 19 = .ok (.iadd, 1) := by decide +kernel
theorem dX11_needFewGuests_20 : decode cX11_needFewGuests 20 = .ok (.iastore, 1) := by decide +kernel
theorem dX11_needFewGuests_21 : decode cX11_needFewGuests 21 = .ok (.new 400, 3) := by decide +kernel
theorem dX11_needFewGuests_24 : decode cX11_needFewGuests 24 = .ok (.dup, 1) := by decide +kernel
theorem dX11_needFewGuests_25 : decode cX11_needFewGuests 25 = .ok (.ldc_w 402, 3) := by decide +kernel
theorem dX11_needFewGuests_28 : decode cX11_needFewGuests 28 = .ok (.invokespecial 404, 3) := by decide +kernel
theorem dX11_needFewGuests_31 : decode cX11_needFewGuests 31 = .ok (.athrow, 1) := by decide +kernel
theorem dX11_needFewGuests_32 : decode cX11_needFewGuests 32 = .ok (.return_, 1) := by decide +kernel
theorem dX12_init_0 : decode cX12_init 0 = .ok (.aload_n 0, 1) := by decide +kernel
theorem dX12_init_1 : decode cX12_init 1 = .ok (.invokespecial 1, 3) := by decide +kernel
theorem dX12_init_4 : decode cX12_init 4 = .ok (.aload_n 0, 1) := by decide +kernel
theorem dX12_init_5 : decode cX12_init 5 = .ok (.iconst (-1), 1) := by decide +kernel
theorem dX12_init_6 : decode cX12_init 6 = .ok (.putfield 9, 3) := by decide +kernel
theorem dX12_init_9 : decode cX12_init 9 = .ok (.aload_n 0, 1) := by decide +kernel
theorem dX12_init_10 : decode cX12_init 10 = .ok (.sipush 600, 3) := by decide +kernel
theorem dX12_init_13 : decode cX12_init 13 = .ok (.newarray .int, 2) := by decide +kernel
theorem dX12_init_15 : decode cX12_init 15 = .ok (.putfield 13, 3) := by decide +kernel
theorem dX12_init_18 : decode cX12_init 18 = .ok (.aload_n 0, 1) := by decide +kernel
theorem dX12_init_19 : decode cX12_init 19 = .ok (.iconst 3, 1) := by decide +kernel
theorem dX12_init_20 : decode cX12_init 20 = .ok (.newarray .int, 2) := by decide +kernel
theorem dX12_init_22 : decode cX12_init 22 = .ok (.putfield 17, 3) := by decide +kernel
theorem dX12_init_25 : decode cX12_init 25 = .ok (.aload_n 0, 1) := by decide +kernel
theorem dX12_init_26 : decode cX12_init 26 = .ok (.iconst 5, 1) := by decide +kernel
theorem dX12_init_27 : decode cX12_init 27 = .ok (.newarray .int, 2) := by decide +kernel
theorem dX12_init_29 : decode cX12_init 29 = .ok (.putfield 20, 3) := by decide +kernel
theorem dX12_init_32 : decode cX12_init 32 = .ok (.aload_n 0, 1) := by decide +kernel
theorem dX12_init_33 : decode cX12_init 33 = .ok (.iconst 5, 1) := by decide +kernel
theorem dX12_init_34 : decode cX12_init 34 = .ok (.newarray .int, 2) := by decide +kernel
theorem dX12_init_36 : decode cX12_init 36 = .ok (.putfield 23, 3) := by decide +kernel
theorem dX12_init_39 : decode cX12_init 39 = .ok (.aload_n 0, 1) := by decide +kernel
theorem dX12_init_40 : decode cX12_init 40 = .ok (.bipush 8, 2) := by decide +kernel
theorem dX12_init_42 : decode cX12_init 42 = .ok (.iconst 2, 1) := by decide +kernel
theorem dX12_init_43 : decode cX12_init 43 = .ok (.multianewarray 26 2, 4) := by decide +kernel
theorem dX12_init_47 : decode cX12_init 47 = .ok (.putfield 28, 3) := by decide +kernel
theorem dX12_init_50 : decode cX12_init 50 = .ok (.aload_n 0, 1) := by decide +kernel
theorem dX12_init_51 : decode cX12_init 51 = .ok (.bipush 9, 2) := by decide +kernel
theorem dX12_init_53 : decode cX12_init 53 = .ok (.iconst 2, 1) := by decide +kernel
theorem dX12_init_54 : decode cX12_init 54 = .ok (.multianewarray 26 2, 4) := by decide +kernel
theorem dX12_init_58 : decode cX12_init 58 = .ok (.putfield 31, 3) := by decide +kernel
theorem dX12_init_61 : decode cX12_init 61 = .ok (.aload_n 0, 1) := by decide +kernel
theorem dX12_init_62 : decode cX12_init 62 = .ok (.bipush 8, 2) := by decide +kernel
theorem dX12_init_64 : decode cX12_init 64 = .ok (.iconst 4, 1) := by decide +kernel
theorem dX12_init_65 : decode cX12_init 65 = .ok (.multianewarray 26 2, 4) := by decide +kernel
theorem dX12_init_69 : decode cX12_init 69 = .ok (.putfield 34, 3) := by decide +kernel
theorem dX12_init_72 : decode cX12_init 72 = .ok (.aload_n 0, 1) := by decide +kernel
theorem dX12_init_73 : decode cX12_init 73 = .ok (.bipush 8, 2) := by decide +kernel
theorem dX12_init_75 : decode cX12_init 75 = .ok (.iconst 4, 1) := by decide +kernel
theorem dX12_init_76 : decode cX12_init 76 = .ok (.multianewarray 26 2, 4) := by decide +kernel
theorem dX12_init_80 : decode cX12_init 80 = .ok (.putfield 37, 3) := by decide +kernel
theorem dX12_init_83 : decode cX12_init 83 = .ok (.aload_n 0, 1) := by decide +kernel
theorem dX12_init_84 : decode cX12_init 84 = .ok (.bipush 8, 2) := by decide +kernel
theorem dX12_init_86 : decode cX12_init 86 = .ok (.newarray .int, 2) := by decide +kernel
theorem dX12_init_88 : decode cX12_init 88 = .ok (.putfield 40, 3) := by decide +kernel
theorem dX12_init_91 : decode cX12_init 91 = .ok (.aload_n 0, 1) := by decide +kernel
theorem dX12_init_92 : decode cX12_init 92 = .ok (.sipush 160, 3) := by decide +kernel
theorem dX12_init_95 : decode cX12_init 95 = .ok (.newarray .int, 2) := by decide +kernel
theorem dX12_init_97 : decode cX12_init 97 = .ok (.putfield 43, 3) := by decide +kernel
theorem dX12_init_100 : decode cX12_init 100 = .ok (.aload_n 0, 1) := by decide +kernel
theorem dX12_init_101 : decode cX12_init 101 = .ok (.bipush 11, 2) := by decide +kernel
theorem dX12_init_103 : decode cX12_init 103 = .ok (.newarray .int, 2) := by decide +kernel
theorem dX12_init_105 : decode cX12_init 105 = .ok (.putfield 46, 3) := by decide +kernel
theorem dX12_init_108 : decode cX12_init 108 = .ok (.aload_n 0, 1) := by decide +kernel
theorem dX12_init_109 : decode cX12_init 109 = .ok (.sipush 320, 3) := by decide +kernel
theorem dX12_init_112 : decode cX12_init 112 = .ok (.newarray .int, 2) := by decide +kernel
theorem dX12_init_114 : decode cX12_init 114 = .ok (.putfield 49, 3) := by decide +kernel
theorem dX12_init_117 : decode cX12_init 117 = .ok (.aload_n 0, 1) := by decide +kernel
theorem dX12_init_118 : decode cX12_init 118 = .ok (.bipush 8, 2) := by decide +kernel
theorem dX12_init_120 : decode cX12_init 120 = .ok (.sipush 320, 3) := by decide +kernel
theorem dX12_init_123 : decode cX12_init 123 = .ok (.multianewarray 26 2, 4) := by decide +kernel
theorem dX12_init_127 : decode cX12_init 127 = .ok (.putfield 52, 3) := by decide +kernel
theorem dX12_init_130 : decode cX12_init 130 = .ok (.aload_n 0, 1) := by decide +kernel
theorem dX12_init_131 : decode cX12_init 131 = .ok (.bipush 12, 2) := by decide +kernel
theorem dX12_init_133 : decode cX12_init 133 = .ok (.iconst 3, 1) := by decide +kernel
theorem dX12_init_134 : decode cX12_init 134 = .ok (.multianewarray 26 2, 4) := by decide +kernel
theorem dX12_init_138 : decode cX12_init 138 = .ok (.putfield 55, 3) := by decide +kernel
theorem dX12_init_141 : decode cX12_init 141 = .ok (.aload_n 0, 1) := by decide +kernel
theorem dX12_init_142 : decode cX12_init 142 = .ok (.bipush 12, 2) := by decide +kernel
theorem dX12_init_144 : decode cX12_init 144 = .ok (.iconst 3, 1) := by decide +kernel
theorem dX12_init_145 : decode cX12_init 145 = .ok (.multianewarray 26 2, 4) := by decide +kernel
theorem dX12_init_149 : decode cX12_init 149 = .ok (.putfield 58, 3) := by decide +kernel
theorem dX12_init_152 : decode cX12_init 152 = .ok (.aload_n 0, 1) := by decide +kernel
theorem dX12_init_153 : decode cX12_init 153 = .ok (.bipush 20, 2) := by decide +kernel
theorem dX12_init_155 : decode cX12_init 155 = .ok (.bipush 11, 2) := by decide +kernel
theorem dX12_init_157 : decode cX12_init 157 = .ok (.multianewarray 26 2, 4) := by decide +kernel
theorem dX12_init_161 : decode cX12_init 161 = .ok (.putfield 61, 3) := by decide +kernel
theorem dX12_init_164 : decode cX12_init 164 = .ok (.aload_n 0, 1) := by decide +kernel
theorem dX12_init_165 : decode cX12_init 165 = .ok (.iconst 3, 1) := by decide +kernel
theorem dX12_init_166 : decode cX12_init 166 = .ok (.sipush 233, 3) := by decide +kernel
theorem dX12_init_169 : decode cX12_init 169 = .ok (.multianewarray 26 2, 4) := by decide +kernel
theorem dX12_init_173 : decode cX12_init 173 = .ok (.putfield 64, 3) := by decide +kernel
theorem dX12_init_176 : decode cX12_init 176 = .ok (.aload_n 0, 1) := by decide +kernel
theorem dX12_init_177 : decode cX12_init 177 = .ok (.bipush 8, 2) := by decide +kernel
theorem dX12_init_179 : decode cX12_init 179 = .ok (.newarray .boolean, 2) := by decide +kernel
theorem dX12_init_181 : decode cX12_init 181 = .ok (.putfield 67, 3) := by decide +kernel
theorem dX12_init_184 : decode cX12_init 184 = .ok (.aload_n 0, 1) := by decide +kernel
theorem dX12_init_185 : decode cX12_init 185 = .ok (.bipush 8, 2) := by decide +kernel
theorem dX12_init_187 : decode cX12_init 187 = .ok (.newarray .int, 2) := by decide +kernel
theorem dX12_init_189 : decode cX12_init 189 = .ok (.putfield 71, 3) := by decide +kernel
theorem dX12_init_192 : decode cX12_init 192 = .ok (.aload_n 0, 1) := by decide +kernel
theorem dX12_init_193 : decode cX12_init 193 = .ok (.bipush 8, 2) := by decide +kernel
theorem dX12_init_195 : decode cX12_init 195 = .ok (.newarray .int, 2) := by decide +kernel
theorem dX12_init_197 : decode cX12_init 197 = .ok (.putfield 74, 3) := by decide +kernel
theorem dX12_init_200 : decode cX12_init 200 = .ok (.aload_n 0, 1) := by decide +kernel
theorem dX12_init_201 : decode cX12_init 201 = .ok (.bipush 8, 2) := by decide +kernel
theorem dX12_init_203 : decode cX12_init 203 = .ok (.newarray .int, 2) := by decide +kernel
theorem dX12_init_205 : decode cX12_init 205 = .ok (.putfield 77, 3) := by decide +kernel
theorem dX12_init_208 : decode cX12_init 208 = .ok (.aload_n 0, 1) := by decide +kernel
theorem dX12_init_209 : decode cX12_init 209 = .ok (.bipush 8, 2) := by decide +kernel
theorem dX12_init_211 : decode cX12_init 211 = .ok (.newarray .int, 2) := by decide +kernel
theorem dX12_init_213 : decode cX12_init 213 = .ok (.putfield 80, 3) := by decide +kernel
theorem dX12_init_216 : decode cX12_init 216 = .ok (.aload_n 0, 1) := by decide +kernel
theorem dX12_init_217 : decode cX12_init 217 = .ok (.bipush 8, 2) := by decide +kernel
theorem dX12_init_219 : decode cX12_init 219 = .ok (.newarray .int, 2) := by decide +kernel
theorem dX12_init_221 : decode cX12_init 221 = .ok (.putfield 83, 3) := by decide +kernel
theorem dX12_init_224 : decode cX12_init 224 = .ok (.aload_n 0, 1) := by decide +kernel
theorem dX12_init_225 : decode cX12_init 225 = .ok (.bipush 8, 2) := by decide +kernel
theorem dX12_init_227 : decode cX12_init 227 = .ok (.newarray .int, 2) := by decide +kernel
theorem dX12_init_229 : decode cX12_init 229 = .ok (.putfield 86, 3) := by decide +kernel
theorem dX12_init_232 : decode cX12_init 232 = .ok (.aload_n 0, 1) := by decide +kernel
theorem dX12_init_233 : decode cX12_init 233 = .ok (.bipush 8, 2) := by decide +kernel
theorem dX12_init_235 : decode cX12_init 235 = .ok (.newarray .int, 2) := by decide +kernel
theorem dX12_init_237 : decode cX12_init 237 = .ok (.putfield 89, 3) := by decide +kernel
theorem dX12_init_240 : decode cX12_init 240 = .ok (.aload_n 0, 1) := by decide +kernel
theorem dX12_init_241 : decode cX12_init 241 = .ok (.bipush 8, 2) := by decide +kernel
theorem dX12_init_243 : decode cX12_init 243 = .ok (.newarray .int, 2) := by decide +kernel
theorem dX12_init_245 : decode cX12_init 245 = .ok (.putfield 92, 3) := by decide +kernel
theorem dX12_init_248 : decode cX12_init 248 = .ok (.aload_n 0, 1) := by decide +kernel
theorem dX12_init_249 : decode cX12_init 249 = .ok (.bipush 8, 2) := by decide +kernel
theorem dX12_init_251 : decode cX12_init 251 = .ok (.newarray .int, 2) := by decide +kernel
theorem dX12_init_253 : decode cX12_init 253 = .ok (.putfield 95, 3) := by decide +kernel
theorem dX12_init_256 : decode cX12_init 256 = .ok (.aload_n 0, 1) := by decide +kernel
theorem dX12_init_257 : decode cX12_init 257 = .ok (.bipush 8, 2) := by decide +kernel
theorem dX12_init_259 : decode cX12_init 259 = .ok (.newarray .int, 2) := by decide +kernel
theorem dX12_init_261 : decode cX12_init 261 = .ok (.putfield 98, 3) := by decide +kernel
theorem dX12_init_264 : decode cX12_init 264 = .ok (.aload_n 0, 1) := by decide +kernel
theorem dX12_init_265 : decode cX12_init 265 = .ok (.bipush 8, 2) := by decide +kernel
theorem dX12_init_267 : decode cX12_init 267 = .ok (.newarray .int, 2) := by decide +kernel
theorem dX12_init_269 : decode cX12_init 269 = .ok (.putfield 101, 3) := by decide +kernel
theorem dX12_init_272 : decode cX12_init 272 = .ok (.aload_n 0, 1) := by decide +kernel
theorem dX12_init_273 : decode cX12_init 273 = .ok (.bipush 8, 2) := by decide +kernel
theorem dX12_init_275 : decode cX12_init 275 = .ok (.newarray .int, 2) := by decide +kernel
theorem dX12_init_277 : decode cX12_init 277 = .ok (.putfield 104, 3) := by decide +kernel
theorem dX12_init_280 : decode cX12_init 280 = .ok (.aload_n 0, 1) := by decide +kernel
theorem dX12_init_281 : decode cX12_init 281 = .ok (.bipush 8, 2) := by decide +kernel
theorem dX12_init_283 : decode cX12_init 283 = .ok (.newarray .int, 2) := by decide +kernel
theorem dX12_init_285 : decode cX12_init 285 = .ok (.putfield 107, 3) := by decide +kernel
theorem dX12_init_288 : decode cX12_init 288 = .ok (.aload_n 0, 1) := by decide +kernel
theorem dX12_init_289 : decode cX12_init 289 = .ok (.bipush 8, 2) := by decide +kernel
theorem dX12_init_291 : decode cX12_init 291 = .ok (.newarray .int, 2) := by decide +kernel
theorem dX12_init_293 : decode cX12_init 293 = .ok (.putfield 110, 3) := by decide +kernel
theorem dX12_init_296 : decode cX12_init 296 = .ok (.aload_n 0, 1) := by decide +kernel
theorem dX12_init_297 : decode cX12_init 297 = .ok (.bipush 8, 2) := by decide +kernel
theorem dX12_init_299 : decode cX12_init 299 = .ok (.newarray .int, 2) := by decide +kernel
theorem dX12_init_301 : decode cX12_init 301 = .ok (.putfield 113, 3) := by decide +kernel
theorem dX12_init_304 : decode cX12_init 304 = .ok (.aload_n 0, 1) := by decide +kernel
theorem dX12_init_305 : decode cX12_init 305 = .ok (.bipush 24, 2) := by decide +kernel
theorem dX12_init_307 : decode cX12_init 307 = .ok (.newarray .int, 2) := by decide +kernel
theorem dX12_init_309 : decode cX12_init 309 = .ok (.putfield 116, 3) := by decide +kernel
theorem dX12_init_312 : decode cX12_init 312 = .ok (.aload_n 0, 1) := by decide +kernel
theorem dX12_init_313 : decode cX12_init 313 = .ok (.bipush 8, 2) := by decide +kernel
theorem dX12_init_315 : decode cX12_init 315 = .ok (.bipush 24, 2) := by decide +kernel
theorem dX12_init_317 : decode cX12_init 317 = .ok (.multianewarray 26 2, 4) := by decide +kernel
theorem dX12_init_321 : decode cX12_init 321 = .ok (.putfield 119, 3) := by decide +kernel
theorem dX12_init_324 : decode cX12_init 324 = .ok (.aload_n 0, 1) := by decide +kernel
theorem dX12_init_325 : decode cX12_init 325 = .ok (.bipush 8, 2) := by decide +kernel
theorem dX12_init_327 : decode cX12_init 327 = .ok (.bipush 24, 2) := by decide +kernel
theorem dX12_init_329 : decode cX12_init 329 = .ok (.multianewarray 26 2, 4) := by decide +kernel
theorem dX12_init_333 : decode cX12_init 333 = .ok (.putfield 122, 3) := by decide +kernel
theorem dX12_init_336 : decode cX12_init 336 = .ok (.aload_n 0, 1) := by decide +kernel
theorem dX12_init_337 : decode cX12_init 337 = .ok (.bipush 8, 2) := by decide +kernel
theorem dX12_init_339 : decode cX12_init 339 = .ok (.newarray .boolean, 2) := by decide +kernel
theorem dX12_init_341 : decode cX12_init 341 = .ok (.putfield 125, 3) := by decide +kernel
theorem dX12_init_344 : decode cX12_init 344 = .ok (.aload_n 0, 1) := by decide +kernel
theorem dX12_init_345 : decode cX12_init 345 = .ok (.bipush 8, 2) := by decide +kernel
theorem dX12_init_347 : decode cX12_init 347 = .ok (.newarray .int, 2) := by decide +kernel
theorem dX12_init_349 : decode cX12_init 349 = .ok (.putfield 128, 3) := by decide +kernel
theorem dX12_init_352 : decode cX12_init 352 = .ok (.aload_n 0, 1) := by decide +kernel
theorem dX12_init_353 : decode cX12_init 353 = .ok (.bipush 8, 2) := by decide +kernel
theorem dX12_init_355 : decode cX12_init 355 = .ok (.newarray .int, 2) := by decide +kernel
theorem dX12_init_357 : decode cX12_init 357 = .ok (.putfield 131, 3) := by decide +kernel
theorem dX12_init_360 : decode cX12_init 360 = .ok (.aload_n 0, 1) := by decide +kernel
theorem dX12_init_361 : decode cX12_init 361 = .ok (.sipush 200, 3) := by decide +kernel
theorem dX12_init_364 : decode cX12_init 364 = .ok (.bipush 32, 2) := by decide +kernel
theorem dX12_init_366 : decode cX12_init 366 = .ok (.multianewarray 26 2, 4) := by decide +kernel
theorem dX12_init_370 : decode cX12_init 370 = .ok (.putfield 134, 3) := by decide +kernel
theorem dX12_init_373 : decode cX12_init 373 = .ok (.aload_n 0, 1) := by decide +kernel
theorem dX12_init_374 : decode cX12_init 374 = .ok (.iconst 4, 1) := by decide +kernel
theorem dX12_init_375 : decode cX12_init 375 = .ok (.sipush 4096, 3) := by decide +kernel
theorem dX12_init_378 : decode cX12_init 378 = .ok (.multianewarray 26 2, 4) := by decide +kernel
theorem dX12_init_382 : decode cX12_init 382 = .ok (.putfield 137, 3) := by decide +kernel
theorem dX12_init_385 : decode cX12_init 385 = .ok (.aload_n 0, 1) := by decide +kernel
theorem dX12_init_386 : decode cX12_init 386 = .ok (.bipush 9, 2) := by decide +kernel
theorem dX12_init_388 : decode cX12_init 388 = .ok (.sipush 512, 3) := by decide +kernel
theorem dX12_init_391 : decode cX12_init 391 = .ok (.multianewarray 26 2, 4) := by decide +kernel
theorem dX12_init_395 : decode cX12_init 395 = .ok (.putfield 140, 3) := by decide +kernel
theorem dX12_init_398 : decode cX12_init 398 = .ok (.aload_n 0, 1) := by decide +kernel
theorem dX12_init_399 : decode cX12_init 399 = .ok (.bipush 8, 2) := by decide +kernel
theorem dX12_init_401 : decode cX12_init 401 = .ok (.newarray .int, 2) := by decide +kernel
theorem dX12_init_403 : decode cX12_init 403 = .ok (.putfield 143, 3) := by decide +kernel
theorem dX12_init_406 : decode cX12_init 406 = .ok (.aload_n 0, 1) := by decide +kernel
theorem dX12_init_407 : decode cX12_init 407 = .ok (.bipush 8, 2) := by decide +kernel
theorem dX12_init_409 : decode cX12_init 409 = .ok (.newarray .int, 2) := by decide +kernel
theorem dX12_init_411 : decode cX12_init 411 = .ok (.putfield 146, 3) := by decide +kernel
theorem dX12_init_414 : decode cX12_init 414 = .ok (.aload_n 0, 1) := by decide +kernel
theorem dX12_init_415 : decode cX12_init 415 = .ok (.bipush 12, 2) := by decide +kernel
theorem dX12_init_417 : decode cX12_init 417 = .ok (.newarray .boolean, 2) := by decide +kernel
theorem dX12_init_419 : decode cX12_init 419 = .ok (.putfield 149, 3) := by decide +kernel
theorem dX12_init_422 : decode cX12_init 422 = .ok (.aload_n 0, 1) := by decide +kernel
theorem dX12_init_423 : decode cX12_init 423 = .ok (.invokevirtual 152, 3) := by decide +kernel
theorem dX12_init_426 : decode cX12_init 426 = .ok (.aload_n 0, 1) := by decide +kernel
theorem dX12_init_427 : decode cX12_init 427 = .ok (.invokevirtual 155, 3) := by decide +kernel
theorem dX12_init_430 : decode cX12_init 430 = .ok (.return_, 1) := by decide +kernel
theorem dX12_tellsNothing_0 : decode cX12_tellsNothing 0 = .ok (.iconst 0, 1) := by decide +kernel
theorem dX12_tellsNothing_1 : decode cX12_tellsNothing 1 = .ok (.istore_n 1, 1) := by decide +kernel
theorem dX12_tellsNothing_2 : decode cX12_tellsNothing 2 = .ok (.iload_n 1, 1) := by decide +kernel
theorem dX12_tellsNothing_3 : decode cX12_tellsNothing 3 = .ok (.iconst 5, 1) := by decide +kernel
theorem dX12_tellsNothing_4 : decode cX12_tellsNothing 4 = .ok (.if_icmp .ge 16, 3) := by decide +kernel
theorem dX12_tellsNothing_7 : decode cX12_tellsNothing 7 = .ok (.aload_n 0, 1) := by decide +kernel
theorem dX12_tellsNothing_8 : decode cX12_tellsNothing 8 = .ok (.getfield 20, 3) := by decide +kernel
theorem dX12_tellsNothing_11 : decode cX12_tellsNothing 11 = .ok (.iload_n 1, 1) := by decide +kernel
theorem dX12_tellsNothing_12 : decode cX12_tellsNothing 12 = .ok (.iconst 0, 1) := by decide +kernel
theorem dX12_tellsNothing_13 : decode cX12_tellsNothing 13 = .ok (.iastore, 1) := by decide +kernel
theorem dX12_tellsNothing_14 : decode cX12_tellsNothing 14 = .ok (.iinc 1 1, 3) := by decide +kernel
theorem dX12_tellsNothing_17 : decode cX12_tellsNothing 17 = .ok (.goto (-15), 3) := by decide +kernel
theorem dX12_tellsNothing_20 : decode cX12_tellsNothing 20 = .ok (.aload_n 0, 1) := by decide +kernel
theorem dX12_tellsNothing_21 : decode cX12_tellsNothing 21 = .ok (.getfield 20, 3) := by decide +kernel
theorem dX12_tellsNothing_24 : decode cX12_tellsNothing 24 = .ok (.iconst 3, 1) := by decide +kernel
theorem dX12_tellsNothing_25 : decode cX12_tellsNothing 25 = .ok (.iconst 2, 1) := by decide +kernel
theorem dX12_tellsNothing_26 : decode cX12_tellsNothing 26 = .ok (.iastore, 1) := by decide +kernel
theorem dX12_tellsNothing_27 : decode cX12_tellsNothing 27 = .ok (.return_, 1) := by decide +kernel
theorem dX12_thrown_0 : decode cX12_thrown 0 = .ok (.aload_n 0, 1) := by decide +kernel
theorem dX12_thrown_1 : decode cX12_thrown 1 = .ok (.getfield 158, 3) := by decide +kernel
theorem dX12_thrown_4 : decode cX12_thrown 4 = .ok (.ireturn, 1) := by decide +kernel
theorem dX12_bad_0 : decode cX12_bad 0 = .ok (.iload_n 1, 1) := by decide +kernel
theorem dX12_bad_1 : decode cX12_bad 1 = .ok (.ifCond .eq 25, 3) := by decide +kernel
theorem dX12_bad_4 : decode cX12_bad 4 = .ok (.aload_n 0, 1) := by decide +kernel
theorem dX12_bad_5 : decode cX12_bad 5 = .ok (.getfield 158, 3) := by decide +kernel
theorem dX12_bad_8 : decode cX12_bad 8 = .ok (.ifCond .ne 18, 3) := by decide +kernel
theorem dX12_bad_11 : decode cX12_bad 11 = .ok (.aload_n 0, 1) := by decide +kernel
theorem dX12_bad_12 : decode cX12_bad 12 = .ok (.iload_n 2, 1) := by decide +kernel
theorem dX12_bad_13 : decode cX12_bad 13 = .ok (.putfield 158, 3) := by decide +kernel
theorem dX12_bad_16 : decode cX12_bad 16 = .ok (.aload_n 0, 1) := by decide +kernel
theorem dX12_bad_17 : decode cX12_bad 17 = .ok (.getfield 17, 3) := by decide +kernel
theorem dX12_bad_20 : decode cX12_bad 20 = .ok (.iload_n 3, 1) := by decide +kernel
theorem dX12_bad_21 : decode cX12_bad 21 = .ok (.dup2, 1) := by decide +kernel
theorem dX12_bad_22 : decode cX12_bad 22 = .ok (.iaload, 1) := by decide +kernel
theorem dX12_bad_23 : decode cX12_bad 23 = .ok (.iconst 1, 1) := by decide +kernel
theorem dX12_bad_24 : decode cX12_bad 24 = .ok (.iadd, 1) := by decide +kernel
theorem dX12_bad_25 : decode cX12_bad 25 = .ok (.iastore, 1) := by decide +kernel
theorem dX12_bad_26 : decode cX12_bad 26 = .ok (.aload_n 0, 1) := by decide +kernel
theorem dX12_bad_27 : decode cX12_bad 27 = .ok (.getfield 158, 3) := by decide +kernel
theorem dX12_bad_30 : decode cX12_bad 30 = .ok (.ifCond .eq 7, 3) := by decide +kernel
theorem dX12_bad_33 : decode cX12_bad 33 = .ok (.iconst 1, 1) := by decide +kernel
theorem dX12_bad_34 : decode cX12_bad 34 = .ok (.goto 4, 3) := by decide +kernel
theorem dX12_bad_37 : decode cX12_bad 37 = .ok (.iconst 0, 1) := by decide +kernel
theorem dX12_bad_38 : decode cX12_bad 38 = .ok (.ireturn, 1) := by decide +kernel
theorem dX12_in_0 : decode cX12_in 0 = .ok (.iload_n 0, 1) := by decide +kernel
theorem dX12_in_1 : decode cX12_in 1 = .ok (.iload_n 1, 1) := by decide +kernel
theorem dX12_in_2 : decode cX12_in 2 = .ok (.if_icmp .lt 12, 3) := by decide +kernel
theorem dX12_in_5 : decode cX12_in 5 = .ok (.iload_n 0, 1) := by decide +kernel
theorem dX12_in_6 : decode cX12_in 6 = .ok (.iload_n 2, 1) := by decide +kernel
theorem dX12_in_7 : decode cX12_in 7 = .ok (.if_icmp .gt 7, 3) := by decide +kernel
theorem dX12_in_10 : decode cX12_in 10 = .ok (.iconst 1, 1) := by decide +kernel
theorem dX12_in_11 : decode cX12_in 11 = .ok (.goto 4, 3) := by decide +kernel
theorem dX12_in_14 : decode cX12_in 14 = .ok (.iconst 0, 1) := by decide +kernel
theorem dX12_in_15 : decode cX12_in 15 = .ok (.ireturn, 1) := by decide +kernel
theorem dX12_less_0 : decode cX12_less 0 = .ok (.iload_n 0, 1) := by decide +kernel
theorem dX12_less_1 : decode cX12_less 1 = .ok (.iload_n 1, 1) := by decide +kernel
theorem dX12_less_2 : decode cX12_less 2 = .ok (.if_icmp .ge 7, 3) := by decide +kernel
theorem dX12_less_5 : decode cX12_less 5 = .ok (.iload_n 0, 1) := by decide +kernel
theorem dX12_less_6 : decode cX12_less 6 = .ok (.goto 4, 3) := by decide +kernel
theorem dX12_less_9 : decode cX12_less 9 = .ok (.iload_n 1, 1) := by decide +kernel
theorem dX12_less_10 : decode cX12_less 10 = .ok (.ireturn, 1) := by decide +kernel
theorem dX12_greater_0 : decode cX12_greater 0 = .ok (.iload_n 0, 1) := by decide +kernel
theorem dX12_greater_1 : decode cX12_greater 1 = .ok (.iload_n 1, 1) := by decide +kernel
theorem dX12_greater_2 : decode cX12_greater 2 = .ok (.if_icmp .le 7, 3) := by decide +kernel
theorem dX12_greater_5 : decode cX12_greater 5 = .ok (.iload_n 0, 1) := by decide +kernel
theorem dX12_greater_6 : decode cX12_greater 6 = .ok (.goto 4, 3) := by decide +kernel
theorem dX12_greater_9 : decode cX12_greater 9 = .ok (.iload_n 1, 1) := by decide +kernel
theorem dX12_greater_10 : decode cX12_greater 10 = .ok (.ireturn, 1) := by decide +kernel
theorem dX12_feed_0 : decode cX12_feed 0 = .ok (.aload_n 0, 1) := by decide +kernel
theorem dX12_feed_1 : decode cX12_feed 1 = .ok (.iconst 0, 1) := by decide +kernel
theorem dX12_feed_2 : decode cX12_feed 2 = .ok (.putfield 158, 3) := by decide +kernel
theorem dX12_feed_5 : decode cX12_feed 5 = .ok (.aload_n 0, 1) := by decide +kernel
theorem dX12_feed_6 : decode cX12_feed 6 = .ok (.getfield 161, 3) := by decide +kernel
theorem dX12_feed_9 : decode cX12_feed 9 = .ok (.bipush 20, 2) := by decide +kernel
theorem dX12_feed_11 : decode cX12_feed 11 = .ok (.iadd, 1) := by decide +kernel
theorem dX12_feed_12 : decode cX12_feed 12 = .ok (.sipush 600, 3) := by decide +kernel
theorem dX12_feed_15 : decode cX12_feed 15 = .ok (.if_icmp .le 5, 3) := by decide +kernel
theorem dX12_feed_18 : decode cX12_feed 18 = .ok (.iconst (-1), 1) := by decide +kernel
theorem dX12_feed_19 : decode cX12_feed 19 = .ok (.ireturn, 1) := by decide +kernel
theorem dX12_feed_20 : decode cX12_feed 20 = .ok (.iconst 0, 1) := by decide +kernel
theorem dX12_feed_21 : decode cX12_feed 21 = .ok (.istore 6, 2) := by decide +kernel
theorem dX12_feed_23 : decode cX12_feed 23 = .ok (.iload 6, 2) := by decide +kernel
theorem dX12_feed_25 : decode cX12_feed 25 = .ok (.bipush 20, 2) := by decide +kernel
theorem dX12_feed_27 : decode cX12_feed 27 = .ok (.if_icmp .ge 93, 3) := by decide +kernel
theorem dX12_feed_30 : decode cX12_feed 30 = .ok (.iload 6, 2) := by decide +kernel
theorem dX12_feed_32 : decode cX12_feed 32 = .ok (.iconst 4, 1) := by decide +kernel
theorem dX12_feed_33 : decode cX12_feed 33 = .ok (.if_icmp .ge 7, 3) := by decide +kernel
theorem dX12_feed_36 : decode cX12_feed 36 = .ok (.iload_n 1, 1) := by decide +kernel
theorem dX12_feed_37 : decode cX12_feed 37 = .ok (.goto 39, 3) := by decide +kernel
theorem dX12_feed_40 : decode cX12_feed 40 = .ok (.iload 6, 2) := by decide +kernel
theorem dX12_feed_42 : decode cX12_feed 42 = .ok (.bipush 8, 2) := by decide +kernel
theorem dX12_feed_44 : decode cX12_feed 44 = .ok (.if_icmp .ge 7, 3) := by decide +kernel
theorem dX12_feed_47 : decode cX12_feed 47 = .ok (.iload_n 2, 1) := by decide +kernel
theorem dX12_feed_48 : decode cX12_feed 48 = .ok (.goto 28, 3) := by decide +kernel
theorem dX12_feed_51 : decode cX12_feed 51 = .ok (.iload 6, 2) := by decide +kernel
theorem dX12_feed_53 : decode cX12_feed 53 = .ok (.bipush 12, 2) := by decide +kernel
theorem dX12_feed_55 : decode cX12_feed 55 = .ok (.if_icmp .ge 7, 3) := by decide +kernel
theorem dX12_feed_58 : decode cX12_feed 58 = .ok (.iload_n 3, 1) := by decide +kernel
theorem dX12_feed_59 : decode cX12_feed 59 = .ok (.goto 17, 3) := by decide +kernel
theorem dX12_feed_62 : decode cX12_feed 62 = .ok (.iload 6, 2) := by decide +kernel
theorem dX12_feed_64 : decode cX12_feed 64 = .ok (.bipush 16, 2) := by decide +kernel
theorem dX12_feed_66 : decode cX12_feed 66 = .ok (.if_icmp .ge 8, 3) := by decide +kernel
theorem dX12_feed_69 : decode cX12_feed 69 = .ok (.iload 4, 2) := by decide +kernel
theorem dX12_feed_71 : decode cX12_feed 71 = .ok (.goto 5, 3) := by decide +kernel
theorem dX12_feed_74 : decode cX12_feed 74 = .ok (.iload 5, 2) := by decide +kernel
theorem dX12_feed_76 : decode cX12_feed 76 = .ok (.istore 7, 2) := by decide +kernel
theorem dX12_feed_78 : decode cX12_feed 78 = .ok (.aload_n 0, 1) := by decide +kernel
theorem dX12_feed_79 : decode cX12_feed 79 = .ok (.getfield 13, 3) := by decide +kernel
theorem dX12_feed_82 : decode cX12_feed 82 = .ok (.aload_n 0, 1) := by decide +kernel
theorem dX12_feed_83 : decode cX12_feed 83 = .ok (.getfield 161, 3) := by decide +kernel
theorem dX12_feed_86 : decode cX12_feed 86 = .ok (.iload 7, 2) := by decide +kernel
theorem dX12_feed_88 : decode cX12_feed 88 = .ok (.bipush 24, 2) := by decide +kernel
theorem dX12_feed_90 : decode cX12_feed 90 = .ok (.bipush 8, 2) := by decide +kernel
theorem dX12_feed_92 : decode cX12_feed 92 = .ok (.iload 6, 2) := by decide +kernel
theorem dX12_feed_94 : decode cX12_feed 94 = .ok (.iconst 4, 1) := by decide +kernel
theorem dX12_feed_95 : decode cX12_feed 95 = .ok (.irem, 1) := by decide +kernel
theorem dX12_feed_96 : decode cX12_feed 96 = .ok (.imul, 1) := by decide +kernel
theorem dX12_feed_97 : decode cX12_feed 97 = .ok (.isub, 1) := by decide +kernel
theorem dX12_feed_98 : decode cX12_feed 98 = .ok (.ishr, 1) := by decide +kernel
theorem dX12_feed_99 : decode cX12_feed 99 = .ok (.sipush 255, 3) := by decide +kernel
theorem dX12_feed_102 : decode cX12_feed 102 = .ok (.iand, 1) := by decide +kernel
theorem dX12_feed_103 : decode cX12_feed 103 = .ok (.iastore, 1) := by decide +kernel
theorem dX12_feed_104 : decode cX12_feed 104 = .ok (.aload_n 0, 1) := by decide +kernel
theorem dX12_feed_105 : decode cX12_feed 105 = .ok (.dup, 1) := by decide +kernel
theorem dX12_feed_106 : decode cX12_feed 106 = .ok (.getfield 161, 3) := by decide +kernel
theorem dX12_feed_109 : decode cX12_feed 109 = .ok (.iconst 1, 1) := by decide +kernel
theorem dX12_feed_110 : decode cX12_feed 110 = .ok (.iadd, 1) := by decide +kernel
theorem dX12_feed_111 : decode cX12_feed 111 = .ok (.putfield 161, 3) := by decide +kernel
theorem dX12_feed_114 : decode cX12_feed 114 = .ok (.iinc 6 1, 3) := by decide +kernel
theorem dX12_feed_117 : decode cX12_feed 117 = .ok (.goto (-94), 3) := by decide +kernel
theorem dX12_feed_120 : decode cX12_feed 120 = .ok (.aload_n 0, 1) := by decide +kernel
theorem dX12_feed_121 : decode cX12_feed 121 = .ok (.getfield 161, 3) := by decide +kernel
theorem dX12_feed_124 : decode cX12_feed 124 = .ok (.ireturn, 1) := by decide +kernel
theorem dX12_byteAt_0 : decode cX12_byteAt 0 = .ok (.iload_n 1, 1) := by decide +kernel
theorem dX12_byteAt_1 : decode cX12_byteAt 1 = .ok (.aload_n 0, 1) := by decide +kernel
theorem dX12_byteAt_2 : decode cX12_byteAt 2 = .ok (.getfield 164, 3) := by decide +kernel
theorem dX12_byteAt_5 : decode cX12_byteAt 5 = .ok (.if_icmp .lt 7, 3) := by decide +kernel
theorem dX12_byteAt_8 : decode cX12_byteAt 8 = .ok (.iconst (-1), 1) := by decide +kernel
theorem dX12_byteAt_9 : decode cX12_byteAt 9 = .ok (.goto 9, 3) := by decide +kernel
theorem dX12_byteAt_12 : decode cX12_byteAt 12 = .ok (.aload_n 0, 1) := by decide +kernel
theorem dX12_byteAt_13 : decode cX12_byteAt 13 = .ok (.getfield 13, 3) := by decide +kernel
theorem dX12_byteAt_16 : decode cX12_byteAt 16 = .ok (.iload_n 1, 1) := by decide +kernel
theorem dX12_byteAt_17 : decode cX12_byteAt 17 = .ok (.iaload, 1) := by decide +kernel
theorem dX12_byteAt_18 : decode cX12_byteAt 18 = .ok (.ireturn, 1) := by decide +kernel
theorem dX12_blanks_0 : decode cX12_blanks 0 = .ok (.aload_n 0, 1) := by decide +kernel
theorem dX12_blanks_1 : decode cX12_blanks 1 = .ok (.aload_n 0, 1) := by decide +kernel
theorem dX12_blanks_2 : decode cX12_blanks 2 = .ok (.getfield 167, 3) := by decide +kernel
theorem dX12_blanks_5 : decode cX12_blanks 5 = .ok (.invokevirtual 170, 3) := by decide +kernel
theorem dX12_blanks_8 : decode cX12_blanks 8 = .ok (.bipush 32, 2) := by decide +kernel
theorem dX12_blanks_10 : decode cX12_blanks 10 = .ok (.if_icmp .ne 16, 3) := by decide +kernel
theorem dX12_blanks_13 : decode cX12_blanks 13 = .ok (.aload_n 0, 1) := by decide +kernel
theorem dX12_blanks_14 : decode cX12_blanks 14 = .ok (.dup, 1) := by decide +kernel
theorem dX12_blanks_15 : decode cX12_blanks 15 = .ok (.getfield 167, 3) := by decide +kernel
theorem dX12_blanks_18 : decode cX12_blanks 18 = .ok (.iconst 1, 1) := by decide +kernel
theorem dX12_blanks_19 : decode cX12_blanks 19 = .ok (.iadd, 1) := by decide +kernel
theorem dX12_blanks_20 : decode cX12_blanks 20 = .ok (.putfield 167, 3) := by decide +kernel
theorem dX12_blanks_23 : decode cX12_blanks 23 = .ok (.goto (-23), 3) := by decide +kernel
theorem dX12_blanks_26 : decode cX12_blanks 26 = .ok (.return_, 1) := by decide +kernel
theorem dX12_wrong_0 : decode cX12_wrong 0 = .ok (.aload_n 0, 1) := by decide +kernel
theorem dX12_wrong_1 : decode cX12_wrong 1 = .ok (.getfield 174, 3) := by decide +kernel
theorem dX12_wrong_4 : decode cX12_wrong 4 = .ok (.ifCond .ne 13, 3) := by decide +kernel
theorem dX12_wrong_7 : decode cX12_wrong 7 = .ok (.aload_n 0, 1) := by decide +kernel
theorem dX12_wrong_8 : decode cX12_wrong 8 = .ok (.iload_n 1, 1) := by decide +kernel
theorem dX12_wrong_9 : decode cX12_wrong 9 = .ok (.putfield 174, 3) := by decide +kernel
theorem dX12_wrong_12 : decode cX12_wrong 12 = .ok (.aload_n 0, 1) := by decide +kernel
theorem dX12_wrong_13 : decode cX12_wrong 13 = .ok (.iload_n 2, 1) := by decide +kernel
theorem dX12_wrong_14 : decode cX12_wrong 14 = .ok (.putfield 177, 3) := by decide +kernel
theorem dX12_wrong_17 : decode cX12_wrong 17 = .ok (.return_, 1) := by decide +kernel
theorem dX12_isDigit_0 : decode cX12_isDigit 0 = .ok (.iload_n 0, 1) := by decide +kernel
theorem dX12_isDigit_1 : decode cX12_isDigit 1 = .ok (.bipush 48, 2) := by decide +kernel
theorem dX12_isDigit_3 : decode cX12_isDigit 3 = .ok (.if_icmp .lt 13, 3) := by decide +kernel
theorem dX12_isDigit_6 : decode cX12_isDigit 6 = .ok (.iload_n 0, 1) := by decide +kernel
theorem dX12_isDigit_7 : decode cX12_isDigit 7 = .ok (.bipush 57, 2) := by decide +kernel
theorem dX12_isDigit_9 : decode cX12_isDigit 9 = .ok (.if_icmp .gt 7, 3) := by decide +kernel
theorem dX12_isDigit_12 : decode cX12_isDigit 12 = .ok (.iconst 1, 1) := by decide +kernel
theorem dX12_isDigit_13 : decode cX12_isDigit 13 = .ok (.goto 4, 3) := by decide +kernel
theorem dX12_isDigit_16 : decode cX12_isDigit 16 = .ok (.iconst 0, 1) := by decide +kernel
theorem dX12_isDigit_17 : decode cX12_isDigit 17 = .ok (.ireturn, 1) := by decide +kernel
theorem dX12_isSmall_0 : decode cX12_isSmall 0 = .ok (.iload_n 0, 1) := by decide +kernel
theorem dX12_isSmall_1 : decode cX12_isSmall 1 = .ok (.bipush 97, 2) := by decide +kernel
theorem dX12_isSmall_3 : decode cX12_isSmall 3 = .ok (.if_icmp .lt 13, 3) := by decide +kernel
theorem dX12_isSmall_6 : decode cX12_isSmall 6 = .ok (.iload_n 0, 1) := by decide +kernel
theorem dX12_isSmall_7 : decode cX12_isSmall 7 = .ok (.bipush 122, 2) := by decide +kernel
theorem dX12_isSmall_9 : decode cX12_isSmall 9 = .ok (.if_icmp .gt 7, 3) := by decide +kernel
theorem dX12_isSmall_12 : decode cX12_isSmall 12 = .ok (.iconst 1, 1) := by decide +kernel
theorem dX12_isSmall_13 : decode cX12_isSmall 13 = .ok (.goto 4, 3) := by decide +kernel
theorem dX12_isSmall_16 : decode cX12_isSmall 16 = .ok (.iconst 0, 1) := by decide +kernel
theorem dX12_isSmall_17 : decode cX12_isSmall 17 = .ok (.ireturn, 1) := by decide +kernel
theorem dX12_number_0 : decode cX12_number 0 = .ok (.aload_n 0, 1) := by decide +kernel
theorem dX12_number_1 : decode cX12_number 1 = .ok (.getfield 174, 3) := by decide +kernel
theorem dX12_number_4 : decode cX12_number 4 = .ok (.ifCond .eq 5, 3) := by decide +kernel
theorem dX12_number_7 : decode cX12_number 7 = .ok (.iconst 0, 1) := by decide +kernel
theorem dX12_number_8 : decode cX12_number 8 = .ok (.ireturn, 1) := by decide +kernel
theorem dX12_number_9 : decode cX12_number 9 = .ok (.aload_n 0, 1) := by decide +kernel
theorem dX12_number_10 : decode cX12_number 10 = .ok (.invokevirtual 180, 3) := by decide +kernel
theorem dX12_number_13 : decode cX12_number 13 = .ok (.aload_n 0, 1) := by decide +kernel
theorem dX12_number_14 : decode cX12_number 14 = .ok (.getfield 167, 3) := by decide +kernel
theorem dX12_number_17 : decode cX12_number 17 = .ok (.istore_n 3, 1) := by decide +kernel
theorem dX12_number_18 : decode cX12_number 18 = .ok (.iconst 0, 1) := by decide +kernel
theorem dX12_number_19 : decode cX12_number 19 = .ok (.istore 4, 2) := by decide +kernel
theorem dX12_number_21 : decode cX12_number 21 = .ok (.aload_n 0, 1) := by decide +kernel
theorem dX12_number_22 : decode cX12_number 22 = .ok (.aload_n 0, 1) := by decide +kernel
theorem dX12_number_23 : decode cX12_number 23 = .ok (.getfield 167, 3) := by decide +kernel
theorem dX12_number_26 : decode cX12_number 26 = .ok (.invokevirtual 170, 3) := by decide +kernel
theorem dX12_number_29 : decode cX12_number 29 = .ok (.invokestatic 183, 3) := by decide +kernel
theorem dX12_number_32 : decode cX12_number 32 = .ok (.ifCond .ne 12, 3) := by decide +kernel
theorem dX12_number_35 : decode cX12_number 35 = .ok (.aload_n 0, 1) := by decide +kernel
theorem dX12_number_36 : decode cX12_number 36 = .ok (.iconst 1, 1) := by decide +kernel
theorem dX12_number_37 : decode cX12_number 37 = .ok (.aload_n 0, 1) := by decide +kernel
theorem dX12_number_38 : decode cX12_number 38 = .ok (.getfield 167, 3) := by decide +kernel
theorem dX12_number_41 : decode cX12_number 41 = .ok (.invokevirtual 187, 3) := by decide +kernel
theorem dX12_number_44 : decode cX12_number 44 = .ok (.aload_n 0, 1) := by decide +kernel
theorem dX12_number_45 : decode cX12_number 45 = .ok (.aload_n 0, 1) := by decide +kernel
theorem dX12_number_46 : decode cX12_number 46 = .ok (.getfield 167, 3) := by decide +kernel
theorem dX12_number_49 : decode cX12_number 49 = .ok (.invokevirtual 170, 3) := by decide +kernel
theorem dX12_number_52 : decode cX12_number 52 = .ok (.invokestatic 183, 3) := by decide +kernel
theorem dX12_number_55 : decode cX12_number 55 = .ok (.ifCond .eq 51, 3) := by decide +kernel
theorem dX12_number_58 : decode cX12_number 58 = .ok (.bipush 10, 2) := by decide +kernel
theorem dX12_number_60 : decode cX12_number 60 = .ok (.iload 4, 2) := by decide +kernel
theorem dX12_number_62 : decode cX12_number 62 = .ok (.imul, 1) := by decide +kernel
theorem dX12_number_63 : decode cX12_number 63 = .ok (.aload_n 0, 1) := by decide +kernel
theorem dX12_number_64 : decode cX12_number 64 = .ok (.aload_n 0, 1) := by decide +kernel
theorem dX12_number_65 : decode cX12_number 65 = .ok (.getfield 167, 3) := by decide +kernel
theorem dX12_number_68 : decode cX12_number 68 = .ok (.invokevirtual 170, 3) := by decide +kernel
theorem dX12_number_71 : decode cX12_number 71 = .ok (.iadd, 1) := by decide +kernel
theorem dX12_number_72 : decode cX12_number 72 = .ok (.bipush 48, 2) := by decide +kernel
theorem dX12_number_74 : decode cX12_number 74 = .ok (.isub, 1) := by decide +kernel
theorem dX12_number_75 : decode cX12_number 75 = .ok (.istore 4, 2) := by decide +kernel
theorem dX12_number_77 : decode cX12_number 77 = .ok (.iload 4, 2) := by decide +kernel
theorem dX12_number_79 : decode cX12_number 79 = .ok (.ldc 191, 2) := by decide +kernel
theorem dX12_number_81 : decode cX12_number 81 = .ok (.if_icmp .le 8, 3) := by decide +kernel
theorem dX12_number_84 : decode cX12_number 84 = .ok (.ldc 191, 2) := by decide +kernel
theorem dX12_number_86 : decode cX12_number 86 = .ok (.goto 5, 3) := by decide +kernel
theorem dX12_number_89 : decode cX12_number 89 = .ok (.iload 4, 2) := by decide +kernel
theorem dX12_number_91 : decode cX12_number 91 = .ok (.istore 4, 2) := by decide +kernel
theorem dX12_number_93 : decode cX12_number 93 = .ok (.aload_n 0, 1) := by decide +kernel
theorem dX12_number_94 : decode cX12_number 94 = .ok (.dup, 1) := by decide +kernel
theorem dX12_number_95 : decode cX12_number 95 = .ok (.getfield 167, 3) := by decide +kernel
theorem dX12_number_98 : decode cX12_number 98 = .ok (.iconst 1, 1) := by decide +kernel
theorem dX12_number_99 : decode cX12_number 99 = .ok (.iadd, 1) := by decide +kernel
theorem dX12_number_100 : decode cX12_number 100 = .ok (.putfield 167, 3) := by decide +kernel
theorem dX12_number_103 : decode cX12_number 103 = .ok (.goto (-59), 3) := by decide +kernel
theorem dX12_number_106 : decode cX12_number 106 = .ok (.iload 4, 2) := by decide +kernel
theorem dX12_number_108 : decode cX12_number 108 = .ok (.iload_n 1, 1) := by decide +kernel
theorem dX12_number_109 : decode cX12_number 109 = .ok (.iload_n 2, 1) := by decide +kernel
theorem dX12_number_110 : decode cX12_number 110 = .ok (.invokestatic 192, 3) := by decide +kernel
theorem dX12_number_113 : decode cX12_number 113 = .ok (.ifCond .ne 9, 3) := by decide +kernel
theorem dX12_number_116 : decode cX12_number 116 = .ok (.aload_n 0, 1) := by decide +kernel
theorem dX12_number_117 : decode cX12_number 117 = .ok (.iconst 2, 1) := by decide +kernel
theorem dX12_number_118 : decode cX12_number 118 = .ok (.iload_n 3, 1) := by decide +kernel
theorem dX12_number_119 : decode cX12_number 119 = .ok (.invokevirtual 187, 3) := by decide +kernel
theorem dX12_number_122 : decode cX12_number 122 = .ok (.aload_n 0, 1) := by decide +kernel
theorem dX12_number_123 : decode cX12_number 123 = .ok (.getfield 174, 3) := by decide +kernel
theorem dX12_number_126 : decode cX12_number 126 = .ok (.ifCond .ne 8, 3) := by decide +kernel
theorem dX12_number_129 : decode cX12_number 129 = .ok (.iload 4, 2) := by decide +kernel
theorem dX12_number_131 : decode cX12_number 131 = .ok (.goto 4, 3) := by decide +kernel
theorem dX12_number_134 : decode cX12_number 134 = .ok (.iconst 0, 1) := by decide +kernel
theorem dX12_number_135 : decode cX12_number 135 = .ok (.ireturn, 1) := by decide +kernel
theorem dX12_wordHere_0 : decode cX12_wordHere 0 = .ok (.aload_n 0, 1) := by decide +kernel
theorem dX12_wordHere_1 : decode cX12_wordHere 1 = .ok (.invokevirtual 180, 3) := by decide +kernel
theorem dX12_wordHere_4 : decode cX12_wordHere 4 = .ok (.iconst 0, 1) := by decide +kernel
theorem dX12_wordHere_5 : decode cX12_wordHere 5 = .ok (.istore_n 1, 1) := by decide +kernel
theorem dX12_wordHere_6 : decode cX12_wordHere 6 = .ok (.iconst 0, 1) := by decide +kernel
theorem dX12_wordHere_7 : decode cX12_wordHere 7 = .ok (.istore_n 2, 1) := by decide +kernel
theorem dX12_wordHere_8 : decode cX12_wordHere 8 = .ok (.aload_n 0, 1) := by decide +kernel
theorem dX12_wordHere_9 : decode cX12_wordHere 9 = .ok (.aload_n 0, 1) := by decide +kernel
theorem dX12_wordHere_10 : decode cX12_wordHere 10 = .ok (.getfield 167, 3) := by decide +kernel
theorem dX12_wordHere_13 : decode cX12_wordHere 13 = .ok (.iload_n 2, 1) := by decide +kernel
theorem dX12_wordHere_14 : decode cX12_wordHere 14 = .ok (.iadd, 1) := by decide +kernel
theorem dX12_wordHere_15 : decode cX12_wordHere 15 = .ok (.invokevirtual 170, 3) := by decide +kernel
theorem dX12_wordHere_18 : decode cX12_wordHere 18 = .ok (.invokestatic 196, 3) := by decide +kernel
theorem dX12_wordHere_21 : decode cX12_wordHere 21 = .ok (.ifCond .eq 40, 3) := by decide +kernel
theorem dX12_wordHere_24 : decode cX12_wordHere 24 = .ok (.iload_n 2, 1) := by decide +kernel
theorem dX12_wordHere_25 : decode cX12_wordHere 25 = .ok (.bipush 6, 2) := by decide +kernel
theorem dX12_wordHere_27 : decode cX12_wordHere 27 = .ok (.if_icmp .ge 26, 3) := by decide +kernel
theorem dX12_wordHere_30 : decode cX12_wordHere 30 = .ok (.bipush 27, 2) := by decide +kernel
theorem dX12_wordHere_32 : decode cX12_wordHere 32 = .ok (.iload_n 1, 1) := by decide +kernel
theorem dX12_wordHere_33 : decode cX12_wordHere 33 = .ok (.imul, 1) := by decide +kernel
theorem dX12_wordHere_34 : decode cX12_wordHere 34 = .ok (.aload_n 0, 1) := by decide +kernel
theorem dX12_wordHere_35 : decode cX12_wordHere 35 = .ok (.aload_n 0, 1) := by decide +kernel
theorem dX12_wordHere_36 : decode cX12_wordHere 36 = .ok (.getfield 167, 3) := by decide +kernel
theorem dX12_wordHere_39 : decode cX12_wordHere 39 = .ok (.iload_n 2, 1) := by decide +kernel
theorem dX12_wordHere_40 : decode cX12_wordHere 40 = .ok (.iadd, 1) := by decide +kernel
theorem dX12_wordHere_41 : decode cX12_wordHere 41 = .ok (.invokevirtual 170, 3) := by decide +kernel
theorem dX12_wordHere_44 : decode cX12_wordHere 44 = .ok (.iadd, 1) := by decide +kernel
theorem dX12_wordHere_45 : decode cX12_wordHere 45 = .ok (.bipush 97, 2) := by decide +kernel
theorem dX12_wordHere_47 : decode cX12_wordHere 47 = .ok (.isub, 1) := by decide +kernel
theorem dX12_wordHere_48 : decode cX12_wordHere 48 = .ok (.iconst 1, 1) := by decide +kernel
theorem dX12_wordHere_49 : decode cX12_wordHere 49 = .ok (.iadd, 1) := by decide +kernel
theorem dX12_wordHere_50 : decode cX12_wordHere 50 = .ok (.goto 4, 3) := by decide +kernel
theorem dX12_wordHere_53 : decode cX12_wordHere 53 = .ok (.iload_n 1, 1) := by decide +kernel
theorem dX12_wordHere_54 : decode cX12_wordHere 54 = .ok (.istore_n 1, 1) := by decide +kernel
theorem dX12_wordHere_55 : decode cX12_wordHere 55 = .ok (.iinc 2 1, 3) := by decide +kernel
theorem dX12_wordHere_58 : decode cX12_wordHere 58 = .ok (.goto (-50), 3) := by decide +kernel
theorem dX12_wordHere_61 : decode cX12_wordHere 61 = .ok (.iload_n 2, 1) := by decide +kernel
theorem dX12_wordHere_62 : decode cX12_wordHere 62 = .ok (.bipush 6, 2) := by decide +kernel
theorem dX12_wordHere_64 : decode cX12_wordHere 64 = .ok (.if_icmp .le 7, 3) := by decide +kernel
theorem dX12_wordHere_67 : decode cX12_wordHere 67 = .ok (.iconst (-1), 1) := by decide +kernel
theorem dX12_wordHere_68 : decode cX12_wordHere 68 = .ok (.goto 4, 3) := by decide +kernel
theorem dX12_wordHere_71 : decode cX12_wordHere 71 = .ok (.iload_n 1, 1) := by decide +kernel
theorem dX12_wordHere_72 : decode cX12_wordHere 72 = .ok (.ireturn, 1) := by decide +kernel
theorem dX12_six_0 : decode cX12_six 0 = .ok (.bipush 27, 2) := by decide +kernel
theorem dX12_six_2 : decode cX12_six 2 = .ok (.iload_n 0, 1) := by decide +kernel
theorem dX12_six_3 : decode cX12_six 3 = .ok (.imul, 1) := by decide +kernel
theorem dX12_six_4 : decode cX12_six 4 = .ok (.iload_n 1, 1) := by decide +kernel
theorem dX12_six_5 : decode cX12_six 5 = .ok (.iadd, 1) := by decide +kernel
theorem dX12_six_6 : decode cX12_six 6 = .ok (.istore 6, 2) := by decide +kernel
theorem dX12_six_8 : decode cX12_six 8 = .ok (.iload_n 2, 1) := by decide +kernel
theorem dX12_six_9 : decode cX12_six 9 = .ok (.ifCond .ne 8, 3) := by decide +kernel
theorem dX12_six_12 : decode cX12_six 12 = .ok (.iload 6, 2) := by decide +kernel
theorem dX12_six_14 : decode cX12_six 14 = .ok (.goto 10, 3) := by decide +kernel
theorem dX12_six_17 : decode cX12_six 17 = .ok (.bipush 27, 2) := by decide +kernel
theorem dX12_six_19 : decode cX12_six 19 = .ok (.iload 6, 2) := by decide +kernel
theorem dX12_six_21 : decode cX12_six 21 = .ok (.imul, 1) := by decide +kernel
theorem dX12_six_22 : decode cX12_six 22 = .ok (.iload_n 2, 1) := by decide +kernel
theorem dX12_six_23 : decode cX12_six 23 = .ok (.iadd, 1) := by decide +kernel
theorem dX12_six_24 : decode cX12_six 24 = .ok (.istore 6, 2) := by decide +kernel
theorem dX12_six_26 : decode cX12_six 26 = .ok (.iload_n 3, 1) := by decide +kernel
theorem dX12_six_27 : decode cX12_six 27 = .ok (.ifCond .ne 8, 3) := by decide +kernel
theorem dX12_six_30 : decode cX12_six 30 = .ok (.iload 6, 2) := by decide +kernel
theorem dX12_six_32 : decode cX12_six 32 = .ok (.goto 10, 3) := by decide +kernel
theorem dX12_six_35 : decode cX12_six 35 = .ok (.bipush 27, 2) := by decide +kernel
theorem dX12_six_37 : decode cX12_six 37 = .ok (.iload 6, 2) := by decide +kernel
theorem dX12_six_39 : decode cX12_six 39 = .ok (.imul, 1) := by decide +kernel
theorem dX12_six_40 : decode cX12_six 40 = .ok (.iload_n 3, 1) := by decide +kernel
theorem dX12_six_41 : decode cX12_six 41 = .ok (.iadd, 1) := by decide +kernel
theorem dX12_six_42 : decode cX12_six 42 = .ok (.istore 6, 2) := by decide +kernel
theorem dX12_six_44 : decode cX12_six 44 = .ok (.iload 4, 2) := by decide +kernel
theorem dX12_six_46 : decode cX12_six 46 = .ok (.ifCond .ne 8, 3) := by decide +kernel
theorem dX12_six_49 : decode cX12_six 49 = .ok (.iload 6, 2) := by decide +kernel
theorem dX12_six_51 : decode cX12_six 51 = .ok (.goto 11, 3) := by decide +kernel
theorem dX12_six_54 : decode cX12_six 54 = .ok (.bipush 27, 2) := by decide +kernel
theorem dX12_six_56 : decode cX12_six 56 = .ok (.iload 6, 2) := by decide +kernel
theorem dX12_six_58 : decode cX12_six 58 = .ok (.imul, 1) := by decide +kernel
theorem dX12_six_59 : decode cX12_six 59 = .ok (.iload 4, 2) := by decide +kernel
theorem dX12_six_61 : decode cX12_six 61 = .ok (.iadd, 1) := by decide +kernel
theorem dX12_six_62 : decode cX12_six 62 = .ok (.istore 6, 2) := by decide +kernel
theorem dX12_six_64 : decode cX12_six 64 = .ok (.iload 5, 2) := by decide +kernel
theorem dX12_six_66 : decode cX12_six 66 = .ok (.ifCond .ne 8, 3) := by decide +kernel
theorem dX12_six_69 : decode cX12_six 69 = .ok (.iload 6, 2) := by decide +kernel
theorem dX12_six_71 : decode cX12_six 71 = .ok (.goto 11, 3) := by decide +kernel
theorem dX12_six_74 : decode cX12_six 74 = .ok (.bipush 27, 2) := by decide +kernel
theorem dX12_six_76 : decode cX12_six 76 = .ok (.iload 6, 2) := by decide +kernel
theorem dX12_six_78 : decode cX12_six 78 = .ok (.imul, 1) := by decide +kernel
theorem dX12_six_79 : decode cX12_six 79 = .ok (.iload 5, 2) := by decide +kernel
theorem dX12_six_81 : decode cX12_six 81 = .ok (.iadd, 1) := by decide +kernel
theorem dX12_six_82 : decode cX12_six 82 = .ok (.ireturn, 1) := by decide +kernel
theorem dX12_isWord_0 : decode cX12_isWord 0 = .ok (.aload_n 0, 1) := by decide +kernel
theorem dX12_isWord_1 : decode cX12_isWord 1 = .ok (.getfield 174, 3) := by decide +kernel
theorem dX12_isWord_4 : decode cX12_isWord 4 = .ok (.ifCond .ne 26, 3) := by decide +kernel
theorem dX12_isWord_7 : decode cX12_isWord 7 = .ok (.aload_n 0, 1) := by decide +kernel
theorem dX12_isWord_8 : decode cX12_isWord 8 = .ok (.invokevirtual 199, 3) := by decide +kernel
theorem dX12_isWord_11 : decode cX12_isWord 11 = .ok (.iload_n 1, 1) := by decide +kernel
theorem dX12_isWord_12 : decode cX12_isWord 12 = .ok (.iload_n 2, 1) := by decide +kernel
theorem dX12_isWord_13 : decode cX12_isWord 13 = .ok (.iload_n 3, 1) := by decide +kernel
theorem dX12_isWord_14 : decode cX12_isWord 14 = .ok (.iload 4, 2) := by decide +kernel
theorem dX12_isWord_16 : decode cX12_isWord 16 = .ok (.iload 5, 2) := by decide +kernel
theorem dX12_isWord_18 : decode cX12_isWord 18 = .ok (.iload 6, 2) := by decide +kernel
theorem dX12_isWord_20 : decode cX12_isWord 20 = .ok (.invokestatic 203, 3) := by decide +kernel
theorem dX12_isWord_23 : decode cX12_isWord 23 = .ok (.if_icmp .ne 7, 3) := by decide +kernel
theorem dX12_isWord_26 : decode cX12_isWord 26 = .ok (.iconst 1, 1) := by decide +kernel
theorem dX12_isWord_27 : decode cX12_isWord 27 = .ok (.goto 4, 3) := by decide +kernel
theorem dX12_isWord_30 : decode cX12_isWord 30 = .ok (.iconst 0, 1) := by decide +kernel
theorem dX12_isWord_31 : decode cX12_isWord 31 = .ok (.ireturn, 1) := by decide +kernel
theorem dX12_skipWord_0 : decode cX12_skipWord 0 = .ok (.aload_n 0, 1) := by decide +kernel
theorem dX12_skipWord_1 : decode cX12_skipWord 1 = .ok (.aload_n 0, 1) := by decide +kernel
theorem dX12_skipWord_2 : decode cX12_skipWord 2 = .ok (.getfield 167, 3) := by decide +kernel
theorem dX12_skipWord_5 : decode cX12_skipWord 5 = .ok (.invokevirtual 170, 3) := by decide +kernel
theorem dX12_skipWord_8 : decode cX12_skipWord 8 = .ok (.invokestatic 196, 3) := by decide +kernel
theorem dX12_skipWord_11 : decode cX12_skipWord 11 = .ok (.ifCond .eq 16, 3) := by decide +kernel
theorem dX12_skipWord_14 : decode cX12_skipWord 14 = .ok (.aload_n 0, 1) := by decide +kernel
theorem dX12_skipWord_15 : decode cX12_skipWord 15 = .ok (.dup, 1) := by decide +kernel
theorem dX12_skipWord_16 : decode cX12_skipWord 16 = .ok (.getfield 167, 3) := by decide +kernel
theorem dX12_skipWord_19 : decode cX12_skipWord 19 = .ok (.iconst 1, 1) := by decide +kernel
theorem dX12_skipWord_20 : decode cX12_skipWord 20 = .ok (.iadd, 1) := by decide +kernel
theorem dX12_skipWord_21 : decode cX12_skipWord 21 = .ok (.putfield 167, 3) := by decide +kernel
theorem dX12_skipWord_24 : decode cX12_skipWord 24 = .ok (.goto (-24), 3) := by decide +kernel
theorem dX12_skipWord_27 : decode cX12_skipWord 27 = .ok (.return_, 1) := by decide +kernel
theorem dX12_takes_0 : decode cX12_takes 0 = .ok (.aload_n 0, 1) := by decide +kernel
theorem dX12_takes_1 : decode cX12_takes 1 = .ok (.iload_n 1, 1) := by decide +kernel
theorem dX12_takes_2 : decode cX12_takes 2 = .ok (.iload_n 2, 1) := by decide +kernel
theorem dX12_takes_3 : decode cX12_takes 3 = .ok (.iload_n 3, 1) := by decide +kernel
theorem dX12_takes_4 : decode cX12_takes 4 = .ok (.iload 4, 2) := by decide +kernel
theorem dX12_takes_6 : decode cX12_takes 6 = .ok (.iload 5, 2) := by decide +kernel
theorem dX12_takes_8 : decode cX12_takes 8 = .ok (.iload 6, 2) := by decide +kernel
theorem dX12_takes_10 : decode cX12_takes 10 = .ok (.invokevirtual 207, 3) := by decide +kernel
theorem dX12_takes_13 : decode cX12_takes 13 = .ok (.istore 7, 2) := by decide +kernel
theorem dX12_takes_15 : decode cX12_takes 15 = .ok (.iload 7, 2) := by decide +kernel
theorem dX12_takes_17 : decode cX12_takes 17 = .ok (.ifCond .eq 7, 3) := by decide +kernel
theorem dX12_takes_20 : decode cX12_takes 20 = .ok (.aload_n 0, 1) := by decide +kernel
theorem dX12_takes_21 : decode cX12_takes 21 = .ok (.invokevirtual 211, 3) := by decide +kernel
theorem dX12_takes_24 : decode cX12_takes 24 = .ok (.iload 7, 2) := by decide +kernel
theorem dX12_takes_26 : decode cX12_takes 26 = .ok (.ireturn, 1) := by decide +kernel
theorem dX12_sign_0 : decode cX12_sign 0 = .ok (.aload_n 0, 1) := by decide +kernel
theorem dX12_sign_1 : decode cX12_sign 1 = .ok (.getfield 174, 3) := by decide +kernel
theorem dX12_sign_4 : decode cX12_sign 4 = .ok (.ifCond .eq 4, 3) := by decide +kernel
theorem dX12_sign_7 : decode cX12_sign 7 = .ok (.return_, 1) := by decide +kernel
theorem dX12_sign_8 : decode cX12_sign 8 = .ok (.aload_n 0, 1) := by decide +kernel
theorem dX12_sign_9 : decode cX12_sign 9 = .ok (.invokevirtual 180, 3) := by decide +kernel
theorem dX12_sign_12 : decode cX12_sign 12 = .ok (.aload_n 0, 1) := by decide +kernel
theorem dX12_sign_13 : decode cX12_sign 13 = .ok (.aload_n 0, 1) := by decide +kernel
theorem dX12_sign_14 : decode cX12_sign 14 = .ok (.getfield 167, 3) := by decide +kernel
theorem dX12_sign_17 : decode cX12_sign 17 = .ok (.invokevirtual 170, 3) := by decide +kernel
theorem dX12_sign_20 : decode cX12_sign 20 = .ok (.iload_n 1, 1) := by decide +kernel
theorem dX12_sign_21 : decode cX12_sign 21 = .ok (.if_icmp .ne 16, 3) := by decide +kernel
theorem dX12_sign_24 : decode cX12_sign 24 = .ok (.aload_n 0, 1) := by decide +kernel
theorem dX12_sign_25 : decode cX12_sign 25 = .ok (.dup, 1) := by decide +kernel
theorem dX12_sign_26 : decode cX12_sign 26 = .ok (.getfield 167, 3) := by decide +kernel
theorem dX12_sign_29 : decode cX12_sign 29 = .ok (.iconst 1, 1) := by decide +kernel
theorem dX12_sign_30 : decode cX12_sign 30 = .ok (.iadd, 1) := by decide +kernel
theorem dX12_sign_31 : decode cX12_sign 31 = .ok (.putfield 167, 3) := by decide +kernel
theorem dX12_sign_34 : decode cX12_sign 34 = .ok (.goto 12, 3) := by decide +kernel
theorem dX12_sign_37 : decode cX12_sign 37 = .ok (.aload_n 0, 1) := by decide +kernel
theorem dX12_sign_38 : decode cX12_sign 38 = .ok (.iconst 1, 1) := by decide +kernel
theorem dX12_sign_39 : decode cX12_sign 39 = .ok (.aload_n 0, 1) := by decide +kernel
theorem dX12_sign_40 : decode cX12_sign 40 = .ok (.getfield 167, 3) := by decide +kernel
theorem dX12_sign_43 : decode cX12_sign 43 = .ok (.invokevirtual 187, 3) := by decide +kernel
theorem dX12_sign_46 : decode cX12_sign 46 = .ok (.return_, 1) := by decide +kernel
theorem dX12_takesSign_0 : decode cX12_takesSign 0 = .ok (.aload_n 0, 1) := by decide +kernel
theorem dX12_takesSign_1 : decode cX12_takesSign 1 = .ok (.getfield 174, 3) := by decide +kernel
theorem dX12_takesSign_4 : decode cX12_takesSign 4 = .ok (.ifCond .eq 5, 3) := by decide +kernel
theorem dX12_takesSign_7 : decode cX12_takesSign 7 = .ok (.iconst 0, 1) := by decide +kernel
theorem dX12_takesSign_8 : decode cX12_takesSign 8 = .ok (.ireturn, 1) := by decide +kernel
theorem dX12_takesSign_9 : decode cX12_takesSign 9 = .ok (.aload_n 0, 1) := by decide +kernel
theorem dX12_takesSign_10 : decode cX12_takesSign 10 = .ok (.invokevirtual 180, 3) := by decide +kernel
theorem dX12_takesSign_13 : decode cX12_takesSign 13 = .ok (.aload_n 0, 1) := by decide +kernel
theorem dX12_takesSign_14 : decode cX12_takesSign 14 = .ok (.aload_n 0, 1) := by decide +kernel
theorem dX12_takesSign_15 : decode cX12_takesSign 15 = .ok (.getfield 167, 3) := by decide +kernel
theorem dX12_takesSign_18 : decode cX12_takesSign 18 = .ok (.invokevirtual 170, 3) := by decide +kernel
theorem dX12_takesSign_21 : decode cX12_takesSign 21 = .ok (.iload_n 1, 1) := by decide +kernel
theorem dX12_takesSign_22 : decode cX12_takesSign 22 = .ok (.if_icmp .ne 7, 3) := by decide +kernel
theorem dX12_takesSign_25 : decode cX12_takesSign 25 = .ok (.iconst 1, 1) := by decide +kernel
theorem dX12_takesSign_26 : decode cX12_takesSign 26 = .ok (.goto 4, 3) := by decide +kernel
theorem dX12_takesSign_29 : decode cX12_takesSign 29 = .ok (.iconst 0, 1) := by decide +kernel
theorem dX12_takesSign_30 : decode cX12_takesSign 30 = .ok (.istore_n 2, 1) := by decide +kernel
theorem dX12_takesSign_31 : decode cX12_takesSign 31 = .ok (.iload_n 2, 1) := by decide +kernel
theorem dX12_takesSign_32 : decode cX12_takesSign 32 = .ok (.ifCond .eq 13, 3) := by decide +kernel
theorem dX12_takesSign_35 : decode cX12_takesSign 35 = .ok (.aload_n 0, 1) := by decide +kernel
theorem dX12_takesSign_36 : decode cX12_takesSign 36 = .ok (.dup, 1) := by decide +kernel
theorem dX12_takesSign_37 : decode cX12_takesSign 37 = .ok (.getfield 167, 3) := by decide +kernel
theorem dX12_takesSign_40 : decode cX12_takesSign 40 = .ok (.iconst 1, 1) := by decide +kernel
theorem dX12_takesSign_41 : decode cX12_takesSign 41 = .ok (.iadd, 1) := by decide +kernel
theorem dX12_takesSign_42 : decode cX12_takesSign 42 = .ok (.putfield 167, 3) := by decide +kernel
theorem dX12_takesSign_45 : decode cX12_takesSign 45 = .ok (.iload_n 2, 1) := by decide +kernel
theorem dX12_takesSign_46 : decode cX12_takesSign 46 = .ok (.ireturn, 1) := by decide +kernel
theorem dX12_starts_0 : decode cX12_starts 0 = .ok (.aload_n 0, 1) := by decide +kernel
theorem dX12_starts_1 : decode cX12_starts 1 = .ok (.iconst 0, 1) := by decide +kernel
theorem dX12_starts_2 : decode cX12_starts 2 = .ok (.putfield 161, 3) := by decide +kernel
theorem dX12_starts_5 : decode cX12_starts 5 = .ok (.aload_n 0, 1) := by decide +kernel
theorem dX12_starts_6 : decode cX12_starts 6 = .ok (.iload_n 1, 1) := by decide +kernel
theorem dX12_starts_7 : decode cX12_starts 7 = .ok (.putfield 164, 3) := by decide +kernel
theorem dX12_starts_10 : decode cX12_starts 10 = .ok (.aload_n 0, 1) := by decide +kernel
theorem dX12_starts_11 : decode cX12_starts 11 = .ok (.iconst 0, 1) := by decide +kernel
theorem dX12_starts_12 : decode cX12_starts 12 = .ok (.putfield 167, 3) := by decide +kernel
theorem dX12_starts_15 : decode cX12_starts 15 = .ok (.aload_n 0, 1) := by decide +kernel
theorem dX12_starts_16 : decode cX12_starts 16 = .ok (.iconst 0, 1) := by decide +kernel
theorem dX12_starts_17 : decode cX12_starts 17 = .ok (.putfield 174, 3) := by decide +kernel
theorem dX12_starts_20 : decode cX12_starts 20 = .ok (.aload_n 0, 1) := by decide +kernel
theorem dX12_starts_21 : decode cX12_starts 21 = .ok (.iconst (-1), 1) := by decide +kernel
theorem dX12_starts_22 : decode cX12_starts 22 = .ok (.putfield 177, 3) := by decide +kernel
theorem dX12_starts_25 : decode cX12_starts 25 = .ok (.aload_n 0, 1) := by decide +kernel
theorem dX12_starts_26 : decode cX12_starts 26 = .ok (.iconst 0, 1) := by decide +kernel
theorem dX12_starts_27 : decode cX12_starts 27 = .ok (.putfield 214, 3) := by decide +kernel
theorem dX12_starts_30 : decode cX12_starts 30 = .ok (.aload_n 0, 1) := by decide +kernel
theorem dX12_starts_31 : decode cX12_starts 31 = .ok (.iconst 0, 1) := by decide +kernel
theorem dX12_starts_32 : decode cX12_starts 32 = .ok (.putfield 217, 3) := by decide +kernel
theorem dX12_starts_35 : decode cX12_starts 35 = .ok (.aload_n 0, 1) := by decide +kernel
theorem dX12_starts_36 : decode cX12_starts 36 = .ok (.invokevirtual 180, 3) := by decide +kernel
theorem dX12_starts_39 : decode cX12_starts 39 = .ok (.return_, 1) := by decide +kernel
theorem dX12_ends_0 : decode cX12_ends 0 = .ok (.aload_n 0, 1) := by decide +kernel
theorem dX12_ends_1 : decode cX12_ends 1 = .ok (.aload_n 0, 1) := by decide +kernel
theorem dX12_ends_2 : decode cX12_ends 2 = .ok (.getfield 177, 3) := by decide +kernel
theorem dX12_ends_5 : decode cX12_ends 5 = .ok (.putfield 9, 3) := by decide +kernel
theorem dX12_ends_8 : decode cX12_ends 8 = .ok (.aload_n 0, 1) := by decide +kernel
theorem dX12_ends_9 : decode cX12_ends 9 = .ok (.getfield 174, 3) := by decide +kernel
theorem dX12_ends_12 : decode cX12_ends 12 = .ok (.bipush 10, 2) := by decide +kernel
theorem dX12_ends_14 : decode cX12_ends 14 = .ok (.isub, 1) := by decide +kernel
theorem dX12_ends_15 : decode cX12_ends 15 = .ok (.ireturn, 1) := by decide +kernel
theorem dX12_clause_0 : decode cX12_clause 0 = .ok (.aload_n 0, 1) := by decide +kernel
theorem dX12_clause_1 : decode cX12_clause 1 = .ok (.iconst 3, 1) := by decide +kernel
theorem dX12_clause_2 : decode cX12_clause 2 = .ok (.bipush 8, 2) := by decide +kernel
theorem dX12_clause_4 : decode cX12_clause 4 = .ok (.iconst 1, 1) := by decide +kernel
theorem dX12_clause_5 : decode cX12_clause 5 = .ok (.bipush 9, 2) := by decide +kernel
theorem dX12_clause_7 : decode cX12_clause 7 = .ok (.bipush 18, 2) := by decide +kernel
theorem dX12_clause_9 : decode cX12_clause 9 = .ok (.iconst 0, 1) := by decide +kernel
theorem dX12_clause_10 : decode cX12_clause 10 = .ok (.invokevirtual 207, 3) := by decide +kernel
theorem dX12_clause_13 : decode cX12_clause 13 = .ok (.ifCond .eq 7, 3) := by decide +kernel
theorem dX12_clause_16 : decode cX12_clause 16 = .ok (.iconst 0, 1) := by decide +kernel
theorem dX12_clause_17 : decode cX12_clause 17 = .ok (.goto 85, 3) := by decide +kernel
theorem dX12_clause_20 : decode cX12_clause 20 = .ok (.aload_n 0, 1) := by decide +kernel
theorem dX12_clause_21 : decode cX12_clause 21 = .ok (.bipush 7, 2) := by decide +kernel
theorem dX12_clause_23 : decode cX12_clause 23 = .ok (.bipush 21, 2) := by decide +kernel
theorem dX12_clause_25 : decode cX12_clause 25 = .ok (.iconst 5, 1) := by decide +kernel
theorem dX12_clause_26 : decode cX12_clause 26 = .ok (.bipush 19, 2) := by decide +kernel
theorem dX12_clause_28 : decode cX12_clause 28 = .ok (.bipush 20, 2) := by decide +kernel
theorem dX12_clause_30 : decode cX12_clause 30 = .ok (.iconst 0, 1) := by decide +kernel
theorem dX12_clause_31 : decode cX12_clause 31 = .ok (.invokevirtual 207, 3) := by decide +kernel
theorem dX12_clause_34 : decode cX12_clause 34 = .ok (.ifCond .eq 7, 3) := by decide +kernel
theorem dX12_clause_37 : decode cX12_clause 37 = .ok (.iconst 1, 1) := by decide +kernel
theorem dX12_clause_38 : decode cX12_clause 38 = .ok (.goto 64, 3) := by decide +kernel
theorem dX12_clause_41 : decode cX12_clause 41 = .ok (.aload_n 0, 1) := by decide +kernel
theorem dX12_clause_42 : decode cX12_clause 42 = .ok (.bipush 7, 2) := by decide +kernel
theorem dX12_clause_44 : decode cX12_clause 44 = .ok (.bipush 15, 2) := by decide +kernel
theorem dX12_clause_46 : decode cX12_clause 46 = .ok (.iconst 5, 1) := by decide +kernel
theorem dX12_clause_47 : decode cX12_clause 47 = .ok (.bipush 19, 2) := by decide +kernel
theorem dX12_clause_49 : decode cX12_clause 49 = .ok (.iconst 0, 1) := by decide +kernel
theorem dX12_clause_50 : decode cX12_clause 50 = .ok (.iconst 0, 1) := by decide +kernel
theorem dX12_clause_51 : decode cX12_clause 51 = .ok (.invokevirtual 207, 3) := by decide +kernel
theorem dX12_clause_54 : decode cX12_clause 54 = .ok (.ifCond .eq 7, 3) := by decide +kernel
theorem dX12_clause_57 : decode cX12_clause 57 = .ok (.iconst 2, 1) := by decide +kernel
theorem dX12_clause_58 : decode cX12_clause 58 = .ok (.goto 44, 3) := by decide +kernel
theorem dX12_clause_61 : decode cX12_clause 61 = .ok (.aload_n 0, 1) := by decide +kernel
theorem dX12_clause_62 : decode cX12_clause 62 = .ok (.bipush 15, 2) := by decide +kernel
theorem dX12_clause_64 : decode cX12_clause 64 = .ok (.bipush 6, 2) := by decide +kernel
theorem dX12_clause_66 : decode cX12_clause 66 = .ok (.bipush 6, 2) := by decide +kernel
theorem dX12_clause_68 : decode cX12_clause 68 = .ok (.iconst 0, 1) := by decide +kernel
theorem dX12_clause_69 : decode cX12_clause 69 = .ok (.iconst 0, 1) := by decide +kernel
theorem dX12_clause_70 : decode cX12_clause 70 = .ok (.iconst 0, 1) := by decide +kernel
theorem dX12_clause_71 : decode cX12_clause 71 = .ok (.invokevirtual 207, 3) := by decide +kernel
theorem dX12_clause_74 : decode cX12_clause 74 = .ok (.ifCond .eq 7, 3) := by decide +kernel
theorem dX12_clause_77 : decode cX12_clause 77 = .ok (.iconst 3, 1) := by decide +kernel
theorem dX12_clause_78 : decode cX12_clause 78 = .ok (.goto 24, 3) := by decide +kernel
theorem dX12_clause_81 : decode cX12_clause 81 = .ok (.aload_n 0, 1) := by decide +kernel
theorem dX12_clause_82 : decode cX12_clause 82 = .ok (.bipush 8, 2) := by decide +kernel
theorem dX12_clause_84 : decode cX12_clause 84 = .ok (.bipush 9, 2) := by decide +kernel
theorem dX12_clause_86 : decode cX12_clause 86 = .ok (.bipush 18, 2) := by decide +kernel
theorem dX12_clause_88 : decode cX12_clause 88 = .ok (.iconst 5, 1) := by decide +kernel
theorem dX12_clause_89 : decode cX12_clause 89 = .ok (.iconst 0, 1) := by decide +kernel
theorem dX12_clause_90 : decode cX12_clause 90 = .ok (.iconst 0, 1) := by decide +kernel
theorem dX12_clause_91 : decode cX12_clause 91 = .ok (.invokevirtual 207, 3) := by decide +kernel
theorem dX12_clause_94 : decode cX12_clause 94 = .ok (.ifCond .eq 7, 3) := by decide +kernel
theorem dX12_clause_97 : decode cX12_clause 97 = .ok (.iconst 4, 1) := by decide +kernel
theorem dX12_clause_98 : decode cX12_clause 98 = .ok (.goto 4, 3) := by decide +kernel
theorem dX12_clause_101 : decode cX12_clause 101 = .ok (.iconst (-1), 1) := by decide +kernel
theorem dX12_clause_102 : decode cX12_clause 102 = .ok (.istore_n 1, 1) := by decide +kernel
theorem dX12_clause_103 : decode cX12_clause 103 = .ok (.iload_n 1, 1) := by decide +kernel
theorem dX12_clause_104 : decode cX12_clause 104 = .ok (.iconst (-1), 1) := by decide +kernel
theorem dX12_clause_105 : decode cX12_clause 105 = .ok (.if_icmp .ne 15, 3) := by decide +kernel
theorem dX12_clause_108 : decode cX12_clause 108 = .ok (.aload_n 0, 1) := by decide +kernel
theorem dX12_clause_109 : decode cX12_clause 109 = .ok (.iconst 1, 1) := by decide +kernel
theorem dX12_clause_110 : decode cX12_clause 110 = .ok (.aload_n 0, 1) := by decide +kernel
theorem dX12_clause_111 : decode cX12_clause 111 = .ok (.getfield 167, 3) := by decide +kernel
theorem dX12_clause_114 : decode cX12_clause 114 = .ok (.invokevirtual 187, 3) := by decide +kernel
theorem dX12_clause_117 : decode cX12_clause 117 = .ok (.goto 52, 3) := by decide +kernel
theorem dX12_clause_120 : decode cX12_clause 120 = .ok (.aload_n 0, 1) := by decide +kernel
theorem dX12_clause_121 : decode cX12_clause 121 = .ok (.getfield 214, 3) := by decide +kernel
theorem dX12_clause_124 : decode cX12_clause 124 = .ok (.bipush 60, 2) := by decide +kernel
theorem dX12_clause_126 : decode cX12_clause 126 = .ok (.if_icmp .eq 34, 3) := by decide +kernel
theorem dX12_clause_129 : decode cX12_clause 129 = .ok (.iload_n 1, 1) := by decide +kernel
theorem dX12_clause_130 : decode cX12_clause 130 = .ok (.ifCond .ne 14, 3) := by decide +kernel
theorem dX12_clause_133 : decode cX12_clause 133 = .ok (.aload_n 0, 1) := by decide +kernel
theorem dX12_clause_134 : decode cX12_clause 134 = .ok (.getfield 20, 3) := by decide +kernel
theorem dX12_clause_137 : decode cX12_clause 137 = .ok (.iconst 0, 1) := by decide +kernel
theorem dX12_clause_138 : decode cX12_clause 138 = .ok (.iaload, 1) := by decide +kernel
theorem dX12_clause_139 : decode cX12_clause 139 = .ok (.bipush 8, 2) := by decide +kernel
theorem dX12_clause_141 : decode cX12_clause 141 = .ok (.if_icmp .eq 19, 3) := by decide +kernel
theorem dX12_clause_144 : decode cX12_clause 144 = .ok (.iload_n 1, 1) := by decide +kernel
theorem dX12_clause_145 : decode cX12_clause 145 = .ok (.iconst 1, 1) := by decide +kernel
theorem dX12_clause_146 : decode cX12_clause 146 = .ok (.if_icmp .ne 23, 3) := by decide +kernel
theorem dX12_clause_149 : decode cX12_clause 149 = .ok (.aload_n 0, 1) := by decide +kernel
theorem dX12_clause_150 : decode cX12_clause 150 = .ok (.getfield 20, 3) := by decide +kernel
theorem dX12_clause_153 : decode cX12_clause 153 = .ok (.iconst 1, 1) := by decide +kernel
theorem dX12_clause_154 : decode cX12_clause 154 = .ok (.iaload, 1) := by decide +kernel
theorem dX12_clause_155 : decode cX12_clause 155 = .ok (.bipush 8, 2) := by decide +kernel
theorem dX12_clause_157 : decode cX12_clause 157 = .ok (.if_icmp .ne 12, 3) := by decide +kernel
theorem dX12_clause_160 : decode cX12_clause 160 = .ok (.aload_n 0, 1) := by decide +kernel
theorem dX12_clause_161 : decode cX12_clause 161 = .ok (.iconst 3, 1) := by decide +kernel
theorem dX12_clause_162 : decode cX12_clause 162 = .ok (.aload_n 0, 1) := by decide +kernel
theorem dX12_clause_163 : decode cX12_clause 163 = .ok (.getfield 167, 3) := by decide +kernel
theorem dX12_clause_166 : decode cX12_clause 166 = .ok (.invokevirtual 187, 3) := by decide +kernel
theorem dX12_clause_169 : decode cX12_clause 169 = .ok (.aload_n 0, 1) := by decide +kernel
theorem dX12_clause_170 : decode cX12_clause 170 = .ok (.getfield 174, 3) := by decide +kernel
theorem dX12_clause_173 : decode cX12_clause 173 = .ok (.ifCond .eq 4, 3) := by decide +kernel
theorem dX12_clause_176 : decode cX12_clause 176 = .ok (.return_, 1) := by decide +kernel
theorem dX12_clause_177 : decode cX12_clause 177 = .ok (.aload_n 0, 1) := by decide +kernel
theorem dX12_clause_178 : decode cX12_clause 178 = .ok (.invokevirtual 211, 3) := by decide +kernel
theorem dX12_clause_181 : decode cX12_clause 181 = .ok (.aload_n 0, 1) := by decide +kernel
theorem dX12_clause_182 : decode cX12_clause 182 = .ok (.dup, 1) := by decide +kernel
theorem dX12_clause_183 : decode cX12_clause 183 = .ok (.getfield 214, 3) := by decide +kernel
theorem dX12_clause_186 : decode cX12_clause 186 = .ok (.iconst 1, 1) := by decide +kernel
theorem dX12_clause_187 : decode cX12_clause 187 = .ok (.iadd, 1) := by decide +kernel
theorem dX12_clause_188 : decode cX12_clause 188 = .ok (.putfield 214, 3) := by decide +kernel
theorem dX12_clause_191 : decode cX12_clause 191 = .ok (.iload_n 1, 1) := by decide +kernel
theorem dX12_clause_192 : decode cX12_clause 192 = .ok (.tableswitch 158 0 3 #[32, 67, 126, 142], 32) := by decide +kernel
theorem dX12_clause_224 : decode cX12_clause 224 = .ok (.aload_n 0, 1) := by decide +kernel
theorem dX12_clause_225 : decode cX12_clause 225 = .ok (.getfield 28, 3) := by decide +kernel
theorem dX12_clause_228 : decode cX12_clause 228 = .ok (.aload_n 0, 1) := by decide +kernel
theorem dX12_clause_229 : decode cX12_clause 229 = .ok (.getfield 20, 3) := by decide +kernel
theorem dX12_clause_232 : decode cX12_clause 232 = .ok (.iconst 0, 1) := by decide +kernel
theorem dX12_clause_233 : decode cX12_clause 233 = .ok (.iaload, 1) := by decide +kernel
theorem dX12_clause_234 : decode cX12_clause 234 = .ok (.aaload, 1) := by decide +kernel
theorem dX12_clause_235 : decode cX12_clause 235 = .ok (.astore_n 2, 1) := by decide +kernel
theorem dX12_clause_236 : decode cX12_clause 236 = .ok (.aload_n 2, 1) := by decide +kernel
theorem dX12_clause_237 : decode cX12_clause 237 = .ok (.iconst 0, 1) := by decide +kernel
theorem dX12_clause_238 : decode cX12_clause 238 = .ok (.aload_n 0, 1) := by decide +kernel
theorem dX12_clause_239 : decode cX12_clause 239 = .ok (.iconst 0, 1) := by decide +kernel
theorem dX12_clause_240 : decode cX12_clause 240 = .ok (.bipush 9, 2) := by decide +kernel
theorem dX12_clause_242 : decode cX12_clause 242 = .ok (.invokevirtual 220, 3) := by decide +kernel
theorem dX12_clause_245 : decode cX12_clause 245 = .ok (.iastore, 1) := by decide +kernel
theorem dX12_clause_246 : decode cX12_clause 246 = .ok (.aload_n 2, 1) := by decide +kernel
theorem dX12_clause_247 : decode cX12_clause 247 = .ok (.iconst 1, 1) := by decide +kernel
theorem dX12_clause_248 : decode cX12_clause 248 = .ok (.aload_n 0, 1) := by decide +kernel
theorem dX12_clause_249 : decode cX12_clause 249 = .ok (.iconst 0, 1) := by decide +kernel
theorem dX12_clause_250 : decode cX12_clause 250 = .ok (.bipush 9, 2) := by decide +kernel
theorem dX12_clause_252 : decode cX12_clause 252 = .ok (.invokevirtual 220, 3) := by decide +kernel
theorem dX12_clause_255 : decode cX12_clause 255 = .ok (.iastore, 1) := by decide +kernel
theorem dX12_clause_256 : decode cX12_clause 256 = .ok (.goto 107, 3) := by decide +kernel
theorem dX12_clause_259 : decode cX12_clause 259 = .ok (.aload_n 0, 1) := by decide +kernel
theorem dX12_clause_260 : decode cX12_clause 260 = .ok (.getfield 34, 3) := by decide +kernel
theorem dX12_clause_263 : decode cX12_clause 263 = .ok (.aload_n 0, 1) := by decide +kernel
theorem dX12_clause_264 : decode cX12_clause 264 = .ok (.getfield 20, 3) := by decide +kernel
theorem dX12_clause_267 : decode cX12_clause 267 = .ok (.iconst 1, 1) := by decide +kernel
theorem dX12_clause_268 : decode cX12_clause 268 = .ok (.iaload, 1) := by decide +kernel
theorem dX12_clause_269 : decode cX12_clause 269 = .ok (.aaload, 1) := by decide +kernel
theorem dX12_clause_270 : decode cX12_clause 270 = .ok (.astore_n 2, 1) := by decide +kernel
theorem dX12_clause_271 : decode cX12_clause 271 = .ok (.aload_n 2, 1) := by decide +kernel
theorem dX12_clause_272 : decode cX12_clause 272 = .ok (.iconst 0, 1) := by decide +kernel
theorem dX12_clause_273 : decode cX12_clause 273 = .ok (.aload_n 0, 1) := by decide +kernel
theorem dX12_clause_274 : decode cX12_clause 274 = .ok (.iconst 0, 1) := by decide +kernel
theorem dX12_clause_275 : decode cX12_clause 275 = .ok (.bipush 23, 2) := by decide +kernel
theorem dX12_clause_277 : decode cX12_clause 277 = .ok (.invokevirtual 220, 3) := by decide +kernel
theorem dX12_clause_280 : decode cX12_clause 280 = .ok (.iastore, 1) := by decide +kernel
theorem dX12_clause_281 : decode cX12_clause 281 = .ok (.aload_n 2, 1) := by decide +kernel
theorem dX12_clause_282 : decode cX12_clause 282 = .ok (.iconst 1, 1) := by decide +kernel
theorem dX12_clause_283 : decode cX12_clause 283 = .ok (.aload_n 0, 1) := by decide +kernel
theorem dX12_clause_284 : decode cX12_clause 284 = .ok (.iconst 0, 1) := by decide +kernel
theorem dX12_clause_285 : decode cX12_clause 285 = .ok (.bipush 22, 2) := by decide +kernel
theorem dX12_clause_287 : decode cX12_clause 287 = .ok (.invokevirtual 220, 3) := by decide +kernel
theorem dX12_clause_290 : decode cX12_clause 290 = .ok (.iastore, 1) := by decide +kernel
theorem dX12_clause_291 : decode cX12_clause 291 = .ok (.aload_n 2, 1) := by decide +kernel
theorem dX12_clause_292 : decode cX12_clause 292 = .ok (.iconst 2, 1) := by decide +kernel
theorem dX12_clause_293 : decode cX12_clause 293 = .ok (.aload_n 0, 1) := by decide +kernel
theorem dX12_clause_294 : decode cX12_clause 294 = .ok (.aload_n 2, 1) := by decide +kernel
theorem dX12_clause_295 : decode cX12_clause 295 = .ok (.iconst 1, 1) := by decide +kernel
theorem dX12_clause_296 : decode cX12_clause 296 = .ok (.iaload, 1) := by decide +kernel
theorem dX12_clause_297 : decode cX12_clause 297 = .ok (.iconst 1, 1) := by decide +kernel
theorem dX12_clause_298 : decode cX12_clause 298 = .ok (.iadd, 1) := by decide +kernel
theorem dX12_clause_299 : decode cX12_clause 299 = .ok (.bipush 23, 2) := by decide +kernel
theorem dX12_clause_301 : decode cX12_clause 301 = .ok (.invokevirtual 220, 3) := by decide +kernel
theorem dX12_clause_304 : decode cX12_clause 304 = .ok (.iastore, 1) := by decide +kernel
theorem dX12_clause_305 : decode cX12_clause 305 = .ok (.aload_n 2, 1) := by decide +kernel
theorem dX12_clause_306 : decode cX12_clause 306 = .ok (.iconst 3, 1) := by decide +kernel
theorem dX12_clause_307 : decode cX12_clause 307 = .ok (.aload_n 0, 1) := by decide +kernel
theorem dX12_clause_308 : decode cX12_clause 308 = .ok (.iconst 0, 1) := by decide +kernel
theorem dX12_clause_309 : decode cX12_clause 309 = .ok (.bipush 9, 2) := by decide +kernel
theorem dX12_clause_311 : decode cX12_clause 311 = .ok (.invokevirtual 220, 3) := by decide +kernel
theorem dX12_clause_314 : decode cX12_clause 314 = .ok (.iastore, 1) := by decide +kernel
theorem dX12_clause_315 : decode cX12_clause 315 = .ok (.goto 48, 3) := by decide +kernel
theorem dX12_clause_318 : decode cX12_clause 318 = .ok (.aload_n 0, 1) := by decide +kernel
theorem dX12_clause_319 : decode cX12_clause 319 = .ok (.getfield 20, 3) := by decide +kernel
theorem dX12_clause_322 : decode cX12_clause 322 = .ok (.iconst 2, 1) := by decide +kernel
theorem dX12_clause_323 : decode cX12_clause 323 = .ok (.aload_n 0, 1) := by decide +kernel
theorem dX12_clause_324 : decode cX12_clause 324 = .ok (.iconst 0, 1) := by decide +kernel
theorem dX12_clause_325 : decode cX12_clause 325 = .ok (.bipush 23, 2) := by decide +kernel
theorem dX12_clause_327 : decode cX12_clause 327 = .ok (.invokevirtual 220, 3) := by decide +kernel
theorem dX12_clause_330 : decode cX12_clause 330 = .ok (.iastore, 1) := by decide +kernel
theorem dX12_clause_331 : decode cX12_clause 331 = .ok (.goto 32, 3) := by decide +kernel
theorem dX12_clause_334 : decode cX12_clause 334 = .ok (.aload_n 0, 1) := by decide +kernel
theorem dX12_clause_335 : decode cX12_clause 335 = .ok (.getfield 20, 3) := by decide +kernel
theorem dX12_clause_338 : decode cX12_clause 338 = .ok (.iconst 3, 1) := by decide +kernel
theorem dX12_clause_339 : decode cX12_clause 339 = .ok (.aload_n 0, 1) := by decide +kernel
theorem dX12_clause_340 : decode cX12_clause 340 = .ok (.iconst 1, 1) := by decide +kernel
theorem dX12_clause_341 : decode cX12_clause 341 = .ok (.bipush 23, 2) := by decide +kernel
theorem dX12_clause_343 : decode cX12_clause 343 = .ok (.invokevirtual 220, 3) := by decide +kernel
theorem dX12_clause_346 : decode cX12_clause 346 = .ok (.iastore, 1) := by decide +kernel
theorem dX12_clause_347 : decode cX12_clause 347 = .ok (.goto 16, 3) := by decide +kernel
theorem dX12_clause_350 : decode cX12_clause 350 = .ok (.aload_n 0, 1) := by decide +kernel
theorem dX12_clause_351 : decode cX12_clause 351 = .ok (.getfield 20, 3) := by decide +kernel
theorem dX12_clause_354 : decode cX12_clause 354 = .ok (.iconst 4, 1) := by decide +kernel
theorem dX12_clause_355 : decode cX12_clause 355 = .ok (.aload_n 0, 1) := by decide +kernel
theorem dX12_clause_356 : decode cX12_clause 356 = .ok (.iconst 0, 1) := by decide +kernel
theorem dX12_clause_357 : decode cX12_clause 357 = .ok (.bipush 99, 2) := by decide +kernel
theorem dX12_clause_359 : decode cX12_clause 359 = .ok (.invokevirtual 220, 3) := by decide +kernel
theorem dX12_clause_362 : decode cX12_clause 362 = .ok (.iastore, 1) := by decide +kernel
theorem dX12_clause_363 : decode cX12_clause 363 = .ok (.iload_n 1, 1) := by decide +kernel
theorem dX12_clause_364 : decode cX12_clause 364 = .ok (.iconst 2, 1) := by decide +kernel
theorem dX12_clause_365 : decode cX12_clause 365 = .ok (.if_icmp .ge 24, 3) := by decide +kernel
theorem dX12_clause_368 : decode cX12_clause 368 = .ok (.aload_n 0, 1) := by decide +kernel
theorem dX12_clause_369 : decode cX12_clause 369 = .ok (.getfield 20, 3) := by decide +kernel
theorem dX12_clause_372 : decode cX12_clause 372 = .ok (.iload_n 1, 1) := by decide +kernel
theorem dX12_clause_373 : decode cX12_clause 373 = .ok (.dup2, 1) := by decide +kernel
theorem dX12_clause_374 : decode cX12_clause 374 = .ok (.iaload, 1) := by decide +kernel
theorem dX12_clause_375 : decode cX12_clause 375 = .ok (.aload_n 0, 1) := by decide +kernel
theorem dX12_clause_376 : decode cX12_clause 376 = .ok (.getfield 174, 3) := by decide +kernel
theorem dX12_clause_379 : decode cX12_clause 379 = .ok (.ifCond .ne 7, 3) := by decide +kernel
theorem dX12_clause_382 : decode cX12_clause 382 = .ok (.iconst 1, 1) := by decide +kernel
theorem dX12_clause_383 : decode cX12_clause 383 = .ok (.goto 4, 3) := by decide +kernel
theorem dX12_clause_386 : decode cX12_clause 386 = .ok (.iconst 0, 1) := by decide +kernel
theorem dX12_clause_387 : decode cX12_clause 387 = .ok (.iadd, 1) := by decide +kernel
theorem dX12_clause_388 : decode cX12_clause 388 = .ok (.iastore, 1) := by decide +kernel
theorem dX12_clause_389 : decode cX12_clause 389 = .ok (.aload_n 0, 1) := by decide +kernel
theorem dX12_clause_390 : decode cX12_clause 390 = .ok (.bipush 59, 2) := by decide +kernel
theorem dX12_clause_392 : decode cX12_clause 392 = .ok (.invokevirtual 224, 3) := by decide +kernel
theorem dX12_clause_395 : decode cX12_clause 395 = .ok (.return_, 1) := by decide +kernel
theorem dX12_pool_0 : decode cX12_pool 0 = .ok (.aload_n 0, 1) := by decide +kernel
theorem dX12_pool_1 : decode cX12_pool 1 = .ok (.iconst 0, 1) := by decide +kernel
theorem dX12_pool_2 : decode cX12_pool 2 = .ok (.putfield 158, 3) := by decide +kernel
theorem dX12_pool_5 : decode cX12_pool 5 = .ok (.aload_n 0, 1) := by decide +kernel
theorem dX12_pool_6 : decode cX12_pool 6 = .ok (.iload_n 1, 1) := by decide +kernel
theorem dX12_pool_7 : decode cX12_pool 7 = .ok (.iconst 0, 1) := by decide +kernel
theorem dX12_pool_8 : decode cX12_pool 8 = .ok (.aload_n 0, 1) := by decide +kernel
theorem dX12_pool_9 : decode cX12_pool 9 = .ok (.getfield 161, 3) := by decide +kernel
theorem dX12_pool_12 : decode cX12_pool 12 = .ok (.invokestatic 192, 3) := by decide +kernel
theorem dX12_pool_15 : decode cX12_pool 15 = .ok (.ifCond .ne 7, 3) := by decide +kernel
theorem dX12_pool_18 : decode cX12_pool 18 = .ok (.iconst 1, 1) := by decide +kernel
theorem dX12_pool_19 : decode cX12_pool 19 = .ok (.goto 4, 3) := by decide +kernel
theorem dX12_pool_22 : decode cX12_pool 22 = .ok (.iconst 0, 1) := by decide +kernel
theorem dX12_pool_23 : decode cX12_pool 23 = .ok (.iconst 1, 1) := by decide +kernel
theorem dX12_pool_24 : decode cX12_pool 24 = .ok (.iconst 1, 1) := by decide +kernel
theorem dX12_pool_25 : decode cX12_pool 25 = .ok (.invokevirtual 228, 3) := by decide +kernel
theorem dX12_pool_28 : decode cX12_pool 28 = .ok (.ifCond .eq 5, 3) := by decide +kernel
theorem dX12_pool_31 : decode cX12_pool 31 = .ok (.iconst 0, 1) := by decide +kernel
theorem dX12_pool_32 : decode cX12_pool 32 = .ok (.ireturn, 1) := by decide +kernel
theorem dX12_pool_33 : decode cX12_pool 33 = .ok (.aload_n 0, 1) := by decide +kernel
theorem dX12_pool_34 : decode cX12_pool 34 = .ok (.iload_n 1, 1) := by decide +kernel
theorem dX12_pool_35 : decode cX12_pool 35 = .ok (.invokevirtual 232, 3) := by decide +kernel
theorem dX12_pool_38 : decode cX12_pool 38 = .ok (.aload_n 0, 1) := by decide +kernel
theorem dX12_pool_39 : decode cX12_pool 39 = .ok (.invokevirtual 152, 3) := by decide +kernel
theorem dX12_pool_42 : decode cX12_pool 42 = .ok (.aload_n 0, 1) := by decide +kernel
theorem dX12_pool_43 : decode cX12_pool 43 = .ok (.getfield 174, 3) := by decide +kernel
theorem dX12_pool_46 : decode cX12_pool 46 = .ok (.ifCond .ne 25, 3) := by decide +kernel
theorem dX12_pool_49 : decode cX12_pool 49 = .ok (.aload_n 0, 1) := by decide +kernel
theorem dX12_pool_50 : decode cX12_pool 50 = .ok (.getfield 167, 3) := by decide +kernel
theorem dX12_pool_53 : decode cX12_pool 53 = .ok (.aload_n 0, 1) := by decide +kernel
theorem dX12_pool_54 : decode cX12_pool 54 = .ok (.getfield 164, 3) := by decide +kernel
theorem dX12_pool_57 : decode cX12_pool 57 = .ok (.if_icmp .ge 14, 3) := by decide +kernel
theorem dX12_pool_60 : decode cX12_pool 60 = .ok (.aload_n 0, 1) := by decide +kernel
theorem dX12_pool_61 : decode cX12_pool 61 = .ok (.invokevirtual 235, 3) := by decide +kernel
theorem dX12_pool_64 : decode cX12_pool 64 = .ok (.aload_n 0, 1) := by decide +kernel
theorem dX12_pool_65 : decode cX12_pool 65 = .ok (.invokevirtual 180, 3) := by decide +kernel
theorem dX12_pool_68 : decode cX12_pool 68 = .ok (.goto (-26), 3) := by decide +kernel
theorem dX12_pool_71 : decode cX12_pool 71 = .ok (.aload_n 0, 1) := by decide +kernel
theorem dX12_pool_72 : decode cX12_pool 72 = .ok (.getfield 174, 3) := by decide +kernel
theorem dX12_pool_75 : decode cX12_pool 75 = .ok (.ifCond .eq 8, 3) := by decide +kernel
theorem dX12_pool_78 : decode cX12_pool 78 = .ok (.aload_n 0, 1) := by decide +kernel
theorem dX12_pool_79 : decode cX12_pool 79 = .ok (.invokevirtual 238, 3) := by decide +kernel
theorem dX12_pool_82 : decode cX12_pool 82 = .ok (.ireturn, 1) := by decide +kernel
theorem dX12_pool_83 : decode cX12_pool 83 = .ok (.aload_n 0, 1) := by decide +kernel
theorem dX12_pool_84 : decode cX12_pool 84 = .ok (.iconst (-1), 1) := by decide +kernel
theorem dX12_pool_85 : decode cX12_pool 85 = .ok (.putfield 9, 3) := by decide +kernel
theorem dX12_pool_88 : decode cX12_pool 88 = .ok (.aload_n 0, 1) := by decide +kernel
theorem dX12_pool_89 : decode cX12_pool 89 = .ok (.invokevirtual 155, 3) := by decide +kernel
theorem dX12_pool_92 : decode cX12_pool 92 = .ok (.aload_n 0, 1) := by decide +kernel
theorem dX12_pool_93 : decode cX12_pool 93 = .ok (.getfield 23, 3) := by decide +kernel
theorem dX12_pool_96 : decode cX12_pool 96 = .ok (.iconst 1, 1) := by decide +kernel
theorem dX12_pool_97 : decode cX12_pool 97 = .ok (.iaload, 1) := by decide +kernel
theorem dX12_pool_98 : decode cX12_pool 98 = .ok (.ireturn, 1) := by decide +kernel
theorem dX12_stands_0 : decode cX12_stands 0 = .ok (.iconst 0, 1) := by decide +kernel
theorem dX12_stands_1 : decode cX12_stands 1 = .ok (.istore_n 1, 1) := by decide +kernel
theorem dX12_stands_2 : decode cX12_stands 2 = .ok (.iload_n 1, 1) := by decide +kernel
theorem dX12_stands_3 : decode cX12_stands 3 = .ok (.iconst 5, 1) := by decide +kernel
theorem dX12_stands_4 : decode cX12_stands 4 = .ok (.if_icmp .ge 21, 3) := by decide +kernel
theorem dX12_stands_7 : decode cX12_stands 7 = .ok (.aload_n 0, 1) := by decide +kernel
theorem dX12_stands_8 : decode cX12_stands 8 = .ok (.getfield 23, 3) := by decide +kernel
theorem dX12_stands_11 : decode cX12_stands 11 = .ok (.iload_n 1, 1) := by decide +kernel
theorem dX12_stands_12 : decode cX12_stands 12 = .ok (.aload_n 0, 1) := by decide +kernel
theorem dX12_stands_13 : decode cX12_stands 13 = .ok (.getfield 20, 3) := by decide +kernel
theorem dX12_stands_16 : decode cX12_stands 16 = .ok (.iload_n 1, 1) := by decide +kernel
theorem dX12_stands_17 : decode cX12_stands 17 = .ok (.iaload, 1) := by decide +kernel
theorem dX12_stands_18 : decode cX12_stands 18 = .ok (.iastore, 1) := by decide +kernel
theorem dX12_stands_19 : decode cX12_stands 19 = .ok (.iinc 1 1, 3) := by decide +kernel
theorem dX12_stands_22 : decode cX12_stands 22 = .ok (.goto (-20), 3) := by decide +kernel
theorem dX12_stands_25 : decode cX12_stands 25 = .ok (.iconst 0, 1) := by decide +kernel
theorem dX12_stands_26 : decode cX12_stands 26 = .ok (.istore_n 1, 1) := by decide +kernel
theorem dX12_stands_27 : decode cX12_stands 27 = .ok (.iload_n 1, 1) := by decide +kernel
theorem dX12_stands_28 : decode cX12_stands 28 = .ok (.aload_n 0, 1) := by decide +kernel
theorem dX12_stands_29 : decode cX12_stands 29 = .ok (.getfield 23, 3) := by decide +kernel
theorem dX12_stands_32 : decode cX12_stands 32 = .ok (.iconst 0, 1) := by decide +kernel
theorem dX12_stands_33 : decode cX12_stands 33 = .ok (.iaload, 1) := by decide +kernel
theorem dX12_stands_34 : decode cX12_stands 34 = .ok (.if_icmp .ge 38, 3) := by decide +kernel
theorem dX12_stands_37 : decode cX12_stands 37 = .ok (.iconst 0, 1) := by decide +kernel
theorem dX12_stands_38 : decode cX12_stands 38 = .ok (.istore_n 2, 1) := by decide +kernel
theorem dX12_stands_39 : decode cX12_stands 39 = .ok (.iload_n 2, 1) := by decide +kernel
theorem dX12_stands_40 : decode cX12_stands 40 = .ok (.iconst 2, 1) := by decide +kernel
theorem dX12_stands_41 : decode cX12_stands 41 = .ok (.if_icmp .ge 25, 3) := by decide +kernel
theorem dX12_stands_44 : decode cX12_stands 44 = .ok (.aload_n 0, 1) := by decide +kernel
theorem dX12_stands_45 : decode cX12_stands 45 = .ok (.getfield 31, 3) := by decide +kernel
theorem dX12_stands_48 : decode cX12_stands 48 = .ok (.iload_n 1, 1) := by decide +kernel
theorem dX12_stands_49 : decode cX12_stands 49 = .ok (.aaload, 1) := by decide +kernel
theorem dX12_stands_50 : decode cX12_stands 50 = .ok (.iload_n 2, 1) := by decide +kernel
theorem dX12_stands_51 : decode cX12_stands 51 = .ok (.aload_n 0, 1) := by decide +kernel
theorem dX12_stands_52 : decode cX12_stands 52 = .ok (.getfield 28, 3) := by decide +kernel
theorem dX12_stands_55 : decode cX12_stands 55 = .ok (.iload_n 1, 1) := by decide +kernel
theorem dX12_stands_56 : decode cX12_stands 56 = .ok (.aaload, 1) := by decide +kernel
theorem dX12_stands_57 : decode cX12_stands 57 = .ok (.iload_n 2, 1) := by decide +kernel
theorem dX12_stands_58 : decode cX12_stands 58 = .ok (.iaload, 1) := by decide +kernel
theorem dX12_stands_59 : decode cX12_stands 59 = .ok (.iastore, 1) := by decide +kernel
theorem dX12_stands_60 : decode cX12_stands 60 = .ok (.iinc 2 1, 3) := by decide +kernel
theorem dX12_stands_63 : decode cX12_stands 63 = .ok (.goto (-24), 3) := by decide +kernel
theorem dX12_stands_66 : decode cX12_stands 66 = .ok (.iinc 1 1, 3) := by decide +kernel
theorem dX12_stands_69 : decode cX12_stands 69 = .ok (.goto (-42), 3) := by decide +kernel
theorem dX12_stands_72 : decode cX12_stands 72 = .ok (.iconst 0, 1) := by decide +kernel
theorem dX12_stands_73 : decode cX12_stands 73 = .ok (.istore_n 1, 1) := by decide +kernel
theorem dX12_stands_74 : decode cX12_stands 74 = .ok (.iload_n 1, 1) := by decide +kernel
theorem dX12_stands_75 : decode cX12_stands 75 = .ok (.bipush 8, 2) := by decide +kernel
theorem dX12_stands_77 : decode cX12_stands 77 = .ok (.if_icmp .ge 62, 3) := by decide +kernel
theorem dX12_stands_80 : decode cX12_stands 80 = .ok (.iconst 0, 1) := by decide +kernel
theorem dX12_stands_81 : decode cX12_stands 81 = .ok (.istore_n 2, 1) := by decide +kernel
theorem dX12_stands_82 : decode cX12_stands 82 = .ok (.iload_n 2, 1) := by decide +kernel
theorem dX12_stands_83 : decode cX12_stands 83 = .ok (.iconst 4, 1) := by decide +kernel
theorem dX12_stands_84 : decode cX12_stands 84 = .ok (.if_icmp .ge 35, 3) := by decide +kernel
theorem dX12_stands_87 : decode cX12_stands 87 = .ok (.iload_n 1, 1) := by decide +kernel
theorem dX12_stands_88 : decode cX12_stands 88 = .ok (.aload_n 0, 1) := by decide +kernel
theorem dX12_stands_89 : decode cX12_stands 89 = .ok (.getfield 23, 3) := by decide +kernel
theorem dX12_stands_92 : decode cX12_stands 92 = .ok (.iconst 1, 1) := by decide +kernel
theorem dX12_stands_93 : decode cX12_stands 93 = .ok (.iaload, 1) := by decide +kernel
theorem dX12_stands_94 : decode cX12_stands 94 = .ok (.if_icmp .ge 25, 3) := by decide +kernel
theorem dX12_stands_97 : decode cX12_stands 97 = .ok (.aload_n 0, 1) := by decide +kernel
theorem dX12_stands_98 : decode cX12_stands 98 = .ok (.getfield 37, 3) := by decide +kernel
theorem dX12_stands_101 : decode cX12_stands 101 = .ok (.iload_n 1, 1) := by decide +kernel
theorem dX12_stands_102 : decode cX12_stands 102 = .ok (.aaload, 1) := by decide +kernel
theorem dX12_stands_103 : decode cX12_stands 103 = .ok (.iload_n 2, 1) := by decide +kernel
theorem dX12_stands_104 : decode cX12_stands 104 = .ok (.aload_n 0, 1) := by decide +kernel
theorem dX12_stands_105 : decode cX12_stands 105 = .ok (.getfield 34, 3) := by decide +kernel
theorem dX12_stands_108 : decode cX12_stands 108 = .ok (.iload_n 1, 1) := by decide +kernel
theorem dX12_stands_109 : decode cX12_stands 109 = .ok (.aaload, 1) := by decide +kernel
theorem dX12_stands_110 : decode cX12_stands 110 = .ok (.iload_n 2, 1) := by decide +kernel
theorem dX12_stands_111 : decode cX12_stands 111 = .ok (.iaload, 1) := by decide +kernel
theorem dX12_stands_112 : decode cX12_stands 112 = .ok (.iastore, 1) := by decide +kernel
theorem dX12_stands_113 : decode cX12_stands 113 = .ok (.iinc 2 1, 3) := by decide +kernel
theorem dX12_stands_116 : decode cX12_stands 116 = .ok (.goto (-34), 3) := by decide +kernel
theorem dX12_stands_119 : decode cX12_stands 119 = .ok (.aload_n 0, 1) := by decide +kernel
theorem dX12_stands_120 : decode cX12_stands 120 = .ok (.getfield 40, 3) := by decide +kernel
theorem dX12_stands_123 : decode cX12_stands 123 = .ok (.iload_n 1, 1) := by decide +kernel
theorem dX12_stands_124 : decode cX12_stands 124 = .ok (.iconst 0, 1) := by decide +kernel
theorem dX12_stands_125 : decode cX12_stands 125 = .ok (.iastore, 1) := by decide +kernel
theorem dX12_stands_126 : decode cX12_stands 126 = .ok (.aload_n 0, 1) := by decide +kernel
theorem dX12_stands_127 : decode cX12_stands 127 = .ok (.getfield 67, 3) := by decide +kernel
theorem dX12_stands_130 : decode cX12_stands 130 = .ok (.iload_n 1, 1) := by decide +kernel
theorem dX12_stands_131 : decode cX12_stands 131 = .ok (.iconst 0, 1) := by decide +kernel
theorem dX12_stands_132 : decode cX12_stands 132 = .ok (.bastore, 1) := by decide +kernel
theorem dX12_stands_133 : decode cX12_stands 133 = .ok (.iinc 1 1, 3) := by decide +kernel
theorem dX12_stands_136 : decode cX12_stands 136 = .ok (.goto (-62), 3) := by decide +kernel
theorem dX12_stands_139 : decode cX12_stands 139 = .ok (.aload_n 0, 1) := by decide +kernel
theorem dX12_stands_140 : decode cX12_stands 140 = .ok (.iconst 0, 1) := by decide +kernel
theorem dX12_stands_141 : decode cX12_stands 141 = .ok (.putfield 241, 3) := by decide +kernel
theorem dX12_stands_144 : decode cX12_stands 144 = .ok (.aload_n 0, 1) := by decide +kernel
theorem dX12_stands_145 : decode cX12_stands 145 = .ok (.iconst 0, 1) := by decide +kernel
theorem dX12_stands_146 : decode cX12_stands 146 = .ok (.putfield 244, 3) := by decide +kernel
theorem dX12_stands_149 : decode cX12_stands 149 = .ok (.aload_n 0, 1) := by decide +kernel
theorem dX12_stands_150 : decode cX12_stands 150 = .ok (.iconst 0, 1) := by decide +kernel
theorem dX12_stands_151 : decode cX12_stands 151 = .ok (.putfield 247, 3) := by decide +kernel
theorem dX12_stands_154 : decode cX12_stands 154 = .ok (.aload_n 0, 1) := by decide +kernel
theorem dX12_stands_155 : decode cX12_stands 155 = .ok (.iconst 0, 1) := by decide +kernel
theorem dX12_stands_156 : decode cX12_stands 156 = .ok (.putfield 250, 3) := by decide +kernel
theorem dX12_stands_159 : decode cX12_stands 159 = .ok (.return_, 1) := by decide +kernel
theorem dX12_notes_0 : decode cX12_notes 0 = .ok (.aload_n 0, 1) := by decide +kernel
theorem dX12_notes_1 : decode cX12_notes 1 = .ok (.getfield 174, 3) := by decide +kernel
theorem dX12_notes_4 : decode cX12_notes 4 = .ok (.ifCond .eq 4, 3) := by decide +kernel
theorem dX12_notes_7 : decode cX12_notes 7 = .ok (.return_, 1) := by decide +kernel
theorem dX12_notes_8 : decode cX12_notes 8 = .ok (.aload_n 0, 1) := by decide +kernel
theorem dX12_notes_9 : decode cX12_notes 9 = .ok (.getfield 49, 3) := by decide +kernel
theorem dX12_notes_12 : decode cX12_notes 12 = .ok (.iconst 2, 1) := by decide +kernel
theorem dX12_notes_13 : decode cX12_notes 13 = .ok (.aload_n 0, 1) := by decide +kernel
theorem dX12_notes_14 : decode cX12_notes 14 = .ok (.getfield 253, 3) := by decide +kernel
theorem dX12_notes_17 : decode cX12_notes 17 = .ok (.imul, 1) := by decide +kernel
theorem dX12_notes_18 : decode cX12_notes 18 = .ok (.iload_n 1, 1) := by decide +kernel
theorem dX12_notes_19 : decode cX12_notes 19 = .ok (.iastore, 1) := by decide +kernel
theorem dX12_notes_20 : decode cX12_notes 20 = .ok (.aload_n 0, 1) := by decide +kernel
theorem dX12_notes_21 : decode cX12_notes 21 = .ok (.getfield 49, 3) := by decide +kernel
theorem dX12_notes_24 : decode cX12_notes 24 = .ok (.iconst 2, 1) := by decide +kernel
theorem dX12_notes_25 : decode cX12_notes 25 = .ok (.aload_n 0, 1) := by decide +kernel
theorem dX12_notes_26 : decode cX12_notes 26 = .ok (.getfield 253, 3) := by decide +kernel
theorem dX12_notes_29 : decode cX12_notes 29 = .ok (.imul, 1) := by decide +kernel
theorem dX12_notes_30 : decode cX12_notes 30 = .ok (.iconst 1, 1) := by decide +kernel
theorem dX12_notes_31 : decode cX12_notes 31 = .ok (.iadd, 1) := by decide +kernel
theorem dX12_notes_32 : decode cX12_notes 32 = .ok (.iload_n 2, 1) := by decide +kernel
theorem dX12_notes_33 : decode cX12_notes 33 = .ok (.iastore, 1) := by decide +kernel
theorem dX12_notes_34 : decode cX12_notes 34 = .ok (.aload_n 0, 1) := by decide +kernel
theorem dX12_notes_35 : decode cX12_notes 35 = .ok (.dup, 1) := by decide +kernel
theorem dX12_notes_36 : decode cX12_notes 36 = .ok (.getfield 253, 3) := by decide +kernel
theorem dX12_notes_39 : decode cX12_notes 39 = .ok (.iconst 1, 1) := by decide +kernel
theorem dX12_notes_40 : decode cX12_notes 40 = .ok (.iadd, 1) := by decide +kernel
theorem dX12_notes_41 : decode cX12_notes 41 = .ok (.putfield 253, 3) := by decide +kernel
theorem dX12_notes_44 : decode cX12_notes 44 = .ok (.return_, 1) := by decide +kernel
theorem dX12_opens_0 : decode cX12_opens 0 = .ok (.aload_n 0, 1) := by decide +kernel
theorem dX12_opens_1 : decode cX12_opens 1 = .ok (.getfield 174, 3) := by decide +kernel
theorem dX12_opens_4 : decode cX12_opens 4 = .ok (.ifCond .ne 24, 3) := by decide +kernel
theorem dX12_opens_7 : decode cX12_opens 7 = .ok (.aload_n 0, 1) := by decide +kernel
theorem dX12_opens_8 : decode cX12_opens 8 = .ok (.getfield 217, 3) := by decide +kernel
theorem dX12_opens_11 : decode cX12_opens 11 = .ok (.bipush 6, 2) := by decide +kernel
theorem dX12_opens_13 : decode cX12_opens 13 = .ok (.if_icmp .ne 15, 3) := by decide +kernel
theorem dX12_opens_16 : decode cX12_opens 16 = .ok (.aload_n 0, 1) := by decide +kernel
theorem dX12_opens_17 : decode cX12_opens 17 = .ok (.iconst 3, 1) := by decide +kernel
theorem dX12_opens_18 : decode cX12_opens 18 = .ok (.aload_n 0, 1) := by decide +kernel
theorem dX12_opens_19 : decode cX12_opens 19 = .ok (.getfield 167, 3) := by decide +kernel
theorem dX12_opens_22 : decode cX12_opens 22 = .ok (.invokevirtual 187, 3) := by decide +kernel
theorem dX12_opens_25 : decode cX12_opens 25 = .ok (.goto 20, 3) := by decide +kernel
theorem dX12_opens_28 : decode cX12_opens 28 = .ok (.aload_n 0, 1) := by decide +kernel
theorem dX12_opens_29 : decode cX12_opens 29 = .ok (.getfield 174, 3) := by decide +kernel
theorem dX12_opens_32 : decode cX12_opens 32 = .ok (.ifCond .ne 13, 3) := by decide +kernel
theorem dX12_opens_35 : decode cX12_opens 35 = .ok (.aload_n 0, 1) := by decide +kernel
theorem dX12_opens_36 : decode cX12_opens 36 = .ok (.dup, 1) := by decide +kernel
theorem dX12_opens_37 : decode cX12_opens 37 = .ok (.getfield 217, 3) := by decide +kernel
theorem dX12_opens_40 : decode cX12_opens 40 = .ok (.iconst 1, 1) := by decide +kernel
theorem dX12_opens_41 : decode cX12_opens 41 = .ok (.iadd, 1) := by decide +kernel
theorem dX12_opens_42 : decode cX12_opens 42 = .ok (.putfield 217, 3) := by decide +kernel
theorem dX12_opens_45 : decode cX12_opens 45 = .ok (.aload_n 0, 1) := by decide +kernel
theorem dX12_opens_46 : decode cX12_opens 46 = .ok (.getfield 174, 3) := by decide +kernel
theorem dX12_opens_49 : decode cX12_opens 49 = .ok (.ifCond .ne 7, 3) := by decide +kernel
theorem dX12_opens_52 : decode cX12_opens 52 = .ok (.iconst 1, 1) := by decide +kernel
theorem dX12_opens_53 : decode cX12_opens 53 = .ok (.goto 4, 3) := by decide +kernel
theorem dX12_opens_56 : decode cX12_opens 56 = .ok (.iconst 0, 1) := by decide +kernel
theorem dX12_opens_57 : decode cX12_opens 57 = .ok (.ireturn, 1) := by decide +kernel
theorem dX12_sum_0 : decode cX12_sum 0 = .ok (.aload_n 0, 1) := by decide +kernel
theorem dX12_sum_1 : decode cX12_sum 1 = .ok (.invokevirtual 256, 3) := by decide +kernel
theorem dX12_sum_4 : decode cX12_sum 4 = .ok (.aload_n 0, 1) := by decide +kernel
theorem dX12_sum_5 : decode cX12_sum 5 = .ok (.getfield 174, 3) := by decide +kernel
theorem dX12_sum_8 : decode cX12_sum 8 = .ok (.ifCond .ne 50, 3) := by decide +kernel
theorem dX12_sum_11 : decode cX12_sum 11 = .ok (.aload_n 0, 1) := by decide +kernel
theorem dX12_sum_12 : decode cX12_sum 12 = .ok (.bipush 43, 2) := by decide +kernel
theorem dX12_sum_14 : decode cX12_sum 14 = .ok (.invokevirtual 259, 3) := by decide +kernel
theorem dX12_sum_17 : decode cX12_sum 17 = .ok (.ifCond .eq 7, 3) := by decide +kernel
theorem dX12_sum_20 : decode cX12_sum 20 = .ok (.iconst 2, 1) := by decide +kernel
theorem dX12_sum_21 : decode cX12_sum 21 = .ok (.goto 17, 3) := by decide +kernel
theorem dX12_sum_24 : decode cX12_sum 24 = .ok (.aload_n 0, 1) := by decide +kernel
theorem dX12_sum_25 : decode cX12_sum 25 = .ok (.bipush 45, 2) := by decide +kernel
theorem dX12_sum_27 : decode cX12_sum 27 = .ok (.invokevirtual 259, 3) := by decide +kernel
theorem dX12_sum_30 : decode cX12_sum 30 = .ok (.ifCond .eq 7, 3) := by decide +kernel
theorem dX12_sum_33 : decode cX12_sum 33 = .ok (.iconst 3, 1) := by decide +kernel
theorem dX12_sum_34 : decode cX12_sum 34 = .ok (.goto 4, 3) := by decide +kernel
theorem dX12_sum_37 : decode cX12_sum 37 = .ok (.iconst (-1), 1) := by decide +kernel
theorem dX12_sum_38 : decode cX12_sum 38 = .ok (.istore_n 1, 1) := by decide +kernel
theorem dX12_sum_39 : decode cX12_sum 39 = .ok (.iload_n 1, 1) := by decide +kernel
theorem dX12_sum_40 : decode cX12_sum 40 = .ok (.iconst (-1), 1) := by decide +kernel
theorem dX12_sum_41 : decode cX12_sum 41 = .ok (.if_icmp .ne 4, 3) := by decide +kernel
theorem dX12_sum_44 : decode cX12_sum 44 = .ok (.return_, 1) := by decide +kernel
theorem dX12_sum_45 : decode cX12_sum 45 = .ok (.aload_n 0, 1) := by decide +kernel
theorem dX12_sum_46 : decode cX12_sum 46 = .ok (.invokevirtual 256, 3) := by decide +kernel
theorem dX12_sum_49 : decode cX12_sum 49 = .ok (.aload_n 0, 1) := by decide +kernel
theorem dX12_sum_50 : decode cX12_sum 50 = .ok (.iload_n 1, 1) := by decide +kernel
theorem dX12_sum_51 : decode cX12_sum 51 = .ok (.iconst 0, 1) := by decide +kernel
theorem dX12_sum_52 : decode cX12_sum 52 = .ok (.invokevirtual 262, 3) := by decide +kernel
theorem dX12_sum_55 : decode cX12_sum 55 = .ok (.goto (-51), 3) := by decide +kernel
theorem dX12_sum_58 : decode cX12_sum 58 = .ok (.return_, 1) := by decide +kernel
theorem dX12_product_0 : decode cX12_product 0 = .ok (.aload_n 0, 1) := by decide +kernel
theorem dX12_product_1 : decode cX12_product 1 = .ok (.invokevirtual 265, 3) := by decide +kernel
theorem dX12_product_4 : decode cX12_product 4 = .ok (.aload_n 0, 1) := by decide +kernel
theorem dX12_product_5 : decode cX12_product 5 = .ok (.getfield 174, 3) := by decide +kernel
theorem dX12_product_8 : decode cX12_product 8 = .ok (.ifCond .ne 64, 3) := by decide +kernel
theorem dX12_product_11 : decode cX12_product 11 = .ok (.aload_n 0, 1) := by decide +kernel
theorem dX12_product_12 : decode cX12_product 12 = .ok (.bipush 42, 2) := by decide +kernel
theorem dX12_product_14 : decode cX12_product 14 = .ok (.invokevirtual 259, 3) := by decide +kernel
theorem dX12_product_17 : decode cX12_product 17 = .ok (.ifCond .eq 7, 3) := by decide +kernel
theorem dX12_product_20 : decode cX12_product 20 = .ok (.iconst 4, 1) := by decide +kernel
theorem dX12_product_21 : decode cX12_product 21 = .ok (.goto 31, 3) := by decide +kernel
theorem dX12_product_24 : decode cX12_product 24 = .ok (.aload_n 0, 1) := by decide +kernel
theorem dX12_product_25 : decode cX12_product 25 = .ok (.bipush 47, 2) := by decide +kernel
theorem dX12_product_27 : decode cX12_product 27 = .ok (.invokevirtual 259, 3) := by decide +kernel
theorem dX12_product_30 : decode cX12_product 30 = .ok (.ifCond .eq 7, 3) := by decide +kernel
theorem dX12_product_33 : decode cX12_product 33 = .ok (.iconst 5, 1) := by decide +kernel
theorem dX12_product_34 : decode cX12_product 34 = .ok (.goto 18, 3) := by decide +kernel
theorem dX12_product_37 : decode cX12_product 37 = .ok (.aload_n 0, 1) := by decide +kernel
theorem dX12_product_38 : decode cX12_product 38 = .ok (.bipush 37, 2) := by decide +kernel
theorem dX12_product_40 : decode cX12_product 40 = .ok (.invokevirtual 259, 3) := by decide +kernel
theorem dX12_product_43 : decode cX12_product 43 = .ok (.ifCond .eq 8, 3) := by decide +kernel
theorem dX12_product_46 : decode cX12_product 46 = .ok (.bipush 6, 2) := by decide +kernel
theorem dX12_product_48 : decode cX12_product 48 = .ok (.goto 4, 3) := by decide +kernel
theorem dX12_product_51 : decode cX12_product 51 = .ok (.iconst (-1), 1) := by decide +kernel
theorem dX12_product_52 : decode cX12_product 52 = .ok (.istore_n 1, 1) := by decide +kernel
theorem dX12_product_53 : decode cX12_product 53 = .ok (.iload_n 1, 1) := by decide +kernel
theorem dX12_product_54 : decode cX12_product 54 = .ok (.iconst (-1), 1) := by decide +kernel
theorem dX12_product_55 : decode cX12_product 55 = .ok (.if_icmp .ne 4, 3) := by decide +kernel
theorem dX12_product_58 : decode cX12_product 58 = .ok (.return_, 1) := by decide +kernel
theorem dX12_product_59 : decode cX12_product 59 = .ok (.aload_n 0, 1) := by decide +kernel
theorem dX12_product_60 : decode cX12_product 60 = .ok (.invokevirtual 265, 3) := by decide +kernel
theorem dX12_product_63 : decode cX12_product 63 = .ok (.aload_n 0, 1) := by decide +kernel
theorem dX12_product_64 : decode cX12_product 64 = .ok (.iload_n 1, 1) := by decide +kernel
theorem dX12_product_65 : decode cX12_product 65 = .ok (.iconst 0, 1) := by decide +kernel
theorem dX12_product_66 : decode cX12_product 66 = .ok (.invokevirtual 262, 3) := by decide +kernel
theorem dX12_product_69 : decode cX12_product 69 = .ok (.goto (-65), 3) := by decide +kernel
theorem dX12_product_72 : decode cX12_product 72 = .ok (.return_, 1) := by decide +kernel
theorem dX12_knownHere_0 : decode cX12_knownHere 0 = .ok (.aload_n 0, 1) := by decide +kernel
theorem dX12_knownHere_1 : decode cX12_knownHere 1 = .ok (.bipush 13, 2) := by decide +kernel
theorem dX12_knownHere_3 : decode cX12_knownHere 3 = .ok (.bipush 9, 2) := by decide +kernel
theorem dX12_knownHere_5 : decode cX12_knownHere 5 = .ok (.bipush 14, 2) := by decide +kernel
theorem dX12_knownHere_7 : decode cX12_knownHere 7 = .ok (.iconst 5, 1) := by decide +kernel
theorem dX12_knownHere_8 : decode cX12_knownHere 8 = .ok (.iconst 0, 1) := by decide +kernel
theorem dX12_knownHere_9 : decode cX12_knownHere 9 = .ok (.iconst 0, 1) := by decide +kernel
theorem dX12_knownHere_10 : decode cX12_knownHere 10 = .ok (.invokevirtual 268, 3) := by decide +kernel
theorem dX12_knownHere_13 : decode cX12_knownHere 13 = .ok (.ifCond .eq 5, 3) := by decide +kernel
theorem dX12_knownHere_16 : decode cX12_knownHere 16 = .ok (.iconst 0, 1) := by decide +kernel
theorem dX12_knownHere_17 : decode cX12_knownHere 17 = .ok (.ireturn, 1) := by decide +kernel
theorem dX12_knownHere_18 : decode cX12_knownHere 18 = .ok (.aload_n 0, 1) := by decide +kernel
theorem dX12_knownHere_19 : decode cX12_knownHere 19 = .ok (.bipush 6, 2) := by decide +kernel
theorem dX12_knownHere_21 : decode cX12_knownHere 21 = .ok (.bipush 9, 2) := by decide +kernel
theorem dX12_knownHere_23 : decode cX12_knownHere 23 = .ok (.bipush 18, 2) := by decide +kernel
theorem dX12_knownHere_25 : decode cX12_knownHere 25 = .ok (.bipush 19, 2) := by decide +kernel
theorem dX12_knownHere_27 : decode cX12_knownHere 27 = .ok (.bipush 20, 2) := by decide +kernel
theorem dX12_knownHere_29 : decode cX12_knownHere 29 = .ok (.iconst 0, 1) := by decide +kernel
theorem dX12_knownHere_30 : decode cX12_knownHere 30 = .ok (.invokevirtual 268, 3) := by decide +kernel
theorem dX12_knownHere_33 : decode cX12_knownHere 33 = .ok (.ifCond .eq 5, 3) := by decide +kernel
theorem dX12_knownHere_36 : decode cX12_knownHere 36 = .ok (.iconst 1, 1) := by decide +kernel
theorem dX12_knownHere_37 : decode cX12_knownHere 37 = .ok (.ireturn, 1) := by decide +kernel
theorem dX12_knownHere_38 : decode cX12_knownHere 38 = .ok (.aload_n 0, 1) := by decide +kernel
theorem dX12_knownHere_39 : decode cX12_knownHere 39 = .ok (.bipush 12, 2) := by decide +kernel
theorem dX12_knownHere_41 : decode cX12_knownHere 41 = .ok (.iconst 1, 1) := by decide +kernel
theorem dX12_knownHere_42 : decode cX12_knownHere 42 = .ok (.bipush 19, 2) := by decide +kernel
theorem dX12_knownHere_44 : decode cX12_knownHere 44 = .ok (.bipush 20, 2) := by decide +kernel
theorem dX12_knownHere_46 : decode cX12_knownHere 46 = .ok (.iconst 0, 1) := by decide +kernel
theorem dX12_knownHere_47 : decode cX12_knownHere 47 = .ok (.iconst 0, 1) := by decide +kernel
theorem dX12_knownHere_48 : decode cX12_knownHere 48 = .ok (.invokevirtual 268, 3) := by decide +kernel
theorem dX12_knownHere_51 : decode cX12_knownHere 51 = .ok (.ifCond .eq 5, 3) := by decide +kernel
theorem dX12_knownHere_54 : decode cX12_knownHere 54 = .ok (.iconst 2, 1) := by decide +kernel
theorem dX12_knownHere_55 : decode cX12_knownHere 55 = .ok (.ireturn, 1) := by decide +kernel
theorem dX12_knownHere_56 : decode cX12_knownHere 56 = .ok (.aload_n 0, 1) := by decide +kernel
theorem dX12_knownHere_57 : decode cX12_knownHere 57 = .ok (.bipush 7, 2) := by decide +kernel
theorem dX12_knownHere_59 : decode cX12_knownHere 59 = .ok (.bipush 15, 2) := by decide +kernel
theorem dX12_knownHere_61 : decode cX12_knownHere 61 = .ok (.bipush 20, 2) := by decide +kernel
theorem dX12_knownHere_63 : decode cX12_knownHere 63 = .ok (.iconst 0, 1) := by decide +kernel
theorem dX12_knownHere_64 : decode cX12_knownHere 64 = .ok (.iconst 0, 1) := by decide +kernel
theorem dX12_knownHere_65 : decode cX12_knownHere 65 = .ok (.iconst 0, 1) := by decide +kernel
theorem dX12_knownHere_66 : decode cX12_knownHere 66 = .ok (.invokevirtual 268, 3) := by decide +kernel
theorem dX12_knownHere_69 : decode cX12_knownHere 69 = .ok (.ifCond .eq 5, 3) := by decide +kernel
theorem dX12_knownHere_72 : decode cX12_knownHere 72 = .ok (.iconst 3, 1) := by decide +kernel
theorem dX12_knownHere_73 : decode cX12_knownHere 73 = .ok (.ireturn, 1) := by decide +kernel
theorem dX12_knownHere_74 : decode cX12_knownHere 74 = .ok (.aload_n 0, 1) := by decide +kernel
theorem dX12_knownHere_75 : decode cX12_knownHere 75 = .ok (.bipush 12, 2) := by decide +kernel
theorem dX12_knownHere_77 : decode cX12_knownHere 77 = .ok (.iconst 1, 1) := by decide +kernel
theorem dX12_knownHere_78 : decode cX12_knownHere 78 = .ok (.bipush 9, 2) := by decide +kernel
theorem dX12_knownHere_80 : decode cX12_knownHere 80 = .ok (.bipush 14, 2) := by decide +kernel
theorem dX12_knownHere_82 : decode cX12_knownHere 82 = .ok (.iconst 0, 1) := by decide +kernel
theorem dX12_knownHere_83 : decode cX12_knownHere 83 = .ok (.iconst 0, 1) := by decide +kernel
theorem dX12_knownHere_84 : decode cX12_knownHere 84 = .ok (.invokevirtual 268, 3) := by decide +kernel
theorem dX12_knownHere_87 : decode cX12_knownHere 87 = .ok (.ifCond .eq 5, 3) := by decide +kernel
theorem dX12_knownHere_90 : decode cX12_knownHere 90 = .ok (.iconst 4, 1) := by decide +kernel
theorem dX12_knownHere_91 : decode cX12_knownHere 91 = .ok (.ireturn, 1) := by decide +kernel
theorem dX12_knownHere_92 : decode cX12_knownHere 92 = .ok (.aload_n 0, 1) := by decide +kernel
theorem dX12_knownHere_93 : decode cX12_knownHere 93 = .ok (.bipush 15, 2) := by decide +kernel
theorem dX12_knownHere_95 : decode cX12_knownHere 95 = .ok (.bipush 6, 2) := by decide +kernel
theorem dX12_knownHere_97 : decode cX12_knownHere 97 = .ok (.bipush 6, 2) := by decide +kernel
theorem dX12_knownHere_99 : decode cX12_knownHere 99 = .ok (.iconst 0, 1) := by decide +kernel
theorem dX12_knownHere_100 : decode cX12_knownHere 100 = .ok (.iconst 0, 1) := by decide +kernel
theorem dX12_knownHere_101 : decode cX12_knownHere 101 = .ok (.iconst 0, 1) := by decide +kernel
theorem dX12_knownHere_102 : decode cX12_knownHere 102 = .ok (.invokevirtual 268, 3) := by decide +kernel
theorem dX12_knownHere_105 : decode cX12_knownHere 105 = .ok (.ifCond .eq 5, 3) := by decide +kernel
theorem dX12_knownHere_108 : decode cX12_knownHere 108 = .ok (.iconst 5, 1) := by decide +kernel
theorem dX12_knownHere_109 : decode cX12_knownHere 109 = .ok (.ireturn, 1) := by decide +kernel
theorem dX12_knownHere_110 : decode cX12_knownHere 110 = .ok (.aload_n 0, 1) := by decide +kernel
theorem dX12_knownHere_111 : decode cX12_knownHere 111 = .ok (.iconst 4, 1) := by decide +kernel
theorem dX12_knownHere_112 : decode cX12_knownHere 112 = .ok (.iconst 1, 1) := by decide +kernel
theorem dX12_knownHere_113 : decode cX12_knownHere 113 = .ok (.bipush 25, 2) := by decide +kernel
theorem dX12_knownHere_115 : decode cX12_knownHere 115 = .ok (.iconst 0, 1) := by decide +kernel
theorem dX12_knownHere_116 : decode cX12_knownHere 116 = .ok (.iconst 0, 1) := by decide +kernel
theorem dX12_knownHere_117 : decode cX12_knownHere 117 = .ok (.iconst 0, 1) := by decide +kernel
theorem dX12_knownHere_118 : decode cX12_knownHere 118 = .ok (.invokevirtual 268, 3) := by decide +kernel
theorem dX12_knownHere_121 : decode cX12_knownHere 121 = .ok (.ifCond .eq 6, 3) := by decide +kernel
theorem dX12_knownHere_124 : decode cX12_knownHere 124 = .ok (.bipush 6, 2) := by decide +kernel
theorem dX12_knownHere_126 : decode cX12_knownHere 126 = .ok (.ireturn, 1) := by decide +kernel
theorem dX12_knownHere_127 : decode cX12_knownHere 127 = .ok (.aload_n 0, 1) := by decide +kernel
theorem dX12_knownHere_128 : decode cX12_knownHere 128 = .ok (.bipush 23, 2) := by decide +kernel
theorem dX12_knownHere_130 : decode cX12_knownHere 130 = .ok (.bipush 9, 2) := by decide +kernel
theorem dX12_knownHere_132 : decode cX12_knownHere 132 = .ok (.bipush 19, 2) := by decide +kernel
theorem dX12_knownHere_134 : decode cX12_knownHere 134 = .ok (.bipush 8, 2) := by decide +kernel
theorem dX12_knownHere_136 : decode cX12_knownHere 136 = .ok (.iconst 0, 1) := by decide +kernel
theorem dX12_knownHere_137 : decode cX12_knownHere 137 = .ok (.iconst 0, 1) := by decide +kernel
theorem dX12_knownHere_138 : decode cX12_knownHere 138 = .ok (.invokevirtual 268, 3) := by decide +kernel
theorem dX12_knownHere_141 : decode cX12_knownHere 141 = .ok (.ifCond .eq 6, 3) := by decide +kernel
theorem dX12_knownHere_144 : decode cX12_knownHere 144 = .ok (.bipush 7, 2) := by decide +kernel
theorem dX12_knownHere_146 : decode cX12_knownHere 146 = .ok (.ireturn, 1) := by decide +kernel
theorem dX12_knownHere_147 : decode cX12_knownHere 147 = .ok (.aload_n 0, 1) := by decide +kernel
theorem dX12_knownHere_148 : decode cX12_knownHere 148 = .ok (.bipush 23, 2) := by decide +kernel
theorem dX12_knownHere_150 : decode cX12_knownHere 150 = .ok (.iconst 1, 1) := by decide +kernel
theorem dX12_knownHere_151 : decode cX12_knownHere 151 = .ok (.bipush 11, 2) := by decide +kernel
theorem dX12_knownHere_153 : decode cX12_knownHere 153 = .ok (.iconst 5, 1) := by decide +kernel
theorem dX12_knownHere_154 : decode cX12_knownHere 154 = .ok (.iconst 0, 1) := by decide +kernel
theorem dX12_knownHere_155 : decode cX12_knownHere 155 = .ok (.iconst 0, 1) := by decide +kernel
theorem dX12_knownHere_156 : decode cX12_knownHere 156 = .ok (.invokevirtual 268, 3) := by decide +kernel
theorem dX12_knownHere_159 : decode cX12_knownHere 159 = .ok (.ifCond .eq 6, 3) := by decide +kernel
theorem dX12_knownHere_162 : decode cX12_knownHere 162 = .ok (.bipush 8, 2) := by decide +kernel
theorem dX12_knownHere_164 : decode cX12_knownHere 164 = .ok (.ireturn, 1) := by decide +kernel
theorem dX12_knownHere_165 : decode cX12_knownHere 165 = .ok (.aload_n 0, 1) := by decide +kernel
theorem dX12_knownHere_166 : decode cX12_knownHere 166 = .ok (.iconst 3, 1) := by decide +kernel
theorem dX12_knownHere_167 : decode cX12_knownHere 167 = .ok (.bipush 8, 2) := by decide +kernel
theorem dX12_knownHere_169 : decode cX12_knownHere 169 = .ok (.iconst 1, 1) := by decide +kernel
theorem dX12_knownHere_170 : decode cX12_knownHere 170 = .ok (.bipush 9, 2) := by decide +kernel
theorem dX12_knownHere_172 : decode cX12_knownHere 172 = .ok (.bipush 18, 2) := by decide +kernel
theorem dX12_knownHere_174 : decode cX12_knownHere 174 = .ok (.bipush 19, 2) := by decide +kernel
theorem dX12_knownHere_176 : decode cX12_knownHere 176 = .ok (.invokevirtual 268, 3) := by decide +kernel
theorem dX12_knownHere_179 : decode cX12_knownHere 179 = .ok (.ifCond .eq 6, 3) := by decide +kernel
theorem dX12_knownHere_182 : decode cX12_knownHere 182 = .ok (.bipush 9, 2) := by decide +kernel
theorem dX12_knownHere_184 : decode cX12_knownHere 184 = .ok (.ireturn, 1) := by decide +kernel
theorem dX12_knownHere_185 : decode cX12_knownHere 185 = .ok (.aload_n 0, 1) := by decide +kernel
theorem dX12_knownHere_186 : decode cX12_knownHere 186 = .ok (.bipush 7, 2) := by decide +kernel
theorem dX12_knownHere_188 : decode cX12_knownHere 188 = .ok (.bipush 21, 2) := by decide +kernel
theorem dX12_knownHere_190 : decode cX12_knownHere 190 = .ok (.iconst 5, 1) := by decide +kernel
theorem dX12_knownHere_191 : decode cX12_knownHere 191 = .ok (.bipush 19, 2) := by decide +kernel
theorem dX12_knownHere_193 : decode cX12_knownHere 193 = .ok (.bipush 20, 2) := by decide +kernel
theorem dX12_knownHere_195 : decode cX12_knownHere 195 = .ok (.bipush 19, 2) := by decide +kernel
theorem dX12_knownHere_197 : decode cX12_knownHere 197 = .ok (.invokevirtual 268, 3) := by decide +kernel
theorem dX12_knownHere_200 : decode cX12_knownHere 200 = .ok (.ifCond .eq 8, 3) := by decide +kernel
theorem dX12_knownHere_203 : decode cX12_knownHere 203 = .ok (.bipush 10, 2) := by decide +kernel
theorem dX12_knownHere_205 : decode cX12_knownHere 205 = .ok (.goto 4, 3) := by decide +kernel
theorem dX12_knownHere_208 : decode cX12_knownHere 208 = .ok (.iconst (-1), 1) := by decide +kernel
theorem dX12_knownHere_209 : decode cX12_knownHere 209 = .ok (.ireturn, 1) := by decide +kernel
theorem dX12_one_0 : decode cX12_one 0 = .ok (.aload_n 0, 1) := by decide +kernel
theorem dX12_one_1 : decode cX12_one 1 = .ok (.getfield 174, 3) := by decide +kernel
theorem dX12_one_4 : decode cX12_one 4 = .ok (.ifCond .eq 4, 3) := by decide +kernel
theorem dX12_one_7 : decode cX12_one 7 = .ok (.return_, 1) := by decide +kernel
theorem dX12_one_8 : decode cX12_one 8 = .ok (.aload_n 0, 1) := by decide +kernel
theorem dX12_one_9 : decode cX12_one 9 = .ok (.invokevirtual 180, 3) := by decide +kernel
theorem dX12_one_12 : decode cX12_one 12 = .ok (.aload_n 0, 1) := by decide +kernel
theorem dX12_one_13 : decode cX12_one 13 = .ok (.bipush 12, 2) := by decide +kernel
theorem dX12_one_15 : decode cX12_one 15 = .ok (.iconst 5, 1) := by decide +kernel
theorem dX12_one_16 : decode cX12_one 16 = .ok (.iconst 1, 1) := by decide +kernel
theorem dX12_one_17 : decode cX12_one 17 = .ok (.bipush 19, 2) := by decide +kernel
theorem dX12_one_19 : decode cX12_one 19 = .ok (.bipush 20, 2) := by decide +kernel
theorem dX12_one_21 : decode cX12_one 21 = .ok (.iconst 0, 1) := by decide +kernel
theorem dX12_one_22 : decode cX12_one 22 = .ok (.invokevirtual 207, 3) := by decide +kernel
theorem dX12_one_25 : decode cX12_one 25 = .ok (.ifCond .eq 8, 3) := by decide +kernel
theorem dX12_one_28 : decode cX12_one 28 = .ok (.bipush 7, 2) := by decide +kernel
theorem dX12_one_30 : decode cX12_one 30 = .ok (.goto 26, 3) := by decide +kernel
theorem dX12_one_33 : decode cX12_one 33 = .ok (.aload_n 0, 1) := by decide +kernel
theorem dX12_one_34 : decode cX12_one 34 = .ok (.bipush 13, 2) := by decide +kernel
theorem dX12_one_36 : decode cX12_one 36 = .ok (.bipush 15, 2) := by decide +kernel
theorem dX12_one_38 : decode cX12_one 38 = .ok (.bipush 19, 2) := by decide +kernel
theorem dX12_one_40 : decode cX12_one 40 = .ok (.bipush 20, 2) := by decide +kernel
theorem dX12_one_42 : decode cX12_one 42 = .ok (.iconst 0, 1) := by decide +kernel
theorem dX12_one_43 : decode cX12_one 43 = .ok (.iconst 0, 1) := by decide +kernel
theorem dX12_one_44 : decode cX12_one 44 = .ok (.invokevirtual 207, 3) := by decide +kernel
theorem dX12_one_47 : decode cX12_one 47 = .ok (.ifCond .eq 8, 3) := by decide +kernel
theorem dX12_one_50 : decode cX12_one 50 = .ok (.bipush 8, 2) := by decide +kernel
theorem dX12_one_52 : decode cX12_one 52 = .ok (.goto 4, 3) := by decide +kernel
theorem dX12_one_55 : decode cX12_one 55 = .ok (.iconst (-1), 1) := by decide +kernel
theorem dX12_one_56 : decode cX12_one 56 = .ok (.istore_n 1, 1) := by decide +kernel
theorem dX12_one_57 : decode cX12_one 57 = .ok (.iload_n 1, 1) := by decide +kernel
theorem dX12_one_58 : decode cX12_one 58 = .ok (.iconst (-1), 1) := by decide +kernel
theorem dX12_one_59 : decode cX12_one 59 = .ok (.if_icmp .eq 58, 3) := by decide +kernel
theorem dX12_one_62 : decode cX12_one 62 = .ok (.aload_n 0, 1) := by decide +kernel
theorem dX12_one_63 : decode cX12_one 63 = .ok (.invokevirtual 271, 3) := by decide +kernel
theorem dX12_one_66 : decode cX12_one 66 = .ok (.ifCond .ne 4, 3) := by decide +kernel
theorem dX12_one_69 : decode cX12_one 69 = .ok (.return_, 1) := by decide +kernel
theorem dX12_one_70 : decode cX12_one 70 = .ok (.aload_n 0, 1) := by decide +kernel
theorem dX12_one_71 : decode cX12_one 71 = .ok (.invokevirtual 211, 3) := by decide +kernel
theorem dX12_one_74 : decode cX12_one 74 = .ok (.aload_n 0, 1) := by decide +kernel
theorem dX12_one_75 : decode cX12_one 75 = .ok (.bipush 91, 2) := by decide +kernel
theorem dX12_one_77 : decode cX12_one 77 = .ok (.invokevirtual 224, 3) := by decide +kernel
theorem dX12_one_80 : decode cX12_one 80 = .ok (.aload_n 0, 1) := by decide +kernel
theorem dX12_one_81 : decode cX12_one 81 = .ok (.invokevirtual 275, 3) := by decide +kernel
theorem dX12_one_84 : decode cX12_one 84 = .ok (.aload_n 0, 1) := by decide +kernel
theorem dX12_one_85 : decode cX12_one 85 = .ok (.bipush 44, 2) := by decide +kernel
theorem dX12_one_87 : decode cX12_one 87 = .ok (.invokevirtual 224, 3) := by decide +kernel
theorem dX12_one_90 : decode cX12_one 90 = .ok (.aload_n 0, 1) := by decide +kernel
theorem dX12_one_91 : decode cX12_one 91 = .ok (.invokevirtual 275, 3) := by decide +kernel
theorem dX12_one_94 : decode cX12_one 94 = .ok (.aload_n 0, 1) := by decide +kernel
theorem dX12_one_95 : decode cX12_one 95 = .ok (.bipush 93, 2) := by decide +kernel
theorem dX12_one_97 : decode cX12_one 97 = .ok (.invokevirtual 224, 3) := by decide +kernel
theorem dX12_one_100 : decode cX12_one 100 = .ok (.aload_n 0, 1) := by decide +kernel
theorem dX12_one_101 : decode cX12_one 101 = .ok (.iload_n 1, 1) := by decide +kernel
theorem dX12_one_102 : decode cX12_one 102 = .ok (.iconst 0, 1) := by decide +kernel
theorem dX12_one_103 : decode cX12_one 103 = .ok (.invokevirtual 262, 3) := by decide +kernel
theorem dX12_one_106 : decode cX12_one 106 = .ok (.aload_n 0, 1) := by decide +kernel
theorem dX12_one_107 : decode cX12_one 107 = .ok (.dup, 1) := by decide +kernel
theorem dX12_one_108 : decode cX12_one 108 = .ok (.getfield 217, 3) := by decide +kernel
theorem dX12_one_111 : decode cX12_one 111 = .ok (.iconst 1, 1) := by decide +kernel
theorem dX12_one_112 : decode cX12_one 112 = .ok (.isub, 1) := by decide +kernel
theorem dX12_one_113 : decode cX12_one 113 = .ok (.putfield 217, 3) := by decide +kernel
theorem dX12_one_116 : decode cX12_one 116 = .ok (.return_, 1) := by decide +kernel
theorem dX12_one_117 : decode cX12_one 117 = .ok (.aload_n 0, 1) := by decide +kernel
theorem dX12_one_118 : decode cX12_one 118 = .ok (.bipush 9, 2) := by decide +kernel
theorem dX12_one_120 : decode cX12_one 120 = .ok (.bipush 6, 2) := by decide +kernel
theorem dX12_one_122 : decode cX12_one 122 = .ok (.iconst 0, 1) := by decide +kernel
theorem dX12_one_123 : decode cX12_one 123 = .ok (.iconst 0, 1) := by decide +kernel
theorem dX12_one_124 : decode cX12_one 124 = .ok (.iconst 0, 1) := by decide +kernel
theorem dX12_one_125 : decode cX12_one 125 = .ok (.iconst 0, 1) := by decide +kernel
theorem dX12_one_126 : decode cX12_one 126 = .ok (.invokevirtual 207, 3) := by decide +kernel
theorem dX12_one_129 : decode cX12_one 129 = .ok (.ifCond .eq 162, 3) := by decide +kernel
theorem dX12_one_132 : decode cX12_one 132 = .ok (.aload_n 0, 1) := by decide +kernel
theorem dX12_one_133 : decode cX12_one 133 = .ok (.invokevirtual 271, 3) := by decide +kernel
theorem dX12_one_136 : decode cX12_one 136 = .ok (.ifCond .ne 4, 3) := by decide +kernel
theorem dX12_one_139 : decode cX12_one 139 = .ok (.return_, 1) := by decide +kernel
theorem dX12_one_140 : decode cX12_one 140 = .ok (.aload_n 0, 1) := by decide +kernel
theorem dX12_one_141 : decode cX12_one 141 = .ok (.invokevirtual 211, 3) := by decide +kernel
theorem dX12_one_144 : decode cX12_one 144 = .ok (.aload_n 0, 1) := by decide +kernel
theorem dX12_one_145 : decode cX12_one 145 = .ok (.invokevirtual 275, 3) := by decide +kernel
theorem dX12_one_148 : decode cX12_one 148 = .ok (.aload_n 0, 1) := by decide +kernel
theorem dX12_one_149 : decode cX12_one 149 = .ok (.bipush 60, 2) := by decide +kernel
theorem dX12_one_151 : decode cX12_one 151 = .ok (.invokevirtual 259, 3) := by decide +kernel
theorem dX12_one_154 : decode cX12_one 154 = .ok (.ifCond .eq 8, 3) := by decide +kernel
theorem dX12_one_157 : decode cX12_one 157 = .ok (.bipush 9, 2) := by decide +kernel
theorem dX12_one_159 : decode cX12_one 159 = .ok (.goto 32, 3) := by decide +kernel
theorem dX12_one_162 : decode cX12_one 162 = .ok (.aload_n 0, 1) := by decide +kernel
theorem dX12_one_163 : decode cX12_one 163 = .ok (.bipush 62, 2) := by decide +kernel
theorem dX12_one_165 : decode cX12_one 165 = .ok (.invokevirtual 259, 3) := by decide +kernel
theorem dX12_one_168 : decode cX12_one 168 = .ok (.ifCond .eq 8, 3) := by decide +kernel
theorem dX12_one_171 : decode cX12_one 171 = .ok (.bipush 10, 2) := by decide +kernel
theorem dX12_one_173 : decode cX12_one 173 = .ok (.goto 18, 3) := by decide +kernel
theorem dX12_one_176 : decode cX12_one 176 = .ok (.aload_n 0, 1) := by decide +kernel
theorem dX12_one_177 : decode cX12_one 177 = .ok (.bipush 61, 2) := by decide +kernel
theorem dX12_one_179 : decode cX12_one 179 = .ok (.invokevirtual 259, 3) := by decide +kernel
theorem dX12_one_182 : decode cX12_one 182 = .ok (.ifCond .eq 8, 3) := by decide +kernel
theorem dX12_one_185 : decode cX12_one 185 = .ok (.bipush 11, 2) := by decide +kernel
theorem dX12_one_187 : decode cX12_one 187 = .ok (.goto 4, 3) := by decide +kernel
theorem dX12_one_190 : decode cX12_one 190 = .ok (.iconst (-1), 1) := by decide +kernel
theorem dX12_one_191 : decode cX12_one 191 = .ok (.istore_n 2, 1) := by decide +kernel
theorem dX12_one_192 : decode cX12_one 192 = .ok (.iload_n 2, 1) := by decide +kernel
theorem dX12_one_193 : decode cX12_one 193 = .ok (.iconst (-1), 1) := by decide +kernel
theorem dX12_one_194 : decode cX12_one 194 = .ok (.if_icmp .ne 12, 3) := by decide +kernel
theorem dX12_one_197 : decode cX12_one 197 = .ok (.aload_n 0, 1) := by decide +kernel
theorem dX12_one_198 : decode cX12_one 198 = .ok (.iconst 1, 1) := by decide +kernel
theorem dX12_one_199 : decode cX12_one 199 = .ok (.aload_n 0, 1) := by decide +kernel
theorem dX12_one_200 : decode cX12_one 200 = .ok (.getfield 167, 3) := by decide +kernel
theorem dX12_one_203 : decode cX12_one 203 = .ok (.invokevirtual 187, 3) := by decide +kernel
theorem dX12_one_206 : decode cX12_one 206 = .ok (.aload_n 0, 1) := by decide +kernel
theorem dX12_one_207 : decode cX12_one 207 = .ok (.invokevirtual 275, 3) := by decide +kernel
theorem dX12_one_210 : decode cX12_one 210 = .ok (.aload_n 0, 1) := by decide +kernel
theorem dX12_one_211 : decode cX12_one 211 = .ok (.iload_n 2, 1) := by decide +kernel
theorem dX12_one_212 : decode cX12_one 212 = .ok (.iconst 0, 1) := by decide +kernel
theorem dX12_one_213 : decode cX12_one 213 = .ok (.invokevirtual 262, 3) := by decide +kernel
theorem dX12_one_216 : decode cX12_one 216 = .ok (.aload_n 0, 1) := by decide +kernel
theorem dX12_one_217 : decode cX12_one 217 = .ok (.bipush 20, 2) := by decide +kernel
theorem dX12_one_219 : decode cX12_one 219 = .ok (.bipush 8, 2) := by decide +kernel
theorem dX12_one_221 : decode cX12_one 221 = .ok (.iconst 5, 1) := by decide +kernel
theorem dX12_one_222 : decode cX12_one 222 = .ok (.bipush 14, 2) := by decide +kernel
theorem dX12_one_224 : decode cX12_one 224 = .ok (.iconst 0, 1) := by decide +kernel
theorem dX12_one_225 : decode cX12_one 225 = .ok (.iconst 0, 1) := by decide +kernel
theorem dX12_one_226 : decode cX12_one 226 = .ok (.invokevirtual 268, 3) := by decide +kernel
theorem dX12_one_229 : decode cX12_one 229 = .ok (.ifCond .ne 12, 3) := by decide +kernel
theorem dX12_one_232 : decode cX12_one 232 = .ok (.aload_n 0, 1) := by decide +kernel
theorem dX12_one_233 : decode cX12_one 233 = .ok (.iconst 1, 1) := by decide +kernel
theorem dX12_one_234 : decode cX12_one 234 = .ok (.aload_n 0, 1) := by decide +kernel
theorem dX12_one_235 : decode cX12_one 235 = .ok (.getfield 167, 3) := by decide +kernel
theorem dX12_one_238 : decode cX12_one 238 = .ok (.invokevirtual 187, 3) := by decide +kernel
theorem dX12_one_241 : decode cX12_one 241 = .ok (.aload_n 0, 1) := by decide +kernel
theorem dX12_one_242 : decode cX12_one 242 = .ok (.invokevirtual 275, 3) := by decide +kernel
theorem dX12_one_245 : decode cX12_one 245 = .ok (.aload_n 0, 1) := by decide +kernel
theorem dX12_one_246 : decode cX12_one 246 = .ok (.iconst 5, 1) := by decide +kernel
theorem dX12_one_247 : decode cX12_one 247 = .ok (.bipush 12, 2) := by decide +kernel
theorem dX12_one_249 : decode cX12_one 249 = .ok (.bipush 19, 2) := by decide +kernel
theorem dX12_one_251 : decode cX12_one 251 = .ok (.iconst 5, 1) := by decide +kernel
theorem dX12_one_252 : decode cX12_one 252 = .ok (.iconst 0, 1) := by decide +kernel
theorem dX12_one_253 : decode cX12_one 253 = .ok (.iconst 0, 1) := by decide +kernel
theorem dX12_one_254 : decode cX12_one 254 = .ok (.invokevirtual 268, 3) := by decide +kernel
theorem dX12_one_257 : decode cX12_one 257 = .ok (.ifCond .ne 12, 3) := by decide +kernel
theorem dX12_one_260 : decode cX12_one 260 = .ok (.aload_n 0, 1) := by decide +kernel
theorem dX12_one_261 : decode cX12_one 261 = .ok (.iconst 1, 1) := by decide +kernel
theorem dX12_one_262 : decode cX12_one 262 = .ok (.aload_n 0, 1) := by decide +kernel
theorem dX12_one_263 : decode cX12_one 263 = .ok (.getfield 167, 3) := by decide +kernel
theorem dX12_one_266 : decode cX12_one 266 = .ok (.invokevirtual 187, 3) := by decide +kernel
theorem dX12_one_269 : decode cX12_one 269 = .ok (.aload_n 0, 1) := by decide +kernel
theorem dX12_one_270 : decode cX12_one 270 = .ok (.invokevirtual 275, 3) := by decide +kernel
theorem dX12_one_273 : decode cX12_one 273 = .ok (.aload_n 0, 1) := by decide +kernel
theorem dX12_one_274 : decode cX12_one 274 = .ok (.bipush 12, 2) := by decide +kernel
theorem dX12_one_276 : decode cX12_one 276 = .ok (.iconst 0, 1) := by decide +kernel
theorem dX12_one_277 : decode cX12_one 277 = .ok (.invokevirtual 262, 3) := by decide +kernel
theorem dX12_one_280 : decode cX12_one 280 = .ok (.aload_n 0, 1) := by decide +kernel
theorem dX12_one_281 : decode cX12_one 281 = .ok (.dup, 1) := by decide +kernel
theorem dX12_one_282 : decode cX12_one 282 = .ok (.getfield 217, 3) := by decide +kernel
theorem dX12_one_285 : decode cX12_one 285 = .ok (.iconst 1, 1) := by decide +kernel
theorem dX12_one_286 : decode cX12_one 286 = .ok (.isub, 1) := by decide +kernel
theorem dX12_one_287 : decode cX12_one 287 = .ok (.putfield 217, 3) := by decide +kernel
theorem dX12_one_290 : decode cX12_one 290 = .ok (.return_, 1) := by decide +kernel
theorem dX12_one_291 : decode cX12_one 291 = .ok (.aload_n 0, 1) := by decide +kernel
theorem dX12_one_292 : decode cX12_one 292 = .ok (.aload_n 0, 1) := by decide +kernel
theorem dX12_one_293 : decode cX12_one 293 = .ok (.getfield 167, 3) := by decide +kernel
theorem dX12_one_296 : decode cX12_one 296 = .ok (.invokevirtual 170, 3) := by decide +kernel
theorem dX12_one_299 : decode cX12_one 299 = .ok (.bipush 40, 2) := by decide +kernel
theorem dX12_one_301 : decode cX12_one 301 = .ok (.if_icmp .ne 42, 3) := by decide +kernel
theorem dX12_one_304 : decode cX12_one 304 = .ok (.aload_n 0, 1) := by decide +kernel
theorem dX12_one_305 : decode cX12_one 305 = .ok (.invokevirtual 271, 3) := by decide +kernel
theorem dX12_one_308 : decode cX12_one 308 = .ok (.ifCond .ne 4, 3) := by decide +kernel
theorem dX12_one_311 : decode cX12_one 311 = .ok (.return_, 1) := by decide +kernel
theorem dX12_one_312 : decode cX12_one 312 = .ok (.aload_n 0, 1) := by decide +kernel
theorem dX12_one_313 : decode cX12_one 313 = .ok (.dup, 1) := by decide +kernel
theorem dX12_one_314 : decode cX12_one 314 = .ok (.getfield 167, 3) := by decide +kernel
theorem dX12_one_317 : decode cX12_one 317 = .ok (.iconst 1, 1) := by decide +kernel
theorem dX12_one_318 : decode cX12_one 318 = .ok (.iadd, 1) := by decide +kernel
theorem dX12_one_319 : decode cX12_one 319 = .ok (.putfield 167, 3) := by decide +kernel
theorem dX12_one_322 : decode cX12_one 322 = .ok (.aload_n 0, 1) := by decide +kernel
theorem dX12_one_323 : decode cX12_one 323 = .ok (.invokevirtual 275, 3) := by decide +kernel
theorem dX12_one_326 : decode cX12_one 326 = .ok (.aload_n 0, 1) := by decide +kernel
theorem dX12_one_327 : decode cX12_one 327 = .ok (.bipush 41, 2) := by decide +kernel
theorem dX12_one_329 : decode cX12_one 329 = .ok (.invokevirtual 224, 3) := by decide +kernel
theorem dX12_one_332 : decode cX12_one 332 = .ok (.aload_n 0, 1) := by decide +kernel
theorem dX12_one_333 : decode cX12_one 333 = .ok (.dup, 1) := by decide +kernel
theorem dX12_one_334 : decode cX12_one 334 = .ok (.getfield 217, 3) := by decide +kernel
theorem dX12_one_337 : decode cX12_one 337 = .ok (.iconst 1, 1) := by decide +kernel
theorem dX12_one_338 : decode cX12_one 338 = .ok (.isub, 1) := by decide +kernel
theorem dX12_one_339 : decode cX12_one 339 = .ok (.putfield 217, 3) := by decide +kernel
theorem dX12_one_342 : decode cX12_one 342 = .ok (.return_, 1) := by decide +kernel
theorem dX12_one_343 : decode cX12_one 343 = .ok (.aload_n 0, 1) := by decide +kernel
theorem dX12_one_344 : decode cX12_one 344 = .ok (.invokevirtual 278, 3) := by decide +kernel
theorem dX12_one_347 : decode cX12_one 347 = .ok (.istore_n 2, 1) := by decide +kernel
theorem dX12_one_348 : decode cX12_one 348 = .ok (.aload_n 0, 1) := by decide +kernel
theorem dX12_one_349 : decode cX12_one 349 = .ok (.aload_n 0, 1) := by decide +kernel
theorem dX12_one_350 : decode cX12_one 350 = .ok (.getfield 281, 3) := by decide +kernel
theorem dX12_one_353 : decode cX12_one 353 = .ok (.ifCond .ne 9, 3) := by decide +kernel
theorem dX12_one_356 : decode cX12_one 356 = .ok (.iload_n 2, 1) := by decide +kernel
theorem dX12_one_357 : decode cX12_one 357 = .ok (.bipush 6, 2) := by decide +kernel
theorem dX12_one_359 : decode cX12_one 359 = .ok (.if_icmp .ne 7, 3) := by decide +kernel
theorem dX12_one_362 : decode cX12_one 362 = .ok (.iconst 1, 1) := by decide +kernel
theorem dX12_one_363 : decode cX12_one 363 = .ok (.goto 4, 3) := by decide +kernel
theorem dX12_one_366 : decode cX12_one 366 = .ok (.iconst 0, 1) := by decide +kernel
theorem dX12_one_367 : decode cX12_one 367 = .ok (.putfield 281, 3) := by decide +kernel
theorem dX12_one_370 : decode cX12_one 370 = .ok (.iload_n 2, 1) := by decide +kernel
theorem dX12_one_371 : decode cX12_one 371 = .ok (.iconst (-1), 1) := by decide +kernel
theorem dX12_one_372 : decode cX12_one 372 = .ok (.if_icmp .eq 12, 3) := by decide +kernel
theorem dX12_one_375 : decode cX12_one 375 = .ok (.aload_n 0, 1) := by decide +kernel
theorem dX12_one_376 : decode cX12_one 376 = .ok (.iconst 1, 1) := by decide +kernel
theorem dX12_one_377 : decode cX12_one 377 = .ok (.iload_n 2, 1) := by decide +kernel
theorem dX12_one_378 : decode cX12_one 378 = .ok (.invokevirtual 262, 3) := by decide +kernel
theorem dX12_one_381 : decode cX12_one 381 = .ok (.goto 15, 3) := by decide +kernel
theorem dX12_one_384 : decode cX12_one 384 = .ok (.aload_n 0, 1) := by decide +kernel
theorem dX12_one_385 : decode cX12_one 385 = .ok (.iconst 0, 1) := by decide +kernel
theorem dX12_one_386 : decode cX12_one 386 = .ok (.aload_n 0, 1) := by decide +kernel
theorem dX12_one_387 : decode cX12_one 387 = .ok (.iconst 0, 1) := by decide +kernel
theorem dX12_one_388 : decode cX12_one 388 = .ok (.bipush 99, 2) := by decide +kernel
theorem dX12_one_390 : decode cX12_one 390 = .ok (.invokevirtual 220, 3) := by decide +kernel
theorem dX12_one_393 : decode cX12_one 393 = .ok (.invokevirtual 262, 3) := by decide +kernel
theorem dX12_one_396 : decode cX12_one 396 = .ok (.return_, 1) := by decide +kernel
theorem dX12_isGuest_0 : decode cX12_isGuest 0 = .ok (.iload_n 1, 1) := by decide +kernel
theorem dX12_isGuest_1 : decode cX12_isGuest 1 = .ok (.iconst 0, 1) := by decide +kernel
theorem dX12_isGuest_2 : decode cX12_isGuest 2 = .ok (.aload_n 0, 1) := by decide +kernel
theorem dX12_isGuest_3 : decode cX12_isGuest 3 = .ok (.getfield 23, 3) := by decide +kernel
theorem dX12_isGuest_6 : decode cX12_isGuest 6 = .ok (.iconst 1, 1) := by decide +kernel
theorem dX12_isGuest_7 : decode cX12_isGuest 7 = .ok (.iaload, 1) := by decide +kernel
theorem dX12_isGuest_8 : decode cX12_isGuest 8 = .ok (.iconst 1, 1) := by decide +kernel
theorem dX12_isGuest_9 : decode cX12_isGuest 9 = .ok (.isub, 1) := by decide +kernel
theorem dX12_isGuest_10 : decode cX12_isGuest 10 = .ok (.invokestatic 192, 3) := by decide +kernel
theorem dX12_isGuest_13 : decode cX12_isGuest 13 = .ok (.ireturn, 1) := by decide +kernel
theorem dX12_isChair_0 : decode cX12_isChair 0 = .ok (.iload_n 1, 1) := by decide +kernel
theorem dX12_isChair_1 : decode cX12_isChair 1 = .ok (.iconst 0, 1) := by decide +kernel
theorem dX12_isChair_2 : decode cX12_isChair 2 = .ok (.aload_n 0, 1) := by decide +kernel
theorem dX12_isChair_3 : decode cX12_isChair 3 = .ok (.getfield 23, 3) := by decide +kernel
theorem dX12_isChair_6 : decode cX12_isChair 6 = .ok (.iconst 0, 1) := by decide +kernel
theorem dX12_isChair_7 : decode cX12_isChair 7 = .ok (.iaload, 1) := by decide +kernel
theorem dX12_isChair_8 : decode cX12_isChair 8 = .ok (.iconst 1, 1) := by decide +kernel
theorem dX12_isChair_9 : decode cX12_isChair 9 = .ok (.isub, 1) := by decide +kernel
theorem dX12_isChair_10 : decode cX12_isChair 10 = .ok (.invokestatic 192, 3) := by decide +kernel
theorem dX12_isChair_13 : decode cX12_isChair 13 = .ok (.ireturn, 1) := by decide +kernel
theorem dX12_habit_0 : decode cX12_habit 0 = .ok (.aload_n 0, 1) := by decide +kernel
theorem dX12_habit_1 : decode cX12_habit 1 = .ok (.iconst 0, 1) := by decide +kernel
theorem dX12_habit_2 : decode cX12_habit 2 = .ok (.putfield 158, 3) := by decide +kernel
theorem dX12_habit_5 : decode cX12_habit 5 = .ok (.aload_n 0, 1) := by decide +kernel
theorem dX12_habit_6 : decode cX12_habit 6 = .ok (.aload_n 0, 1) := by decide +kernel
theorem dX12_habit_7 : decode cX12_habit 7 = .ok (.iload_n 1, 1) := by decide +kernel
theorem dX12_habit_8 : decode cX12_habit 8 = .ok (.invokevirtual 285, 3) := by decide +kernel
theorem dX12_habit_11 : decode cX12_habit 11 = .ok (.ifCond .ne 7, 3) := by decide +kernel
theorem dX12_habit_14 : decode cX12_habit 14 = .ok (.iconst 1, 1) := by decide +kernel
theorem dX12_habit_15 : decode cX12_habit 15 = .ok (.goto 4, 3) := by decide +kernel
theorem dX12_habit_18 : decode cX12_habit 18 = .ok (.iconst 0, 1) := by decide +kernel
theorem dX12_habit_19 : decode cX12_habit 19 = .ok (.iconst 1, 1) := by decide +kernel
theorem dX12_habit_20 : decode cX12_habit 20 = .ok (.iconst 0, 1) := by decide +kernel
theorem dX12_habit_21 : decode cX12_habit 21 = .ok (.invokevirtual 228, 3) := by decide +kernel
theorem dX12_habit_24 : decode cX12_habit 24 = .ok (.ifCond .ne 36, 3) := by decide +kernel
theorem dX12_habit_27 : decode cX12_habit 27 = .ok (.aload_n 0, 1) := by decide +kernel
theorem dX12_habit_28 : decode cX12_habit 28 = .ok (.iload_n 2, 1) := by decide +kernel
theorem dX12_habit_29 : decode cX12_habit 29 = .ok (.iconst 0, 1) := by decide +kernel
theorem dX12_habit_30 : decode cX12_habit 30 = .ok (.aload_n 0, 1) := by decide +kernel
theorem dX12_habit_31 : decode cX12_habit 31 = .ok (.getfield 161, 3) := by decide +kernel
theorem dX12_habit_34 : decode cX12_habit 34 = .ok (.invokestatic 192, 3) := by decide +kernel
theorem dX12_habit_37 : decode cX12_habit 37 = .ok (.ifCond .eq 10, 3) := by decide +kernel
theorem dX12_habit_40 : decode cX12_habit 40 = .ok (.iload_n 2, 1) := by decide +kernel
theorem dX12_habit_41 : decode cX12_habit 41 = .ok (.sipush 150, 3) := by decide +kernel
theorem dX12_habit_44 : decode cX12_habit 44 = .ok (.if_icmp .le 7, 3) := by decide +kernel
theorem dX12_habit_47 : decode cX12_habit 47 = .ok (.iconst 1, 1) := by decide +kernel
theorem dX12_habit_48 : decode cX12_habit 48 = .ok (.goto 4, 3) := by decide +kernel
theorem dX12_habit_51 : decode cX12_habit 51 = .ok (.iconst 0, 1) := by decide +kernel
theorem dX12_habit_52 : decode cX12_habit 52 = .ok (.iconst 2, 1) := by decide +kernel
theorem dX12_habit_53 : decode cX12_habit 53 = .ok (.iconst 1, 1) := by decide +kernel
theorem dX12_habit_54 : decode cX12_habit 54 = .ok (.invokevirtual 228, 3) := by decide +kernel
theorem dX12_habit_57 : decode cX12_habit 57 = .ok (.ifCond .eq 5, 3) := by decide +kernel
theorem dX12_habit_60 : decode cX12_habit 60 = .ok (.iconst 0, 1) := by decide +kernel
theorem dX12_habit_61 : decode cX12_habit 61 = .ok (.ireturn, 1) := by decide +kernel
theorem dX12_habit_62 : decode cX12_habit 62 = .ok (.aload_n 0, 1) := by decide +kernel
theorem dX12_habit_63 : decode cX12_habit 63 = .ok (.iload_n 2, 1) := by decide +kernel
theorem dX12_habit_64 : decode cX12_habit 64 = .ok (.invokevirtual 232, 3) := by decide +kernel
theorem dX12_habit_67 : decode cX12_habit 67 = .ok (.aload_n 0, 1) := by decide +kernel
theorem dX12_habit_68 : decode cX12_habit 68 = .ok (.iconst 0, 1) := by decide +kernel
theorem dX12_habit_69 : decode cX12_habit 69 = .ok (.putfield 253, 3) := by decide +kernel
theorem dX12_habit_72 : decode cX12_habit 72 = .ok (.aload_n 0, 1) := by decide +kernel
theorem dX12_habit_73 : decode cX12_habit 73 = .ok (.iconst 0, 1) := by decide +kernel
theorem dX12_habit_74 : decode cX12_habit 74 = .ok (.putfield 281, 3) := by decide +kernel
theorem dX12_habit_77 : decode cX12_habit 77 = .ok (.aload_n 0, 1) := by decide +kernel
theorem dX12_habit_78 : decode cX12_habit 78 = .ok (.invokevirtual 275, 3) := by decide +kernel
theorem dX12_habit_81 : decode cX12_habit 81 = .ok (.aload_n 0, 1) := by decide +kernel
theorem dX12_habit_82 : decode cX12_habit 82 = .ok (.invokevirtual 180, 3) := by decide +kernel
theorem dX12_habit_85 : decode cX12_habit 85 = .ok (.aload_n 0, 1) := by decide +kernel
theorem dX12_habit_86 : decode cX12_habit 86 = .ok (.getfield 174, 3) := by decide +kernel
theorem dX12_habit_89 : decode cX12_habit 89 = .ok (.ifCond .ne 23, 3) := by decide +kernel
theorem dX12_habit_92 : decode cX12_habit 92 = .ok (.aload_n 0, 1) := by decide +kernel
theorem dX12_habit_93 : decode cX12_habit 93 = .ok (.getfield 167, 3) := by decide +kernel
theorem dX12_habit_96 : decode cX12_habit 96 = .ok (.aload_n 0, 1) := by decide +kernel
theorem dX12_habit_97 : decode cX12_habit 97 = .ok (.getfield 164, 3) := by decide +kernel
theorem dX12_habit_100 : decode cX12_habit 100 = .ok (.if_icmp .ge 12, 3) := by decide +kernel
theorem dX12_habit_103 : decode cX12_habit 103 = .ok (.aload_n 0, 1) := by decide +kernel
theorem dX12_habit_104 : decode cX12_habit 104 = .ok (.iconst 1, 1) := by decide +kernel
theorem dX12_habit_105 : decode cX12_habit 105 = .ok (.aload_n 0, 1) := by decide +kernel
theorem dX12_habit_106 : decode cX12_habit 106 = .ok (.getfield 167, 3) := by decide +kernel
theorem dX12_habit_109 : decode cX12_habit 109 = .ok (.invokevirtual 187, 3) := by decide +kernel
theorem dX12_habit_112 : decode cX12_habit 112 = .ok (.aload_n 0, 1) := by decide +kernel
theorem dX12_habit_113 : decode cX12_habit 113 = .ok (.getfield 174, 3) := by decide +kernel
theorem dX12_habit_116 : decode cX12_habit 116 = .ok (.ifCond .eq 8, 3) := by decide +kernel
theorem dX12_habit_119 : decode cX12_habit 119 = .ok (.aload_n 0, 1) := by decide +kernel
theorem dX12_habit_120 : decode cX12_habit 120 = .ok (.invokevirtual 238, 3) := by decide +kernel
theorem dX12_habit_123 : decode cX12_habit 123 = .ok (.ireturn, 1) := by decide +kernel
theorem dX12_habit_124 : decode cX12_habit 124 = .ok (.aload_n 0, 1) := by decide +kernel
theorem dX12_habit_125 : decode cX12_habit 125 = .ok (.iconst (-1), 1) := by decide +kernel
theorem dX12_habit_126 : decode cX12_habit 126 = .ok (.putfield 9, 3) := by decide +kernel
theorem dX12_habit_129 : decode cX12_habit 129 = .ok (.aload_n 0, 1) := by decide +kernel
theorem dX12_habit_130 : decode cX12_habit 130 = .ok (.getfield 40, 3) := by decide +kernel
theorem dX12_habit_133 : decode cX12_habit 133 = .ok (.iload_n 1, 1) := by decide +kernel
theorem dX12_habit_134 : decode cX12_habit 134 = .ok (.aload_n 0, 1) := by decide +kernel
theorem dX12_habit_135 : decode cX12_habit 135 = .ok (.getfield 253, 3) := by decide +kernel
theorem dX12_habit_138 : decode cX12_habit 138 = .ok (.iastore, 1) := by decide +kernel
theorem dX12_habit_139 : decode cX12_habit 139 = .ok (.aload_n 0, 1) := by decide +kernel
theorem dX12_habit_140 : decode cX12_habit 140 = .ok (.getfield 67, 3) := by decide +kernel
theorem dX12_habit_143 : decode cX12_habit 143 = .ok (.iload_n 1, 1) := by decide +kernel
theorem dX12_habit_144 : decode cX12_habit 144 = .ok (.aload_n 0, 1) := by decide +kernel
theorem dX12_habit_145 : decode cX12_habit 145 = .ok (.getfield 281, 3) := by decide +kernel
theorem dX12_habit_148 : decode cX12_habit 148 = .ok (.bastore, 1) := by decide +kernel
theorem dX12_habit_149 : decode cX12_habit 149 = .ok (.iconst 0, 1) := by decide +kernel
theorem dX12_habit_150 : decode cX12_habit 150 = .ok (.istore_n 3, 1) := by decide +kernel
theorem dX12_habit_151 : decode cX12_habit 151 = .ok (.iload_n 3, 1) := by decide +kernel
theorem dX12_habit_152 : decode cX12_habit 152 = .ok (.iconst 2, 1) := by decide +kernel
theorem dX12_habit_153 : decode cX12_habit 153 = .ok (.aload_n 0, 1) := by decide +kernel
theorem dX12_habit_154 : decode cX12_habit 154 = .ok (.getfield 253, 3) := by decide +kernel
theorem dX12_habit_157 : decode cX12_habit 157 = .ok (.imul, 1) := by decide +kernel
theorem dX12_habit_158 : decode cX12_habit 158 = .ok (.if_icmp .ge 23, 3) := by decide +kernel
theorem dX12_habit_161 : decode cX12_habit 161 = .ok (.aload_n 0, 1) := by decide +kernel
theorem dX12_habit_162 : decode cX12_habit 162 = .ok (.getfield 52, 3) := by decide +kernel
theorem dX12_habit_165 : decode cX12_habit 165 = .ok (.iload_n 1, 1) := by decide +kernel
theorem dX12_habit_166 : decode cX12_habit 166 = .ok (.aaload, 1) := by decide +kernel
theorem dX12_habit_167 : decode cX12_habit 167 = .ok (.iload_n 3, 1) := by decide +kernel
theorem dX12_habit_168 : decode cX12_habit 168 = .ok (.aload_n 0, 1) := by decide +kernel
theorem dX12_habit_169 : decode cX12_habit 169 = .ok (.getfield 49, 3) := by decide +kernel
theorem dX12_habit_172 : decode cX12_habit 172 = .ok (.iload_n 3, 1) := by decide +kernel
theorem dX12_habit_173 : decode cX12_habit 173 = .ok (.iaload, 1) := by decide +kernel
theorem dX12_habit_174 : decode cX12_habit 174 = .ok (.iastore, 1) := by decide +kernel
theorem dX12_habit_175 : decode cX12_habit 175 = .ok (.iinc 3 1, 3) := by decide +kernel
theorem dX12_habit_178 : decode cX12_habit 178 = .ok (.goto (-27), 3) := by decide +kernel
theorem dX12_habit_181 : decode cX12_habit 181 = .ok (.iconst 1, 1) := by decide +kernel
theorem dX12_habit_182 : decode cX12_habit 182 = .ok (.ireturn, 1) := by decide +kernel

theorem dX12_given_0 : decode cX12_given 0 = .ok (.aload_n 0, 1) := by decide +kernel
theorem dX12_given_1 : decode cX12_given 1 = .ok (.iconst 0, 1) := by decide +kernel
theorem dX12_given_2 : decode cX12_given 2 = .ok (.putfield 158, 3) := by decide +kernel
theorem dX12_given_5 : decode cX12_given 5 = .ok (.aload_n 0, 1) := by decide +kernel
theorem dX12_given_6 : decode cX12_given 6 = .ok (.aload_n 0, 1) := by decide +kernel
theorem dX12_given_7 : decode cX12_given 7 = .ok (.getfield 23, 3) := by decide +kernel
theorem dX12_given_10 : decode cX12_given 10 = .ok (.iconst 0, 1) := by decide +kernel
theorem dX12_given_11 : decode cX12_given 11 = .ok (.iaload, 1) := by decide +kernel
theorem dX12_given_12 : decode cX12_given 12 = .ok (.invokevirtual 378, 3) := by decide +kernel
theorem dX12_given_15 : decode cX12_given 15 = .ok (.ireturn, 1) := by decide +kernel
theorem dX12_gets_0 : decode cX12_gets 0 = .ok (.aload_n 0, 1) := by decide +kernel
theorem dX12_gets_1 : decode cX12_gets 1 = .ok (.iconst 0, 1) := by decide +kernel
theorem dX12_gets_2 : decode cX12_gets 2 = .ok (.putfield 158, 3) := by decide +kernel
theorem dX12_gets_5 : decode cX12_gets 5 = .ok (.aload_n 0, 1) := by decide +kernel
theorem dX12_gets_6 : decode cX12_gets 6 = .ok (.aload_n 0, 1) := by decide +kernel
theorem dX12_gets_7 : decode cX12_gets 7 = .ok (.iload_n 1, 1) := by decide +kernel
theorem dX12_gets_8 : decode cX12_gets 8 = .ok (.invokevirtual 285, 3) := by decide +kernel
theorem dX12_gets_11 : decode cX12_gets 11 = .ok (.ifCond .ne 7, 3) := by decide +kernel
theorem dX12_gets_14 : decode cX12_gets 14 = .ok (.iconst 1, 1) := by decide +kernel
theorem dX12_gets_15 : decode cX12_gets 15 = .ok (.goto 4, 3) := by decide +kernel
theorem dX12_gets_18 : decode cX12_gets 18 = .ok (.iconst 0, 1) := by decide +kernel
theorem dX12_gets_19 : decode cX12_gets 19 = .ok (.iconst 1, 1) := by decide +kernel
theorem dX12_gets_20 : decode cX12_gets 20 = .ok (.iconst 0, 1) := by decide +kernel
theorem dX12_gets_21 : decode cX12_gets 21 = .ok (.invokevirtual 228, 3) := by decide +kernel
theorem dX12_gets_24 : decode cX12_gets 24 = .ok (.ifCond .eq 5, 3) := by decide +kernel
theorem dX12_gets_27 : decode cX12_gets 27 = .ok (.iconst 0, 1) := by decide +kernel
theorem dX12_gets_28 : decode cX12_gets 28 = .ok (.ireturn, 1) := by decide +kernel
theorem dX12_gets_29 : decode cX12_gets 29 = .ok (.aload_n 0, 1) := by decide +kernel
theorem dX12_gets_30 : decode cX12_gets 30 = .ok (.aload_n 0, 1) := by decide +kernel
theorem dX12_gets_31 : decode cX12_gets 31 = .ok (.getfield 23, 3) := by decide +kernel
theorem dX12_gets_34 : decode cX12_gets 34 = .ok (.iconst 0, 1) := by decide +kernel
theorem dX12_gets_35 : decode cX12_gets 35 = .ok (.iaload, 1) := by decide +kernel
theorem dX12_gets_36 : decode cX12_gets 36 = .ok (.invokevirtual 378, 3) := by decide +kernel
theorem dX12_gets_39 : decode cX12_gets 39 = .ok (.pop, 1) := by decide +kernel
theorem dX12_gets_40 : decode cX12_gets 40 = .ok (.iconst 0, 1) := by decide +kernel
theorem dX12_gets_41 : decode cX12_gets 41 = .ok (.istore_n 2, 1) := by decide +kernel
theorem dX12_gets_42 : decode cX12_gets 42 = .ok (.iconst (-1), 1) := by decide +kernel
theorem dX12_gets_43 : decode cX12_gets 43 = .ok (.istore_n 3, 1) := by decide +kernel
theorem dX12_gets_44 : decode cX12_gets 44 = .ok (.iconst 0, 1) := by decide +kernel
theorem dX12_gets_45 : decode cX12_gets 45 = .ok (.istore 4, 2) := by decide +kernel
theorem dX12_gets_47 : decode cX12_gets 47 = .ok (.iload 4, 2) := by decide +kernel
theorem dX12_gets_49 : decode cX12_gets 49 = .ok (.iload_n 1, 1) := by decide +kernel
theorem dX12_gets_50 : decode cX12_gets 50 = .ok (.if_icmp .gt 104, 3) := by decide +kernel
theorem dX12_gets_53 : decode cX12_gets 53 = .ok (.iconst (-1), 1) := by decide +kernel
theorem dX12_gets_54 : decode cX12_gets 54 = .ok (.istore_n 3, 1) := by decide +kernel
theorem dX12_gets_55 : decode cX12_gets 55 = .ok (.aload_n 0, 1) := by decide +kernel
theorem dX12_gets_56 : decode cX12_gets 56 = .ok (.getfield 140, 3) := by decide +kernel
theorem dX12_gets_59 : decode cX12_gets 59 = .ok (.iload 4, 2) := by decide +kernel
theorem dX12_gets_61 : decode cX12_gets 61 = .ok (.iconst 1, 1) := by decide +kernel
theorem dX12_gets_62 : decode cX12_gets 62 = .ok (.iadd, 1) := by decide +kernel
theorem dX12_gets_63 : decode cX12_gets 63 = .ok (.aaload, 1) := by decide +kernel
theorem dX12_gets_64 : decode cX12_gets 64 = .ok (.iload_n 2, 1) := by decide +kernel
theorem dX12_gets_65 : decode cX12_gets 65 = .ok (.iaload, 1) := by decide +kernel
theorem dX12_gets_66 : decode cX12_gets 66 = .ok (.aload_n 0, 1) := by decide +kernel
theorem dX12_gets_67 : decode cX12_gets 67 = .ok (.getfield 140, 3) := by decide +kernel
theorem dX12_gets_70 : decode cX12_gets 70 = .ok (.iload 4, 2) := by decide +kernel
theorem dX12_gets_72 : decode cX12_gets 72 = .ok (.aaload, 1) := by decide +kernel
theorem dX12_gets_73 : decode cX12_gets 73 = .ok (.iload_n 2, 1) := by decide +kernel
theorem dX12_gets_74 : decode cX12_gets 74 = .ok (.iaload, 1) := by decide +kernel
theorem dX12_gets_75 : decode cX12_gets 75 = .ok (.if_icmp .ne 6, 3) := by decide +kernel
theorem dX12_gets_78 : decode cX12_gets 78 = .ok (.goto 70, 3) := by decide +kernel
theorem dX12_gets_81 : decode cX12_gets 81 = .ok (.iconst 0, 1) := by decide +kernel
theorem dX12_gets_82 : decode cX12_gets 82 = .ok (.istore_n 3, 1) := by decide +kernel
theorem dX12_gets_83 : decode cX12_gets 83 = .ok (.iload_n 2, 1) := by decide +kernel
theorem dX12_gets_84 : decode cX12_gets 84 = .ok (.iload_n 3, 1) := by decide +kernel
theorem dX12_gets_85 : decode cX12_gets 85 = .ok (.ishr, 1) := by decide +kernel
theorem dX12_gets_86 : decode cX12_gets 86 = .ok (.iconst 1, 1) := by decide +kernel
theorem dX12_gets_87 : decode cX12_gets 87 = .ok (.iand, 1) := by decide +kernel
theorem dX12_gets_88 : decode cX12_gets 88 = .ok (.iconst 1, 1) := by decide +kernel
theorem dX12_gets_89 : decode cX12_gets 89 = .ok (.if_icmp .eq 47, 3) := by decide +kernel
theorem dX12_gets_92 : decode cX12_gets 92 = .ok (.aload_n 0, 1) := by decide +kernel
theorem dX12_gets_93 : decode cX12_gets 93 = .ok (.iload 4, 2) := by decide +kernel
theorem dX12_gets_95 : decode cX12_gets 95 = .ok (.iload_n 3, 1) := by decide +kernel
theorem dX12_gets_96 : decode cX12_gets 96 = .ok (.aload_n 0, 1) := by decide +kernel
theorem dX12_gets_97 : decode cX12_gets 97 = .ok (.getfield 37, 3) := by decide +kernel
theorem dX12_gets_100 : decode cX12_gets 100 = .ok (.iload 4, 2) := by decide +kernel
theorem dX12_gets_102 : decode cX12_gets 102 = .ok (.aaload, 1) := by decide +kernel
theorem dX12_gets_103 : decode cX12_gets 103 = .ok (.iconst 1, 1) := by decide +kernel
theorem dX12_gets_104 : decode cX12_gets 104 = .ok (.iaload, 1) := by decide +kernel
theorem dX12_gets_105 : decode cX12_gets 105 = .ok (.invokevirtual 310, 3) := by decide +kernel
theorem dX12_gets_108 : decode cX12_gets 108 = .ok (.aload_n 0, 1) := by decide +kernel
theorem dX12_gets_109 : decode cX12_gets 109 = .ok (.getfield 140, 3) := by decide +kernel
theorem dX12_gets_112 : decode cX12_gets 112 = .ok (.iload 4, 2) := by decide +kernel
theorem dX12_gets_114 : decode cX12_gets 114 = .ok (.iconst 1, 1) := by decide +kernel
theorem dX12_gets_115 : decode cX12_gets 115 = .ok (.iadd, 1) := by decide +kernel
theorem dX12_gets_116 : decode cX12_gets 116 = .ok (.aaload, 1) := by decide +kernel
theorem dX12_gets_117 : decode cX12_gets 117 = .ok (.iload_n 2, 1) := by decide +kernel
theorem dX12_gets_118 : decode cX12_gets 118 = .ok (.iconst 1, 1) := by decide +kernel
theorem dX12_gets_119 : decode cX12_gets 119 = .ok (.iload_n 3, 1) := by decide +kernel
theorem dX12_gets_120 : decode cX12_gets 120 = .ok (.ishl, 1) := by decide +kernel
theorem dX12_gets_121 : decode cX12_gets 121 = .ok (.ior, 1) := by decide +kernel
theorem dX12_gets_122 : decode cX12_gets 122 = .ok (.iaload, 1) := by decide +kernel
theorem dX12_gets_123 : decode cX12_gets 123 = .ok (.iadd, 1) := by decide +kernel
theorem dX12_gets_124 : decode cX12_gets 124 = .ok (.aload_n 0, 1) := by decide +kernel
theorem dX12_gets_125 : decode cX12_gets 125 = .ok (.getfield 140, 3) := by decide +kernel
theorem dX12_gets_128 : decode cX12_gets 128 = .ok (.iload 4, 2) := by decide +kernel
theorem dX12_gets_130 : decode cX12_gets 130 = .ok (.aaload, 1) := by decide +kernel
theorem dX12_gets_131 : decode cX12_gets 131 = .ok (.iload_n 2, 1) := by decide +kernel
theorem dX12_gets_132 : decode cX12_gets 132 = .ok (.iaload, 1) := by decide +kernel
theorem dX12_gets_133 : decode cX12_gets 133 = .ok (.if_icmp .eq 9, 3) := by decide +kernel
theorem dX12_gets_136 : decode cX12_gets 136 = .ok (.iinc 3 1, 3) := by decide +kernel
theorem dX12_gets_139 : decode cX12_gets 139 = .ok (.goto (-56), 3) := by decide +kernel
theorem dX12_gets_142 : decode cX12_gets 142 = .ok (.iload_n 2, 1) := by decide +kernel
theorem dX12_gets_143 : decode cX12_gets 143 = .ok (.iconst 1, 1) := by decide +kernel
theorem dX12_gets_144 : decode cX12_gets 144 = .ok (.iload_n 3, 1) := by decide +kernel
theorem dX12_gets_145 : decode cX12_gets 145 = .ok (.ishl, 1) := by decide +kernel
theorem dX12_gets_146 : decode cX12_gets 146 = .ok (.ior, 1) := by decide +kernel
theorem dX12_gets_147 : decode cX12_gets 147 = .ok (.istore_n 2, 1) := by decide +kernel
theorem dX12_gets_148 : decode cX12_gets 148 = .ok (.iinc 4 1, 3) := by decide +kernel
theorem dX12_gets_151 : decode cX12_gets 151 = .ok (.goto (-104), 3) := by decide +kernel
theorem dX12_gets_154 : decode cX12_gets 154 = .ok (.iload_n 3, 1) := by decide +kernel
theorem dX12_gets_155 : decode cX12_gets 155 = .ok (.ireturn, 1) := by decide +kernel
theorem dX12_waste_0 : decode cX12_waste 0 = .ok (.aload_n 0, 1) := by decide +kernel
theorem dX12_waste_1 : decode cX12_waste 1 = .ok (.iconst 0, 1) := by decide +kernel
theorem dX12_waste_2 : decode cX12_waste 2 = .ok (.putfield 158, 3) := by decide +kernel
theorem dX12_waste_5 : decode cX12_waste 5 = .ok (.aload_n 0, 1) := by decide +kernel
theorem dX12_waste_6 : decode cX12_waste 6 = .ok (.invokevirtual 353, 3) := by decide +kernel
theorem dX12_waste_9 : decode cX12_waste 9 = .ok (.aload_n 0, 1) := by decide +kernel
theorem dX12_waste_10 : decode cX12_waste 10 = .ok (.aload_n 0, 1) := by decide +kernel
theorem dX12_waste_11 : decode cX12_waste 11 = .ok (.getfield 23, 3) := by decide +kernel
theorem dX12_waste_14 : decode cX12_waste 14 = .ok (.iconst 0, 1) := by decide +kernel
theorem dX12_waste_15 : decode cX12_waste 15 = .ok (.iaload, 1) := by decide +kernel
theorem dX12_waste_16 : decode cX12_waste 16 = .ok (.invokevirtual 378, 3) := by decide +kernel
theorem dX12_waste_19 : decode cX12_waste 19 = .ok (.aload_n 0, 1) := by decide +kernel
theorem dX12_waste_20 : decode cX12_waste 20 = .ok (.invokevirtual 359, 3) := by decide +kernel
theorem dX12_waste_23 : decode cX12_waste 23 = .ok (.isub, 1) := by decide +kernel
theorem dX12_waste_24 : decode cX12_waste 24 = .ok (.ireturn, 1) := by decide +kernel
theorem dX12_more_0 : decode cX12_more 0 = .ok (.aload_n 0, 1) := by decide +kernel
theorem dX12_more_1 : decode cX12_more 1 = .ok (.iconst 0, 1) := by decide +kernel
theorem dX12_more_2 : decode cX12_more 2 = .ok (.putfield 158, 3) := by decide +kernel
theorem dX12_more_5 : decode cX12_more 5 = .ok (.aload_n 0, 1) := by decide +kernel
theorem dX12_more_6 : decode cX12_more 6 = .ok (.iload_n 1, 1) := by decide +kernel
theorem dX12_more_7 : decode cX12_more 7 = .ok (.iconst 0, 1) := by decide +kernel
theorem dX12_more_8 : decode cX12_more 8 = .ok (.bipush 9, 2) := by decide +kernel
theorem dX12_more_10 : decode cX12_more 10 = .ok (.invokestatic 192, 3) := by decide +kernel
theorem dX12_more_13 : decode cX12_more 13 = .ok (.ifCond .eq 13, 3) := by decide +kernel
theorem dX12_more_16 : decode cX12_more 16 = .ok (.iload_n 2, 1) := by decide +kernel
theorem dX12_more_17 : decode cX12_more 17 = .ok (.iconst 0, 1) := by decide +kernel
theorem dX12_more_18 : decode cX12_more 18 = .ok (.bipush 9, 2) := by decide +kernel
theorem dX12_more_20 : decode cX12_more 20 = .ok (.invokestatic 192, 3) := by decide +kernel
theorem dX12_more_23 : decode cX12_more 23 = .ok (.ifCond .ne 7, 3) := by decide +kernel
theorem dX12_more_26 : decode cX12_more 26 = .ok (.iconst 1, 1) := by decide +kernel
theorem dX12_more_27 : decode cX12_more 27 = .ok (.goto 4, 3) := by decide +kernel
theorem dX12_more_30 : decode cX12_more 30 = .ok (.iconst 0, 1) := by decide +kernel
theorem dX12_more_31 : decode cX12_more 31 = .ok (.iconst 1, 1) := by decide +kernel
theorem dX12_more_32 : decode cX12_more 32 = .ok (.iconst 1, 1) := by decide +kernel
theorem dX12_more_33 : decode cX12_more 33 = .ok (.invokevirtual 228, 3) := by decide +kernel
theorem dX12_more_36 : decode cX12_more 36 = .ok (.ifCond .eq 5, 3) := by decide +kernel
theorem dX12_more_39 : decode cX12_more 39 = .ok (.iconst 0, 1) := by decide +kernel
theorem dX12_more_40 : decode cX12_more 40 = .ok (.ireturn, 1) := by decide +kernel
theorem dX12_more_41 : decode cX12_more 41 = .ok (.aload_n 0, 1) := by decide +kernel
theorem dX12_more_42 : decode cX12_more 42 = .ok (.getfield 31, 3) := by decide +kernel
theorem dX12_more_45 : decode cX12_more 45 = .ok (.aload_n 0, 1) := by decide +kernel
theorem dX12_more_46 : decode cX12_more 46 = .ok (.getfield 23, 3) := by decide +kernel
theorem dX12_more_49 : decode cX12_more 49 = .ok (.iconst 0, 1) := by decide +kernel
theorem dX12_more_50 : decode cX12_more 50 = .ok (.iaload, 1) := by decide +kernel
theorem dX12_more_51 : decode cX12_more 51 = .ok (.aaload, 1) := by decide +kernel
theorem dX12_more_52 : decode cX12_more 52 = .ok (.iconst 0, 1) := by decide +kernel
theorem dX12_more_53 : decode cX12_more 53 = .ok (.iload_n 1, 1) := by decide +kernel
theorem dX12_more_54 : decode cX12_more 54 = .ok (.iastore, 1) := by decide +kernel
theorem dX12_more_55 : decode cX12_more 55 = .ok (.aload_n 0, 1) := by decide +kernel
theorem dX12_more_56 : decode cX12_more 56 = .ok (.getfield 31, 3) := by decide +kernel
theorem dX12_more_59 : decode cX12_more 59 = .ok (.aload_n 0, 1) := by decide +kernel
theorem dX12_more_60 : decode cX12_more 60 = .ok (.getfield 23, 3) := by decide +kernel
theorem dX12_more_63 : decode cX12_more 63 = .ok (.iconst 0, 1) := by decide +kernel
theorem dX12_more_64 : decode cX12_more 64 = .ok (.iaload, 1) := by decide +kernel
theorem dX12_more_65 : decode cX12_more 65 = .ok (.aaload, 1) := by decide +kernel
theorem dX12_more_66 : decode cX12_more 66 = .ok (.iconst 1, 1) := by decide +kernel
theorem dX12_more_67 : decode cX12_more 67 = .ok (.iload_n 2, 1) := by decide +kernel
theorem dX12_more_68 : decode cX12_more 68 = .ok (.iastore, 1) := by decide +kernel
theorem dX12_more_69 : decode cX12_more 69 = .ok (.aload_n 0, 1) := by decide +kernel
theorem dX12_more_70 : decode cX12_more 70 = .ok (.aload_n 0, 1) := by decide +kernel
theorem dX12_more_71 : decode cX12_more 71 = .ok (.getfield 23, 3) := by decide +kernel
theorem dX12_more_74 : decode cX12_more 74 = .ok (.iconst 0, 1) := by decide +kernel
theorem dX12_more_75 : decode cX12_more 75 = .ok (.iaload, 1) := by decide +kernel
theorem dX12_more_76 : decode cX12_more 76 = .ok (.iconst 1, 1) := by decide +kernel
theorem dX12_more_77 : decode cX12_more 77 = .ok (.iadd, 1) := by decide +kernel
theorem dX12_more_78 : decode cX12_more 78 = .ok (.invokevirtual 378, 3) := by decide +kernel
theorem dX12_more_81 : decode cX12_more 81 = .ok (.istore_n 3, 1) := by decide +kernel
theorem dX12_more_82 : decode cX12_more 82 = .ok (.iload_n 3, 1) := by decide +kernel
theorem dX12_more_83 : decode cX12_more 83 = .ok (.aload_n 0, 1) := by decide +kernel
theorem dX12_more_84 : decode cX12_more 84 = .ok (.aload_n 0, 1) := by decide +kernel
theorem dX12_more_85 : decode cX12_more 85 = .ok (.getfield 23, 3) := by decide +kernel
theorem dX12_more_88 : decode cX12_more 88 = .ok (.iconst 0, 1) := by decide +kernel
theorem dX12_more_89 : decode cX12_more 89 = .ok (.iaload, 1) := by decide +kernel
theorem dX12_more_90 : decode cX12_more 90 = .ok (.invokevirtual 378, 3) := by decide +kernel
theorem dX12_more_93 : decode cX12_more 93 = .ok (.isub, 1) := by decide +kernel
theorem dX12_more_94 : decode cX12_more 94 = .ok (.ireturn, 1) := by decide +kernel
theorem dX12_wantAt_0 : decode cX12_wantAt 0 = .ok (.iconst 0, 1) := by decide +kernel
theorem dX12_wantAt_1 : decode cX12_wantAt 1 = .ok (.istore_n 2, 1) := by decide +kernel
theorem dX12_wantAt_2 : decode cX12_wantAt 2 = .ok (.iconst 0, 1) := by decide +kernel
theorem dX12_wantAt_3 : decode cX12_wantAt 3 = .ok (.istore_n 3, 1) := by decide +kernel
theorem dX12_wantAt_4 : decode cX12_wantAt 4 = .ok (.iload_n 3, 1) := by decide +kernel
theorem dX12_wantAt_5 : decode cX12_wantAt 5 = .ok (.aload_n 0, 1) := by decide +kernel
theorem dX12_wantAt_6 : decode cX12_wantAt 6 = .ok (.getfield 23, 3) := by decide +kernel
theorem dX12_wantAt_9 : decode cX12_wantAt 9 = .ok (.iconst 1, 1) := by decide +kernel
theorem dX12_wantAt_10 : decode cX12_wantAt 10 = .ok (.iaload, 1) := by decide +kernel
theorem dX12_wantAt_11 : decode cX12_wantAt 11 = .ok (.if_icmp .ge 76, 3) := by decide +kernel
theorem dX12_wantAt_14 : decode cX12_wantAt 14 = .ok (.iconst 0, 1) := by decide +kernel
theorem dX12_wantAt_15 : decode cX12_wantAt 15 = .ok (.istore 4, 2) := by decide +kernel
theorem dX12_wantAt_17 : decode cX12_wantAt 17 = .ok (.iconst 0, 1) := by decide +kernel
theorem dX12_wantAt_18 : decode cX12_wantAt 18 = .ok (.istore 5, 2) := by decide +kernel
theorem dX12_wantAt_20 : decode cX12_wantAt 20 = .ok (.iload 5, 2) := by decide +kernel
theorem dX12_wantAt_22 : decode cX12_wantAt 22 = .ok (.aload_n 0, 1) := by decide +kernel
theorem dX12_wantAt_23 : decode cX12_wantAt 23 = .ok (.getfield 23, 3) := by decide +kernel
theorem dX12_wantAt_26 : decode cX12_wantAt 26 = .ok (.iconst 0, 1) := by decide +kernel
theorem dX12_wantAt_27 : decode cX12_wantAt 27 = .ok (.iaload, 1) := by decide +kernel
theorem dX12_wantAt_28 : decode cX12_wantAt 28 = .ok (.if_icmp .ge 40, 3) := by decide +kernel
theorem dX12_wantAt_31 : decode cX12_wantAt 31 = .ok (.iload 4, 2) := by decide +kernel
theorem dX12_wantAt_33 : decode cX12_wantAt 33 = .ok (.ifCond .ne 22, 3) := by decide +kernel
theorem dX12_wantAt_36 : decode cX12_wantAt 36 = .ok (.aload_n 0, 1) := by decide +kernel
theorem dX12_wantAt_37 : decode cX12_wantAt 37 = .ok (.iload_n 3, 1) := by decide +kernel
theorem dX12_wantAt_38 : decode cX12_wantAt 38 = .ok (.iload 5, 2) := by decide +kernel
theorem dX12_wantAt_40 : decode cX12_wantAt 40 = .ok (.aload_n 0, 1) := by decide +kernel
theorem dX12_wantAt_41 : decode cX12_wantAt 41 = .ok (.getfield 37, 3) := by decide +kernel
theorem dX12_wantAt_44 : decode cX12_wantAt 44 = .ok (.iload_n 3, 1) := by decide +kernel
theorem dX12_wantAt_45 : decode cX12_wantAt 45 = .ok (.aaload, 1) := by decide +kernel
theorem dX12_wantAt_46 : decode cX12_wantAt 46 = .ok (.iconst 1, 1) := by decide +kernel
theorem dX12_wantAt_47 : decode cX12_wantAt 47 = .ok (.iaload, 1) := by decide +kernel
theorem dX12_wantAt_48 : decode cX12_wantAt 48 = .ok (.invokevirtual 310, 3) := by decide +kernel
theorem dX12_wantAt_51 : decode cX12_wantAt 51 = .ok (.iload_n 1, 1) := by decide +kernel
theorem dX12_wantAt_52 : decode cX12_wantAt 52 = .ok (.if_icmp .lt 7, 3) := by decide +kernel
theorem dX12_wantAt_55 : decode cX12_wantAt 55 = .ok (.iconst 1, 1) := by decide +kernel
theorem dX12_wantAt_56 : decode cX12_wantAt 56 = .ok (.goto 4, 3) := by decide +kernel
theorem dX12_wantAt_59 : decode cX12_wantAt 59 = .ok (.iconst 0, 1) := by decide +kernel
theorem dX12_wantAt_60 : decode cX12_wantAt 60 = .ok (.istore 4, 2) := by decide +kernel
theorem dX12_wantAt_62 : decode cX12_wantAt 62 = .ok (.iinc 5 1, 3) := by decide +kernel
theorem dX12_wantAt_65 : decode cX12_wantAt 65 = .ok (.goto (-45), 3) := by decide +kernel
theorem dX12_wantAt_68 : decode cX12_wantAt 68 = .ok (.iload_n 2, 1) := by decide +kernel
theorem dX12_wantAt_69 : decode cX12_wantAt 69 = .ok (.iload 4, 2) := by decide +kernel
theorem dX12_wantAt_71 : decode cX12_wantAt 71 = .ok (.ifCond .eq 7, 3) := by decide +kernel
theorem dX12_wantAt_74 : decode cX12_wantAt 74 = .ok (.iconst 1, 1) := by decide +kernel
theorem dX12_wantAt_75 : decode cX12_wantAt 75 = .ok (.goto 4, 3) := by decide +kernel
theorem dX12_wantAt_78 : decode cX12_wantAt 78 = .ok (.iconst 0, 1) := by decide +kernel
theorem dX12_wantAt_79 : decode cX12_wantAt 79 = .ok (.iadd, 1) := by decide +kernel
theorem dX12_wantAt_80 : decode cX12_wantAt 80 = .ok (.istore_n 2, 1) := by decide +kernel
theorem dX12_wantAt_81 : decode cX12_wantAt 81 = .ok (.iinc 3 1, 3) := by decide +kernel
theorem dX12_wantAt_84 : decode cX12_wantAt 84 = .ok (.goto (-80), 3) := by decide +kernel
theorem dX12_wantAt_87 : decode cX12_wantAt 87 = .ok (.iload_n 2, 1) := by decide +kernel
theorem dX12_wantAt_88 : decode cX12_wantAt 88 = .ok (.ireturn, 1) := by decide +kernel
theorem dX12_want_0 : decode cX12_want 0 = .ok (.aload_n 0, 1) := by decide +kernel
theorem dX12_want_1 : decode cX12_want 1 = .ok (.iconst 0, 1) := by decide +kernel
theorem dX12_want_2 : decode cX12_want 2 = .ok (.putfield 158, 3) := by decide +kernel
theorem dX12_want_5 : decode cX12_want 5 = .ok (.aload_n 0, 1) := by decide +kernel
theorem dX12_want_6 : decode cX12_want 6 = .ok (.iload_n 1, 1) := by decide +kernel
theorem dX12_want_7 : decode cX12_want 7 = .ok (.iconst 0, 1) := by decide +kernel
theorem dX12_want_8 : decode cX12_want 8 = .ok (.sipush 999, 3) := by decide +kernel
theorem dX12_want_11 : decode cX12_want 11 = .ok (.invokestatic 192, 3) := by decide +kernel
theorem dX12_want_14 : decode cX12_want 14 = .ok (.ifCond .ne 7, 3) := by decide +kernel
theorem dX12_want_17 : decode cX12_want 17 = .ok (.iconst 1, 1) := by decide +kernel
theorem dX12_want_18 : decode cX12_want 18 = .ok (.goto 4, 3) := by decide +kernel
theorem dX12_want_21 : decode cX12_want 21 = .ok (.iconst 0, 1) := by decide +kernel
theorem dX12_want_22 : decode cX12_want 22 = .ok (.iconst 1, 1) := by decide +kernel
theorem dX12_want_23 : decode cX12_want 23 = .ok (.iconst 1, 1) := by decide +kernel
theorem dX12_want_24 : decode cX12_want 24 = .ok (.invokevirtual 228, 3) := by decide +kernel
theorem dX12_want_27 : decode cX12_want 27 = .ok (.ifCond .eq 5, 3) := by decide +kernel
theorem dX12_want_30 : decode cX12_want 30 = .ok (.iconst 0, 1) := by decide +kernel
theorem dX12_want_31 : decode cX12_want 31 = .ok (.ireturn, 1) := by decide +kernel
theorem dX12_want_32 : decode cX12_want 32 = .ok (.aload_n 0, 1) := by decide +kernel
theorem dX12_want_33 : decode cX12_want 33 = .ok (.iload_n 1, 1) := by decide +kernel
theorem dX12_want_34 : decode cX12_want 34 = .ok (.invokevirtual 381, 3) := by decide +kernel
theorem dX12_want_37 : decode cX12_want 37 = .ok (.ireturn, 1) := by decide +kernel
theorem dX12_just_0 : decode cX12_just 0 = .ok (.aload_n 0, 1) := by decide +kernel
theorem dX12_just_1 : decode cX12_just 1 = .ok (.iconst 0, 1) := by decide +kernel
theorem dX12_just_2 : decode cX12_just 2 = .ok (.putfield 158, 3) := by decide +kernel
theorem dX12_just_5 : decode cX12_just 5 = .ok (.aload_n 0, 1) := by decide +kernel
theorem dX12_just_6 : decode cX12_just 6 = .ok (.iload_n 1, 1) := by decide +kernel
theorem dX12_just_7 : decode cX12_just 7 = .ok (.iconst 0, 1) := by decide +kernel
theorem dX12_just_8 : decode cX12_just 8 = .ok (.iconst 1, 1) := by decide +kernel
theorem dX12_just_9 : decode cX12_just 9 = .ok (.invokestatic 192, 3) := by decide +kernel
theorem dX12_just_12 : decode cX12_just 12 = .ok (.ifCond .ne 7, 3) := by decide +kernel
theorem dX12_just_15 : decode cX12_just 15 = .ok (.iconst 1, 1) := by decide +kernel
theorem dX12_just_16 : decode cX12_just 16 = .ok (.goto 4, 3) := by decide +kernel
theorem dX12_just_19 : decode cX12_just 19 = .ok (.iconst 0, 1) := by decide +kernel
theorem dX12_just_20 : decode cX12_just 20 = .ok (.iconst 1, 1) := by decide +kernel
theorem dX12_just_21 : decode cX12_just 21 = .ok (.iconst 1, 1) := by decide +kernel
theorem dX12_just_22 : decode cX12_just 22 = .ok (.invokevirtual 228, 3) := by decide +kernel
theorem dX12_just_25 : decode cX12_just 25 = .ok (.ifCond .eq 5, 3) := by decide +kernel
theorem dX12_just_28 : decode cX12_just 28 = .ok (.iconst 0, 1) := by decide +kernel
theorem dX12_just_29 : decode cX12_just 29 = .ok (.ireturn, 1) := by decide +kernel
theorem dX12_just_30 : decode cX12_just 30 = .ok (.iconst (-1), 1) := by decide +kernel
theorem dX12_just_31 : decode cX12_just 31 = .ok (.istore_n 2, 1) := by decide +kernel
theorem dX12_just_32 : decode cX12_just 32 = .ok (.iconst 0, 1) := by decide +kernel
theorem dX12_just_33 : decode cX12_just 33 = .ok (.istore_n 3, 1) := by decide +kernel
theorem dX12_just_34 : decode cX12_just 34 = .ok (.iload_n 3, 1) := by decide +kernel
theorem dX12_just_35 : decode cX12_just 35 = .ok (.sipush 999, 3) := by decide +kernel
theorem dX12_just_38 : decode cX12_just 38 = .ok (.if_icmp .gt 35, 3) := by decide +kernel
theorem dX12_just_41 : decode cX12_just 41 = .ok (.aload_n 0, 1) := by decide +kernel
theorem dX12_just_42 : decode cX12_just 42 = .ok (.iload_n 3, 1) := by decide +kernel
theorem dX12_just_43 : decode cX12_just 43 = .ok (.invokevirtual 381, 3) := by decide +kernel
theorem dX12_just_46 : decode cX12_just 46 = .ok (.aload_n 0, 1) := by decide +kernel
theorem dX12_just_47 : decode cX12_just 47 = .ok (.getfield 23, 3) := by decide +kernel
theorem dX12_just_50 : decode cX12_just 50 = .ok (.iconst 0, 1) := by decide +kernel
theorem dX12_just_51 : decode cX12_just 51 = .ok (.iaload, 1) := by decide +kernel
theorem dX12_just_52 : decode cX12_just 52 = .ok (.if_icmp .ne 15, 3) := by decide +kernel
theorem dX12_just_55 : decode cX12_just 55 = .ok (.iload_n 2, 1) := by decide +kernel
theorem dX12_just_56 : decode cX12_just 56 = .ok (.iconst (-1), 1) := by decide +kernel
theorem dX12_just_57 : decode cX12_just 57 = .ok (.if_icmp .eq 8, 3) := by decide +kernel
theorem dX12_just_60 : decode cX12_just 60 = .ok (.iload_n 1, 1) := by decide +kernel
theorem dX12_just_61 : decode cX12_just 61 = .ok (.iconst 1, 1) := by decide +kernel
theorem dX12_just_62 : decode cX12_just 62 = .ok (.if_icmp .ne 5, 3) := by decide +kernel
theorem dX12_just_65 : decode cX12_just 65 = .ok (.iload_n 3, 1) := by decide +kernel
theorem dX12_just_66 : decode cX12_just 66 = .ok (.istore_n 2, 1) := by decide +kernel
theorem dX12_just_67 : decode cX12_just 67 = .ok (.iinc 3 1, 3) := by decide +kernel
theorem dX12_just_70 : decode cX12_just 70 = .ok (.goto (-36), 3) := by decide +kernel
theorem dX12_just_73 : decode cX12_just 73 = .ok (.iload_n 2, 1) := by decide +kernel
theorem dX12_just_74 : decode cX12_just 74 = .ok (.ireturn, 1) := by decide +kernel
theorem dX12_off_0 : decode cX12_off 0 = .ok (.aload_n 0, 1) := by decide +kernel
theorem dX12_off_1 : decode cX12_off 1 = .ok (.iconst 0, 1) := by decide +kernel
theorem dX12_off_2 : decode cX12_off 2 = .ok (.putfield 158, 3) := by decide +kernel
theorem dX12_off_5 : decode cX12_off 5 = .ok (.aload_n 0, 1) := by decide +kernel
theorem dX12_off_6 : decode cX12_off 6 = .ok (.iload_n 1, 1) := by decide +kernel
theorem dX12_off_7 : decode cX12_off 7 = .ok (.iconst 0, 1) := by decide +kernel
theorem dX12_off_8 : decode cX12_off 8 = .ok (.iconst 1, 1) := by decide +kernel
theorem dX12_off_9 : decode cX12_off 9 = .ok (.invokestatic 192, 3) := by decide +kernel
theorem dX12_off_12 : decode cX12_off 12 = .ok (.ifCond .ne 7, 3) := by decide +kernel
theorem dX12_off_15 : decode cX12_off 15 = .ok (.iconst 1, 1) := by decide +kernel
theorem dX12_off_16 : decode cX12_off 16 = .ok (.goto 4, 3) := by decide +kernel
theorem dX12_off_19 : decode cX12_off 19 = .ok (.iconst 0, 1) := by decide +kernel
theorem dX12_off_20 : decode cX12_off 20 = .ok (.iconst 1, 1) := by decide +kernel
theorem dX12_off_21 : decode cX12_off 21 = .ok (.iconst 1, 1) := by decide +kernel
theorem dX12_off_22 : decode cX12_off 22 = .ok (.invokevirtual 228, 3) := by decide +kernel
theorem dX12_off_25 : decode cX12_off 25 = .ok (.ifCond .eq 5, 3) := by decide +kernel
theorem dX12_off_28 : decode cX12_off 28 = .ok (.iconst 0, 1) := by decide +kernel
theorem dX12_off_29 : decode cX12_off 29 = .ok (.ireturn, 1) := by decide +kernel
theorem dX12_off_30 : decode cX12_off 30 = .ok (.aload_n 0, 1) := by decide +kernel
theorem dX12_off_31 : decode cX12_off 31 = .ok (.invokevirtual 353, 3) := by decide +kernel
theorem dX12_off_34 : decode cX12_off 34 = .ok (.iconst (-1), 1) := by decide +kernel
theorem dX12_off_35 : decode cX12_off 35 = .ok (.istore_n 2, 1) := by decide +kernel
theorem dX12_off_36 : decode cX12_off 36 = .ok (.iconst 0, 1) := by decide +kernel
theorem dX12_off_37 : decode cX12_off 37 = .ok (.istore_n 3, 1) := by decide +kernel
theorem dX12_off_38 : decode cX12_off 38 = .ok (.iconst 1, 1) := by decide +kernel
theorem dX12_off_39 : decode cX12_off 39 = .ok (.istore 4, 2) := by decide +kernel
theorem dX12_off_41 : decode cX12_off 41 = .ok (.iload 4, 2) := by decide +kernel
theorem dX12_off_43 : decode cX12_off 43 = .ok (.bipush 24, 2) := by decide +kernel
theorem dX12_off_45 : decode cX12_off 45 = .ok (.if_icmp .ge 43, 3) := by decide +kernel
theorem dX12_off_48 : decode cX12_off 48 = .ok (.aload_n 0, 1) := by decide +kernel
theorem dX12_off_49 : decode cX12_off 49 = .ok (.iload 4, 2) := by decide +kernel
theorem dX12_off_51 : decode cX12_off 51 = .ok (.putfield 313, 3) := by decide +kernel
theorem dX12_off_54 : decode cX12_off 54 = .ok (.aload_n 0, 1) := by decide +kernel
theorem dX12_off_55 : decode cX12_off 55 = .ok (.invokevirtual 341, 3) := by decide +kernel
theorem dX12_off_58 : decode cX12_off 58 = .ok (.iload_n 2, 1) := by decide +kernel
theorem dX12_off_59 : decode cX12_off 59 = .ok (.iconst (-1), 1) := by decide +kernel
theorem dX12_off_60 : decode cX12_off 60 = .ok (.if_icmp .eq 14, 3) := by decide +kernel
theorem dX12_off_63 : decode cX12_off 63 = .ok (.aload_n 0, 1) := by decide +kernel
theorem dX12_off_64 : decode cX12_off 64 = .ok (.invokevirtual 359, 3) := by decide +kernel
theorem dX12_off_67 : decode cX12_off 67 = .ok (.iload_n 3, 1) := by decide +kernel
theorem dX12_off_68 : decode cX12_off 68 = .ok (.if_icmp .gt 6, 3) := by decide +kernel
theorem dX12_off_71 : decode cX12_off 71 = .ok (.goto 11, 3) := by decide +kernel
theorem dX12_off_74 : decode cX12_off 74 = .ok (.iload 4, 2) := by decide +kernel
theorem dX12_off_76 : decode cX12_off 76 = .ok (.istore_n 2, 1) := by decide +kernel
theorem dX12_off_77 : decode cX12_off 77 = .ok (.aload_n 0, 1) := by decide +kernel
theorem dX12_off_78 : decode cX12_off 78 = .ok (.invokevirtual 359, 3) := by decide +kernel
theorem dX12_off_81 : decode cX12_off 81 = .ok (.istore_n 3, 1) := by decide +kernel
theorem dX12_off_82 : decode cX12_off 82 = .ok (.iinc 4 1, 3) := by decide +kernel
theorem dX12_off_85 : decode cX12_off 85 = .ok (.goto (-44), 3) := by decide +kernel
theorem dX12_off_88 : decode cX12_off 88 = .ok (.iload_n 1, 1) := by decide +kernel
theorem dX12_off_89 : decode cX12_off 89 = .ok (.ifCond .ne 7, 3) := by decide +kernel
theorem dX12_off_92 : decode cX12_off 92 = .ok (.iload_n 2, 1) := by decide +kernel
theorem dX12_off_93 : decode cX12_off 93 = .ok (.goto 4, 3) := by decide +kernel
theorem dX12_off_96 : decode cX12_off 96 = .ok (.iload_n 3, 1) := by decide +kernel
theorem dX12_off_97 : decode cX12_off 97 = .ok (.ireturn, 1) := by decide +kernel
theorem dX12_turnsOf_0 : decode cX12_turnsOf 0 = .ok (.aload_n 0, 1) := by decide +kernel
theorem dX12_turnsOf_1 : decode cX12_turnsOf 1 = .ok (.iconst 0, 1) := by decide +kernel
theorem dX12_turnsOf_2 : decode cX12_turnsOf 2 = .ok (.putfield 158, 3) := by decide +kernel
theorem dX12_turnsOf_5 : decode cX12_turnsOf 5 = .ok (.aload_n 0, 1) := by decide +kernel
theorem dX12_turnsOf_6 : decode cX12_turnsOf 6 = .ok (.iload_n 1, 1) := by decide +kernel
theorem dX12_turnsOf_7 : decode cX12_turnsOf 7 = .ok (.iconst 1, 1) := by decide +kernel
theorem dX12_turnsOf_8 : decode cX12_turnsOf 8 = .ok (.bipush 99, 2) := by decide +kernel
theorem dX12_turnsOf_10 : decode cX12_turnsOf 10 = .ok (.invokestatic 192, 3) := by decide +kernel
theorem dX12_turnsOf_13 : decode cX12_turnsOf 13 = .ok (.ifCond .ne 7, 3) := by decide +kernel
theorem dX12_turnsOf_16 : decode cX12_turnsOf 16 = .ok (.iconst 1, 1) := by decide +kernel
theorem dX12_turnsOf_17 : decode cX12_turnsOf 17 = .ok (.goto 4, 3) := by decide +kernel
theorem dX12_turnsOf_20 : decode cX12_turnsOf 20 = .ok (.iconst 0, 1) := by decide +kernel
theorem dX12_turnsOf_21 : decode cX12_turnsOf 21 = .ok (.iconst 1, 1) := by decide +kernel
theorem dX12_turnsOf_22 : decode cX12_turnsOf 22 = .ok (.iconst 1, 1) := by decide +kernel
theorem dX12_turnsOf_23 : decode cX12_turnsOf 23 = .ok (.invokevirtual 228, 3) := by decide +kernel
theorem dX12_turnsOf_26 : decode cX12_turnsOf 26 = .ok (.ifCond .eq 5, 3) := by decide +kernel
theorem dX12_turnsOf_29 : decode cX12_turnsOf 29 = .ok (.iconst 0, 1) := by decide +kernel
theorem dX12_turnsOf_30 : decode cX12_turnsOf 30 = .ok (.ireturn, 1) := by decide +kernel
theorem dX12_turnsOf_31 : decode cX12_turnsOf 31 = .ok (.aload_n 0, 1) := by decide +kernel
theorem dX12_turnsOf_32 : decode cX12_turnsOf 32 = .ok (.getfield 23, 3) := by decide +kernel
theorem dX12_turnsOf_35 : decode cX12_turnsOf 35 = .ok (.iconst 1, 1) := by decide +kernel
theorem dX12_turnsOf_36 : decode cX12_turnsOf 36 = .ok (.iaload, 1) := by decide +kernel
theorem dX12_turnsOf_37 : decode cX12_turnsOf 37 = .ok (.ifCond .ne 5, 3) := by decide +kernel
theorem dX12_turnsOf_40 : decode cX12_turnsOf 40 = .ok (.iconst 0, 1) := by decide +kernel
theorem dX12_turnsOf_41 : decode cX12_turnsOf 41 = .ok (.ireturn, 1) := by decide +kernel
theorem dX12_turnsOf_42 : decode cX12_turnsOf 42 = .ok (.iconst 0, 1) := by decide +kernel
theorem dX12_turnsOf_43 : decode cX12_turnsOf 43 = .ok (.istore_n 2, 1) := by decide +kernel
theorem dX12_turnsOf_44 : decode cX12_turnsOf 44 = .ok (.iload_n 2, 1) := by decide +kernel
theorem dX12_turnsOf_45 : decode cX12_turnsOf 45 = .ok (.bipush 8, 2) := by decide +kernel
theorem dX12_turnsOf_47 : decode cX12_turnsOf 47 = .ok (.if_icmp .ge 16, 3) := by decide +kernel
theorem dX12_turnsOf_50 : decode cX12_turnsOf 50 = .ok (.aload_n 0, 1) := by decide +kernel
theorem dX12_turnsOf_51 : decode cX12_turnsOf 51 = .ok (.getfield 143, 3) := by decide +kernel
theorem dX12_turnsOf_54 : decode cX12_turnsOf 54 = .ok (.iload_n 2, 1) := by decide +kernel
theorem dX12_turnsOf_55 : decode cX12_turnsOf 55 = .ok (.iconst 0, 1) := by decide +kernel
theorem dX12_turnsOf_56 : decode cX12_turnsOf 56 = .ok (.iastore, 1) := by decide +kernel
theorem dX12_turnsOf_57 : decode cX12_turnsOf 57 = .ok (.iinc 2 1, 3) := by decide +kernel
theorem dX12_turnsOf_60 : decode cX12_turnsOf 60 = .ok (.goto (-16), 3) := by decide +kernel
theorem dX12_turnsOf_63 : decode cX12_turnsOf 63 = .ok (.iconst 0, 1) := by decide +kernel
theorem dX12_turnsOf_64 : decode cX12_turnsOf 64 = .ok (.istore_n 2, 1) := by decide +kernel
theorem dX12_turnsOf_65 : decode cX12_turnsOf 65 = .ok (.iload_n 2, 1) := by decide +kernel
theorem dX12_turnsOf_66 : decode cX12_turnsOf 66 = .ok (.iload_n 1, 1) := by decide +kernel
theorem dX12_turnsOf_67 : decode cX12_turnsOf 67 = .ok (.if_icmp .ge 90, 3) := by decide +kernel
theorem dX12_turnsOf_70 : decode cX12_turnsOf 70 = .ok (.iconst 0, 1) := by decide +kernel
theorem dX12_turnsOf_71 : decode cX12_turnsOf 71 = .ok (.istore_n 3, 1) := by decide +kernel
theorem dX12_turnsOf_72 : decode cX12_turnsOf 72 = .ok (.iconst 0, 1) := by decide +kernel
theorem dX12_turnsOf_73 : decode cX12_turnsOf 73 = .ok (.istore 4, 2) := by decide +kernel
theorem dX12_turnsOf_75 : decode cX12_turnsOf 75 = .ok (.iload 4, 2) := by decide +kernel
theorem dX12_turnsOf_77 : decode cX12_turnsOf 77 = .ok (.aload_n 0, 1) := by decide +kernel
theorem dX12_turnsOf_78 : decode cX12_turnsOf 78 = .ok (.getfield 23, 3) := by decide +kernel
theorem dX12_turnsOf_81 : decode cX12_turnsOf 81 = .ok (.iconst 0, 1) := by decide +kernel
theorem dX12_turnsOf_82 : decode cX12_turnsOf 82 = .ok (.iaload, 1) := by decide +kernel
theorem dX12_turnsOf_83 : decode cX12_turnsOf 83 = .ok (.if_icmp .ge 32, 3) := by decide +kernel
theorem dX12_turnsOf_86 : decode cX12_turnsOf 86 = .ok (.iload_n 3, 1) := by decide +kernel
theorem dX12_turnsOf_87 : decode cX12_turnsOf 87 = .ok (.iconst 1, 1) := by decide +kernel
theorem dX12_turnsOf_88 : decode cX12_turnsOf 88 = .ok (.iload_n 2, 1) := by decide +kernel
theorem dX12_turnsOf_89 : decode cX12_turnsOf 89 = .ok (.aload_n 0, 1) := by decide +kernel
theorem dX12_turnsOf_90 : decode cX12_turnsOf 90 = .ok (.getfield 23, 3) := by decide +kernel
theorem dX12_turnsOf_93 : decode cX12_turnsOf 93 = .ok (.iconst 0, 1) := by decide +kernel
theorem dX12_turnsOf_94 : decode cX12_turnsOf 94 = .ok (.iaload, 1) := by decide +kernel
theorem dX12_turnsOf_95 : decode cX12_turnsOf 95 = .ok (.imul, 1) := by decide +kernel
theorem dX12_turnsOf_96 : decode cX12_turnsOf 96 = .ok (.iload 4, 2) := by decide +kernel
theorem dX12_turnsOf_98 : decode cX12_turnsOf 98 = .ok (.iadd, 1) := by decide +kernel
theorem dX12_turnsOf_99 : decode cX12_turnsOf 99 = .ok (.aload_n 0, 1) := by decide +kernel
theorem dX12_turnsOf_100 : decode cX12_turnsOf 100 = .ok (.getfield 23, 3) := by decide +kernel
theorem dX12_turnsOf_103 : decode cX12_turnsOf 103 = .ok (.iconst 1, 1) := by decide +kernel
theorem dX12_turnsOf_104 : decode cX12_turnsOf 104 = .ok (.iaload, 1) := by decide +kernel
theorem dX12_turnsOf_105 : decode cX12_turnsOf 105 = .ok (.irem, 1) := by decide +kernel
theorem dX12_turnsOf_106 : decode cX12_turnsOf 106 = .ok (.ishl, 1) := by decide +kernel
theorem dX12_turnsOf_107 : decode cX12_turnsOf 107 = .ok (.ior, 1) := by decide +kernel
theorem dX12_turnsOf_108 : decode cX12_turnsOf 108 = .ok (.istore_n 3, 1) := by decide +kernel
theorem dX12_turnsOf_109 : decode cX12_turnsOf 109 = .ok (.iinc 4 1, 3) := by decide +kernel
theorem dX12_turnsOf_112 : decode cX12_turnsOf 112 = .ok (.goto (-37), 3) := by decide +kernel
theorem dX12_turnsOf_115 : decode cX12_turnsOf 115 = .ok (.iconst 0, 1) := by decide +kernel
theorem dX12_turnsOf_116 : decode cX12_turnsOf 116 = .ok (.istore 4, 2) := by decide +kernel
theorem dX12_turnsOf_118 : decode cX12_turnsOf 118 = .ok (.iload 4, 2) := by decide +kernel
theorem dX12_turnsOf_120 : decode cX12_turnsOf 120 = .ok (.aload_n 0, 1) := by decide +kernel
theorem dX12_turnsOf_121 : decode cX12_turnsOf 121 = .ok (.getfield 23, 3) := by decide +kernel
theorem dX12_turnsOf_124 : decode cX12_turnsOf 124 = .ok (.iconst 1, 1) := by decide +kernel
theorem dX12_turnsOf_125 : decode cX12_turnsOf 125 = .ok (.iaload, 1) := by decide +kernel
theorem dX12_turnsOf_126 : decode cX12_turnsOf 126 = .ok (.if_icmp .ge 25, 3) := by decide +kernel
theorem dX12_turnsOf_129 : decode cX12_turnsOf 129 = .ok (.aload_n 0, 1) := by decide +kernel
theorem dX12_turnsOf_130 : decode cX12_turnsOf 130 = .ok (.getfield 143, 3) := by decide +kernel
theorem dX12_turnsOf_133 : decode cX12_turnsOf 133 = .ok (.iload 4, 2) := by decide +kernel
theorem dX12_turnsOf_135 : decode cX12_turnsOf 135 = .ok (.dup2, 1) := by decide +kernel
theorem dX12_turnsOf_136 : decode cX12_turnsOf 136 = .ok (.iaload, 1) := by decide +kernel
theorem dX12_turnsOf_137 : decode cX12_turnsOf 137 = .ok (.iload_n 3, 1) := by decide +kernel
theorem dX12_turnsOf_138 : decode cX12_turnsOf 138 = .ok (.iload 4, 2) := by decide +kernel
theorem dX12_turnsOf_140 : decode cX12_turnsOf 140 = .ok (.ishr, 1) := by decide +kernel
theorem dX12_turnsOf_141 : decode cX12_turnsOf 141 = .ok (.iconst 1, 1) := by decide +kernel
theorem dX12_turnsOf_142 : decode cX12_turnsOf 142 = .ok (.iand, 1) := by decide +kernel
theorem dX12_turnsOf_143 : decode cX12_turnsOf 143 = .ok (.iadd, 1) := by decide +kernel
theorem dX12_turnsOf_144 : decode cX12_turnsOf 144 = .ok (.iastore, 1) := by decide +kernel
theorem dX12_turnsOf_145 : decode cX12_turnsOf 145 = .ok (.iinc 4 1, 3) := by decide +kernel
theorem dX12_turnsOf_148 : decode cX12_turnsOf 148 = .ok (.goto (-30), 3) := by decide +kernel
theorem dX12_turnsOf_151 : decode cX12_turnsOf 151 = .ok (.iinc 2 1, 3) := by decide +kernel
theorem dX12_turnsOf_154 : decode cX12_turnsOf 154 = .ok (.goto (-89), 3) := by decide +kernel
theorem dX12_turnsOf_157 : decode cX12_turnsOf 157 = .ok (.aload_n 0, 1) := by decide +kernel
theorem dX12_turnsOf_158 : decode cX12_turnsOf 158 = .ok (.getfield 143, 3) := by decide +kernel
theorem dX12_turnsOf_161 : decode cX12_turnsOf 161 = .ok (.iconst 0, 1) := by decide +kernel
theorem dX12_turnsOf_162 : decode cX12_turnsOf 162 = .ok (.iaload, 1) := by decide +kernel
theorem dX12_turnsOf_163 : decode cX12_turnsOf 163 = .ok (.istore_n 2, 1) := by decide +kernel
theorem dX12_turnsOf_164 : decode cX12_turnsOf 164 = .ok (.aload_n 0, 1) := by decide +kernel
theorem dX12_turnsOf_165 : decode cX12_turnsOf 165 = .ok (.getfield 143, 3) := by decide +kernel
theorem dX12_turnsOf_168 : decode cX12_turnsOf 168 = .ok (.iconst 0, 1) := by decide +kernel
theorem dX12_turnsOf_169 : decode cX12_turnsOf 169 = .ok (.iaload, 1) := by decide +kernel
theorem dX12_turnsOf_170 : decode cX12_turnsOf 170 = .ok (.istore_n 3, 1) := by decide +kernel
theorem dX12_turnsOf_171 : decode cX12_turnsOf 171 = .ok (.iconst 1, 1) := by decide +kernel
theorem dX12_turnsOf_172 : decode cX12_turnsOf 172 = .ok (.istore 4, 2) := by decide +kernel
theorem dX12_turnsOf_174 : decode cX12_turnsOf 174 = .ok (.iload 4, 2) := by decide +kernel
theorem dX12_turnsOf_176 : decode cX12_turnsOf 176 = .ok (.aload_n 0, 1) := by decide +kernel
theorem dX12_turnsOf_177 : decode cX12_turnsOf 177 = .ok (.getfield 23, 3) := by decide +kernel
theorem dX12_turnsOf_180 : decode cX12_turnsOf 180 = .ok (.iconst 1, 1) := by decide +kernel
theorem dX12_turnsOf_181 : decode cX12_turnsOf 181 = .ok (.iaload, 1) := by decide +kernel
theorem dX12_turnsOf_182 : decode cX12_turnsOf 182 = .ok (.if_icmp .ge 33, 3) := by decide +kernel
theorem dX12_turnsOf_185 : decode cX12_turnsOf 185 = .ok (.iload_n 2, 1) := by decide +kernel
theorem dX12_turnsOf_186 : decode cX12_turnsOf 186 = .ok (.aload_n 0, 1) := by decide +kernel
theorem dX12_turnsOf_187 : decode cX12_turnsOf 187 = .ok (.getfield 143, 3) := by decide +kernel
theorem dX12_turnsOf_190 : decode cX12_turnsOf 190 = .ok (.iload 4, 2) := by decide +kernel
theorem dX12_turnsOf_192 : decode cX12_turnsOf 192 = .ok (.iaload, 1) := by decide +kernel
theorem dX12_turnsOf_193 : decode cX12_turnsOf 193 = .ok (.invokestatic 288, 3) := by decide +kernel
theorem dX12_turnsOf_196 : decode cX12_turnsOf 196 = .ok (.istore_n 2, 1) := by decide +kernel
theorem dX12_turnsOf_197 : decode cX12_turnsOf 197 = .ok (.iload_n 3, 1) := by decide +kernel
theorem dX12_turnsOf_198 : decode cX12_turnsOf 198 = .ok (.aload_n 0, 1) := by decide +kernel
theorem dX12_turnsOf_199 : decode cX12_turnsOf 199 = .ok (.getfield 143, 3) := by decide +kernel
theorem dX12_turnsOf_202 : decode cX12_turnsOf 202 = .ok (.iload 4, 2) := by decide +kernel
theorem dX12_turnsOf_204 : decode cX12_turnsOf 204 = .ok (.iaload, 1) := by decide +kernel
theorem dX12_turnsOf_205 : decode cX12_turnsOf 205 = .ok (.invokestatic 291, 3) := by decide +kernel
theorem dX12_turnsOf_208 : decode cX12_turnsOf 208 = .ok (.istore_n 3, 1) := by decide +kernel
theorem dX12_turnsOf_209 : decode cX12_turnsOf 209 = .ok (.iinc 4 1, 3) := by decide +kernel
theorem dX12_turnsOf_212 : decode cX12_turnsOf 212 = .ok (.goto (-38), 3) := by decide +kernel
theorem dX12_turnsOf_215 : decode cX12_turnsOf 215 = .ok (.iload_n 3, 1) := by decide +kernel
theorem dX12_turnsOf_216 : decode cX12_turnsOf 216 = .ok (.iload_n 2, 1) := by decide +kernel
theorem dX12_turnsOf_217 : decode cX12_turnsOf 217 = .ok (.isub, 1) := by decide +kernel
theorem dX12_turnsOf_218 : decode cX12_turnsOf 218 = .ok (.ireturn, 1) := by decide +kernel
theorem dX12_draw_0 : decode cX12_draw 0 = .ok (.aload_n 0, 1) := by decide +kernel
theorem dX12_draw_1 : decode cX12_draw 1 = .ok (.aload_n 0, 1) := by decide +kernel
theorem dX12_draw_2 : decode cX12_draw 2 = .ok (.getfield 384, 3) := by decide +kernel
theorem dX12_draw_5 : decode cX12_draw 5 = .ok (.ldc_w 387, 3) := by decide +kernel
theorem dX12_draw_8 : decode cX12_draw 8 = .ok (.imul, 1) := by decide +kernel
theorem dX12_draw_9 : decode cX12_draw 9 = .ok (.sipush 12345, 3) := by decide +kernel
theorem dX12_draw_12 : decode cX12_draw 12 = .ok (.iadd, 1) := by decide +kernel
theorem dX12_draw_13 : decode cX12_draw 13 = .ok (.putfield 384, 3) := by decide +kernel
theorem dX12_draw_16 : decode cX12_draw 16 = .ok (.aload_n 0, 1) := by decide +kernel
theorem dX12_draw_17 : decode cX12_draw 17 = .ok (.getfield 384, 3) := by decide +kernel
theorem dX12_draw_20 : decode cX12_draw 20 = .ok (.bipush 16, 2) := by decide +kernel
theorem dX12_draw_22 : decode cX12_draw 22 = .ok (.ishr, 1) := by decide +kernel
theorem dX12_draw_23 : decode cX12_draw 23 = .ok (.sipush 32767, 3) := by decide +kernel
theorem dX12_draw_26 : decode cX12_draw 26 = .ok (.iand, 1) := by decide +kernel
theorem dX12_draw_27 : decode cX12_draw 27 = .ok (.iload_n 1, 1) := by decide +kernel
theorem dX12_draw_28 : decode cX12_draw 28 = .ok (.irem, 1) := by decide +kernel
theorem dX12_draw_29 : decode cX12_draw 29 = .ok (.ireturn, 1) := by decide +kernel
theorem dX12_drawsOrder_0 : decode cX12_drawsOrder 0 = .ok (.iconst 0, 1) := by decide +kernel
theorem dX12_drawsOrder_1 : decode cX12_drawsOrder 1 = .ok (.istore_n 1, 1) := by decide +kernel
theorem dX12_drawsOrder_2 : decode cX12_drawsOrder 2 = .ok (.iload_n 1, 1) := by decide +kernel
theorem dX12_drawsOrder_3 : decode cX12_drawsOrder 3 = .ok (.bipush 8, 2) := by decide +kernel
theorem dX12_drawsOrder_5 : decode cX12_drawsOrder 5 = .ok (.if_icmp .ge 16, 3) := by decide +kernel
theorem dX12_drawsOrder_8 : decode cX12_drawsOrder 8 = .ok (.aload_n 0, 1) := by decide +kernel
theorem dX12_drawsOrder_9 : decode cX12_drawsOrder 9 = .ok (.getfield 146, 3) := by decide +kernel
theorem dX12_drawsOrder_12 : decode cX12_drawsOrder 12 = .ok (.iload_n 1, 1) := by decide +kernel
theorem dX12_drawsOrder_13 : decode cX12_drawsOrder 13 = .ok (.iload_n 1, 1) := by decide +kernel
theorem dX12_drawsOrder_14 : decode cX12_drawsOrder 14 = .ok (.iastore, 1) := by decide +kernel
theorem dX12_drawsOrder_15 : decode cX12_drawsOrder 15 = .ok (.iinc 1 1, 3) := by decide +kernel
theorem dX12_drawsOrder_18 : decode cX12_drawsOrder 18 = .ok (.goto (-16), 3) := by decide +kernel
theorem dX12_drawsOrder_21 : decode cX12_drawsOrder 21 = .ok (.aload_n 0, 1) := by decide +kernel
theorem dX12_drawsOrder_22 : decode cX12_drawsOrder 22 = .ok (.getfield 23, 3) := by decide +kernel
theorem dX12_drawsOrder_25 : decode cX12_drawsOrder 25 = .ok (.iconst 1, 1) := by decide +kernel
theorem dX12_drawsOrder_26 : decode cX12_drawsOrder 26 = .ok (.iaload, 1) := by decide +kernel
theorem dX12_drawsOrder_27 : decode cX12_drawsOrder 27 = .ok (.iconst 1, 1) := by decide +kernel
theorem dX12_drawsOrder_28 : decode cX12_drawsOrder 28 = .ok (.isub, 1) := by decide +kernel
theorem dX12_drawsOrder_29 : decode cX12_drawsOrder 29 = .ok (.istore_n 1, 1) := by decide +kernel
theorem dX12_drawsOrder_30 : decode cX12_drawsOrder 30 = .ok (.iload_n 1, 1) := by decide +kernel
theorem dX12_drawsOrder_31 : decode cX12_drawsOrder 31 = .ok (.ifCond .le 43, 3) := by decide +kernel
theorem dX12_drawsOrder_34 : decode cX12_drawsOrder 34 = .ok (.aload_n 0, 1) := by decide +kernel
theorem dX12_drawsOrder_35 : decode cX12_drawsOrder 35 = .ok (.iload_n 1, 1) := by decide +kernel
theorem dX12_drawsOrder_36 : decode cX12_drawsOrder 36 = .ok (.iconst 1, 1) := by decide +kernel
theorem dX12_drawsOrder_37 : decode cX12_drawsOrder 37 = .ok (.iadd, 1) := by decide +kernel
theorem dX12_drawsOrder_38 : decode cX12_drawsOrder 38 = .ok (.invokevirtual 388, 3) := by decide +kernel
theorem dX12_drawsOrder_41 : decode cX12_drawsOrder 41 = .ok (.istore_n 2, 1) := by decide +kernel
theorem dX12_drawsOrder_42 : decode cX12_drawsOrder 42 = .ok (.aload_n 0, 1) := by decide +kernel
theorem dX12_drawsOrder_43 : decode cX12_drawsOrder 43 = .ok (.getfield 146, 3) := by decide +kernel
theorem dX12_drawsOrder_46 : decode cX12_drawsOrder 46 = .ok (.iload_n 1, 1) := by decide +kernel
theorem dX12_drawsOrder_47 : decode cX12_drawsOrder 47 = .ok (.iaload, 1) := by decide +kernel
theorem dX12_drawsOrder_48 : decode cX12_drawsOrder 48 = .ok (.istore_n 3, 1) := by decide +kernel
theorem dX12_drawsOrder_49 : decode cX12_drawsOrder 49 = .ok (.aload_n 0, 1) := by decide +kernel
theorem dX12_drawsOrder_50 : decode cX12_drawsOrder 50 = .ok (.getfield 146, 3) := by decide +kernel
theorem dX12_drawsOrder_53 : decode cX12_drawsOrder 53 = .ok (.iload_n 1, 1) := by decide +kernel
theorem dX12_drawsOrder_54 : decode cX12_drawsOrder 54 = .ok (.aload_n 0, 1) := by decide +kernel
theorem dX12_drawsOrder_55 : decode cX12_drawsOrder 55 = .ok (.getfield 146, 3) := by decide +kernel
theorem dX12_drawsOrder_58 : decode cX12_drawsOrder 58 = .ok (.iload_n 2, 1) := by decide +kernel
theorem dX12_drawsOrder_59 : decode cX12_drawsOrder 59 = .ok (.iaload, 1) := by decide +kernel
theorem dX12_drawsOrder_60 : decode cX12_drawsOrder 60 = .ok (.iastore, 1) := by decide +kernel
theorem dX12_drawsOrder_61 : decode cX12_drawsOrder 61 = .ok (.aload_n 0, 1) := by decide +kernel
theorem dX12_drawsOrder_62 : decode cX12_drawsOrder 62 = .ok (.getfield 146, 3) := by decide +kernel
theorem dX12_drawsOrder_65 : decode cX12_drawsOrder 65 = .ok (.iload_n 2, 1) := by decide +kernel
theorem dX12_drawsOrder_66 : decode cX12_drawsOrder 66 = .ok (.iload_n 3, 1) := by decide +kernel
theorem dX12_drawsOrder_67 : decode cX12_drawsOrder 67 = .ok (.iastore, 1) := by decide +kernel
theorem dX12_drawsOrder_68 : decode cX12_drawsOrder 68 = .ok (.iinc 1 (-1), 3) := by decide +kernel
theorem dX12_drawsOrder_71 : decode cX12_drawsOrder 71 = .ok (.goto (-41), 3) := by decide +kernel
theorem dX12_drawsOrder_74 : decode cX12_drawsOrder 74 = .ok (.iconst 0, 1) := by decide +kernel
theorem dX12_drawsOrder_75 : decode cX12_drawsOrder 75 = .ok (.istore_n 1, 1) := by decide +kernel
theorem dX12_drawsOrder_76 : decode cX12_drawsOrder 76 = .ok (.iload_n 1, 1) := by decide +kernel
theorem dX12_drawsOrder_77 : decode cX12_drawsOrder 77 = .ok (.bipush 8, 2) := by decide +kernel
theorem dX12_drawsOrder_79 : decode cX12_drawsOrder 79 = .ok (.if_icmp .ge 21, 3) := by decide +kernel
theorem dX12_drawsOrder_82 : decode cX12_drawsOrder 82 = .ok (.aload_n 0, 1) := by decide +kernel
theorem dX12_drawsOrder_83 : decode cX12_drawsOrder 83 = .ok (.getfield 80, 3) := by decide +kernel
theorem dX12_drawsOrder_86 : decode cX12_drawsOrder 86 = .ok (.aload_n 0, 1) := by decide +kernel
theorem dX12_drawsOrder_87 : decode cX12_drawsOrder 87 = .ok (.getfield 146, 3) := by decide +kernel
theorem dX12_drawsOrder_90 : decode cX12_drawsOrder 90 = .ok (.iload_n 1, 1) := by decide +kernel
theorem dX12_drawsOrder_91 : decode cX12_drawsOrder 91 = .ok (.iaload, 1) := by decide +kernel
theorem dX12_drawsOrder_92 : decode cX12_drawsOrder 92 = .ok (.iload_n 1, 1) := by decide +kernel
theorem dX12_drawsOrder_93 : decode cX12_drawsOrder 93 = .ok (.iastore, 1) := by decide +kernel
theorem dX12_drawsOrder_94 : decode cX12_drawsOrder 94 = .ok (.iinc 1 1, 3) := by decide +kernel
theorem dX12_drawsOrder_97 : decode cX12_drawsOrder 97 = .ok (.goto (-21), 3) := by decide +kernel
theorem dX12_drawsOrder_100 : decode cX12_drawsOrder 100 = .ok (.return_, 1) := by decide +kernel
theorem dX12_lotNow_0 : decode cX12_lotNow 0 = .ok (.aload_n 0, 1) := by decide +kernel
theorem dX12_lotNow_1 : decode cX12_lotNow 1 = .ok (.iload_n 1, 1) := by decide +kernel
theorem dX12_lotNow_2 : decode cX12_lotNow 2 = .ok (.putfield 384, 3) := by decide +kernel
theorem dX12_lotNow_5 : decode cX12_lotNow 5 = .ok (.aload_n 0, 1) := by decide +kernel
theorem dX12_lotNow_6 : decode cX12_lotNow 6 = .ok (.invokevirtual 391, 3) := by decide +kernel
theorem dX12_lotNow_9 : decode cX12_lotNow 9 = .ok (.aload_n 0, 1) := by decide +kernel
theorem dX12_lotNow_10 : decode cX12_lotNow 10 = .ok (.invokevirtual 341, 3) := by decide +kernel
theorem dX12_lotNow_13 : decode cX12_lotNow 13 = .ok (.return_, 1) := by decide +kernel
theorem dX12_lot_0 : decode cX12_lot 0 = .ok (.aload_n 0, 1) := by decide +kernel
theorem dX12_lot_1 : decode cX12_lot 1 = .ok (.iconst 0, 1) := by decide +kernel
theorem dX12_lot_2 : decode cX12_lot 2 = .ok (.putfield 158, 3) := by decide +kernel
theorem dX12_lot_5 : decode cX12_lot 5 = .ok (.aload_n 0, 1) := by decide +kernel
theorem dX12_lot_6 : decode cX12_lot 6 = .ok (.iload_n 2, 1) := by decide +kernel
theorem dX12_lot_7 : decode cX12_lot 7 = .ok (.iconst 0, 1) := by decide +kernel
theorem dX12_lot_8 : decode cX12_lot 8 = .ok (.iconst 2, 1) := by decide +kernel
theorem dX12_lot_9 : decode cX12_lot 9 = .ok (.invokestatic 192, 3) := by decide +kernel
theorem dX12_lot_12 : decode cX12_lot 12 = .ok (.ifCond .ne 7, 3) := by decide +kernel
theorem dX12_lot_15 : decode cX12_lot 15 = .ok (.iconst 1, 1) := by decide +kernel
theorem dX12_lot_16 : decode cX12_lot 16 = .ok (.goto 4, 3) := by decide +kernel
theorem dX12_lot_19 : decode cX12_lot 19 = .ok (.iconst 0, 1) := by decide +kernel
theorem dX12_lot_20 : decode cX12_lot 20 = .ok (.iconst 1, 1) := by decide +kernel
theorem dX12_lot_21 : decode cX12_lot 21 = .ok (.iconst 1, 1) := by decide +kernel
theorem dX12_lot_22 : decode cX12_lot 22 = .ok (.invokevirtual 228, 3) := by decide +kernel
theorem dX12_lot_25 : decode cX12_lot 25 = .ok (.ifCond .eq 5, 3) := by decide +kernel
theorem dX12_lot_28 : decode cX12_lot 28 = .ok (.iconst 0, 1) := by decide +kernel
theorem dX12_lot_29 : decode cX12_lot 29 = .ok (.ireturn, 1) := by decide +kernel
theorem dX12_lot_30 : decode cX12_lot 30 = .ok (.aload_n 0, 1) := by decide +kernel
theorem dX12_lot_31 : decode cX12_lot 31 = .ok (.invokevirtual 353, 3) := by decide +kernel
theorem dX12_lot_34 : decode cX12_lot 34 = .ok (.aload_n 0, 1) := by decide +kernel
theorem dX12_lot_35 : decode cX12_lot 35 = .ok (.iload_n 1, 1) := by decide +kernel
theorem dX12_lot_36 : decode cX12_lot 36 = .ok (.invokevirtual 394, 3) := by decide +kernel
theorem dX12_lot_39 : decode cX12_lot 39 = .ok (.iconst 0, 1) := by decide +kernel
theorem dX12_lot_40 : decode cX12_lot 40 = .ok (.istore_n 3, 1) := by decide +kernel
theorem dX12_lot_41 : decode cX12_lot 41 = .ok (.iconst 0, 1) := by decide +kernel
theorem dX12_lot_42 : decode cX12_lot 42 = .ok (.istore 4, 2) := by decide +kernel
theorem dX12_lot_44 : decode cX12_lot 44 = .ok (.iload 4, 2) := by decide +kernel
theorem dX12_lot_46 : decode cX12_lot 46 = .ok (.aload_n 0, 1) := by decide +kernel
theorem dX12_lot_47 : decode cX12_lot 47 = .ok (.getfield 23, 3) := by decide +kernel
theorem dX12_lot_50 : decode cX12_lot 50 = .ok (.iconst 1, 1) := by decide +kernel
theorem dX12_lot_51 : decode cX12_lot 51 = .ok (.iaload, 1) := by decide +kernel
theorem dX12_lot_52 : decode cX12_lot 52 = .ok (.if_icmp .ge 30, 3) := by decide +kernel
theorem dX12_lot_55 : decode cX12_lot 55 = .ok (.iload_n 3, 1) := by decide +kernel
theorem dX12_lot_56 : decode cX12_lot 56 = .ok (.aload_n 0, 1) := by decide +kernel
theorem dX12_lot_57 : decode cX12_lot 57 = .ok (.getfield 92, 3) := by decide +kernel
theorem dX12_lot_60 : decode cX12_lot 60 = .ok (.iload 4, 2) := by decide +kernel
theorem dX12_lot_62 : decode cX12_lot 62 = .ok (.iaload, 1) := by decide +kernel
theorem dX12_lot_63 : decode cX12_lot 63 = .ok (.ifCond .le 10, 3) := by decide +kernel
theorem dX12_lot_66 : decode cX12_lot 66 = .ok (.iconst 1, 1) := by decide +kernel
theorem dX12_lot_67 : decode cX12_lot 67 = .ok (.iload 4, 2) := by decide +kernel
theorem dX12_lot_69 : decode cX12_lot 69 = .ok (.ishl, 1) := by decide +kernel
theorem dX12_lot_70 : decode cX12_lot 70 = .ok (.goto 4, 3) := by decide +kernel
theorem dX12_lot_73 : decode cX12_lot 73 = .ok (.iconst 0, 1) := by decide +kernel
theorem dX12_lot_74 : decode cX12_lot 74 = .ok (.ior, 1) := by decide +kernel
theorem dX12_lot_75 : decode cX12_lot 75 = .ok (.istore_n 3, 1) := by decide +kernel
theorem dX12_lot_76 : decode cX12_lot 76 = .ok (.iinc 4 1, 3) := by decide +kernel
theorem dX12_lot_79 : decode cX12_lot 79 = .ok (.goto (-35), 3) := by decide +kernel
theorem dX12_lot_82 : decode cX12_lot 82 = .ok (.iload_n 2, 1) := by decide +kernel
theorem dX12_lot_83 : decode cX12_lot 83 = .ok (.ifCond .ne 10, 3) := by decide +kernel
theorem dX12_lot_86 : decode cX12_lot 86 = .ok (.aload_n 0, 1) := by decide +kernel
theorem dX12_lot_87 : decode cX12_lot 87 = .ok (.invokevirtual 359, 3) := by decide +kernel
theorem dX12_lot_90 : decode cX12_lot 90 = .ok (.goto 16, 3) := by decide +kernel
theorem dX12_lot_93 : decode cX12_lot 93 = .ok (.iload_n 2, 1) := by decide +kernel
theorem dX12_lot_94 : decode cX12_lot 94 = .ok (.iconst 1, 1) := by decide +kernel
theorem dX12_lot_95 : decode cX12_lot 95 = .ok (.if_icmp .ne 7, 3) := by decide +kernel
theorem dX12_lot_98 : decode cX12_lot 98 = .ok (.iload_n 3, 1) := by decide +kernel
theorem dX12_lot_99 : decode cX12_lot 99 = .ok (.goto 7, 3) := by decide +kernel
theorem dX12_lot_102 : decode cX12_lot 102 = .ok (.aload_n 0, 1) := by decide +kernel
theorem dX12_lot_103 : decode cX12_lot 103 = .ok (.invokevirtual 362, 3) := by decide +kernel
theorem dX12_lot_106 : decode cX12_lot 106 = .ok (.ireturn, 1) := by decide +kernel
theorem dX12_lucky_0 : decode cX12_lucky 0 = .ok (.aload_n 0, 1) := by decide +kernel
theorem dX12_lucky_1 : decode cX12_lucky 1 = .ok (.iconst 0, 1) := by decide +kernel
theorem dX12_lucky_2 : decode cX12_lucky 2 = .ok (.putfield 158, 3) := by decide +kernel
theorem dX12_lucky_5 : decode cX12_lucky 5 = .ok (.aload_n 0, 1) := by decide +kernel
theorem dX12_lucky_6 : decode cX12_lucky 6 = .ok (.aload_n 0, 1) := by decide +kernel
theorem dX12_lucky_7 : decode cX12_lucky 7 = .ok (.iload_n 1, 1) := by decide +kernel
theorem dX12_lucky_8 : decode cX12_lucky 8 = .ok (.invokevirtual 285, 3) := by decide +kernel
theorem dX12_lucky_11 : decode cX12_lucky 11 = .ok (.ifCond .ne 7, 3) := by decide +kernel
theorem dX12_lucky_14 : decode cX12_lucky 14 = .ok (.iconst 1, 1) := by decide +kernel
theorem dX12_lucky_15 : decode cX12_lucky 15 = .ok (.goto 4, 3) := by decide +kernel
theorem dX12_lucky_18 : decode cX12_lucky 18 = .ok (.iconst 0, 1) := by decide +kernel
theorem dX12_lucky_19 : decode cX12_lucky 19 = .ok (.iconst 1, 1) := by decide +kernel
theorem dX12_lucky_20 : decode cX12_lucky 20 = .ok (.iconst 0, 1) := by decide +kernel
theorem dX12_lucky_21 : decode cX12_lucky 21 = .ok (.invokevirtual 228, 3) := by decide +kernel
theorem dX12_lucky_24 : decode cX12_lucky 24 = .ok (.ifCond .ne 27, 3) := by decide +kernel
theorem dX12_lucky_27 : decode cX12_lucky 27 = .ok (.aload_n 0, 1) := by decide +kernel
theorem dX12_lucky_28 : decode cX12_lucky 28 = .ok (.iload_n 3, 1) := by decide +kernel
theorem dX12_lucky_29 : decode cX12_lucky 29 = .ok (.iconst 1, 1) := by decide +kernel
theorem dX12_lucky_30 : decode cX12_lucky 30 = .ok (.bipush 40, 2) := by decide +kernel
theorem dX12_lucky_32 : decode cX12_lucky 32 = .ok (.invokestatic 192, 3) := by decide +kernel
theorem dX12_lucky_35 : decode cX12_lucky 35 = .ok (.ifCond .ne 7, 3) := by decide +kernel
theorem dX12_lucky_38 : decode cX12_lucky 38 = .ok (.iconst 1, 1) := by decide +kernel
theorem dX12_lucky_39 : decode cX12_lucky 39 = .ok (.goto 4, 3) := by decide +kernel
theorem dX12_lucky_42 : decode cX12_lucky 42 = .ok (.iconst 0, 1) := by decide +kernel
theorem dX12_lucky_43 : decode cX12_lucky 43 = .ok (.iconst 2, 1) := by decide +kernel
theorem dX12_lucky_44 : decode cX12_lucky 44 = .ok (.iconst 1, 1) := by decide +kernel
theorem dX12_lucky_45 : decode cX12_lucky 45 = .ok (.invokevirtual 228, 3) := by decide +kernel
theorem dX12_lucky_48 : decode cX12_lucky 48 = .ok (.ifCond .eq 5, 3) := by decide +kernel
theorem dX12_lucky_51 : decode cX12_lucky 51 = .ok (.iconst 0, 1) := by decide +kernel
theorem dX12_lucky_52 : decode cX12_lucky 52 = .ok (.ireturn, 1) := by decide +kernel
theorem dX12_lucky_53 : decode cX12_lucky 53 = .ok (.iconst 0, 1) := by decide +kernel
theorem dX12_lucky_54 : decode cX12_lucky 54 = .ok (.istore 4, 2) := by decide +kernel
theorem dX12_lucky_56 : decode cX12_lucky 56 = .ok (.aload_n 0, 1) := by decide +kernel
theorem dX12_lucky_57 : decode cX12_lucky 57 = .ok (.invokevirtual 353, 3) := by decide +kernel
theorem dX12_lucky_60 : decode cX12_lucky 60 = .ok (.iconst 0, 1) := by decide +kernel
theorem dX12_lucky_61 : decode cX12_lucky 61 = .ok (.istore 5, 2) := by decide +kernel
theorem dX12_lucky_63 : decode cX12_lucky 63 = .ok (.iload 5, 2) := by decide +kernel
theorem dX12_lucky_65 : decode cX12_lucky 65 = .ok (.iload_n 3, 1) := by decide +kernel
theorem dX12_lucky_66 : decode cX12_lucky 66 = .ok (.if_icmp .ge 36, 3) := by decide +kernel
theorem dX12_lucky_69 : decode cX12_lucky 69 = .ok (.aload_n 0, 1) := by decide +kernel
theorem dX12_lucky_70 : decode cX12_lucky 70 = .ok (.iload_n 2, 1) := by decide +kernel
theorem dX12_lucky_71 : decode cX12_lucky 71 = .ok (.iload 5, 2) := by decide +kernel
theorem dX12_lucky_73 : decode cX12_lucky 73 = .ok (.iadd, 1) := by decide +kernel
theorem dX12_lucky_74 : decode cX12_lucky 74 = .ok (.invokevirtual 394, 3) := by decide +kernel
theorem dX12_lucky_77 : decode cX12_lucky 77 = .ok (.iload 4, 2) := by decide +kernel
theorem dX12_lucky_79 : decode cX12_lucky 79 = .ok (.aload_n 0, 1) := by decide +kernel
theorem dX12_lucky_80 : decode cX12_lucky 80 = .ok (.getfield 92, 3) := by decide +kernel
theorem dX12_lucky_83 : decode cX12_lucky 83 = .ok (.iload_n 1, 1) := by decide +kernel
theorem dX12_lucky_84 : decode cX12_lucky 84 = .ok (.iaload, 1) := by decide +kernel
theorem dX12_lucky_85 : decode cX12_lucky 85 = .ok (.ifCond .le 7, 3) := by decide +kernel
theorem dX12_lucky_88 : decode cX12_lucky 88 = .ok (.iconst 1, 1) := by decide +kernel
theorem dX12_lucky_89 : decode cX12_lucky 89 = .ok (.goto 4, 3) := by decide +kernel
theorem dX12_lucky_92 : decode cX12_lucky 92 = .ok (.iconst 0, 1) := by decide +kernel
theorem dX12_lucky_93 : decode cX12_lucky 93 = .ok (.iadd, 1) := by decide +kernel
theorem dX12_lucky_94 : decode cX12_lucky 94 = .ok (.istore 4, 2) := by decide +kernel
theorem dX12_lucky_96 : decode cX12_lucky 96 = .ok (.iinc 5 1, 3) := by decide +kernel
theorem dX12_lucky_99 : decode cX12_lucky 99 = .ok (.goto (-36), 3) := by decide +kernel
theorem dX12_lucky_102 : decode cX12_lucky 102 = .ok (.iload 4, 2) := by decide +kernel
theorem dX12_lucky_104 : decode cX12_lucky 104 = .ok (.ireturn, 1) := by decide +kernel
theorem dX12_summer_0 : decode cX12_summer 0 = .ok (.aload_n 0, 1) := by decide +kernel
theorem dX12_summer_1 : decode cX12_summer 1 = .ok (.iconst 0, 1) := by decide +kernel
theorem dX12_summer_2 : decode cX12_summer 2 = .ok (.putfield 158, 3) := by decide +kernel
theorem dX12_summer_5 : decode cX12_summer 5 = .ok (.aload_n 0, 1) := by decide +kernel
theorem dX12_summer_6 : decode cX12_summer 6 = .ok (.iload_n 2, 1) := by decide +kernel
theorem dX12_summer_7 : decode cX12_summer 7 = .ok (.iconst 1, 1) := by decide +kernel
theorem dX12_summer_8 : decode cX12_summer 8 = .ok (.bipush 60, 2) := by decide +kernel
theorem dX12_summer_10 : decode cX12_summer 10 = .ok (.invokestatic 192, 3) := by decide +kernel
theorem dX12_summer_13 : decode cX12_summer 13 = .ok (.ifCond .eq 12, 3) := by decide +kernel
theorem dX12_summer_16 : decode cX12_summer 16 = .ok (.iload_n 3, 1) := by decide +kernel
theorem dX12_summer_17 : decode cX12_summer 17 = .ok (.iconst 0, 1) := by decide +kernel
theorem dX12_summer_18 : decode cX12_summer 18 = .ok (.iconst 3, 1) := by decide +kernel
theorem dX12_summer_19 : decode cX12_summer 19 = .ok (.invokestatic 192, 3) := by decide +kernel
theorem dX12_summer_22 : decode cX12_summer 22 = .ok (.ifCond .ne 7, 3) := by decide +kernel
theorem dX12_summer_25 : decode cX12_summer 25 = .ok (.iconst 1, 1) := by decide +kernel
theorem dX12_summer_26 : decode cX12_summer 26 = .ok (.goto 4, 3) := by decide +kernel
theorem dX12_summer_29 : decode cX12_summer 29 = .ok (.iconst 0, 1) := by decide +kernel
theorem dX12_summer_30 : decode cX12_summer 30 = .ok (.iconst 1, 1) := by decide +kernel
theorem dX12_summer_31 : decode cX12_summer 31 = .ok (.iconst 1, 1) := by decide +kernel
theorem dX12_summer_32 : decode cX12_summer 32 = .ok (.invokevirtual 228, 3) := by decide +kernel
theorem dX12_summer_35 : decode cX12_summer 35 = .ok (.ifCond .eq 5, 3) := by decide +kernel
theorem dX12_summer_38 : decode cX12_summer 38 = .ok (.iconst 0, 1) := by decide +kernel
theorem dX12_summer_39 : decode cX12_summer 39 = .ok (.ireturn, 1) := by decide +kernel
theorem dX12_summer_40 : decode cX12_summer 40 = .ok (.iconst 0, 1) := by decide +kernel
theorem dX12_summer_41 : decode cX12_summer 41 = .ok (.istore 4, 2) := by decide +kernel
theorem dX12_summer_43 : decode cX12_summer 43 = .ok (.iconst 0, 1) := by decide +kernel
theorem dX12_summer_44 : decode cX12_summer 44 = .ok (.istore 5, 2) := by decide +kernel
theorem dX12_summer_46 : decode cX12_summer 46 = .ok (.iconst (-1), 1) := by decide +kernel
theorem dX12_summer_47 : decode cX12_summer 47 = .ok (.istore 6, 2) := by decide +kernel
theorem dX12_summer_49 : decode cX12_summer 49 = .ok (.iconst 0, 1) := by decide +kernel
theorem dX12_summer_50 : decode cX12_summer 50 = .ok (.istore 7, 2) := by decide +kernel
theorem dX12_summer_52 : decode cX12_summer 52 = .ok (.iload 7, 2) := by decide +kernel
theorem dX12_summer_54 : decode cX12_summer 54 = .ok (.bipush 8, 2) := by decide +kernel
theorem dX12_summer_56 : decode cX12_summer 56 = .ok (.if_icmp .ge 17, 3) := by decide +kernel
theorem dX12_summer_59 : decode cX12_summer 59 = .ok (.aload_n 0, 1) := by decide +kernel
theorem dX12_summer_60 : decode cX12_summer 60 = .ok (.getfield 143, 3) := by decide +kernel
theorem dX12_summer_63 : decode cX12_summer 63 = .ok (.iload 7, 2) := by decide +kernel
theorem dX12_summer_65 : decode cX12_summer 65 = .ok (.iconst 0, 1) := by decide +kernel
theorem dX12_summer_66 : decode cX12_summer 66 = .ok (.iastore, 1) := by decide +kernel
theorem dX12_summer_67 : decode cX12_summer 67 = .ok (.iinc 7 1, 3) := by decide +kernel
theorem dX12_summer_70 : decode cX12_summer 70 = .ok (.goto (-18), 3) := by decide +kernel
theorem dX12_summer_73 : decode cX12_summer 73 = .ok (.aload_n 0, 1) := by decide +kernel
theorem dX12_summer_74 : decode cX12_summer 74 = .ok (.invokevirtual 347, 3) := by decide +kernel
theorem dX12_summer_77 : decode cX12_summer 77 = .ok (.aload_n 0, 1) := by decide +kernel
theorem dX12_summer_78 : decode cX12_summer 78 = .ok (.iload_n 1, 1) := by decide +kernel
theorem dX12_summer_79 : decode cX12_summer 79 = .ok (.putfield 384, 3) := by decide +kernel
theorem dX12_summer_82 : decode cX12_summer 82 = .ok (.iconst 0, 1) := by decide +kernel
theorem dX12_summer_83 : decode cX12_summer 83 = .ok (.istore 7, 2) := by decide +kernel
theorem dX12_summer_85 : decode cX12_summer 85 = .ok (.iload 7, 2) := by decide +kernel
theorem dX12_summer_87 : decode cX12_summer 87 = .ok (.iload_n 2, 1) := by decide +kernel
theorem dX12_summer_88 : decode cX12_summer 88 = .ok (.if_icmp .ge 91, 3) := by decide +kernel
theorem dX12_summer_91 : decode cX12_summer 91 = .ok (.iload 7, 2) := by decide +kernel
theorem dX12_summer_93 : decode cX12_summer 93 = .ok (.ifCond .le 9, 3) := by decide +kernel
theorem dX12_summer_96 : decode cX12_summer 96 = .ok (.aload_n 0, 1) := by decide +kernel
theorem dX12_summer_97 : decode cX12_summer 97 = .ok (.iload 7, 2) := by decide +kernel
theorem dX12_summer_99 : decode cX12_summer 99 = .ok (.invokevirtual 344, 3) := by decide +kernel
theorem dX12_summer_102 : decode cX12_summer 102 = .ok (.aload_n 0, 1) := by decide +kernel
theorem dX12_summer_103 : decode cX12_summer 103 = .ok (.invokevirtual 391, 3) := by decide +kernel
theorem dX12_summer_106 : decode cX12_summer 106 = .ok (.aload_n 0, 1) := by decide +kernel
theorem dX12_summer_107 : decode cX12_summer 107 = .ok (.invokevirtual 341, 3) := by decide +kernel
theorem dX12_summer_110 : decode cX12_summer 110 = .ok (.iload 4, 2) := by decide +kernel
theorem dX12_summer_112 : decode cX12_summer 112 = .ok (.aload_n 0, 1) := by decide +kernel
theorem dX12_summer_113 : decode cX12_summer 113 = .ok (.invokevirtual 359, 3) := by decide +kernel
theorem dX12_summer_116 : decode cX12_summer 116 = .ok (.iadd, 1) := by decide +kernel
theorem dX12_summer_117 : decode cX12_summer 117 = .ok (.istore 4, 2) := by decide +kernel
theorem dX12_summer_119 : decode cX12_summer 119 = .ok (.iload 5, 2) := by decide +kernel
theorem dX12_summer_121 : decode cX12_summer 121 = .ok (.aload_n 0, 1) := by decide +kernel
theorem dX12_summer_122 : decode cX12_summer 122 = .ok (.invokevirtual 362, 3) := by decide +kernel
theorem dX12_summer_125 : decode cX12_summer 125 = .ok (.iadd, 1) := by decide +kernel
theorem dX12_summer_126 : decode cX12_summer 126 = .ok (.istore 5, 2) := by decide +kernel
theorem dX12_summer_128 : decode cX12_summer 128 = .ok (.iconst 0, 1) := by decide +kernel
theorem dX12_summer_129 : decode cX12_summer 129 = .ok (.istore 8, 2) := by decide +kernel
theorem dX12_summer_131 : decode cX12_summer 131 = .ok (.iload 8, 2) := by decide +kernel
theorem dX12_summer_133 : decode cX12_summer 133 = .ok (.aload_n 0, 1) := by decide +kernel
theorem dX12_summer_134 : decode cX12_summer 134 = .ok (.getfield 23, 3) := by decide +kernel
theorem dX12_summer_137 : decode cX12_summer 137 = .ok (.iconst 1, 1) := by decide +kernel
theorem dX12_summer_138 : decode cX12_summer 138 = .ok (.iaload, 1) := by decide +kernel
theorem dX12_summer_139 : decode cX12_summer 139 = .ok (.if_icmp .ge 34, 3) := by decide +kernel
theorem dX12_summer_142 : decode cX12_summer 142 = .ok (.aload_n 0, 1) := by decide +kernel
theorem dX12_summer_143 : decode cX12_summer 143 = .ok (.getfield 143, 3) := by decide +kernel
theorem dX12_summer_146 : decode cX12_summer 146 = .ok (.iload 8, 2) := by decide +kernel
theorem dX12_summer_148 : decode cX12_summer 148 = .ok (.dup2, 1) := by decide +kernel
theorem dX12_summer_149 : decode cX12_summer 149 = .ok (.iaload, 1) := by decide +kernel
theorem dX12_summer_150 : decode cX12_summer 150 = .ok (.aload_n 0, 1) := by decide +kernel
theorem dX12_summer_151 : decode cX12_summer 151 = .ok (.getfield 92, 3) := by decide +kernel
theorem dX12_summer_154 : decode cX12_summer 154 = .ok (.iload 8, 2) := by decide +kernel
theorem dX12_summer_156 : decode cX12_summer 156 = .ok (.iaload, 1) := by decide +kernel
theorem dX12_summer_157 : decode cX12_summer 157 = .ok (.ifCond .le 7, 3) := by decide +kernel
theorem dX12_summer_160 : decode cX12_summer 160 = .ok (.iconst 1, 1) := by decide +kernel
theorem dX12_summer_161 : decode cX12_summer 161 = .ok (.goto 4, 3) := by decide +kernel
theorem dX12_summer_164 : decode cX12_summer 164 = .ok (.iconst 0, 1) := by decide +kernel
theorem dX12_summer_165 : decode cX12_summer 165 = .ok (.iadd, 1) := by decide +kernel
theorem dX12_summer_166 : decode cX12_summer 166 = .ok (.iastore, 1) := by decide +kernel
theorem dX12_summer_167 : decode cX12_summer 167 = .ok (.iinc 8 1, 3) := by decide +kernel
theorem dX12_summer_170 : decode cX12_summer 170 = .ok (.goto (-39), 3) := by decide +kernel
theorem dX12_summer_173 : decode cX12_summer 173 = .ok (.iinc 7 1, 3) := by decide +kernel
theorem dX12_summer_176 : decode cX12_summer 176 = .ok (.goto (-91), 3) := by decide +kernel
theorem dX12_summer_179 : decode cX12_summer 179 = .ok (.iconst 0, 1) := by decide +kernel
theorem dX12_summer_180 : decode cX12_summer 180 = .ok (.istore 7, 2) := by decide +kernel
theorem dX12_summer_182 : decode cX12_summer 182 = .ok (.iload 7, 2) := by decide +kernel
theorem dX12_summer_184 : decode cX12_summer 184 = .ok (.aload_n 0, 1) := by decide +kernel
theorem dX12_summer_185 : decode cX12_summer 185 = .ok (.getfield 23, 3) := by decide +kernel
theorem dX12_summer_188 : decode cX12_summer 188 = .ok (.iconst 1, 1) := by decide +kernel
theorem dX12_summer_189 : decode cX12_summer 189 = .ok (.iaload, 1) := by decide +kernel
theorem dX12_summer_190 : decode cX12_summer 190 = .ok (.if_icmp .ge 41, 3) := by decide +kernel
theorem dX12_summer_193 : decode cX12_summer 193 = .ok (.iload 6, 2) := by decide +kernel
theorem dX12_summer_195 : decode cX12_summer 195 = .ok (.iconst (-1), 1) := by decide +kernel
theorem dX12_summer_196 : decode cX12_summer 196 = .ok (.if_icmp .eq 20, 3) := by decide +kernel
theorem dX12_summer_199 : decode cX12_summer 199 = .ok (.aload_n 0, 1) := by decide +kernel
theorem dX12_summer_200 : decode cX12_summer 200 = .ok (.getfield 143, 3) := by decide +kernel
theorem dX12_summer_203 : decode cX12_summer 203 = .ok (.iload 7, 2) := by decide +kernel
theorem dX12_summer_205 : decode cX12_summer 205 = .ok (.iaload, 1) := by decide +kernel
theorem dX12_summer_206 : decode cX12_summer 206 = .ok (.aload_n 0, 1) := by decide +kernel
theorem dX12_summer_207 : decode cX12_summer 207 = .ok (.getfield 143, 3) := by decide +kernel
theorem dX12_summer_210 : decode cX12_summer 210 = .ok (.iload 6, 2) := by decide +kernel
theorem dX12_summer_212 : decode cX12_summer 212 = .ok (.iaload, 1) := by decide +kernel
theorem dX12_summer_213 : decode cX12_summer 213 = .ok (.if_icmp .le 8, 3) := by decide +kernel
theorem dX12_summer_216 : decode cX12_summer 216 = .ok (.iload 7, 2) := by decide +kernel
theorem dX12_summer_218 : decode cX12_summer 218 = .ok (.goto 5, 3) := by decide +kernel
theorem dX12_summer_221 : decode cX12_summer 221 = .ok (.iload 6, 2) := by decide +kernel
theorem dX12_summer_223 : decode cX12_summer 223 = .ok (.istore 6, 2) := by decide +kernel
theorem dX12_summer_225 : decode cX12_summer 225 = .ok (.iinc 7 1, 3) := by decide +kernel
theorem dX12_summer_228 : decode cX12_summer 228 = .ok (.goto (-46), 3) := by decide +kernel
theorem dX12_summer_231 : decode cX12_summer 231 = .ok (.iload_n 3, 1) := by decide +kernel
theorem dX12_summer_232 : decode cX12_summer 232 = .ok (.ifCond .ne 8, 3) := by decide +kernel
theorem dX12_summer_235 : decode cX12_summer 235 = .ok (.iload 4, 2) := by decide +kernel
theorem dX12_summer_237 : decode cX12_summer 237 = .ok (.goto 27, 3) := by decide +kernel
theorem dX12_summer_240 : decode cX12_summer 240 = .ok (.iload_n 3, 1) := by decide +kernel
theorem dX12_summer_241 : decode cX12_summer 241 = .ok (.iconst 1, 1) := by decide +kernel
theorem dX12_summer_242 : decode cX12_summer 242 = .ok (.if_icmp .ne 8, 3) := by decide +kernel
theorem dX12_summer_245 : decode cX12_summer 245 = .ok (.iload 5, 2) := by decide +kernel
theorem dX12_summer_247 : decode cX12_summer 247 = .ok (.goto 17, 3) := by decide +kernel
theorem dX12_summer_250 : decode cX12_summer 250 = .ok (.iload_n 3, 1) := by decide +kernel
theorem dX12_summer_251 : decode cX12_summer 251 = .ok (.iconst 2, 1) := by decide +kernel
theorem dX12_summer_252 : decode cX12_summer 252 = .ok (.if_icmp .ne 8, 3) := by decide +kernel
theorem dX12_summer_255 : decode cX12_summer 255 = .ok (.iload 6, 2) := by decide +kernel
theorem dX12_summer_257 : decode cX12_summer 257 = .ok (.goto 7, 3) := by decide +kernel
theorem dX12_summer_260 : decode cX12_summer 260 = .ok (.aload_n 0, 1) := by decide +kernel
theorem dX12_summer_261 : decode cX12_summer 261 = .ok (.invokevirtual 365, 3) := by decide +kernel
theorem dX12_summer_264 : decode cX12_summer 264 = .ok (.ireturn, 1) := by decide +kernel
theorem dX12_rightBy_0 : decode cX12_rightBy 0 = .ok (.iconst 0, 1) := by decide +kernel
theorem dX12_rightBy_1 : decode cX12_rightBy 1 = .ok (.istore_n 2, 1) := by decide +kernel
theorem dX12_rightBy_2 : decode cX12_rightBy 2 = .ok (.iconst 0, 1) := by decide +kernel
theorem dX12_rightBy_3 : decode cX12_rightBy 3 = .ok (.istore_n 3, 1) := by decide +kernel
theorem dX12_rightBy_4 : decode cX12_rightBy 4 = .ok (.iconst 0, 1) := by decide +kernel
theorem dX12_rightBy_5 : decode cX12_rightBy 5 = .ok (.istore 4, 2) := by decide +kernel
theorem dX12_rightBy_7 : decode cX12_rightBy 7 = .ok (.iload 4, 2) := by decide +kernel
theorem dX12_rightBy_9 : decode cX12_rightBy 9 = .ok (.aload_n 0, 1) := by decide +kernel
theorem dX12_rightBy_10 : decode cX12_rightBy 10 = .ok (.getfield 241, 3) := by decide +kernel
theorem dX12_rightBy_13 : decode cX12_rightBy 13 = .ok (.if_icmp .ge 53, 3) := by decide +kernel
theorem dX12_rightBy_16 : decode cX12_rightBy 16 = .ok (.iload_n 2, 1) := by decide +kernel
theorem dX12_rightBy_17 : decode cX12_rightBy 17 = .ok (.aload_n 0, 1) := by decide +kernel
theorem dX12_rightBy_18 : decode cX12_rightBy 18 = .ok (.getfield 55, 3) := by decide +kernel
theorem dX12_rightBy_21 : decode cX12_rightBy 21 = .ok (.iload 4, 2) := by decide +kernel
theorem dX12_rightBy_23 : decode cX12_rightBy 23 = .ok (.aaload, 1) := by decide +kernel
theorem dX12_rightBy_24 : decode cX12_rightBy 24 = .ok (.iconst 0, 1) := by decide +kernel
theorem dX12_rightBy_25 : decode cX12_rightBy 25 = .ok (.iaload, 1) := by decide +kernel
theorem dX12_rightBy_26 : decode cX12_rightBy 26 = .ok (.invokestatic 291, 3) := by decide +kernel
theorem dX12_rightBy_29 : decode cX12_rightBy 29 = .ok (.istore_n 2, 1) := by decide +kernel
theorem dX12_rightBy_30 : decode cX12_rightBy 30 = .ok (.aload_n 0, 1) := by decide +kernel
theorem dX12_rightBy_31 : decode cX12_rightBy 31 = .ok (.getfield 149, 3) := by decide +kernel
theorem dX12_rightBy_34 : decode cX12_rightBy 34 = .ok (.iload 4, 2) := by decide +kernel
theorem dX12_rightBy_36 : decode cX12_rightBy 36 = .ok (.iload_n 1, 1) := by decide +kernel
theorem dX12_rightBy_37 : decode cX12_rightBy 37 = .ok (.iconst (-1), 1) := by decide +kernel
theorem dX12_rightBy_38 : decode cX12_rightBy 38 = .ok (.if_icmp .eq 20, 3) := by decide +kernel
theorem dX12_rightBy_41 : decode cX12_rightBy 41 = .ok (.aload_n 0, 1) := by decide +kernel
theorem dX12_rightBy_42 : decode cX12_rightBy 42 = .ok (.getfield 55, 3) := by decide +kernel
theorem dX12_rightBy_45 : decode cX12_rightBy 45 = .ok (.iload 4, 2) := by decide +kernel
theorem dX12_rightBy_47 : decode cX12_rightBy 47 = .ok (.aaload, 1) := by decide +kernel
theorem dX12_rightBy_48 : decode cX12_rightBy 48 = .ok (.iconst 1, 1) := by decide +kernel
theorem dX12_rightBy_49 : decode cX12_rightBy 49 = .ok (.iaload, 1) := by decide +kernel
theorem dX12_rightBy_50 : decode cX12_rightBy 50 = .ok (.iload_n 1, 1) := by decide +kernel
theorem dX12_rightBy_51 : decode cX12_rightBy 51 = .ok (.if_icmp .eq 7, 3) := by decide +kernel
theorem dX12_rightBy_54 : decode cX12_rightBy 54 = .ok (.iconst 1, 1) := by decide +kernel
theorem dX12_rightBy_55 : decode cX12_rightBy 55 = .ok (.goto 4, 3) := by decide +kernel
theorem dX12_rightBy_58 : decode cX12_rightBy 58 = .ok (.iconst 0, 1) := by decide +kernel
theorem dX12_rightBy_59 : decode cX12_rightBy 59 = .ok (.bastore, 1) := by decide +kernel
theorem dX12_rightBy_60 : decode cX12_rightBy 60 = .ok (.iinc 4 1, 3) := by decide +kernel
theorem dX12_rightBy_63 : decode cX12_rightBy 63 = .ok (.goto (-56), 3) := by decide +kernel
theorem dX12_rightBy_66 : decode cX12_rightBy 66 = .ok (.iconst 0, 1) := by decide +kernel
theorem dX12_rightBy_67 : decode cX12_rightBy 67 = .ok (.istore 4, 2) := by decide +kernel
theorem dX12_rightBy_69 : decode cX12_rightBy 69 = .ok (.iload 4, 2) := by decide +kernel
theorem dX12_rightBy_71 : decode cX12_rightBy 71 = .ok (.iload_n 2, 1) := by decide +kernel
theorem dX12_rightBy_72 : decode cX12_rightBy 72 = .ok (.if_icmp .gt 104, 3) := by decide +kernel
theorem dX12_rightBy_75 : decode cX12_rightBy 75 = .ok (.iload 4, 2) := by decide +kernel
theorem dX12_rightBy_77 : decode cX12_rightBy 77 = .ok (.ifCond .le 9, 3) := by decide +kernel
theorem dX12_rightBy_80 : decode cX12_rightBy 80 = .ok (.aload_n 0, 1) := by decide +kernel
theorem dX12_rightBy_81 : decode cX12_rightBy 81 = .ok (.iload 4, 2) := by decide +kernel
theorem dX12_rightBy_83 : decode cX12_rightBy 83 = .ok (.invokevirtual 344, 3) := by decide +kernel
theorem dX12_rightBy_86 : decode cX12_rightBy 86 = .ok (.aload_n 0, 1) := by decide +kernel
theorem dX12_rightBy_87 : decode cX12_rightBy 87 = .ok (.invokevirtual 341, 3) := by decide +kernel
theorem dX12_rightBy_90 : decode cX12_rightBy 90 = .ok (.iconst 0, 1) := by decide +kernel
theorem dX12_rightBy_91 : decode cX12_rightBy 91 = .ok (.istore 5, 2) := by decide +kernel
theorem dX12_rightBy_93 : decode cX12_rightBy 93 = .ok (.iload 5, 2) := by decide +kernel
theorem dX12_rightBy_95 : decode cX12_rightBy 95 = .ok (.aload_n 0, 1) := by decide +kernel
theorem dX12_rightBy_96 : decode cX12_rightBy 96 = .ok (.getfield 241, 3) := by decide +kernel
theorem dX12_rightBy_99 : decode cX12_rightBy 99 = .ok (.if_icmp .ge 71, 3) := by decide +kernel
theorem dX12_rightBy_102 : decode cX12_rightBy 102 = .ok (.aload_n 0, 1) := by decide +kernel
theorem dX12_rightBy_103 : decode cX12_rightBy 103 = .ok (.getfield 149, 3) := by decide +kernel
theorem dX12_rightBy_106 : decode cX12_rightBy 106 = .ok (.iload 5, 2) := by decide +kernel
theorem dX12_rightBy_108 : decode cX12_rightBy 108 = .ok (.aload_n 0, 1) := by decide +kernel
theorem dX12_rightBy_109 : decode cX12_rightBy 109 = .ok (.getfield 149, 3) := by decide +kernel
theorem dX12_rightBy_112 : decode cX12_rightBy 112 = .ok (.iload 5, 2) := by decide +kernel
theorem dX12_rightBy_114 : decode cX12_rightBy 114 = .ok (.baload, 1) := by decide +kernel
theorem dX12_rightBy_115 : decode cX12_rightBy 115 = .ok (.ifCond .ne 43, 3) := by decide +kernel
theorem dX12_rightBy_118 : decode cX12_rightBy 118 = .ok (.aload_n 0, 1) := by decide +kernel
theorem dX12_rightBy_119 : decode cX12_rightBy 119 = .ok (.getfield 55, 3) := by decide +kernel
theorem dX12_rightBy_122 : decode cX12_rightBy 122 = .ok (.iload 5, 2) := by decide +kernel
theorem dX12_rightBy_124 : decode cX12_rightBy 124 = .ok (.aaload, 1) := by decide +kernel
theorem dX12_rightBy_125 : decode cX12_rightBy 125 = .ok (.iconst 0, 1) := by decide +kernel
theorem dX12_rightBy_126 : decode cX12_rightBy 126 = .ok (.iaload, 1) := by decide +kernel
theorem dX12_rightBy_127 : decode cX12_rightBy 127 = .ok (.iload 4, 2) := by decide +kernel
theorem dX12_rightBy_129 : decode cX12_rightBy 129 = .ok (.if_icmp .ne 33, 3) := by decide +kernel
theorem dX12_rightBy_132 : decode cX12_rightBy 132 = .ok (.aload_n 0, 1) := by decide +kernel
theorem dX12_rightBy_133 : decode cX12_rightBy 133 = .ok (.getfield 71, 3) := by decide +kernel
theorem dX12_rightBy_136 : decode cX12_rightBy 136 = .ok (.aload_n 0, 1) := by decide +kernel
theorem dX12_rightBy_137 : decode cX12_rightBy 137 = .ok (.getfield 55, 3) := by decide +kernel
theorem dX12_rightBy_140 : decode cX12_rightBy 140 = .ok (.iload 5, 2) := by decide +kernel
theorem dX12_rightBy_142 : decode cX12_rightBy 142 = .ok (.aaload, 1) := by decide +kernel
theorem dX12_rightBy_143 : decode cX12_rightBy 143 = .ok (.iconst 1, 1) := by decide +kernel
theorem dX12_rightBy_144 : decode cX12_rightBy 144 = .ok (.iaload, 1) := by decide +kernel
theorem dX12_rightBy_145 : decode cX12_rightBy 145 = .ok (.iaload, 1) := by decide +kernel
theorem dX12_rightBy_146 : decode cX12_rightBy 146 = .ok (.aload_n 0, 1) := by decide +kernel
theorem dX12_rightBy_147 : decode cX12_rightBy 147 = .ok (.getfield 55, 3) := by decide +kernel
theorem dX12_rightBy_150 : decode cX12_rightBy 150 = .ok (.iload 5, 2) := by decide +kernel
theorem dX12_rightBy_152 : decode cX12_rightBy 152 = .ok (.aaload, 1) := by decide +kernel
theorem dX12_rightBy_153 : decode cX12_rightBy 153 = .ok (.iconst 2, 1) := by decide +kernel
theorem dX12_rightBy_154 : decode cX12_rightBy 154 = .ok (.iaload, 1) := by decide +kernel
theorem dX12_rightBy_155 : decode cX12_rightBy 155 = .ok (.if_icmp .ne 7, 3) := by decide +kernel
theorem dX12_rightBy_158 : decode cX12_rightBy 158 = .ok (.iconst 1, 1) := by decide +kernel
theorem dX12_rightBy_159 : decode cX12_rightBy 159 = .ok (.goto 4, 3) := by decide +kernel
theorem dX12_rightBy_162 : decode cX12_rightBy 162 = .ok (.iconst 0, 1) := by decide +kernel
theorem dX12_rightBy_163 : decode cX12_rightBy 163 = .ok (.bastore, 1) := by decide +kernel
theorem dX12_rightBy_164 : decode cX12_rightBy 164 = .ok (.iinc 5 1, 3) := by decide +kernel
theorem dX12_rightBy_167 : decode cX12_rightBy 167 = .ok (.goto (-74), 3) := by decide +kernel
theorem dX12_rightBy_170 : decode cX12_rightBy 170 = .ok (.iinc 4 1, 3) := by decide +kernel
theorem dX12_rightBy_173 : decode cX12_rightBy 173 = .ok (.goto (-104), 3) := by decide +kernel
theorem dX12_rightBy_176 : decode cX12_rightBy 176 = .ok (.iload_n 3, 1) := by decide +kernel
theorem dX12_rightBy_177 : decode cX12_rightBy 177 = .ok (.aload_n 0, 1) := by decide +kernel
theorem dX12_rightBy_178 : decode cX12_rightBy 178 = .ok (.getfield 241, 3) := by decide +kernel
theorem dX12_rightBy_181 : decode cX12_rightBy 181 = .ok (.if_icmp .ge 18, 3) := by decide +kernel
theorem dX12_rightBy_184 : decode cX12_rightBy 184 = .ok (.aload_n 0, 1) := by decide +kernel
theorem dX12_rightBy_185 : decode cX12_rightBy 185 = .ok (.getfield 149, 3) := by decide +kernel
theorem dX12_rightBy_188 : decode cX12_rightBy 188 = .ok (.iload_n 3, 1) := by decide +kernel
theorem dX12_rightBy_189 : decode cX12_rightBy 189 = .ok (.baload, 1) := by decide +kernel
theorem dX12_rightBy_190 : decode cX12_rightBy 190 = .ok (.ifCond .eq 9, 3) := by decide +kernel
theorem dX12_rightBy_193 : decode cX12_rightBy 193 = .ok (.iinc 3 1, 3) := by decide +kernel
theorem dX12_rightBy_196 : decode cX12_rightBy 196 = .ok (.goto (-20), 3) := by decide +kernel
theorem dX12_rightBy_199 : decode cX12_rightBy 199 = .ok (.iload_n 3, 1) := by decide +kernel
theorem dX12_rightBy_200 : decode cX12_rightBy 200 = .ok (.ireturn, 1) := by decide +kernel
theorem dX12_fits_0 : decode cX12_fits 0 = .ok (.aload_n 0, 1) := by decide +kernel
theorem dX12_fits_1 : decode cX12_fits 1 = .ok (.iconst 0, 1) := by decide +kernel
theorem dX12_fits_2 : decode cX12_fits 2 = .ok (.putfield 158, 3) := by decide +kernel
theorem dX12_fits_5 : decode cX12_fits 5 = .ok (.aload_n 0, 1) := by decide +kernel
theorem dX12_fits_6 : decode cX12_fits 6 = .ok (.aload_n 0, 1) := by decide +kernel
theorem dX12_fits_7 : decode cX12_fits 7 = .ok (.iload_n 1, 1) := by decide +kernel
theorem dX12_fits_8 : decode cX12_fits 8 = .ok (.invokevirtual 285, 3) := by decide +kernel
theorem dX12_fits_11 : decode cX12_fits 11 = .ok (.ifCond .ne 7, 3) := by decide +kernel
theorem dX12_fits_14 : decode cX12_fits 14 = .ok (.iconst 1, 1) := by decide +kernel
theorem dX12_fits_15 : decode cX12_fits 15 = .ok (.goto 4, 3) := by decide +kernel
theorem dX12_fits_18 : decode cX12_fits 18 = .ok (.iconst 0, 1) := by decide +kernel
theorem dX12_fits_19 : decode cX12_fits 19 = .ok (.iconst 1, 1) := by decide +kernel
theorem dX12_fits_20 : decode cX12_fits 20 = .ok (.iconst 0, 1) := by decide +kernel
theorem dX12_fits_21 : decode cX12_fits 21 = .ok (.invokevirtual 228, 3) := by decide +kernel
theorem dX12_fits_24 : decode cX12_fits 24 = .ok (.ifCond .eq 5, 3) := by decide +kernel
theorem dX12_fits_27 : decode cX12_fits 27 = .ok (.iconst 0, 1) := by decide +kernel
theorem dX12_fits_28 : decode cX12_fits 28 = .ok (.ireturn, 1) := by decide +kernel
theorem dX12_fits_29 : decode cX12_fits 29 = .ok (.iconst 0, 1) := by decide +kernel
theorem dX12_fits_30 : decode cX12_fits 30 = .ok (.istore_n 2, 1) := by decide +kernel
theorem dX12_fits_31 : decode cX12_fits 31 = .ok (.iconst 0, 1) := by decide +kernel
theorem dX12_fits_32 : decode cX12_fits 32 = .ok (.istore_n 3, 1) := by decide +kernel
theorem dX12_fits_33 : decode cX12_fits 33 = .ok (.iload_n 3, 1) := by decide +kernel
theorem dX12_fits_34 : decode cX12_fits 34 = .ok (.aload_n 0, 1) := by decide +kernel
theorem dX12_fits_35 : decode cX12_fits 35 = .ok (.getfield 23, 3) := by decide +kernel
theorem dX12_fits_38 : decode cX12_fits 38 = .ok (.iconst 1, 1) := by decide +kernel
theorem dX12_fits_39 : decode cX12_fits 39 = .ok (.iaload, 1) := by decide +kernel
theorem dX12_fits_40 : decode cX12_fits 40 = .ok (.if_icmp .ge 42, 3) := by decide +kernel
theorem dX12_fits_43 : decode cX12_fits 43 = .ok (.aload_n 0, 1) := by decide +kernel
theorem dX12_fits_44 : decode cX12_fits 44 = .ok (.invokevirtual 347, 3) := by decide +kernel
theorem dX12_fits_47 : decode cX12_fits 47 = .ok (.aload_n 0, 1) := by decide +kernel
theorem dX12_fits_48 : decode cX12_fits 48 = .ok (.getfield 128, 3) := by decide +kernel
theorem dX12_fits_51 : decode cX12_fits 51 = .ok (.iload_n 1, 1) := by decide +kernel
theorem dX12_fits_52 : decode cX12_fits 52 = .ok (.iload_n 3, 1) := by decide +kernel
theorem dX12_fits_53 : decode cX12_fits 53 = .ok (.iastore, 1) := by decide +kernel
theorem dX12_fits_54 : decode cX12_fits 54 = .ok (.iload_n 2, 1) := by decide +kernel
theorem dX12_fits_55 : decode cX12_fits 55 = .ok (.aload_n 0, 1) := by decide +kernel
theorem dX12_fits_56 : decode cX12_fits 56 = .ok (.iload_n 1, 1) := by decide +kernel
theorem dX12_fits_57 : decode cX12_fits 57 = .ok (.invokevirtual 397, 3) := by decide +kernel
theorem dX12_fits_60 : decode cX12_fits 60 = .ok (.aload_n 0, 1) := by decide +kernel
theorem dX12_fits_61 : decode cX12_fits 61 = .ok (.getfield 241, 3) := by decide +kernel
theorem dX12_fits_64 : decode cX12_fits 64 = .ok (.if_icmp .ne 9, 3) := by decide +kernel
theorem dX12_fits_67 : decode cX12_fits 67 = .ok (.iconst 1, 1) := by decide +kernel
theorem dX12_fits_68 : decode cX12_fits 68 = .ok (.iload_n 3, 1) := by decide +kernel
theorem dX12_fits_69 : decode cX12_fits 69 = .ok (.ishl, 1) := by decide +kernel
theorem dX12_fits_70 : decode cX12_fits 70 = .ok (.goto 4, 3) := by decide +kernel
theorem dX12_fits_73 : decode cX12_fits 73 = .ok (.iconst 0, 1) := by decide +kernel
theorem dX12_fits_74 : decode cX12_fits 74 = .ok (.ior, 1) := by decide +kernel
theorem dX12_fits_75 : decode cX12_fits 75 = .ok (.istore_n 2, 1) := by decide +kernel
theorem dX12_fits_76 : decode cX12_fits 76 = .ok (.iinc 3 1, 3) := by decide +kernel
theorem dX12_fits_79 : decode cX12_fits 79 = .ok (.goto (-46), 3) := by decide +kernel
theorem dX12_fits_82 : decode cX12_fits 82 = .ok (.iload_n 2, 1) := by decide +kernel
theorem dX12_fits_83 : decode cX12_fits 83 = .ok (.ireturn, 1) := by decide +kernel
theorem dX12_right_0 : decode cX12_right 0 = .ok (.aload_n 0, 1) := by decide +kernel
theorem dX12_right_1 : decode cX12_right 1 = .ok (.iconst 0, 1) := by decide +kernel
theorem dX12_right_2 : decode cX12_right 2 = .ok (.putfield 158, 3) := by decide +kernel
theorem dX12_right_5 : decode cX12_right 5 = .ok (.aload_n 0, 1) := by decide +kernel
theorem dX12_right_6 : decode cX12_right 6 = .ok (.invokevirtual 347, 3) := by decide +kernel
theorem dX12_right_9 : decode cX12_right 9 = .ok (.aload_n 0, 1) := by decide +kernel
theorem dX12_right_10 : decode cX12_right 10 = .ok (.iconst (-1), 1) := by decide +kernel
theorem dX12_right_11 : decode cX12_right 11 = .ok (.invokevirtual 397, 3) := by decide +kernel
theorem dX12_right_14 : decode cX12_right 14 = .ok (.ireturn, 1) := by decide +kernel
theorem dX12_early_0 : decode cX12_early 0 = .ok (.aload_n 0, 1) := by decide +kernel
theorem dX12_early_1 : decode cX12_early 1 = .ok (.iconst 0, 1) := by decide +kernel
theorem dX12_early_2 : decode cX12_early 2 = .ok (.putfield 158, 3) := by decide +kernel
theorem dX12_early_5 : decode cX12_early 5 = .ok (.aload_n 0, 1) := by decide +kernel
theorem dX12_early_6 : decode cX12_early 6 = .ok (.iload_n 1, 1) := by decide +kernel
theorem dX12_early_7 : decode cX12_early 7 = .ok (.invokestatic 298, 3) := by decide +kernel
theorem dX12_early_10 : decode cX12_early 10 = .ok (.ifCond .ne 7, 3) := by decide +kernel
theorem dX12_early_13 : decode cX12_early 13 = .ok (.iconst 1, 1) := by decide +kernel
theorem dX12_early_14 : decode cX12_early 14 = .ok (.goto 4, 3) := by decide +kernel
theorem dX12_early_17 : decode cX12_early 17 = .ok (.iconst 0, 1) := by decide +kernel
theorem dX12_early_18 : decode cX12_early 18 = .ok (.iconst 1, 1) := by decide +kernel
theorem dX12_early_19 : decode cX12_early 19 = .ok (.iconst 1, 1) := by decide +kernel
theorem dX12_early_20 : decode cX12_early 20 = .ok (.invokevirtual 228, 3) := by decide +kernel
theorem dX12_early_23 : decode cX12_early 23 = .ok (.ifCond .eq 5, 3) := by decide +kernel
theorem dX12_early_26 : decode cX12_early 26 = .ok (.iconst 0, 1) := by decide +kernel
theorem dX12_early_27 : decode cX12_early 27 = .ok (.ireturn, 1) := by decide +kernel
theorem dX12_early_28 : decode cX12_early 28 = .ok (.aload_n 0, 1) := by decide +kernel
theorem dX12_early_29 : decode cX12_early 29 = .ok (.invokevirtual 353, 3) := by decide +kernel
theorem dX12_early_32 : decode cX12_early 32 = .ok (.iconst 0, 1) := by decide +kernel
theorem dX12_early_33 : decode cX12_early 33 = .ok (.istore_n 2, 1) := by decide +kernel
theorem dX12_early_34 : decode cX12_early 34 = .ok (.iconst 0, 1) := by decide +kernel
theorem dX12_early_35 : decode cX12_early 35 = .ok (.istore_n 3, 1) := by decide +kernel
theorem dX12_early_36 : decode cX12_early 36 = .ok (.iload_n 3, 1) := by decide +kernel
theorem dX12_early_37 : decode cX12_early 37 = .ok (.aload_n 0, 1) := by decide +kernel
theorem dX12_early_38 : decode cX12_early 38 = .ok (.getfield 23, 3) := by decide +kernel
theorem dX12_early_41 : decode cX12_early 41 = .ok (.iconst 1, 1) := by decide +kernel
theorem dX12_early_42 : decode cX12_early 42 = .ok (.iaload, 1) := by decide +kernel
theorem dX12_early_43 : decode cX12_early 43 = .ok (.if_icmp .ge 29, 3) := by decide +kernel
theorem dX12_early_46 : decode cX12_early 46 = .ok (.iload_n 2, 1) := by decide +kernel
theorem dX12_early_47 : decode cX12_early 47 = .ok (.aload_n 0, 1) := by decide +kernel
theorem dX12_early_48 : decode cX12_early 48 = .ok (.getfield 71, 3) := by decide +kernel
theorem dX12_early_51 : decode cX12_early 51 = .ok (.iload_n 3, 1) := by decide +kernel
theorem dX12_early_52 : decode cX12_early 52 = .ok (.iaload, 1) := by decide +kernel
theorem dX12_early_53 : decode cX12_early 53 = .ok (.iload_n 1, 1) := by decide +kernel
theorem dX12_early_54 : decode cX12_early 54 = .ok (.if_icmp .gt 9, 3) := by decide +kernel
theorem dX12_early_57 : decode cX12_early 57 = .ok (.iconst 1, 1) := by decide +kernel
theorem dX12_early_58 : decode cX12_early 58 = .ok (.iload_n 3, 1) := by decide +kernel
theorem dX12_early_59 : decode cX12_early 59 = .ok (.ishl, 1) := by decide +kernel
theorem dX12_early_60 : decode cX12_early 60 = .ok (.goto 4, 3) := by decide +kernel
theorem dX12_early_63 : decode cX12_early 63 = .ok (.iconst 0, 1) := by decide +kernel
theorem dX12_early_64 : decode cX12_early 64 = .ok (.ior, 1) := by decide +kernel
theorem dX12_early_65 : decode cX12_early 65 = .ok (.istore_n 2, 1) := by decide +kernel
theorem dX12_early_66 : decode cX12_early 66 = .ok (.iinc 3 1, 3) := by decide +kernel
theorem dX12_early_69 : decode cX12_early 69 = .ok (.goto (-33), 3) := by decide +kernel
theorem dX12_early_72 : decode cX12_early 72 = .ok (.iload_n 2, 1) := by decide +kernel
theorem dX12_early_73 : decode cX12_early 73 = .ok (.ireturn, 1) := by decide +kernel
theorem dX12_puts_0 : decode cX12_puts 0 = .ok (.iload_n 3, 1) := by decide +kernel
theorem dX12_puts_1 : decode cX12_puts 1 = .ok (.ifCond .ne 10, 3) := by decide +kernel
theorem dX12_puts_4 : decode cX12_puts 4 = .ok (.aload_n 1, 1) := by decide +kernel
theorem dX12_puts_5 : decode cX12_puts 5 = .ok (.aload_n 0, 1) := by decide +kernel
theorem dX12_puts_6 : decode cX12_puts 6 = .ok (.getfield 400, 3) := by decide +kernel
theorem dX12_puts_9 : decode cX12_puts 9 = .ok (.iload_n 2, 1) := by decide +kernel
theorem dX12_puts_10 : decode cX12_puts 10 = .ok (.iastore, 1) := by decide +kernel
theorem dX12_puts_11 : decode cX12_puts 11 = .ok (.aload_n 0, 1) := by decide +kernel
theorem dX12_puts_12 : decode cX12_puts 12 = .ok (.dup, 1) := by decide +kernel
theorem dX12_puts_13 : decode cX12_puts 13 = .ok (.getfield 400, 3) := by decide +kernel
theorem dX12_puts_16 : decode cX12_puts 16 = .ok (.iconst 1, 1) := by decide +kernel
theorem dX12_puts_17 : decode cX12_puts 17 = .ok (.iadd, 1) := by decide +kernel
theorem dX12_puts_18 : decode cX12_puts 18 = .ok (.putfield 400, 3) := by decide +kernel
theorem dX12_puts_21 : decode cX12_puts 21 = .ok (.aload_n 1, 1) := by decide +kernel
theorem dX12_puts_22 : decode cX12_puts 22 = .ok (.aload_n 0, 1) := by decide +kernel
theorem dX12_puts_23 : decode cX12_puts 23 = .ok (.getfield 400, 3) := by decide +kernel
theorem dX12_puts_26 : decode cX12_puts 26 = .ok (.iconst 1, 1) := by decide +kernel
theorem dX12_puts_27 : decode cX12_puts 27 = .ok (.isub, 1) := by decide +kernel
theorem dX12_puts_28 : decode cX12_puts 28 = .ok (.iaload, 1) := by decide +kernel
theorem dX12_puts_29 : decode cX12_puts 29 = .ok (.ireturn, 1) := by decide +kernel
theorem dX12_putsChanged_0 : decode cX12_putsChanged 0 = .ok (.iconst 2, 1) := by decide +kernel
theorem dX12_putsChanged_1 : decode cX12_putsChanged 1 = .ok (.istore_n 3, 1) := by decide +kernel
theorem dX12_putsChanged_2 : decode cX12_putsChanged 2 = .ok (.iload_n 3, 1) := by decide +kernel
theorem dX12_putsChanged_3 : decode cX12_putsChanged 3 = .ok (.iconst 5, 1) := by decide +kernel
theorem dX12_putsChanged_4 : decode cX12_putsChanged 4 = .ok (.if_icmp .ge 27, 3) := by decide +kernel
theorem dX12_putsChanged_7 : decode cX12_putsChanged 7 = .ok (.aload_n 0, 1) := by decide +kernel
theorem dX12_putsChanged_8 : decode cX12_putsChanged 8 = .ok (.getfield 23, 3) := by decide +kernel
theorem dX12_putsChanged_11 : decode cX12_putsChanged 11 = .ok (.iload_n 3, 1) := by decide +kernel
theorem dX12_putsChanged_12 : decode cX12_putsChanged 12 = .ok (.aload_n 0, 1) := by decide +kernel
theorem dX12_putsChanged_13 : decode cX12_putsChanged 13 = .ok (.aload_n 1, 1) := by decide +kernel
theorem dX12_putsChanged_14 : decode cX12_putsChanged 14 = .ok (.aload_n 0, 1) := by decide +kernel
theorem dX12_putsChanged_15 : decode cX12_putsChanged 15 = .ok (.getfield 23, 3) := by decide +kernel
theorem dX12_putsChanged_18 : decode cX12_putsChanged 18 = .ok (.iload_n 3, 1) := by decide +kernel
theorem dX12_putsChanged_19 : decode cX12_putsChanged 19 = .ok (.iaload, 1) := by decide +kernel
theorem dX12_putsChanged_20 : decode cX12_putsChanged 20 = .ok (.iload_n 2, 1) := by decide +kernel
theorem dX12_putsChanged_21 : decode cX12_putsChanged 21 = .ok (.invokevirtual 403, 3) := by decide +kernel
theorem dX12_putsChanged_24 : decode cX12_putsChanged 24 = .ok (.iastore, 1) := by decide +kernel
theorem dX12_putsChanged_25 : decode cX12_putsChanged 25 = .ok (.iinc 3 1, 3) := by decide +kernel
theorem dX12_putsChanged_28 : decode cX12_putsChanged 28 = .ok (.goto (-26), 3) := by decide +kernel
theorem dX12_putsChanged_31 : decode cX12_putsChanged 31 = .ok (.iconst 0, 1) := by decide +kernel
theorem dX12_putsChanged_32 : decode cX12_putsChanged 32 = .ok (.istore_n 3, 1) := by decide +kernel
theorem dX12_putsChanged_33 : decode cX12_putsChanged 33 = .ok (.iload_n 3, 1) := by decide +kernel
theorem dX12_putsChanged_34 : decode cX12_putsChanged 34 = .ok (.bipush 8, 2) := by decide +kernel
theorem dX12_putsChanged_36 : decode cX12_putsChanged 36 = .ok (.if_icmp .ge 31, 3) := by decide +kernel
theorem dX12_putsChanged_39 : decode cX12_putsChanged 39 = .ok (.aload_n 0, 1) := by decide +kernel
theorem dX12_putsChanged_40 : decode cX12_putsChanged 40 = .ok (.getfield 37, 3) := by decide +kernel
theorem dX12_putsChanged_43 : decode cX12_putsChanged 43 = .ok (.iload_n 3, 1) := by decide +kernel
theorem dX12_putsChanged_44 : decode cX12_putsChanged 44 = .ok (.aaload, 1) := by decide +kernel
theorem dX12_putsChanged_45 : decode cX12_putsChanged 45 = .ok (.iconst 0, 1) := by decide +kernel
theorem dX12_putsChanged_46 : decode cX12_putsChanged 46 = .ok (.aload_n 0, 1) := by decide +kernel
theorem dX12_putsChanged_47 : decode cX12_putsChanged 47 = .ok (.aload_n 1, 1) := by decide +kernel
theorem dX12_putsChanged_48 : decode cX12_putsChanged 48 = .ok (.aload_n 0, 1) := by decide +kernel
theorem dX12_putsChanged_49 : decode cX12_putsChanged 49 = .ok (.getfield 37, 3) := by decide +kernel
theorem dX12_putsChanged_52 : decode cX12_putsChanged 52 = .ok (.iload_n 3, 1) := by decide +kernel
theorem dX12_putsChanged_53 : decode cX12_putsChanged 53 = .ok (.aaload, 1) := by decide +kernel
theorem dX12_putsChanged_54 : decode cX12_putsChanged 54 = .ok (.iconst 0, 1) := by decide +kernel
theorem dX12_putsChanged_55 : decode cX12_putsChanged 55 = .ok (.iaload, 1) := by decide +kernel
theorem dX12_putsChanged_56 : decode cX12_putsChanged 56 = .ok (.iload_n 2, 1) := by decide +kernel
theorem dX12_putsChanged_57 : decode cX12_putsChanged 57 = .ok (.invokevirtual 403, 3) := by decide +kernel
theorem dX12_putsChanged_60 : decode cX12_putsChanged 60 = .ok (.iastore, 1) := by decide +kernel
theorem dX12_putsChanged_61 : decode cX12_putsChanged 61 = .ok (.iinc 3 1, 3) := by decide +kernel
theorem dX12_putsChanged_64 : decode cX12_putsChanged 64 = .ok (.goto (-31), 3) := by decide +kernel
theorem dX12_putsChanged_67 : decode cX12_putsChanged 67 = .ok (.return_, 1) := by decide +kernel
theorem dX12_changes_0 : decode cX12_changes 0 = .ok (.aload_n 0, 1) := by decide +kernel
theorem dX12_changes_1 : decode cX12_changes 1 = .ok (.getfield 247, 3) := by decide +kernel
theorem dX12_changes_4 : decode cX12_changes 4 = .ok (.bipush 20, 2) := by decide +kernel
theorem dX12_changes_6 : decode cX12_changes 6 = .ok (.if_icmp .ne 5, 3) := by decide +kernel
theorem dX12_changes_9 : decode cX12_changes 9 = .ok (.iconst 0, 1) := by decide +kernel
theorem dX12_changes_10 : decode cX12_changes 10 = .ok (.ireturn, 1) := by decide +kernel
theorem dX12_changes_11 : decode cX12_changes 11 = .ok (.aload_n 0, 1) := by decide +kernel
theorem dX12_changes_12 : decode cX12_changes 12 = .ok (.iconst 0, 1) := by decide +kernel
theorem dX12_changes_13 : decode cX12_changes 13 = .ok (.putfield 400, 3) := by decide +kernel
theorem dX12_changes_16 : decode cX12_changes 16 = .ok (.aload_n 0, 1) := by decide +kernel
theorem dX12_changes_17 : decode cX12_changes 17 = .ok (.aload_n 0, 1) := by decide +kernel
theorem dX12_changes_18 : decode cX12_changes 18 = .ok (.getfield 61, 3) := by decide +kernel
theorem dX12_changes_21 : decode cX12_changes 21 = .ok (.aload_n 0, 1) := by decide +kernel
theorem dX12_changes_22 : decode cX12_changes 22 = .ok (.getfield 247, 3) := by decide +kernel
theorem dX12_changes_25 : decode cX12_changes 25 = .ok (.aaload, 1) := by decide +kernel
theorem dX12_changes_26 : decode cX12_changes 26 = .ok (.iconst 0, 1) := by decide +kernel
theorem dX12_changes_27 : decode cX12_changes 27 = .ok (.invokevirtual 407, 3) := by decide +kernel
theorem dX12_changes_30 : decode cX12_changes 30 = .ok (.aload_n 0, 1) := by decide +kernel
theorem dX12_changes_31 : decode cX12_changes 31 = .ok (.dup, 1) := by decide +kernel
theorem dX12_changes_32 : decode cX12_changes 32 = .ok (.getfield 247, 3) := by decide +kernel
theorem dX12_changes_35 : decode cX12_changes 35 = .ok (.iconst 1, 1) := by decide +kernel
theorem dX12_changes_36 : decode cX12_changes 36 = .ok (.iadd, 1) := by decide +kernel
theorem dX12_changes_37 : decode cX12_changes 37 = .ok (.putfield 247, 3) := by decide +kernel
theorem dX12_changes_40 : decode cX12_changes 40 = .ok (.iconst 1, 1) := by decide +kernel
theorem dX12_changes_41 : decode cX12_changes 41 = .ok (.ireturn, 1) := by decide +kernel
theorem dX12_hotel_0 : decode cX12_hotel 0 = .ok (.aload_n 0, 1) := by decide +kernel
theorem dX12_hotel_1 : decode cX12_hotel 1 = .ok (.iconst 0, 1) := by decide +kernel
theorem dX12_hotel_2 : decode cX12_hotel 2 = .ok (.putfield 158, 3) := by decide +kernel
theorem dX12_hotel_5 : decode cX12_hotel 5 = .ok (.aload_n 0, 1) := by decide +kernel
theorem dX12_hotel_6 : decode cX12_hotel 6 = .ok (.iload_n 1, 1) := by decide +kernel
theorem dX12_hotel_7 : decode cX12_hotel 7 = .ok (.invokestatic 298, 3) := by decide +kernel
theorem dX12_hotel_10 : decode cX12_hotel 10 = .ok (.ifCond .eq 13, 3) := by decide +kernel
theorem dX12_hotel_13 : decode cX12_hotel 13 = .ok (.iload_n 2, 1) := by decide +kernel
theorem dX12_hotel_14 : decode cX12_hotel 14 = .ok (.iconst 1, 1) := by decide +kernel
theorem dX12_hotel_15 : decode cX12_hotel 15 = .ok (.bipush 23, 2) := by decide +kernel
theorem dX12_hotel_17 : decode cX12_hotel 17 = .ok (.invokestatic 192, 3) := by decide +kernel
theorem dX12_hotel_20 : decode cX12_hotel 20 = .ok (.ifCond .ne 7, 3) := by decide +kernel
theorem dX12_hotel_23 : decode cX12_hotel 23 = .ok (.iconst 1, 1) := by decide +kernel
theorem dX12_hotel_24 : decode cX12_hotel 24 = .ok (.goto 4, 3) := by decide +kernel
theorem dX12_hotel_27 : decode cX12_hotel 27 = .ok (.iconst 0, 1) := by decide +kernel
theorem dX12_hotel_28 : decode cX12_hotel 28 = .ok (.iconst 1, 1) := by decide +kernel
theorem dX12_hotel_29 : decode cX12_hotel 29 = .ok (.iconst 1, 1) := by decide +kernel
theorem dX12_hotel_30 : decode cX12_hotel 30 = .ok (.invokevirtual 228, 3) := by decide +kernel
theorem dX12_hotel_33 : decode cX12_hotel 33 = .ok (.ifCond .eq 5, 3) := by decide +kernel
theorem dX12_hotel_36 : decode cX12_hotel 36 = .ok (.iconst 0, 1) := by decide +kernel
theorem dX12_hotel_37 : decode cX12_hotel 37 = .ok (.ireturn, 1) := by decide +kernel
theorem dX12_hotel_38 : decode cX12_hotel 38 = .ok (.aload_n 0, 1) := by decide +kernel
theorem dX12_hotel_39 : decode cX12_hotel 39 = .ok (.invokevirtual 411, 3) := by decide +kernel
theorem dX12_hotel_42 : decode cX12_hotel 42 = .ok (.ifCond .ne 5, 3) := by decide +kernel
theorem dX12_hotel_45 : decode cX12_hotel 45 = .ok (.iconst 0, 1) := by decide +kernel
theorem dX12_hotel_46 : decode cX12_hotel 46 = .ok (.ireturn, 1) := by decide +kernel
theorem dX12_hotel_47 : decode cX12_hotel 47 = .ok (.aload_n 0, 1) := by decide +kernel
theorem dX12_hotel_48 : decode cX12_hotel 48 = .ok (.getfield 23, 3) := by decide +kernel
theorem dX12_hotel_51 : decode cX12_hotel 51 = .ok (.iconst 2, 1) := by decide +kernel
theorem dX12_hotel_52 : decode cX12_hotel 52 = .ok (.iload_n 1, 1) := by decide +kernel
theorem dX12_hotel_53 : decode cX12_hotel 53 = .ok (.iastore, 1) := by decide +kernel
theorem dX12_hotel_54 : decode cX12_hotel 54 = .ok (.aload_n 0, 1) := by decide +kernel
theorem dX12_hotel_55 : decode cX12_hotel 55 = .ok (.getfield 23, 3) := by decide +kernel
theorem dX12_hotel_58 : decode cX12_hotel 58 = .ok (.iconst 3, 1) := by decide +kernel
theorem dX12_hotel_59 : decode cX12_hotel 59 = .ok (.iload_n 2, 1) := by decide +kernel
theorem dX12_hotel_60 : decode cX12_hotel 60 = .ok (.iastore, 1) := by decide +kernel
theorem dX12_hotel_61 : decode cX12_hotel 61 = .ok (.iconst 1, 1) := by decide +kernel
theorem dX12_hotel_62 : decode cX12_hotel 62 = .ok (.ireturn, 1) := by decide +kernel
theorem dX12_hire_0 : decode cX12_hire 0 = .ok (.aload_n 0, 1) := by decide +kernel
theorem dX12_hire_1 : decode cX12_hire 1 = .ok (.iconst 0, 1) := by decide +kernel
theorem dX12_hire_2 : decode cX12_hire 2 = .ok (.putfield 158, 3) := by decide +kernel
theorem dX12_hire_5 : decode cX12_hire 5 = .ok (.aload_n 0, 1) := by decide +kernel
theorem dX12_hire_6 : decode cX12_hire 6 = .ok (.iload_n 1, 1) := by decide +kernel
theorem dX12_hire_7 : decode cX12_hire 7 = .ok (.iconst 0, 1) := by decide +kernel
theorem dX12_hire_8 : decode cX12_hire 8 = .ok (.bipush 99, 2) := by decide +kernel
theorem dX12_hire_10 : decode cX12_hire 10 = .ok (.invokestatic 192, 3) := by decide +kernel
theorem dX12_hire_13 : decode cX12_hire 13 = .ok (.ifCond .ne 7, 3) := by decide +kernel
theorem dX12_hire_16 : decode cX12_hire 16 = .ok (.iconst 1, 1) := by decide +kernel
theorem dX12_hire_17 : decode cX12_hire 17 = .ok (.goto 4, 3) := by decide +kernel
theorem dX12_hire_20 : decode cX12_hire 20 = .ok (.iconst 0, 1) := by decide +kernel
theorem dX12_hire_21 : decode cX12_hire 21 = .ok (.iconst 1, 1) := by decide +kernel
theorem dX12_hire_22 : decode cX12_hire 22 = .ok (.iconst 1, 1) := by decide +kernel
theorem dX12_hire_23 : decode cX12_hire 23 = .ok (.invokevirtual 228, 3) := by decide +kernel
theorem dX12_hire_26 : decode cX12_hire 26 = .ok (.ifCond .eq 5, 3) := by decide +kernel
theorem dX12_hire_29 : decode cX12_hire 29 = .ok (.iconst 0, 1) := by decide +kernel
theorem dX12_hire_30 : decode cX12_hire 30 = .ok (.ireturn, 1) := by decide +kernel
theorem dX12_hire_31 : decode cX12_hire 31 = .ok (.aload_n 0, 1) := by decide +kernel
theorem dX12_hire_32 : decode cX12_hire 32 = .ok (.invokevirtual 411, 3) := by decide +kernel
theorem dX12_hire_35 : decode cX12_hire 35 = .ok (.ifCond .ne 5, 3) := by decide +kernel
theorem dX12_hire_38 : decode cX12_hire 38 = .ok (.iconst 0, 1) := by decide +kernel
theorem dX12_hire_39 : decode cX12_hire 39 = .ok (.ireturn, 1) := by decide +kernel
theorem dX12_hire_40 : decode cX12_hire 40 = .ok (.aload_n 0, 1) := by decide +kernel
theorem dX12_hire_41 : decode cX12_hire 41 = .ok (.getfield 23, 3) := by decide +kernel
theorem dX12_hire_44 : decode cX12_hire 44 = .ok (.iconst 4, 1) := by decide +kernel
theorem dX12_hire_45 : decode cX12_hire 45 = .ok (.iload_n 1, 1) := by decide +kernel
theorem dX12_hire_46 : decode cX12_hire 46 = .ok (.iastore, 1) := by decide +kernel
theorem dX12_hire_47 : decode cX12_hire 47 = .ok (.iconst 1, 1) := by decide +kernel
theorem dX12_hire_48 : decode cX12_hire 48 = .ok (.ireturn, 1) := by decide +kernel
theorem dX12_wakes_0 : decode cX12_wakes 0 = .ok (.aload_n 0, 1) := by decide +kernel
theorem dX12_wakes_1 : decode cX12_wakes 1 = .ok (.iconst 0, 1) := by decide +kernel
theorem dX12_wakes_2 : decode cX12_wakes 2 = .ok (.putfield 158, 3) := by decide +kernel
theorem dX12_wakes_5 : decode cX12_wakes 5 = .ok (.aload_n 0, 1) := by decide +kernel
theorem dX12_wakes_6 : decode cX12_wakes 6 = .ok (.aload_n 0, 1) := by decide +kernel
theorem dX12_wakes_7 : decode cX12_wakes 7 = .ok (.iload_n 1, 1) := by decide +kernel
theorem dX12_wakes_8 : decode cX12_wakes 8 = .ok (.invokevirtual 285, 3) := by decide +kernel
theorem dX12_wakes_11 : decode cX12_wakes 11 = .ok (.ifCond .ne 7, 3) := by decide +kernel
theorem dX12_wakes_14 : decode cX12_wakes 14 = .ok (.iconst 1, 1) := by decide +kernel
theorem dX12_wakes_15 : decode cX12_wakes 15 = .ok (.goto 4, 3) := by decide +kernel
theorem dX12_wakes_18 : decode cX12_wakes 18 = .ok (.iconst 0, 1) := by decide +kernel
theorem dX12_wakes_19 : decode cX12_wakes 19 = .ok (.iconst 1, 1) := by decide +kernel
theorem dX12_wakes_20 : decode cX12_wakes 20 = .ok (.iconst 0, 1) := by decide +kernel
theorem dX12_wakes_21 : decode cX12_wakes 21 = .ok (.invokevirtual 228, 3) := by decide +kernel
theorem dX12_wakes_24 : decode cX12_wakes 24 = .ok (.ifCond .ne 24, 3) := by decide +kernel
theorem dX12_wakes_27 : decode cX12_wakes 27 = .ok (.aload_n 0, 1) := by decide +kernel
theorem dX12_wakes_28 : decode cX12_wakes 28 = .ok (.iload_n 2, 1) := by decide +kernel
theorem dX12_wakes_29 : decode cX12_wakes 29 = .ok (.invokestatic 298, 3) := by decide +kernel
theorem dX12_wakes_32 : decode cX12_wakes 32 = .ok (.ifCond .ne 7, 3) := by decide +kernel
theorem dX12_wakes_35 : decode cX12_wakes 35 = .ok (.iconst 1, 1) := by decide +kernel
theorem dX12_wakes_36 : decode cX12_wakes 36 = .ok (.goto 4, 3) := by decide +kernel
theorem dX12_wakes_39 : decode cX12_wakes 39 = .ok (.iconst 0, 1) := by decide +kernel
theorem dX12_wakes_40 : decode cX12_wakes 40 = .ok (.iconst 2, 1) := by decide +kernel
theorem dX12_wakes_41 : decode cX12_wakes 41 = .ok (.iconst 1, 1) := by decide +kernel
theorem dX12_wakes_42 : decode cX12_wakes 42 = .ok (.invokevirtual 228, 3) := by decide +kernel
theorem dX12_wakes_45 : decode cX12_wakes 45 = .ok (.ifCond .eq 5, 3) := by decide +kernel
theorem dX12_wakes_48 : decode cX12_wakes 48 = .ok (.iconst 0, 1) := by decide +kernel
theorem dX12_wakes_49 : decode cX12_wakes 49 = .ok (.ireturn, 1) := by decide +kernel
theorem dX12_wakes_50 : decode cX12_wakes 50 = .ok (.aload_n 0, 1) := by decide +kernel
theorem dX12_wakes_51 : decode cX12_wakes 51 = .ok (.invokevirtual 411, 3) := by decide +kernel
theorem dX12_wakes_54 : decode cX12_wakes 54 = .ok (.ifCond .ne 5, 3) := by decide +kernel
theorem dX12_wakes_57 : decode cX12_wakes 57 = .ok (.iconst 0, 1) := by decide +kernel
theorem dX12_wakes_58 : decode cX12_wakes 58 = .ok (.ireturn, 1) := by decide +kernel
theorem dX12_wakes_59 : decode cX12_wakes 59 = .ok (.aload_n 0, 1) := by decide +kernel
theorem dX12_wakes_60 : decode cX12_wakes 60 = .ok (.getfield 37, 3) := by decide +kernel
theorem dX12_wakes_63 : decode cX12_wakes 63 = .ok (.iload_n 1, 1) := by decide +kernel
theorem dX12_wakes_64 : decode cX12_wakes 64 = .ok (.aaload, 1) := by decide +kernel
theorem dX12_wakes_65 : decode cX12_wakes 65 = .ok (.iconst 0, 1) := by decide +kernel
theorem dX12_wakes_66 : decode cX12_wakes 66 = .ok (.iload_n 2, 1) := by decide +kernel
theorem dX12_wakes_67 : decode cX12_wakes 67 = .ok (.iastore, 1) := by decide +kernel
theorem dX12_wakes_68 : decode cX12_wakes 68 = .ok (.iconst 1, 1) := by decide +kernel
theorem dX12_wakes_69 : decode cX12_wakes 69 = .ok (.ireturn, 1) := by decide +kernel
theorem dX12_undo_0 : decode cX12_undo 0 = .ok (.aload_n 0, 1) := by decide +kernel
theorem dX12_undo_1 : decode cX12_undo 1 = .ok (.iconst 0, 1) := by decide +kernel
theorem dX12_undo_2 : decode cX12_undo 2 = .ok (.putfield 158, 3) := by decide +kernel
theorem dX12_undo_5 : decode cX12_undo 5 = .ok (.aload_n 0, 1) := by decide +kernel
theorem dX12_undo_6 : decode cX12_undo 6 = .ok (.getfield 247, 3) := by decide +kernel
theorem dX12_undo_9 : decode cX12_undo 9 = .ok (.ifCond .ne 5, 3) := by decide +kernel
theorem dX12_undo_12 : decode cX12_undo 12 = .ok (.iconst (-1), 1) := by decide +kernel
theorem dX12_undo_13 : decode cX12_undo 13 = .ok (.ireturn, 1) := by decide +kernel
theorem dX12_undo_14 : decode cX12_undo 14 = .ok (.aload_n 0, 1) := by decide +kernel
theorem dX12_undo_15 : decode cX12_undo 15 = .ok (.dup, 1) := by decide +kernel
theorem dX12_undo_16 : decode cX12_undo 16 = .ok (.getfield 247, 3) := by decide +kernel
theorem dX12_undo_19 : decode cX12_undo 19 = .ok (.iconst 1, 1) := by decide +kernel
theorem dX12_undo_20 : decode cX12_undo 20 = .ok (.isub, 1) := by decide +kernel
theorem dX12_undo_21 : decode cX12_undo 21 = .ok (.putfield 247, 3) := by decide +kernel
theorem dX12_undo_24 : decode cX12_undo 24 = .ok (.aload_n 0, 1) := by decide +kernel
theorem dX12_undo_25 : decode cX12_undo 25 = .ok (.iconst 0, 1) := by decide +kernel
theorem dX12_undo_26 : decode cX12_undo 26 = .ok (.putfield 400, 3) := by decide +kernel
theorem dX12_undo_29 : decode cX12_undo 29 = .ok (.aload_n 0, 1) := by decide +kernel
theorem dX12_undo_30 : decode cX12_undo 30 = .ok (.aload_n 0, 1) := by decide +kernel
theorem dX12_undo_31 : decode cX12_undo 31 = .ok (.getfield 61, 3) := by decide +kernel
theorem dX12_undo_34 : decode cX12_undo 34 = .ok (.aload_n 0, 1) := by decide +kernel
theorem dX12_undo_35 : decode cX12_undo 35 = .ok (.getfield 247, 3) := by decide +kernel
theorem dX12_undo_38 : decode cX12_undo 38 = .ok (.aaload, 1) := by decide +kernel
theorem dX12_undo_39 : decode cX12_undo 39 = .ok (.iconst 1, 1) := by decide +kernel
theorem dX12_undo_40 : decode cX12_undo 40 = .ok (.invokevirtual 407, 3) := by decide +kernel
theorem dX12_undo_43 : decode cX12_undo 43 = .ok (.aload_n 0, 1) := by decide +kernel
theorem dX12_undo_44 : decode cX12_undo 44 = .ok (.getfield 247, 3) := by decide +kernel
theorem dX12_undo_47 : decode cX12_undo 47 = .ok (.ireturn, 1) := by decide +kernel
theorem dX12_putsAll_0 : decode cX12_putsAll 0 = .ok (.aload_n 0, 1) := by decide +kernel
theorem dX12_putsAll_1 : decode cX12_putsAll 1 = .ok (.iconst 0, 1) := by decide +kernel
theorem dX12_putsAll_2 : decode cX12_putsAll 2 = .ok (.putfield 400, 3) := by decide +kernel
theorem dX12_putsAll_5 : decode cX12_putsAll 5 = .ok (.aload_n 0, 1) := by decide +kernel
theorem dX12_putsAll_6 : decode cX12_putsAll 6 = .ok (.aload_n 1, 1) := by decide +kernel
theorem dX12_putsAll_7 : decode cX12_putsAll 7 = .ok (.iload_n 2, 1) := by decide +kernel
theorem dX12_putsAll_8 : decode cX12_putsAll 8 = .ok (.invokevirtual 407, 3) := by decide +kernel
theorem dX12_putsAll_11 : decode cX12_putsAll 11 = .ok (.aload_n 0, 1) := by decide +kernel
theorem dX12_putsAll_12 : decode cX12_putsAll 12 = .ok (.aload_n 0, 1) := by decide +kernel
theorem dX12_putsAll_13 : decode cX12_putsAll 13 = .ok (.aload_n 1, 1) := by decide +kernel
theorem dX12_putsAll_14 : decode cX12_putsAll 14 = .ok (.aload_n 0, 1) := by decide +kernel
theorem dX12_putsAll_15 : decode cX12_putsAll 15 = .ok (.getfield 244, 3) := by decide +kernel
theorem dX12_putsAll_18 : decode cX12_putsAll 18 = .ok (.iload_n 2, 1) := by decide +kernel
theorem dX12_putsAll_19 : decode cX12_putsAll 19 = .ok (.invokevirtual 403, 3) := by decide +kernel
theorem dX12_putsAll_22 : decode cX12_putsAll 22 = .ok (.putfield 244, 3) := by decide +kernel
theorem dX12_putsAll_25 : decode cX12_putsAll 25 = .ok (.aload_n 0, 1) := by decide +kernel
theorem dX12_putsAll_26 : decode cX12_putsAll 26 = .ok (.aload_n 0, 1) := by decide +kernel
theorem dX12_putsAll_27 : decode cX12_putsAll 27 = .ok (.aload_n 1, 1) := by decide +kernel
theorem dX12_putsAll_28 : decode cX12_putsAll 28 = .ok (.aload_n 0, 1) := by decide +kernel
theorem dX12_putsAll_29 : decode cX12_putsAll 29 = .ok (.getfield 247, 3) := by decide +kernel
theorem dX12_putsAll_32 : decode cX12_putsAll 32 = .ok (.iload_n 2, 1) := by decide +kernel
theorem dX12_putsAll_33 : decode cX12_putsAll 33 = .ok (.invokevirtual 403, 3) := by decide +kernel
theorem dX12_putsAll_36 : decode cX12_putsAll 36 = .ok (.putfield 247, 3) := by decide +kernel
theorem dX12_putsAll_39 : decode cX12_putsAll 39 = .ok (.iconst 0, 1) := by decide +kernel
theorem dX12_putsAll_40 : decode cX12_putsAll 40 = .ok (.istore_n 3, 1) := by decide +kernel
theorem dX12_putsAll_41 : decode cX12_putsAll 41 = .ok (.iload_n 3, 1) := by decide +kernel
theorem dX12_putsAll_42 : decode cX12_putsAll 42 = .ok (.bipush 20, 2) := by decide +kernel
theorem dX12_putsAll_44 : decode cX12_putsAll 44 = .ok (.if_icmp .ge 49, 3) := by decide +kernel
theorem dX12_putsAll_47 : decode cX12_putsAll 47 = .ok (.iconst 0, 1) := by decide +kernel
theorem dX12_putsAll_48 : decode cX12_putsAll 48 = .ok (.istore 4, 2) := by decide +kernel
theorem dX12_putsAll_50 : decode cX12_putsAll 50 = .ok (.iload 4, 2) := by decide +kernel
theorem dX12_putsAll_52 : decode cX12_putsAll 52 = .ok (.bipush 11, 2) := by decide +kernel
theorem dX12_putsAll_54 : decode cX12_putsAll 54 = .ok (.if_icmp .ge 33, 3) := by decide +kernel
theorem dX12_putsAll_57 : decode cX12_putsAll 57 = .ok (.aload_n 0, 1) := by decide +kernel
theorem dX12_putsAll_58 : decode cX12_putsAll 58 = .ok (.getfield 61, 3) := by decide +kernel
theorem dX12_putsAll_61 : decode cX12_putsAll 61 = .ok (.iload_n 3, 1) := by decide +kernel
theorem dX12_putsAll_62 : decode cX12_putsAll 62 = .ok (.aaload, 1) := by decide +kernel
theorem dX12_putsAll_63 : decode cX12_putsAll 63 = .ok (.iload 4, 2) := by decide +kernel
theorem dX12_putsAll_65 : decode cX12_putsAll 65 = .ok (.aload_n 0, 1) := by decide +kernel
theorem dX12_putsAll_66 : decode cX12_putsAll 66 = .ok (.aload_n 1, 1) := by decide +kernel
theorem dX12_putsAll_67 : decode cX12_putsAll 67 = .ok (.aload_n 0, 1) := by decide +kernel
theorem dX12_putsAll_68 : decode cX12_putsAll 68 = .ok (.getfield 61, 3) := by decide +kernel
theorem dX12_putsAll_71 : decode cX12_putsAll 71 = .ok (.iload_n 3, 1) := by decide +kernel
theorem dX12_putsAll_72 : decode cX12_putsAll 72 = .ok (.aaload, 1) := by decide +kernel
theorem dX12_putsAll_73 : decode cX12_putsAll 73 = .ok (.iload 4, 2) := by decide +kernel
theorem dX12_putsAll_75 : decode cX12_putsAll 75 = .ok (.iaload, 1) := by decide +kernel
theorem dX12_putsAll_76 : decode cX12_putsAll 76 = .ok (.iload_n 2, 1) := by decide +kernel
theorem dX12_putsAll_77 : decode cX12_putsAll 77 = .ok (.invokevirtual 403, 3) := by decide +kernel
theorem dX12_putsAll_80 : decode cX12_putsAll 80 = .ok (.iastore, 1) := by decide +kernel
theorem dX12_putsAll_81 : decode cX12_putsAll 81 = .ok (.iinc 4 1, 3) := by decide +kernel
theorem dX12_putsAll_84 : decode cX12_putsAll 84 = .ok (.goto (-34), 3) := by decide +kernel
theorem dX12_putsAll_87 : decode cX12_putsAll 87 = .ok (.iinc 3 1, 3) := by decide +kernel
theorem dX12_putsAll_90 : decode cX12_putsAll 90 = .ok (.goto (-49), 3) := by decide +kernel
theorem dX12_putsAll_93 : decode cX12_putsAll 93 = .ok (.return_, 1) := by decide +kernel
theorem dX12_image_0 : decode cX12_image 0 = .ok (.aload_n 0, 1) := by decide +kernel
theorem dX12_image_1 : decode cX12_image 1 = .ok (.iconst 0, 1) := by decide +kernel
theorem dX12_image_2 : decode cX12_image 2 = .ok (.putfield 158, 3) := by decide +kernel
theorem dX12_image_5 : decode cX12_image 5 = .ok (.aload_n 0, 1) := by decide +kernel
theorem dX12_image_6 : decode cX12_image 6 = .ok (.getfield 250, 3) := by decide +kernel
theorem dX12_image_9 : decode cX12_image 9 = .ok (.iconst 3, 1) := by decide +kernel
theorem dX12_image_10 : decode cX12_image 10 = .ok (.if_icmp .ne 5, 3) := by decide +kernel
theorem dX12_image_13 : decode cX12_image 13 = .ok (.iconst (-1), 1) := by decide +kernel
theorem dX12_image_14 : decode cX12_image 14 = .ok (.ireturn, 1) := by decide +kernel
theorem dX12_image_15 : decode cX12_image 15 = .ok (.aload_n 0, 1) := by decide +kernel
theorem dX12_image_16 : decode cX12_image 16 = .ok (.aload_n 0, 1) := by decide +kernel
theorem dX12_image_17 : decode cX12_image 17 = .ok (.getfield 64, 3) := by decide +kernel
theorem dX12_image_20 : decode cX12_image 20 = .ok (.aload_n 0, 1) := by decide +kernel
theorem dX12_image_21 : decode cX12_image 21 = .ok (.getfield 250, 3) := by decide +kernel
theorem dX12_image_24 : decode cX12_image 24 = .ok (.aaload, 1) := by decide +kernel
theorem dX12_image_25 : decode cX12_image 25 = .ok (.iconst 0, 1) := by decide +kernel
theorem dX12_image_26 : decode cX12_image 26 = .ok (.invokevirtual 413, 3) := by decide +kernel
theorem dX12_image_29 : decode cX12_image 29 = .ok (.aload_n 0, 1) := by decide +kernel
theorem dX12_image_30 : decode cX12_image 30 = .ok (.dup, 1) := by decide +kernel
theorem dX12_image_31 : decode cX12_image 31 = .ok (.getfield 250, 3) := by decide +kernel
theorem dX12_image_34 : decode cX12_image 34 = .ok (.iconst 1, 1) := by decide +kernel
theorem dX12_image_35 : decode cX12_image 35 = .ok (.iadd, 1) := by decide +kernel
theorem dX12_image_36 : decode cX12_image 36 = .ok (.putfield 250, 3) := by decide +kernel
theorem dX12_image_39 : decode cX12_image 39 = .ok (.aload_n 0, 1) := by decide +kernel
theorem dX12_image_40 : decode cX12_image 40 = .ok (.getfield 250, 3) := by decide +kernel
theorem dX12_image_43 : decode cX12_image 43 = .ok (.ireturn, 1) := by decide +kernel
theorem dX12_restore_0 : decode cX12_restore 0 = .ok (.aload_n 0, 1) := by decide +kernel
theorem dX12_restore_1 : decode cX12_restore 1 = .ok (.iconst 0, 1) := by decide +kernel
theorem dX12_restore_2 : decode cX12_restore 2 = .ok (.putfield 158, 3) := by decide +kernel
theorem dX12_restore_5 : decode cX12_restore 5 = .ok (.aload_n 0, 1) := by decide +kernel
theorem dX12_restore_6 : decode cX12_restore 6 = .ok (.getfield 250, 3) := by decide +kernel
theorem dX12_restore_9 : decode cX12_restore 9 = .ok (.ifCond .ne 5, 3) := by decide +kernel
theorem dX12_restore_12 : decode cX12_restore 12 = .ok (.iconst (-1), 1) := by decide +kernel
theorem dX12_restore_13 : decode cX12_restore 13 = .ok (.ireturn, 1) := by decide +kernel
theorem dX12_restore_14 : decode cX12_restore 14 = .ok (.aload_n 0, 1) := by decide +kernel
theorem dX12_restore_15 : decode cX12_restore 15 = .ok (.dup, 1) := by decide +kernel
theorem dX12_restore_16 : decode cX12_restore 16 = .ok (.getfield 250, 3) := by decide +kernel
theorem dX12_restore_19 : decode cX12_restore 19 = .ok (.iconst 1, 1) := by decide +kernel
theorem dX12_restore_20 : decode cX12_restore 20 = .ok (.isub, 1) := by decide +kernel
theorem dX12_restore_21 : decode cX12_restore 21 = .ok (.putfield 250, 3) := by decide +kernel
theorem dX12_restore_24 : decode cX12_restore 24 = .ok (.aload_n 0, 1) := by decide +kernel
theorem dX12_restore_25 : decode cX12_restore 25 = .ok (.aload_n 0, 1) := by decide +kernel
theorem dX12_restore_26 : decode cX12_restore 26 = .ok (.getfield 64, 3) := by decide +kernel
theorem dX12_restore_29 : decode cX12_restore 29 = .ok (.aload_n 0, 1) := by decide +kernel
theorem dX12_restore_30 : decode cX12_restore 30 = .ok (.getfield 250, 3) := by decide +kernel
theorem dX12_restore_33 : decode cX12_restore 33 = .ok (.aaload, 1) := by decide +kernel
theorem dX12_restore_34 : decode cX12_restore 34 = .ok (.iconst 1, 1) := by decide +kernel
theorem dX12_restore_35 : decode cX12_restore 35 = .ok (.invokevirtual 413, 3) := by decide +kernel
theorem dX12_restore_38 : decode cX12_restore 38 = .ok (.aload_n 0, 1) := by decide +kernel
theorem dX12_restore_39 : decode cX12_restore 39 = .ok (.getfield 250, 3) := by decide +kernel
theorem dX12_restore_42 : decode cX12_restore 42 = .ok (.ireturn, 1) := by decide +kernel
theorem dX12_status_0 : decode cX12_status 0 = .ok (.aload_n 0, 1) := by decide +kernel
theorem dX12_status_1 : decode cX12_status 1 = .ok (.iconst 0, 1) := by decide +kernel
theorem dX12_status_2 : decode cX12_status 2 = .ok (.putfield 158, 3) := by decide +kernel
theorem dX12_status_5 : decode cX12_status 5 = .ok (.iload_n 1, 1) := by decide +kernel
theorem dX12_status_6 : decode cX12_status 6 = .ok (.iconst 0, 1) := by decide +kernel
theorem dX12_status_7 : decode cX12_status 7 = .ok (.iconst 2, 1) := by decide +kernel
theorem dX12_status_8 : decode cX12_status 8 = .ok (.invokestatic 192, 3) := by decide +kernel
theorem dX12_status_11 : decode cX12_status 11 = .ok (.ifCond .eq 12, 3) := by decide +kernel
theorem dX12_status_14 : decode cX12_status 14 = .ok (.aload_n 0, 1) := by decide +kernel
theorem dX12_status_15 : decode cX12_status 15 = .ok (.getfield 17, 3) := by decide +kernel
theorem dX12_status_18 : decode cX12_status 18 = .ok (.iload_n 1, 1) := by decide +kernel
theorem dX12_status_19 : decode cX12_status 19 = .ok (.iaload, 1) := by decide +kernel
theorem dX12_status_20 : decode cX12_status 20 = .ok (.goto 4, 3) := by decide +kernel
theorem dX12_status_23 : decode cX12_status 23 = .ok (.iconst (-1), 1) := by decide +kernel
theorem dX12_status_24 : decode cX12_status 24 = .ok (.ireturn, 1) := by decide +kernel
theorem dX12_count_0 : decode cX12_count 0 = .ok (.aload_n 0, 1) := by decide +kernel
theorem dX12_count_1 : decode cX12_count 1 = .ok (.iconst 0, 1) := by decide +kernel
theorem dX12_count_2 : decode cX12_count 2 = .ok (.putfield 158, 3) := by decide +kernel
theorem dX12_count_5 : decode cX12_count 5 = .ok (.iload_n 1, 1) := by decide +kernel
theorem dX12_count_6 : decode cX12_count 6 = .ok (.ifCond .ne 10, 3) := by decide +kernel
theorem dX12_count_9 : decode cX12_count 9 = .ok (.aload_n 0, 1) := by decide +kernel
theorem dX12_count_10 : decode cX12_count 10 = .ok (.getfield 250, 3) := by decide +kernel
theorem dX12_count_13 : decode cX12_count 13 = .ok (.goto 28, 3) := by decide +kernel
theorem dX12_count_16 : decode cX12_count 16 = .ok (.iload_n 1, 1) := by decide +kernel
theorem dX12_count_17 : decode cX12_count 17 = .ok (.iconst 1, 1) := by decide +kernel
theorem dX12_count_18 : decode cX12_count 18 = .ok (.if_icmp .ne 10, 3) := by decide +kernel
theorem dX12_count_21 : decode cX12_count 21 = .ok (.aload_n 0, 1) := by decide +kernel
theorem dX12_count_22 : decode cX12_count 22 = .ok (.getfield 161, 3) := by decide +kernel
theorem dX12_count_25 : decode cX12_count 25 = .ok (.goto 16, 3) := by decide +kernel
theorem dX12_count_28 : decode cX12_count 28 = .ok (.iload_n 1, 1) := by decide +kernel
theorem dX12_count_29 : decode cX12_count 29 = .ok (.iconst 2, 1) := by decide +kernel
theorem dX12_count_30 : decode cX12_count 30 = .ok (.if_icmp .ne 10, 3) := by decide +kernel
theorem dX12_count_33 : decode cX12_count 33 = .ok (.aload_n 0, 1) := by decide +kernel
theorem dX12_count_34 : decode cX12_count 34 = .ok (.getfield 247, 3) := by decide +kernel
theorem dX12_count_37 : decode cX12_count 37 = .ok (.goto 4, 3) := by decide +kernel
theorem dX12_count_40 : decode cX12_count 40 = .ok (.iconst (-1), 1) := by decide +kernel
theorem dX12_count_41 : decode cX12_count 41 = .ok (.ireturn, 1) := by decide +kernel
theorem dJ6_bitCount_0f7a4_0 : decode cJ6_bitCount_0f7a4 0 = .ok (.iload_n 0, 1) := by decide +kernel
theorem dJ6_bitCount_0f7a4_1 : decode cJ6_bitCount_0f7a4 1 = .ok (.iload_n 0, 1) := by decide +kernel
theorem dJ6_bitCount_0f7a4_2 : decode cJ6_bitCount_0f7a4 2 = .ok (.iconst 1, 1) := by decide +kernel
theorem dJ6_bitCount_0f7a4_3 : decode cJ6_bitCount_0f7a4 3 = .ok (.iushr, 1) := by decide +kernel
theorem dJ6_bitCount_0f7a4_4 : decode cJ6_bitCount_0f7a4 4 = .ok (.ldc_w 265, 3) := by decide +kernel
theorem dJ6_bitCount_0f7a4_7 : decode cJ6_bitCount_0f7a4 7 = .ok (.iand, 1) := by decide +kernel
theorem dJ6_bitCount_0f7a4_8 : decode cJ6_bitCount_0f7a4 8 = .ok (.isub, 1) := by decide +kernel
theorem dJ6_bitCount_0f7a4_9 : decode cJ6_bitCount_0f7a4 9 = .ok (.istore_n 0, 1) := by decide +kernel
theorem dJ6_bitCount_0f7a4_10 : decode cJ6_bitCount_0f7a4 10 = .ok (.iload_n 0, 1) := by decide +kernel
theorem dJ6_bitCount_0f7a4_11 : decode cJ6_bitCount_0f7a4 11 = .ok (.ldc_w 266, 3) := by decide +kernel
theorem dJ6_bitCount_0f7a4_14 : decode cJ6_bitCount_0f7a4 14 = .ok (.iand, 1) := by decide +kernel
theorem dJ6_bitCount_0f7a4_15 : decode cJ6_bitCount_0f7a4 15 = .ok (.iload_n 0, 1) := by decide +kernel
theorem dJ6_bitCount_0f7a4_16 : decode cJ6_bitCount_0f7a4 16 = .ok (.iconst 2, 1) := by decide +kernel
theorem dJ6_bitCount_0f7a4_17 : decode cJ6_bitCount_0f7a4 17 = .ok (.iushr, 1) := by decide +kernel
theorem dJ6_bitCount_0f7a4_18 : decode cJ6_bitCount_0f7a4 18 = .ok (.ldc_w 266, 3) := by decide +kernel
theorem dJ6_bitCount_0f7a4_21 : decode cJ6_bitCount_0f7a4 21 = .ok (.iand, 1) := by decide +kernel
theorem dJ6_bitCount_0f7a4_22 : decode cJ6_bitCount_0f7a4 22 = .ok (.iadd, 1) := by decide +kernel
theorem dJ6_bitCount_0f7a4_23 : decode cJ6_bitCount_0f7a4 23 = .ok (.istore_n 0, 1) := by decide +kernel
theorem dJ6_bitCount_0f7a4_24 : decode cJ6_bitCount_0f7a4 24 = .ok (.iload_n 0, 1) := by decide +kernel
theorem dJ6_bitCount_0f7a4_25 : decode cJ6_bitCount_0f7a4 25 = .ok (.iload_n 0, 1) := by decide +kernel
theorem dJ6_bitCount_0f7a4_26 : decode cJ6_bitCount_0f7a4 26 = .ok (.iconst 4, 1) := by decide +kernel
theorem dJ6_bitCount_0f7a4_27 : decode cJ6_bitCount_0f7a4 27 = .ok (.iushr, 1) := by decide +kernel
theorem dJ6_bitCount_0f7a4_28 : decode cJ6_bitCount_0f7a4 28 = .ok (.iadd, 1) := by decide +kernel
theorem dJ6_bitCount_0f7a4_29 : decode cJ6_bitCount_0f7a4 29 = .ok (.ldc_w 267, 3) := by decide +kernel
theorem dJ6_bitCount_0f7a4_32 : decode cJ6_bitCount_0f7a4 32 = .ok (.iand, 1) := by decide +kernel
theorem dJ6_bitCount_0f7a4_33 : decode cJ6_bitCount_0f7a4 33 = .ok (.istore_n 0, 1) := by decide +kernel
theorem dJ6_bitCount_0f7a4_34 : decode cJ6_bitCount_0f7a4 34 = .ok (.iload_n 0, 1) := by decide +kernel
theorem dJ6_bitCount_0f7a4_35 : decode cJ6_bitCount_0f7a4 35 = .ok (.iload_n 0, 1) := by decide +kernel
theorem dJ6_bitCount_0f7a4_36 : decode cJ6_bitCount_0f7a4 36 = .ok (.bipush 8, 2) := by decide +kernel
theorem dJ6_bitCount_0f7a4_38 : decode cJ6_bitCount_0f7a4 38 = .ok (.iushr, 1) := by decide +kernel
theorem dJ6_bitCount_0f7a4_39 : decode cJ6_bitCount_0f7a4 39 = .ok (.iadd, 1) := by decide +kernel
theorem dJ6_bitCount_0f7a4_40 : decode cJ6_bitCount_0f7a4 40 = .ok (.istore_n 0, 1) := by decide +kernel
theorem dJ6_bitCount_0f7a4_41 : decode cJ6_bitCount_0f7a4 41 = .ok (.iload_n 0, 1) := by decide +kernel
theorem dJ6_bitCount_0f7a4_42 : decode cJ6_bitCount_0f7a4 42 = .ok (.iload_n 0, 1) := by decide +kernel
theorem dJ6_bitCount_0f7a4_43 : decode cJ6_bitCount_0f7a4 43 = .ok (.bipush 16, 2) := by decide +kernel
theorem dJ6_bitCount_0f7a4_45 : decode cJ6_bitCount_0f7a4 45 = .ok (.iushr, 1) := by decide +kernel
theorem dJ6_bitCount_0f7a4_46 : decode cJ6_bitCount_0f7a4 46 = .ok (.iadd, 1) := by decide +kernel
theorem dJ6_bitCount_0f7a4_47 : decode cJ6_bitCount_0f7a4 47 = .ok (.istore_n 0, 1) := by decide +kernel
theorem dJ6_bitCount_0f7a4_48 : decode cJ6_bitCount_0f7a4 48 = .ok (.iload_n 0, 1) := by decide +kernel
theorem dJ6_bitCount_0f7a4_49 : decode cJ6_bitCount_0f7a4 49 = .ok (.bipush 63, 2) := by decide +kernel
theorem dJ6_bitCount_0f7a4_51 : decode cJ6_bitCount_0f7a4 51 = .ok (.iand, 1) := by decide +kernel
theorem dJ6_bitCount_0f7a4_52 : decode cJ6_bitCount_0f7a4 52 = .ok (.ireturn, 1) := by decide +kernel
theorem dJ9_max_7cf53_0 : decode cJ9_max_7cf53 0 = .ok (.iload_n 0, 1) := by decide +kernel
theorem dJ9_max_7cf53_1 : decode cJ9_max_7cf53 1 = .ok (.iload_n 1, 1) := by decide +kernel
theorem dJ9_max_7cf53_2 : decode cJ9_max_7cf53 2 = .ok (.if_icmp .lt 7, 3) := by decide +kernel
theorem dJ9_max_7cf53_5 : decode cJ9_max_7cf53 5 = .ok (.iload_n 0, 1) := by decide +kernel
theorem dJ9_max_7cf53_6 : decode cJ9_max_7cf53 6 = .ok (.goto 4, 3) := by decide +kernel
theorem dJ9_max_7cf53_9 : decode cJ9_max_7cf53 9 = .ok (.iload_n 1, 1) := by decide +kernel
theorem dJ9_max_7cf53_10 : decode cJ9_max_7cf53 10 = .ok (.ireturn, 1) := by decide +kernel
theorem dJ9_min_7cf53_0 : decode cJ9_min_7cf53 0 = .ok (.iload_n 0, 1) := by decide +kernel
theorem dJ9_min_7cf53_1 : decode cJ9_min_7cf53 1 = .ok (.iload_n 1, 1) := by decide +kernel
theorem dJ9_min_7cf53_2 : decode cJ9_min_7cf53 2 = .ok (.if_icmp .gt 7, 3) := by decide +kernel
theorem dJ9_min_7cf53_5 : decode cJ9_min_7cf53 5 = .ok (.iload_n 0, 1) := by decide +kernel
theorem dJ9_min_7cf53_6 : decode cJ9_min_7cf53 6 = .ok (.goto 4, 3) := by decide +kernel
theorem dJ9_min_7cf53_9 : decode cJ9_min_7cf53 9 = .ok (.iload_n 1, 1) := by decide +kernel
theorem dJ9_min_7cf53_10 : decode cJ9_min_7cf53 10 = .ok (.ireturn, 1) := by decide +kernel
theorem dJ0_length_8abf5_0 : decode cJ0_length_8abf5 0 = .ok (.aload_n 0, 1) := by decide +kernel
theorem dJ0_length_8abf5_1 : decode cJ0_length_8abf5 1 = .ok (.getfield 9, 3) := by decide +kernel
theorem dJ0_length_8abf5_4 : decode cJ0_length_8abf5 4 = .ok (.arraylength, 1) := by decide +kernel
theorem dJ0_length_8abf5_5 : decode cJ0_length_8abf5 5 = .ok (.aload_n 0, 1) := by decide +kernel
theorem dJ0_length_8abf5_6 : decode cJ0_length_8abf5 6 = .ok (.invokevirtual 335, 3) := by decide +kernel
theorem dJ0_length_8abf5_9 : decode cJ0_length_8abf5 9 = .ok (.ishr, 1) := by decide +kernel
theorem dJ0_length_8abf5_10 : decode cJ0_length_8abf5 10 = .ok (.ireturn, 1) := by decide +kernel
theorem dJ0_charAt_5068e_0 : decode cJ0_charAt_5068e 0 = .ok (.aload_n 0, 1) := by decide +kernel
theorem dJ0_charAt_5068e_1 : decode cJ0_charAt_5068e 1 = .ok (.invokevirtual 492, 3) := by decide +kernel
theorem dJ0_charAt_5068e_4 : decode cJ0_charAt_5068e 4 = .ok (.ifCond .eq 12, 3) := by decide +kernel
theorem dJ0_charAt_5068e_7 : decode cJ0_charAt_5068e 7 = .ok (.aload_n 0, 1) := by decide +kernel
theorem dJ0_charAt_5068e_8 : decode cJ0_charAt_5068e 8 = .ok (.getfield 9, 3) := by decide +kernel
theorem dJ0_charAt_5068e_11 : decode cJ0_charAt_5068e 11 = .ok (.iload_n 1, 1) := by decide +kernel
theorem dJ0_charAt_5068e_12 : decode cJ0_charAt_5068e 12 = .ok (.invokestatic 495, 3) := by decide +kernel
theorem dJ0_charAt_5068e_15 : decode cJ0_charAt_5068e 15 = .ok (.ireturn, 1) := by decide +kernel
theorem dJ0_charAt_5068e_16 : decode cJ0_charAt_5068e 16 = .ok (.aload_n 0, 1) := by decide +kernel
theorem dJ0_charAt_5068e_17 : decode cJ0_charAt_5068e 17 = .ok (.getfield 9, 3) := by decide +kernel
theorem dJ0_charAt_5068e_20 : decode cJ0_charAt_5068e 20 = .ok (.iload_n 1, 1) := by decide +kernel
theorem dJ0_charAt_5068e_21 : decode cJ0_charAt_5068e 21 = .ok (.invokestatic 498, 3) := by decide +kernel
theorem dJ0_charAt_5068e_24 : decode cJ0_charAt_5068e 24 = .ok (.ireturn, 1) := by decide +kernel
theorem dJ0_coder_7d493_0 : decode cJ0_coder_7d493 0 = .ok (.getstatic 38, 3) := by decide +kernel
theorem dJ0_coder_7d493_3 : decode cJ0_coder_7d493 3 = .ok (.ifCond .eq 10, 3) := by decide +kernel
theorem dJ0_coder_7d493_6 : decode cJ0_coder_7d493 6 = .ok (.aload_n 0, 1) := by decide +kernel
theorem dJ0_coder_7d493_7 : decode cJ0_coder_7d493 7 = .ok (.getfield 15, 3) := by decide +kernel
theorem dJ0_coder_7d493_10 : decode cJ0_coder_7d493 10 = .ok (.goto 4, 3) := by decide +kernel
theorem dJ0_coder_7d493_13 : decode cJ0_coder_7d493 13 = .ok (.iconst 1, 1) := by decide +kernel
theorem dJ0_coder_7d493_14 : decode cJ0_coder_7d493 14 = .ok (.ireturn, 1) := by decide +kernel
theorem dJ0_isLatin1_aae02_0 : decode cJ0_isLatin1_aae02 0 = .ok (.getstatic 38, 3) := by decide +kernel
theorem dJ0_isLatin1_aae02_3 : decode cJ0_isLatin1_aae02 3 = .ok (.ifCond .eq 14, 3) := by decide +kernel
theorem dJ0_isLatin1_aae02_6 : decode cJ0_isLatin1_aae02 6 = .ok (.aload_n 0, 1) := by decide +kernel
theorem dJ0_isLatin1_aae02_7 : decode cJ0_isLatin1_aae02 7 = .ok (.getfield 15, 3) := by decide +kernel
theorem dJ0_isLatin1_aae02_10 : decode cJ0_isLatin1_aae02 10 = .ok (.ifCond .ne 7, 3) := by decide +kernel
theorem dJ0_isLatin1_aae02_13 : decode cJ0_isLatin1_aae02 13 = .ok (.iconst 1, 1) := by decide +kernel
theorem dJ0_isLatin1_aae02_14 : decode cJ0_isLatin1_aae02 14 = .ok (.goto 4, 3) := by decide +kernel
theorem dJ0_isLatin1_aae02_17 : decode cJ0_isLatin1_aae02 17 = .ok (.iconst 0, 1) := by decide +kernel
theorem dJ0_isLatin1_aae02_18 : decode cJ0_isLatin1_aae02 18 = .ok (.ireturn, 1) := by decide +kernel
theorem dJ0_checkIndex_df160_0 : decode cJ0_checkIndex_df160 0 = .ok (.iload_n 0, 1) := by decide +kernel
theorem dJ0_checkIndex_df160_1 : decode cJ0_checkIndex_df160 1 = .ok (.iload_n 1, 1) := by decide +kernel
theorem dJ0_checkIndex_df160_2 : decode cJ0_checkIndex_df160 2 = .ok (.getstatic 1053, 3) := by decide +kernel
theorem dJ0_checkIndex_df160_5 : decode cJ0_checkIndex_df160 5 = .ok (.invokestatic 1059, 3) := by decide +kernel
theorem dJ0_checkIndex_df160_8 : decode cJ0_checkIndex_df160 8 = .ok (.pop, 1) := by decide +kernel
theorem dJ0_checkIndex_df160_9 : decode cJ0_checkIndex_df160 9 = .ok (.return_, 1) := by decide +kernel
theorem dJ1_charAt_3b067_0 : decode cJ1_charAt_3b067 0 = .ok (.iload_n 1, 1) := by decide +kernel
theorem dJ1_charAt_3b067_1 : decode cJ1_charAt_3b067 1 = .ok (.aload_n 0, 1) := by decide +kernel
theorem dJ1_charAt_3b067_2 : decode cJ1_charAt_3b067 2 = .ok (.arraylength, 1) := by decide +kernel
theorem dJ1_charAt_3b067_3 : decode cJ1_charAt_3b067 3 = .ok (.invokestatic 9, 3) := by decide +kernel
theorem dJ1_charAt_3b067_6 : decode cJ1_charAt_3b067 6 = .ok (.aload_n 0, 1) := by decide +kernel
theorem dJ1_charAt_3b067_7 : decode cJ1_charAt_3b067 7 = .ok (.iload_n 1, 1) := by decide +kernel
theorem dJ1_charAt_3b067_8 : decode cJ1_charAt_3b067 8 = .ok (.baload, 1) := by decide +kernel
theorem dJ1_charAt_3b067_9 : decode cJ1_charAt_3b067 9 = .ok (.sipush 255, 3) := by decide +kernel
theorem dJ1_charAt_3b067_12 : decode cJ1_charAt_3b067 12 = .ok (.iand, 1) := by decide +kernel
theorem dJ1_charAt_3b067_13 : decode cJ1_charAt_3b067 13 = .ok (.i2c, 1) := by decide +kernel
theorem dJ1_charAt_3b067_14 : decode cJ1_charAt_3b067 14 = .ok (.ireturn, 1) := by decide +kernel
theorem dJ2_getChar_3b067_0 : decode cJ2_getChar_3b067 0 = .ok (.getstatic 44, 3) := by decide +kernel
theorem dJ2_getChar_3b067_3 : decode cJ2_getChar_3b067 3 = .ok (.ifCond .ne 25, 3) := by decide +kernel
theorem dJ2_getChar_3b067_6 : decode cJ2_getChar_3b067 6 = .ok (.iload_n 1, 1) := by decide +kernel
theorem dJ2_getChar_3b067_7 : decode cJ2_getChar_3b067 7 = .ok (.ifCond .lt 11, 3) := by decide +kernel
theorem dJ2_getChar_3b067_10 : decode cJ2_getChar_3b067 10 = .ok (.iload_n 1, 1) := by decide +kernel
theorem dJ2_getChar_3b067_11 : decode cJ2_getChar_3b067 11 = .ok (.aload_n 0, 1) := by decide +kernel
theorem dJ2_getChar_3b067_12 : decode cJ2_getChar_3b067 12 = .ok (.invokestatic 48, 3) := by decide +kernel
theorem dJ2_getChar_3b067_15 : decode cJ2_getChar_3b067 15 = .ok (.if_icmp .lt 13, 3) := by decide +kernel
theorem dJ2_getChar_3b067_18 : decode cJ2_getChar_3b067 18 = .ok (.new 52, 3) := by decide +kernel
theorem dJ2_getChar_3b067_21 : decode cJ2_getChar_3b067 21 = .ok (.dup, 1) := by decide +kernel
theorem dJ2_getChar_3b067_22 : decode cJ2_getChar_3b067 22 = .ok (.ldc 54, 2) := by decide +kernel
theorem dJ2_getChar_3b067_24 : decode cJ2_getChar_3b067 24 = .ok (.invokespecial 56, 3) := by decide +kernel
theorem dJ2_getChar_3b067_27 : decode cJ2_getChar_3b067 27 = .ok (.athrow, 1) := by decide +kernel
theorem dJ2_getChar_3b067_28 : decode cJ2_getChar_3b067 28 = .ok (.iload_n 1, 1) := by decide +kernel
theorem dJ2_getChar_3b067_29 : decode cJ2_getChar_3b067 29 = .ok (.iconst 1, 1) := by decide +kernel
theorem dJ2_getChar_3b067_30 : decode cJ2_getChar_3b067 30 = .ok (.ishl, 1) := by decide +kernel
theorem dJ2_getChar_3b067_31 : decode cJ2_getChar_3b067 31 = .ok (.istore_n 1, 1) := by decide +kernel
theorem dJ2_getChar_3b067_32 : decode cJ2_getChar_3b067 32 = .ok (.aload_n 0, 1) := by decide +kernel
theorem dJ2_getChar_3b067_33 : decode cJ2_getChar_3b067 33 = .ok (.iload_n 1, 1) := by decide +kernel
theorem dJ2_getChar_3b067_34 : decode cJ2_getChar_3b067 34 = .ok (.iinc 1 1, 3) := by decide +kernel
theorem dJ2_getChar_3b067_37 : decode cJ2_getChar_3b067 37 = .ok (.baload, 1) := by decide +kernel
theorem dJ2_getChar_3b067_38 : decode cJ2_getChar_3b067 38 = .ok (.sipush 255, 3) := by decide +kernel
theorem dJ2_getChar_3b067_41 : decode cJ2_getChar_3b067 41 = .ok (.iand, 1) := by decide +kernel
theorem dJ2_getChar_3b067_42 : decode cJ2_getChar_3b067 42 = .ok (.getstatic 59, 3) := by decide +kernel
theorem dJ2_getChar_3b067_45 : decode cJ2_getChar_3b067 45 = .ok (.ishl, 1) := by decide +kernel
theorem dJ2_getChar_3b067_46 : decode cJ2_getChar_3b067 46 = .ok (.aload_n 0, 1) := by decide +kernel
theorem dJ2_getChar_3b067_47 : decode cJ2_getChar_3b067 47 = .ok (.iload_n 1, 1) := by decide +kernel
theorem dJ2_getChar_3b067_48 : decode cJ2_getChar_3b067 48 = .ok (.baload, 1) := by decide +kernel
theorem dJ2_getChar_3b067_49 : decode cJ2_getChar_3b067 49 = .ok (.sipush 255, 3) := by decide +kernel
theorem dJ2_getChar_3b067_52 : decode cJ2_getChar_3b067 52 = .ok (.iand, 1) := by decide +kernel
theorem dJ2_getChar_3b067_53 : decode cJ2_getChar_3b067 53 = .ok (.getstatic 63, 3) := by decide +kernel
theorem dJ2_getChar_3b067_56 : decode cJ2_getChar_3b067 56 = .ok (.ishl, 1) := by decide +kernel
theorem dJ2_getChar_3b067_57 : decode cJ2_getChar_3b067 57 = .ok (.ior, 1) := by decide +kernel
theorem dJ2_getChar_3b067_58 : decode cJ2_getChar_3b067 58 = .ok (.i2c, 1) := by decide +kernel
theorem dJ2_getChar_3b067_59 : decode cJ2_getChar_3b067 59 = .ok (.ireturn, 1) := by decide +kernel
theorem dJ2_length_9d52b_0 : decode cJ2_length_9d52b 0 = .ok (.aload_n 0, 1) := by decide +kernel
theorem dJ2_length_9d52b_1 : decode cJ2_length_9d52b 1 = .ok (.arraylength, 1) := by decide +kernel
theorem dJ2_length_9d52b_2 : decode cJ2_length_9d52b 2 = .ok (.iconst 1, 1) := by decide +kernel
theorem dJ2_length_9d52b_3 : decode cJ2_length_9d52b 3 = .ok (.ishr, 1) := by decide +kernel
theorem dJ2_length_9d52b_4 : decode cJ2_length_9d52b 4 = .ok (.ireturn, 1) := by decide +kernel
theorem dJ2_charAt_3b067_0 : decode cJ2_charAt_3b067 0 = .ok (.iload_n 1, 1) := by decide +kernel
theorem dJ2_charAt_3b067_1 : decode cJ2_charAt_3b067 1 = .ok (.aload_n 0, 1) := by decide +kernel
theorem dJ2_charAt_3b067_2 : decode cJ2_charAt_3b067 2 = .ok (.invokestatic 67, 3) := by decide +kernel
theorem dJ2_charAt_3b067_5 : decode cJ2_charAt_3b067 5 = .ok (.aload_n 0, 1) := by decide +kernel
theorem dJ2_charAt_3b067_6 : decode cJ2_charAt_3b067 6 = .ok (.iload_n 1, 1) := by decide +kernel
theorem dJ2_charAt_3b067_7 : decode cJ2_charAt_3b067 7 = .ok (.invokestatic 71, 3) := by decide +kernel
theorem dJ2_charAt_3b067_10 : decode cJ2_charAt_3b067 10 = .ok (.ireturn, 1) := by decide +kernel
theorem dJ2_checkIndex_2214a_0 : decode cJ2_checkIndex_2214a 0 = .ok (.iload_n 0, 1) := by decide +kernel
theorem dJ2_checkIndex_2214a_1 : decode cJ2_checkIndex_2214a 1 = .ok (.aload_n 1, 1) := by decide +kernel
theorem dJ2_checkIndex_2214a_2 : decode cJ2_checkIndex_2214a 2 = .ok (.invokestatic 48, 3) := by decide +kernel
theorem dJ2_checkIndex_2214a_5 : decode cJ2_checkIndex_2214a 5 = .ok (.invokestatic 414, 3) := by decide +kernel
theorem dJ2_checkIndex_2214a_8 : decode cJ2_checkIndex_2214a 8 = .ok (.return_, 1) := by decide +kernel
theorem dJ3_checkIndex_8e157_0 : decode cJ3_checkIndex_8e157 0 = .ok (.iload_n 0, 1) := by decide +kernel
theorem dJ3_checkIndex_8e157_1 : decode cJ3_checkIndex_8e157 1 = .ok (.ifCond .lt 8, 3) := by decide +kernel
theorem dJ3_checkIndex_8e157_4 : decode cJ3_checkIndex_8e157 4 = .ok (.iload_n 0, 1) := by decide +kernel
theorem dJ3_checkIndex_8e157_5 : decode cJ3_checkIndex_8e157 5 = .ok (.iload_n 1, 1) := by decide +kernel
theorem dJ3_checkIndex_8e157_6 : decode cJ3_checkIndex_8e157 6 = .ok (.if_icmp .lt 10, 3) := by decide +kernel
theorem dJ3_checkIndex_8e157_9 : decode cJ3_checkIndex_8e157 9 = .ok (.aload_n 2, 1) := by decide +kernel
theorem dJ3_checkIndex_8e157_10 : decode cJ3_checkIndex_8e157 10 = .ok (.iload_n 0, 1) := by decide +kernel
theorem dJ3_checkIndex_8e157_11 : decode cJ3_checkIndex_8e157 11 = .ok (.iload_n 1, 1) := by decide +kernel
theorem dJ3_checkIndex_8e157_12 : decode cJ3_checkIndex_8e157 12 = .ok (.invokestatic 95, 3) := by decide +kernel
theorem dJ3_checkIndex_8e157_15 : decode cJ3_checkIndex_8e157 15 = .ok (.athrow, 1) := by decide +kernel
theorem dJ3_checkIndex_8e157_16 : decode cJ3_checkIndex_8e157 16 = .ok (.iload_n 0, 1) := by decide +kernel
theorem dJ3_checkIndex_8e157_17 : decode cJ3_checkIndex_8e157 17 = .ok (.ireturn, 1) := by decide +kernel
theorem dL_pool_0 : decode cL_pool 0 = .ok (.aload_n 2, 1) := by decide +kernel
theorem dL_pool_1 : decode cL_pool 1 = .ok (.iconst 0, 1) := by decide +kernel
theorem dL_pool_2 : decode cL_pool 2 = .ok (.aload_n 0, 1) := by decide +kernel
theorem dL_pool_3 : decode cL_pool 3 = .ok (.iload_n 1, 1) := by decide +kernel
theorem dL_pool_4 : decode cL_pool 4 = .ok (.invokevirtual 7, 3) := by decide +kernel
theorem dL_pool_7 : decode cL_pool 7 = .ok (.i2l, 1) := by decide +kernel
theorem dL_pool_8 : decode cL_pool 8 = .ok (.lastore, 1) := by decide +kernel
theorem dL_pool_9 : decode cL_pool 9 = .ok (.goto 6, 3) := by decide +kernel
theorem dL_pool_12 : decode cL_pool 12 = .ok (.astore_n 3, 1) := by decide +kernel
theorem dL_pool_13 : decode cL_pool 13 = .ok (.iconst 1, 1) := by decide +kernel
theorem dL_pool_14 : decode cL_pool 14 = .ok (.ireturn, 1) := by decide +kernel
theorem dL_pool_15 : decode cL_pool 15 = .ok (.iconst 0, 1) := by decide +kernel
theorem dL_pool_16 : decode cL_pool 16 = .ok (.ireturn, 1) := by decide +kernel
theorem dL_habit_0 : decode cL_habit 0 = .ok (.aload_n 3, 1) := by decide +kernel
theorem dL_habit_1 : decode cL_habit 1 = .ok (.iconst 0, 1) := by decide +kernel
theorem dL_habit_2 : decode cL_habit 2 = .ok (.aload_n 0, 1) := by decide +kernel
theorem dL_habit_3 : decode cL_habit 3 = .ok (.iload_n 1, 1) := by decide +kernel
theorem dL_habit_4 : decode cL_habit 4 = .ok (.iload_n 2, 1) := by decide +kernel
theorem dL_habit_5 : decode cL_habit 5 = .ok (.invokevirtual 15, 3) := by decide +kernel
theorem dL_habit_8 : decode cL_habit 8 = .ok (.i2l, 1) := by decide +kernel
theorem dL_habit_9 : decode cL_habit 9 = .ok (.lastore, 1) := by decide +kernel
theorem dL_habit_10 : decode cL_habit 10 = .ok (.goto 11, 3) := by decide +kernel
theorem dL_habit_13 : decode cL_habit 13 = .ok (.astore 4, 2) := by decide +kernel
theorem dL_habit_15 : decode cL_habit 15 = .ok (.iconst 1, 1) := by decide +kernel
theorem dL_habit_16 : decode cL_habit 16 = .ok (.ireturn, 1) := by decide +kernel
theorem dL_habit_17 : decode cL_habit 17 = .ok (.astore 4, 2) := by decide +kernel
theorem dL_habit_19 : decode cL_habit 19 = .ok (.iconst 2, 1) := by decide +kernel
theorem dL_habit_20 : decode cL_habit 20 = .ok (.ireturn, 1) := by decide +kernel
theorem dL_habit_21 : decode cL_habit 21 = .ok (.iconst 0, 1) := by decide +kernel
theorem dL_habit_22 : decode cL_habit 22 = .ok (.ireturn, 1) := by decide +kernel
theorem dL_book_0 : decode cL_book 0 = .ok (.aload_n 2, 1) := by decide +kernel
theorem dL_book_1 : decode cL_book 1 = .ok (.iconst 0, 1) := by decide +kernel
theorem dL_book_2 : decode cL_book 2 = .ok (.aload_n 0, 1) := by decide +kernel
theorem dL_book_3 : decode cL_book 3 = .ok (.iload_n 1, 1) := by decide +kernel
theorem dL_book_4 : decode cL_book 4 = .ok (.invokevirtual 21, 3) := by decide +kernel
theorem dL_book_7 : decode cL_book 7 = .ok (.i2l, 1) := by decide +kernel
theorem dL_book_8 : decode cL_book 8 = .ok (.lastore, 1) := by decide +kernel
theorem dL_book_9 : decode cL_book 9 = .ok (.goto 6, 3) := by decide +kernel
theorem dL_book_12 : decode cL_book 12 = .ok (.astore_n 3, 1) := by decide +kernel
theorem dL_book_13 : decode cL_book 13 = .ok (.iconst 1, 1) := by decide +kernel
theorem dL_book_14 : decode cL_book 14 = .ok (.ireturn, 1) := by decide +kernel
theorem dL_book_15 : decode cL_book 15 = .ok (.iconst 0, 1) := by decide +kernel
theorem dL_book_16 : decode cL_book 16 = .ok (.ireturn, 1) := by decide +kernel
theorem dL_told_0 : decode cL_told 0 = .ok (.aload_n 2, 1) := by decide +kernel
theorem dL_told_1 : decode cL_told 1 = .ok (.iconst 0, 1) := by decide +kernel
theorem dL_told_2 : decode cL_told 2 = .ok (.aload_n 0, 1) := by decide +kernel
theorem dL_told_3 : decode cL_told 3 = .ok (.iload_n 1, 1) := by decide +kernel
theorem dL_told_4 : decode cL_told 4 = .ok (.invokevirtual 24, 3) := by decide +kernel
theorem dL_told_7 : decode cL_told 7 = .ok (.i2l, 1) := by decide +kernel
theorem dL_told_8 : decode cL_told 8 = .ok (.lastore, 1) := by decide +kernel
theorem dL_told_9 : decode cL_told 9 = .ok (.goto 6, 3) := by decide +kernel
theorem dL_told_12 : decode cL_told 12 = .ok (.astore_n 3, 1) := by decide +kernel
theorem dL_told_13 : decode cL_told 13 = .ok (.iconst 1, 1) := by decide +kernel
theorem dL_told_14 : decode cL_told 14 = .ok (.ireturn, 1) := by decide +kernel
theorem dL_told_15 : decode cL_told 15 = .ok (.iconst 0, 1) := by decide +kernel
theorem dL_told_16 : decode cL_told 16 = .ok (.ireturn, 1) := by decide +kernel
theorem dL_chair_0 : decode cL_chair 0 = .ok (.aload_n 3, 1) := by decide +kernel
theorem dL_chair_1 : decode cL_chair 1 = .ok (.iconst 0, 1) := by decide +kernel
theorem dL_chair_2 : decode cL_chair 2 = .ok (.aload_n 0, 1) := by decide +kernel
theorem dL_chair_3 : decode cL_chair 3 = .ok (.iload_n 1, 1) := by decide +kernel
theorem dL_chair_4 : decode cL_chair 4 = .ok (.iload_n 2, 1) := by decide +kernel
theorem dL_chair_5 : decode cL_chair 5 = .ok (.invokevirtual 27, 3) := by decide +kernel
theorem dL_chair_8 : decode cL_chair 8 = .ok (.i2l, 1) := by decide +kernel
theorem dL_chair_9 : decode cL_chair 9 = .ok (.lastore, 1) := by decide +kernel
theorem dL_chair_10 : decode cL_chair 10 = .ok (.goto 11, 3) := by decide +kernel
theorem dL_chair_13 : decode cL_chair 13 = .ok (.astore 4, 2) := by decide +kernel
theorem dL_chair_15 : decode cL_chair 15 = .ok (.iconst 1, 1) := by decide +kernel
theorem dL_chair_16 : decode cL_chair 16 = .ok (.ireturn, 1) := by decide +kernel
theorem dL_chair_17 : decode cL_chair 17 = .ok (.astore 4, 2) := by decide +kernel
theorem dL_chair_19 : decode cL_chair 19 = .ok (.iconst 2, 1) := by decide +kernel
theorem dL_chair_20 : decode cL_chair 20 = .ok (.ireturn, 1) := by decide +kernel
theorem dL_chair_21 : decode cL_chair 21 = .ok (.iconst 0, 1) := by decide +kernel
theorem dL_chair_22 : decode cL_chair 22 = .ok (.ireturn, 1) := by decide +kernel
theorem dL_guest_0 : decode cL_guest 0 = .ok (.aload_n 3, 1) := by decide +kernel
theorem dL_guest_1 : decode cL_guest 1 = .ok (.iconst 0, 1) := by decide +kernel
theorem dL_guest_2 : decode cL_guest 2 = .ok (.aload_n 0, 1) := by decide +kernel
theorem dL_guest_3 : decode cL_guest 3 = .ok (.iload_n 1, 1) := by decide +kernel
theorem dL_guest_4 : decode cL_guest 4 = .ok (.iload_n 2, 1) := by decide +kernel
theorem dL_guest_5 : decode cL_guest 5 = .ok (.invokevirtual 30, 3) := by decide +kernel
theorem dL_guest_8 : decode cL_guest 8 = .ok (.i2l, 1) := by decide +kernel
theorem dL_guest_9 : decode cL_guest 9 = .ok (.lastore, 1) := by decide +kernel
theorem dL_guest_10 : decode cL_guest 10 = .ok (.goto 11, 3) := by decide +kernel
theorem dL_guest_13 : decode cL_guest 13 = .ok (.astore 4, 2) := by decide +kernel
theorem dL_guest_15 : decode cL_guest 15 = .ok (.iconst 1, 1) := by decide +kernel
theorem dL_guest_16 : decode cL_guest 16 = .ok (.ireturn, 1) := by decide +kernel
theorem dL_guest_17 : decode cL_guest 17 = .ok (.astore 4, 2) := by decide +kernel
theorem dL_guest_19 : decode cL_guest 19 = .ok (.iconst 2, 1) := by decide +kernel
theorem dL_guest_20 : decode cL_guest 20 = .ok (.ireturn, 1) := by decide +kernel
theorem dL_guest_21 : decode cL_guest 21 = .ok (.iconst 0, 1) := by decide +kernel
theorem dL_guest_22 : decode cL_guest 22 = .ok (.ireturn, 1) := by decide +kernel
theorem dL_day_0 : decode cL_day 0 = .ok (.aload_n 2, 1) := by decide +kernel
theorem dL_day_1 : decode cL_day 1 = .ok (.iconst 0, 1) := by decide +kernel
theorem dL_day_2 : decode cL_day 2 = .ok (.aload_n 0, 1) := by decide +kernel
theorem dL_day_3 : decode cL_day 3 = .ok (.iload_n 1, 1) := by decide +kernel
theorem dL_day_4 : decode cL_day 4 = .ok (.invokevirtual 33, 3) := by decide +kernel
theorem dL_day_7 : decode cL_day 7 = .ok (.i2l, 1) := by decide +kernel
theorem dL_day_8 : decode cL_day 8 = .ok (.lastore, 1) := by decide +kernel
theorem dL_day_9 : decode cL_day 9 = .ok (.goto 6, 3) := by decide +kernel
theorem dL_day_12 : decode cL_day 12 = .ok (.astore_n 3, 1) := by decide +kernel
theorem dL_day_13 : decode cL_day 13 = .ok (.iconst 1, 1) := by decide +kernel
theorem dL_day_14 : decode cL_day 14 = .ok (.ireturn, 1) := by decide +kernel
theorem dL_day_15 : decode cL_day 15 = .ok (.iconst 0, 1) := by decide +kernel
theorem dL_day_16 : decode cL_day 16 = .ok (.ireturn, 1) := by decide +kernel
theorem dL_did_0 : decode cL_did 0 = .ok (.aload_n 3, 1) := by decide +kernel
theorem dL_did_1 : decode cL_did 1 = .ok (.iconst 0, 1) := by decide +kernel
theorem dL_did_2 : decode cL_did 2 = .ok (.aload_n 0, 1) := by decide +kernel
theorem dL_did_3 : decode cL_did 3 = .ok (.iload_n 1, 1) := by decide +kernel
theorem dL_did_4 : decode cL_did 4 = .ok (.iload_n 2, 1) := by decide +kernel
theorem dL_did_5 : decode cL_did 5 = .ok (.invokevirtual 36, 3) := by decide +kernel
theorem dL_did_8 : decode cL_did 8 = .ok (.i2l, 1) := by decide +kernel
theorem dL_did_9 : decode cL_did 9 = .ok (.lastore, 1) := by decide +kernel
theorem dL_did_10 : decode cL_did 10 = .ok (.goto 11, 3) := by decide +kernel
theorem dL_did_13 : decode cL_did 13 = .ok (.astore 4, 2) := by decide +kernel
theorem dL_did_15 : decode cL_did 15 = .ok (.iconst 1, 1) := by decide +kernel
theorem dL_did_16 : decode cL_did 16 = .ok (.ireturn, 1) := by decide +kernel
theorem dL_did_17 : decode cL_did 17 = .ok (.astore 4, 2) := by decide +kernel
theorem dL_did_19 : decode cL_did 19 = .ok (.iconst 2, 1) := by decide +kernel
theorem dL_did_20 : decode cL_did 20 = .ok (.ireturn, 1) := by decide +kernel
theorem dL_did_21 : decode cL_did 21 = .ok (.iconst 0, 1) := by decide +kernel
theorem dL_did_22 : decode cL_did 22 = .ok (.ireturn, 1) := by decide +kernel
theorem dL_towel_0 : decode cL_towel 0 = .ok (.aload_n 3, 1) := by decide +kernel
theorem dL_towel_1 : decode cL_towel 1 = .ok (.iconst 0, 1) := by decide +kernel
theorem dL_towel_2 : decode cL_towel 2 = .ok (.aload_n 0, 1) := by decide +kernel
theorem dL_towel_3 : decode cL_towel 3 = .ok (.iload_n 1, 1) := by decide +kernel
theorem dL_towel_4 : decode cL_towel 4 = .ok (.iload_n 2, 1) := by decide +kernel
theorem dL_towel_5 : decode cL_towel 5 = .ok (.invokevirtual 39, 3) := by decide +kernel
theorem dL_towel_8 : decode cL_towel 8 = .ok (.i2l, 1) := by decide +kernel
theorem dL_towel_9 : decode cL_towel 9 = .ok (.lastore, 1) := by decide +kernel
theorem dL_towel_10 : decode cL_towel 10 = .ok (.goto 11, 3) := by decide +kernel
theorem dL_towel_13 : decode cL_towel 13 = .ok (.astore 4, 2) := by decide +kernel
theorem dL_towel_15 : decode cL_towel 15 = .ok (.iconst 1, 1) := by decide +kernel
theorem dL_towel_16 : decode cL_towel 16 = .ok (.ireturn, 1) := by decide +kernel
theorem dL_towel_17 : decode cL_towel 17 = .ok (.astore 4, 2) := by decide +kernel
theorem dL_towel_19 : decode cL_towel 19 = .ok (.iconst 2, 1) := by decide +kernel
theorem dL_towel_20 : decode cL_towel 20 = .ok (.ireturn, 1) := by decide +kernel
theorem dL_towel_21 : decode cL_towel 21 = .ok (.iconst 0, 1) := by decide +kernel
theorem dL_towel_22 : decode cL_towel 22 = .ok (.ireturn, 1) := by decide +kernel
theorem dL_lies_0 : decode cL_lies 0 = .ok (.aload_n 3, 1) := by decide +kernel
theorem dL_lies_1 : decode cL_lies 1 = .ok (.iconst 0, 1) := by decide +kernel
theorem dL_lies_2 : decode cL_lies 2 = .ok (.aload_n 0, 1) := by decide +kernel
theorem dL_lies_3 : decode cL_lies 3 = .ok (.iload_n 1, 1) := by decide +kernel
theorem dL_lies_4 : decode cL_lies 4 = .ok (.iload_n 2, 1) := by decide +kernel
theorem dL_lies_5 : decode cL_lies 5 = .ok (.invokevirtual 42, 3) := by decide +kernel
theorem dL_lies_8 : decode cL_lies 8 = .ok (.i2l, 1) := by decide +kernel
theorem dL_lies_9 : decode cL_lies 9 = .ok (.lastore, 1) := by decide +kernel
theorem dL_lies_10 : decode cL_lies 10 = .ok (.goto 11, 3) := by decide +kernel
theorem dL_lies_13 : decode cL_lies 13 = .ok (.astore 4, 2) := by decide +kernel
theorem dL_lies_15 : decode cL_lies 15 = .ok (.iconst 1, 1) := by decide +kernel
theorem dL_lies_16 : decode cL_lies 16 = .ok (.ireturn, 1) := by decide +kernel
theorem dL_lies_17 : decode cL_lies 17 = .ok (.astore 4, 2) := by decide +kernel
theorem dL_lies_19 : decode cL_lies 19 = .ok (.iconst 2, 1) := by decide +kernel
theorem dL_lies_20 : decode cL_lies 20 = .ok (.ireturn, 1) := by decide +kernel
theorem dL_lies_21 : decode cL_lies 21 = .ok (.iconst 0, 1) := by decide +kernel
theorem dL_lies_22 : decode cL_lies 22 = .ok (.ireturn, 1) := by decide +kernel
theorem dL_waits_0 : decode cL_waits 0 = .ok (.aload_n 2, 1) := by decide +kernel
theorem dL_waits_1 : decode cL_waits 1 = .ok (.iconst 0, 1) := by decide +kernel
theorem dL_waits_2 : decode cL_waits 2 = .ok (.aload_n 0, 1) := by decide +kernel
theorem dL_waits_3 : decode cL_waits 3 = .ok (.iload_n 1, 1) := by decide +kernel
theorem dL_waits_4 : decode cL_waits 4 = .ok (.invokevirtual 45, 3) := by decide +kernel
theorem dL_waits_7 : decode cL_waits 7 = .ok (.i2l, 1) := by decide +kernel
theorem dL_waits_8 : decode cL_waits 8 = .ok (.lastore, 1) := by decide +kernel
theorem dL_waits_9 : decode cL_waits 9 = .ok (.goto 6, 3) := by decide +kernel
theorem dL_waits_12 : decode cL_waits 12 = .ok (.astore_n 3, 1) := by decide +kernel
theorem dL_waits_13 : decode cL_waits 13 = .ok (.iconst 1, 1) := by decide +kernel
theorem dL_waits_14 : decode cL_waits 14 = .ok (.ireturn, 1) := by decide +kernel
theorem dL_waits_15 : decode cL_waits 15 = .ok (.iconst 0, 1) := by decide +kernel
theorem dL_waits_16 : decode cL_waits 16 = .ok (.ireturn, 1) := by decide +kernel
theorem dL_sums_0 : decode cL_sums 0 = .ok (.aload_n 2, 1) := by decide +kernel
theorem dL_sums_1 : decode cL_sums 1 = .ok (.iconst 0, 1) := by decide +kernel
theorem dL_sums_2 : decode cL_sums 2 = .ok (.aload_n 0, 1) := by decide +kernel
theorem dL_sums_3 : decode cL_sums 3 = .ok (.iload_n 1, 1) := by decide +kernel
theorem dL_sums_4 : decode cL_sums 4 = .ok (.invokevirtual 48, 3) := by decide +kernel
theorem dL_sums_7 : decode cL_sums 7 = .ok (.i2l, 1) := by decide +kernel
theorem dL_sums_8 : decode cL_sums 8 = .ok (.lastore, 1) := by decide +kernel
theorem dL_sums_9 : decode cL_sums 9 = .ok (.goto 6, 3) := by decide +kernel
theorem dL_sums_12 : decode cL_sums 12 = .ok (.astore_n 3, 1) := by decide +kernel
theorem dL_sums_13 : decode cL_sums 13 = .ok (.iconst 1, 1) := by decide +kernel
theorem dL_sums_14 : decode cL_sums 14 = .ok (.ireturn, 1) := by decide +kernel
theorem dL_sums_15 : decode cL_sums 15 = .ok (.iconst 0, 1) := by decide +kernel
theorem dL_sums_16 : decode cL_sums 16 = .ok (.ireturn, 1) := by decide +kernel
theorem dL_worth_0 : decode cL_worth 0 = .ok (.aload 4, 2) := by decide +kernel
theorem dL_worth_2 : decode cL_worth 2 = .ok (.iconst 0, 1) := by decide +kernel
theorem dL_worth_3 : decode cL_worth 3 = .ok (.aload_n 0, 1) := by decide +kernel
theorem dL_worth_4 : decode cL_worth 4 = .ok (.iload_n 1, 1) := by decide +kernel
theorem dL_worth_5 : decode cL_worth 5 = .ok (.iload_n 2, 1) := by decide +kernel
theorem dL_worth_6 : decode cL_worth 6 = .ok (.iload_n 3, 1) := by decide +kernel
theorem dL_worth_7 : decode cL_worth 7 = .ok (.invokevirtual 51, 3) := by decide +kernel
theorem dL_worth_10 : decode cL_worth 10 = .ok (.i2l, 1) := by decide +kernel
theorem dL_worth_11 : decode cL_worth 11 = .ok (.lastore, 1) := by decide +kernel
theorem dL_worth_12 : decode cL_worth 12 = .ok (.goto 11, 3) := by decide +kernel
theorem dL_worth_15 : decode cL_worth 15 = .ok (.astore 5, 2) := by decide +kernel
theorem dL_worth_17 : decode cL_worth 17 = .ok (.iconst 1, 1) := by decide +kernel
theorem dL_worth_18 : decode cL_worth 18 = .ok (.ireturn, 1) := by decide +kernel
theorem dL_worth_19 : decode cL_worth 19 = .ok (.astore 5, 2) := by decide +kernel
theorem dL_worth_21 : decode cL_worth 21 = .ok (.iconst 2, 1) := by decide +kernel
theorem dL_worth_22 : decode cL_worth 22 = .ok (.ireturn, 1) := by decide +kernel
theorem dL_worth_23 : decode cL_worth 23 = .ok (.iconst 0, 1) := by decide +kernel
theorem dL_worth_24 : decode cL_worth 24 = .ok (.ireturn, 1) := by decide +kernel
theorem dL_would_0 : decode cL_would 0 = .ok (.aload 8, 2) := by decide +kernel
theorem dL_would_2 : decode cL_would 2 = .ok (.iconst 0, 1) := by decide +kernel
theorem dL_would_3 : decode cL_would 3 = .ok (.aload_n 0, 1) := by decide +kernel
theorem dL_would_4 : decode cL_would 4 = .ok (.iload_n 1, 1) := by decide +kernel
theorem dL_would_5 : decode cL_would 5 = .ok (.iload_n 2, 1) := by decide +kernel
theorem dL_would_6 : decode cL_would 6 = .ok (.iload_n 3, 1) := by decide +kernel
theorem dL_would_7 : decode cL_would 7 = .ok (.iload 4, 2) := by decide +kernel
theorem dL_would_9 : decode cL_would 9 = .ok (.iload 5, 2) := by decide +kernel
theorem dL_would_11 : decode cL_would 11 = .ok (.iload 6, 2) := by decide +kernel
theorem dL_would_13 : decode cL_would 13 = .ok (.iload 7, 2) := by decide +kernel
theorem dL_would_15 : decode cL_would 15 = .ok (.invokevirtual 55, 3) := by decide +kernel
theorem dL_would_18 : decode cL_would 18 = .ok (.i2l, 1) := by decide +kernel
theorem dL_would_19 : decode cL_would 19 = .ok (.lastore, 1) := by decide +kernel
theorem dL_would_20 : decode cL_would 20 = .ok (.goto 11, 3) := by decide +kernel
theorem dL_would_23 : decode cL_would 23 = .ok (.astore 9, 2) := by decide +kernel
theorem dL_would_25 : decode cL_would 25 = .ok (.iconst 1, 1) := by decide +kernel
theorem dL_would_26 : decode cL_would 26 = .ok (.ireturn, 1) := by decide +kernel
theorem dL_would_27 : decode cL_would 27 = .ok (.astore 9, 2) := by decide +kernel
theorem dL_would_29 : decode cL_would 29 = .ok (.iconst 2, 1) := by decide +kernel
theorem dL_would_30 : decode cL_would 30 = .ok (.ireturn, 1) := by decide +kernel
theorem dL_would_31 : decode cL_would 31 = .ok (.iconst 0, 1) := by decide +kernel
theorem dL_would_32 : decode cL_would 32 = .ok (.ireturn, 1) := by decide +kernel
theorem dL_round_0 : decode cL_round 0 = .ok (.aload_n 2, 1) := by decide +kernel
theorem dL_round_1 : decode cL_round 1 = .ok (.iconst 0, 1) := by decide +kernel
theorem dL_round_2 : decode cL_round 2 = .ok (.aload_n 0, 1) := by decide +kernel
theorem dL_round_3 : decode cL_round 3 = .ok (.iload_n 1, 1) := by decide +kernel
theorem dL_round_4 : decode cL_round 4 = .ok (.invokevirtual 59, 3) := by decide +kernel
theorem dL_round_7 : decode cL_round 7 = .ok (.i2l, 1) := by decide +kernel
theorem dL_round_8 : decode cL_round 8 = .ok (.lastore, 1) := by decide +kernel
theorem dL_round_9 : decode cL_round 9 = .ok (.goto 6, 3) := by decide +kernel
theorem dL_round_12 : decode cL_round 12 = .ok (.astore_n 3, 1) := by decide +kernel
theorem dL_round_13 : decode cL_round 13 = .ok (.iconst 1, 1) := by decide +kernel
theorem dL_round_14 : decode cL_round 14 = .ok (.ireturn, 1) := by decide +kernel
theorem dL_round_15 : decode cL_round 15 = .ok (.iconst 0, 1) := by decide +kernel
theorem dL_round_16 : decode cL_round 16 = .ok (.ireturn, 1) := by decide +kernel
theorem dL_out_0 : decode cL_out 0 = .ok (.aload_n 2, 1) := by decide +kernel
theorem dL_out_1 : decode cL_out 1 = .ok (.iconst 0, 1) := by decide +kernel
theorem dL_out_2 : decode cL_out 2 = .ok (.aload_n 0, 1) := by decide +kernel
theorem dL_out_3 : decode cL_out 3 = .ok (.iload_n 1, 1) := by decide +kernel
theorem dL_out_4 : decode cL_out 4 = .ok (.invokevirtual 62, 3) := by decide +kernel
theorem dL_out_7 : decode cL_out 7 = .ok (.i2l, 1) := by decide +kernel
theorem dL_out_8 : decode cL_out 8 = .ok (.lastore, 1) := by decide +kernel
theorem dL_out_9 : decode cL_out 9 = .ok (.goto 6, 3) := by decide +kernel
theorem dL_out_12 : decode cL_out 12 = .ok (.astore_n 3, 1) := by decide +kernel
theorem dL_out_13 : decode cL_out 13 = .ok (.iconst 1, 1) := by decide +kernel
theorem dL_out_14 : decode cL_out 14 = .ok (.ireturn, 1) := by decide +kernel
theorem dL_out_15 : decode cL_out 15 = .ok (.iconst 0, 1) := by decide +kernel
theorem dL_out_16 : decode cL_out 16 = .ok (.ireturn, 1) := by decide +kernel
theorem dL_had_0 : decode cL_had 0 = .ok (.aload_n 3, 1) := by decide +kernel
theorem dL_had_1 : decode cL_had 1 = .ok (.iconst 0, 1) := by decide +kernel
theorem dL_had_2 : decode cL_had 2 = .ok (.aload_n 0, 1) := by decide +kernel
theorem dL_had_3 : decode cL_had 3 = .ok (.iload_n 1, 1) := by decide +kernel
theorem dL_had_4 : decode cL_had 4 = .ok (.iload_n 2, 1) := by decide +kernel
theorem dL_had_5 : decode cL_had 5 = .ok (.invokevirtual 65, 3) := by decide +kernel
theorem dL_had_8 : decode cL_had 8 = .ok (.i2l, 1) := by decide +kernel
theorem dL_had_9 : decode cL_had 9 = .ok (.lastore, 1) := by decide +kernel
theorem dL_had_10 : decode cL_had 10 = .ok (.goto 11, 3) := by decide +kernel
theorem dL_had_13 : decode cL_had 13 = .ok (.astore 4, 2) := by decide +kernel
theorem dL_had_15 : decode cL_had 15 = .ok (.iconst 1, 1) := by decide +kernel
theorem dL_had_16 : decode cL_had 16 = .ok (.ireturn, 1) := by decide +kernel
theorem dL_had_17 : decode cL_had 17 = .ok (.astore 4, 2) := by decide +kernel
theorem dL_had_19 : decode cL_had 19 = .ok (.iconst 2, 1) := by decide +kernel
theorem dL_had_20 : decode cL_had 20 = .ok (.ireturn, 1) := by decide +kernel
theorem dL_had_21 : decode cL_had 21 = .ok (.iconst 0, 1) := by decide +kernel
theorem dL_had_22 : decode cL_had 22 = .ok (.ireturn, 1) := by decide +kernel
theorem dL_still_0 : decode cL_still 0 = .ok (.aload_n 3, 1) := by decide +kernel
theorem dL_still_1 : decode cL_still 1 = .ok (.iconst 0, 1) := by decide +kernel
theorem dL_still_2 : decode cL_still 2 = .ok (.aload_n 0, 1) := by decide +kernel
theorem dL_still_3 : decode cL_still 3 = .ok (.iload_n 1, 1) := by decide +kernel
theorem dL_still_4 : decode cL_still 4 = .ok (.iload_n 2, 1) := by decide +kernel
theorem dL_still_5 : decode cL_still 5 = .ok (.invokevirtual 68, 3) := by decide +kernel
theorem dL_still_8 : decode cL_still 8 = .ok (.i2l, 1) := by decide +kernel
theorem dL_still_9 : decode cL_still 9 = .ok (.lastore, 1) := by decide +kernel
theorem dL_still_10 : decode cL_still 10 = .ok (.goto 11, 3) := by decide +kernel
theorem dL_still_13 : decode cL_still 13 = .ok (.astore 4, 2) := by decide +kernel
theorem dL_still_15 : decode cL_still 15 = .ok (.iconst 1, 1) := by decide +kernel
theorem dL_still_16 : decode cL_still 16 = .ok (.ireturn, 1) := by decide +kernel
theorem dL_still_17 : decode cL_still 17 = .ok (.astore 4, 2) := by decide +kernel
theorem dL_still_19 : decode cL_still 19 = .ok (.iconst 2, 1) := by decide +kernel
theorem dL_still_20 : decode cL_still 20 = .ok (.ireturn, 1) := by decide +kernel
theorem dL_still_21 : decode cL_still 21 = .ok (.iconst 0, 1) := by decide +kernel
theorem dL_still_22 : decode cL_still 22 = .ok (.ireturn, 1) := by decide +kernel
theorem dL_net_0 : decode cL_net 0 = .ok (.aload_n 3, 1) := by decide +kernel
theorem dL_net_1 : decode cL_net 1 = .ok (.iconst 0, 1) := by decide +kernel
theorem dL_net_2 : decode cL_net 2 = .ok (.aload_n 0, 1) := by decide +kernel
theorem dL_net_3 : decode cL_net 3 = .ok (.iload_n 1, 1) := by decide +kernel
theorem dL_net_4 : decode cL_net 4 = .ok (.iload_n 2, 1) := by decide +kernel
theorem dL_net_5 : decode cL_net 5 = .ok (.invokevirtual 73, 3) := by decide +kernel
theorem dL_net_8 : decode cL_net 8 = .ok (.i2l, 1) := by decide +kernel
theorem dL_net_9 : decode cL_net 9 = .ok (.lastore, 1) := by decide +kernel
theorem dL_net_10 : decode cL_net 10 = .ok (.goto 11, 3) := by decide +kernel
theorem dL_net_13 : decode cL_net 13 = .ok (.astore 4, 2) := by decide +kernel
theorem dL_net_15 : decode cL_net 15 = .ok (.iconst 1, 1) := by decide +kernel
theorem dL_net_16 : decode cL_net 16 = .ok (.ireturn, 1) := by decide +kernel
theorem dL_net_17 : decode cL_net 17 = .ok (.astore 4, 2) := by decide +kernel
theorem dL_net_19 : decode cL_net 19 = .ok (.iconst 2, 1) := by decide +kernel
theorem dL_net_20 : decode cL_net 20 = .ok (.ireturn, 1) := by decide +kernel
theorem dL_net_21 : decode cL_net 21 = .ok (.iconst 0, 1) := by decide +kernel
theorem dL_net_22 : decode cL_net 22 = .ok (.ireturn, 1) := by decide +kernel
theorem dL_gets_0 : decode cL_gets 0 = .ok (.aload_n 2, 1) := by decide +kernel
theorem dL_gets_1 : decode cL_gets 1 = .ok (.iconst 0, 1) := by decide +kernel
theorem dL_gets_2 : decode cL_gets 2 = .ok (.aload_n 0, 1) := by decide +kernel
theorem dL_gets_3 : decode cL_gets 3 = .ok (.iload_n 1, 1) := by decide +kernel
theorem dL_gets_4 : decode cL_gets 4 = .ok (.invokevirtual 76, 3) := by decide +kernel
theorem dL_gets_7 : decode cL_gets 7 = .ok (.i2l, 1) := by decide +kernel
theorem dL_gets_8 : decode cL_gets 8 = .ok (.lastore, 1) := by decide +kernel
theorem dL_gets_9 : decode cL_gets 9 = .ok (.goto 6, 3) := by decide +kernel
theorem dL_gets_12 : decode cL_gets 12 = .ok (.astore_n 3, 1) := by decide +kernel
theorem dL_gets_13 : decode cL_gets 13 = .ok (.iconst 1, 1) := by decide +kernel
theorem dL_gets_14 : decode cL_gets 14 = .ok (.ireturn, 1) := by decide +kernel
theorem dL_gets_15 : decode cL_gets 15 = .ok (.iconst 0, 1) := by decide +kernel
theorem dL_gets_16 : decode cL_gets 16 = .ok (.ireturn, 1) := by decide +kernel
theorem dL_more_0 : decode cL_more 0 = .ok (.aload_n 3, 1) := by decide +kernel
theorem dL_more_1 : decode cL_more 1 = .ok (.iconst 0, 1) := by decide +kernel
theorem dL_more_2 : decode cL_more 2 = .ok (.aload_n 0, 1) := by decide +kernel
theorem dL_more_3 : decode cL_more 3 = .ok (.iload_n 1, 1) := by decide +kernel
theorem dL_more_4 : decode cL_more 4 = .ok (.iload_n 2, 1) := by decide +kernel
theorem dL_more_5 : decode cL_more 5 = .ok (.invokevirtual 79, 3) := by decide +kernel
theorem dL_more_8 : decode cL_more 8 = .ok (.i2l, 1) := by decide +kernel
theorem dL_more_9 : decode cL_more 9 = .ok (.lastore, 1) := by decide +kernel
theorem dL_more_10 : decode cL_more 10 = .ok (.goto 7, 3) := by decide +kernel
theorem dL_more_13 : decode cL_more 13 = .ok (.astore 4, 2) := by decide +kernel
theorem dL_more_15 : decode cL_more 15 = .ok (.iconst 1, 1) := by decide +kernel
theorem dL_more_16 : decode cL_more 16 = .ok (.ireturn, 1) := by decide +kernel
theorem dL_more_17 : decode cL_more 17 = .ok (.iconst 0, 1) := by decide +kernel
theorem dL_more_18 : decode cL_more 18 = .ok (.ireturn, 1) := by decide +kernel
theorem dL_want_0 : decode cL_want 0 = .ok (.aload_n 2, 1) := by decide +kernel
theorem dL_want_1 : decode cL_want 1 = .ok (.iconst 0, 1) := by decide +kernel
theorem dL_want_2 : decode cL_want 2 = .ok (.aload_n 0, 1) := by decide +kernel
theorem dL_want_3 : decode cL_want 3 = .ok (.iload_n 1, 1) := by decide +kernel
theorem dL_want_4 : decode cL_want 4 = .ok (.invokevirtual 82, 3) := by decide +kernel
theorem dL_want_7 : decode cL_want 7 = .ok (.i2l, 1) := by decide +kernel
theorem dL_want_8 : decode cL_want 8 = .ok (.lastore, 1) := by decide +kernel
theorem dL_want_9 : decode cL_want 9 = .ok (.goto 6, 3) := by decide +kernel
theorem dL_want_12 : decode cL_want 12 = .ok (.astore_n 3, 1) := by decide +kernel
theorem dL_want_13 : decode cL_want 13 = .ok (.iconst 1, 1) := by decide +kernel
theorem dL_want_14 : decode cL_want 14 = .ok (.ireturn, 1) := by decide +kernel
theorem dL_want_15 : decode cL_want 15 = .ok (.iconst 0, 1) := by decide +kernel
theorem dL_want_16 : decode cL_want 16 = .ok (.ireturn, 1) := by decide +kernel
theorem dL_just_0 : decode cL_just 0 = .ok (.aload_n 2, 1) := by decide +kernel
theorem dL_just_1 : decode cL_just 1 = .ok (.iconst 0, 1) := by decide +kernel
theorem dL_just_2 : decode cL_just 2 = .ok (.aload_n 0, 1) := by decide +kernel
theorem dL_just_3 : decode cL_just 3 = .ok (.iload_n 1, 1) := by decide +kernel
theorem dL_just_4 : decode cL_just 4 = .ok (.invokevirtual 85, 3) := by decide +kernel
theorem dL_just_7 : decode cL_just 7 = .ok (.i2l, 1) := by decide +kernel
theorem dL_just_8 : decode cL_just 8 = .ok (.lastore, 1) := by decide +kernel
theorem dL_just_9 : decode cL_just 9 = .ok (.goto 6, 3) := by decide +kernel
theorem dL_just_12 : decode cL_just 12 = .ok (.astore_n 3, 1) := by decide +kernel
theorem dL_just_13 : decode cL_just 13 = .ok (.iconst 1, 1) := by decide +kernel
theorem dL_just_14 : decode cL_just 14 = .ok (.ireturn, 1) := by decide +kernel
theorem dL_just_15 : decode cL_just 15 = .ok (.iconst 0, 1) := by decide +kernel
theorem dL_just_16 : decode cL_just 16 = .ok (.ireturn, 1) := by decide +kernel
theorem dL_off_0 : decode cL_off 0 = .ok (.aload_n 2, 1) := by decide +kernel
theorem dL_off_1 : decode cL_off 1 = .ok (.iconst 0, 1) := by decide +kernel
theorem dL_off_2 : decode cL_off 2 = .ok (.aload_n 0, 1) := by decide +kernel
theorem dL_off_3 : decode cL_off 3 = .ok (.iload_n 1, 1) := by decide +kernel
theorem dL_off_4 : decode cL_off 4 = .ok (.invokevirtual 88, 3) := by decide +kernel
theorem dL_off_7 : decode cL_off 7 = .ok (.i2l, 1) := by decide +kernel
theorem dL_off_8 : decode cL_off 8 = .ok (.lastore, 1) := by decide +kernel
theorem dL_off_9 : decode cL_off 9 = .ok (.goto 6, 3) := by decide +kernel
theorem dL_off_12 : decode cL_off 12 = .ok (.astore_n 3, 1) := by decide +kernel
theorem dL_off_13 : decode cL_off 13 = .ok (.iconst 1, 1) := by decide +kernel
theorem dL_off_14 : decode cL_off 14 = .ok (.ireturn, 1) := by decide +kernel
theorem dL_off_15 : decode cL_off 15 = .ok (.iconst 0, 1) := by decide +kernel
theorem dL_off_16 : decode cL_off 16 = .ok (.ireturn, 1) := by decide +kernel
theorem dL_turnsOf_0 : decode cL_turnsOf 0 = .ok (.aload_n 2, 1) := by decide +kernel
theorem dL_turnsOf_1 : decode cL_turnsOf 1 = .ok (.iconst 0, 1) := by decide +kernel
theorem dL_turnsOf_2 : decode cL_turnsOf 2 = .ok (.aload_n 0, 1) := by decide +kernel
theorem dL_turnsOf_3 : decode cL_turnsOf 3 = .ok (.iload_n 1, 1) := by decide +kernel
theorem dL_turnsOf_4 : decode cL_turnsOf 4 = .ok (.invokevirtual 91, 3) := by decide +kernel
theorem dL_turnsOf_7 : decode cL_turnsOf 7 = .ok (.i2l, 1) := by decide +kernel
theorem dL_turnsOf_8 : decode cL_turnsOf 8 = .ok (.lastore, 1) := by decide +kernel
theorem dL_turnsOf_9 : decode cL_turnsOf 9 = .ok (.goto 6, 3) := by decide +kernel
theorem dL_turnsOf_12 : decode cL_turnsOf 12 = .ok (.astore_n 3, 1) := by decide +kernel
theorem dL_turnsOf_13 : decode cL_turnsOf 13 = .ok (.iconst 1, 1) := by decide +kernel
theorem dL_turnsOf_14 : decode cL_turnsOf 14 = .ok (.ireturn, 1) := by decide +kernel
theorem dL_turnsOf_15 : decode cL_turnsOf 15 = .ok (.iconst 0, 1) := by decide +kernel
theorem dL_turnsOf_16 : decode cL_turnsOf 16 = .ok (.ireturn, 1) := by decide +kernel
theorem dL_lot_0 : decode cL_lot 0 = .ok (.aload_n 3, 1) := by decide +kernel
theorem dL_lot_1 : decode cL_lot 1 = .ok (.iconst 0, 1) := by decide +kernel
theorem dL_lot_2 : decode cL_lot 2 = .ok (.aload_n 0, 1) := by decide +kernel
theorem dL_lot_3 : decode cL_lot 3 = .ok (.iload_n 1, 1) := by decide +kernel
theorem dL_lot_4 : decode cL_lot 4 = .ok (.iload_n 2, 1) := by decide +kernel
theorem dL_lot_5 : decode cL_lot 5 = .ok (.invokevirtual 94, 3) := by decide +kernel
theorem dL_lot_8 : decode cL_lot 8 = .ok (.i2l, 1) := by decide +kernel
theorem dL_lot_9 : decode cL_lot 9 = .ok (.lastore, 1) := by decide +kernel
theorem dL_lot_10 : decode cL_lot 10 = .ok (.goto 7, 3) := by decide +kernel
theorem dL_lot_13 : decode cL_lot 13 = .ok (.astore 4, 2) := by decide +kernel
theorem dL_lot_15 : decode cL_lot 15 = .ok (.iconst 1, 1) := by decide +kernel
theorem dL_lot_16 : decode cL_lot 16 = .ok (.ireturn, 1) := by decide +kernel
theorem dL_lot_17 : decode cL_lot 17 = .ok (.iconst 0, 1) := by decide +kernel
theorem dL_lot_18 : decode cL_lot 18 = .ok (.ireturn, 1) := by decide +kernel
theorem dL_lucky_0 : decode cL_lucky 0 = .ok (.aload 4, 2) := by decide +kernel
theorem dL_lucky_2 : decode cL_lucky 2 = .ok (.iconst 0, 1) := by decide +kernel
theorem dL_lucky_3 : decode cL_lucky 3 = .ok (.aload_n 0, 1) := by decide +kernel
theorem dL_lucky_4 : decode cL_lucky 4 = .ok (.iload_n 1, 1) := by decide +kernel
theorem dL_lucky_5 : decode cL_lucky 5 = .ok (.iload_n 2, 1) := by decide +kernel
theorem dL_lucky_6 : decode cL_lucky 6 = .ok (.iload_n 3, 1) := by decide +kernel
theorem dL_lucky_7 : decode cL_lucky 7 = .ok (.invokevirtual 97, 3) := by decide +kernel
theorem dL_lucky_10 : decode cL_lucky 10 = .ok (.i2l, 1) := by decide +kernel
theorem dL_lucky_11 : decode cL_lucky 11 = .ok (.lastore, 1) := by decide +kernel
theorem dL_lucky_12 : decode cL_lucky 12 = .ok (.goto 11, 3) := by decide +kernel
theorem dL_lucky_15 : decode cL_lucky 15 = .ok (.astore 5, 2) := by decide +kernel
theorem dL_lucky_17 : decode cL_lucky 17 = .ok (.iconst 1, 1) := by decide +kernel
theorem dL_lucky_18 : decode cL_lucky 18 = .ok (.ireturn, 1) := by decide +kernel
theorem dL_lucky_19 : decode cL_lucky 19 = .ok (.astore 5, 2) := by decide +kernel
theorem dL_lucky_21 : decode cL_lucky 21 = .ok (.iconst 2, 1) := by decide +kernel
theorem dL_lucky_22 : decode cL_lucky 22 = .ok (.ireturn, 1) := by decide +kernel
theorem dL_lucky_23 : decode cL_lucky 23 = .ok (.iconst 0, 1) := by decide +kernel
theorem dL_lucky_24 : decode cL_lucky 24 = .ok (.ireturn, 1) := by decide +kernel
theorem dL_summer_0 : decode cL_summer 0 = .ok (.aload 4, 2) := by decide +kernel
theorem dL_summer_2 : decode cL_summer 2 = .ok (.iconst 0, 1) := by decide +kernel
theorem dL_summer_3 : decode cL_summer 3 = .ok (.aload_n 0, 1) := by decide +kernel
theorem dL_summer_4 : decode cL_summer 4 = .ok (.iload_n 1, 1) := by decide +kernel
theorem dL_summer_5 : decode cL_summer 5 = .ok (.iload_n 2, 1) := by decide +kernel
theorem dL_summer_6 : decode cL_summer 6 = .ok (.iload_n 3, 1) := by decide +kernel
theorem dL_summer_7 : decode cL_summer 7 = .ok (.invokevirtual 100, 3) := by decide +kernel
theorem dL_summer_10 : decode cL_summer 10 = .ok (.i2l, 1) := by decide +kernel
theorem dL_summer_11 : decode cL_summer 11 = .ok (.lastore, 1) := by decide +kernel
theorem dL_summer_12 : decode cL_summer 12 = .ok (.goto 7, 3) := by decide +kernel
theorem dL_summer_15 : decode cL_summer 15 = .ok (.astore 5, 2) := by decide +kernel
theorem dL_summer_17 : decode cL_summer 17 = .ok (.iconst 1, 1) := by decide +kernel
theorem dL_summer_18 : decode cL_summer 18 = .ok (.ireturn, 1) := by decide +kernel
theorem dL_summer_19 : decode cL_summer 19 = .ok (.iconst 0, 1) := by decide +kernel
theorem dL_summer_20 : decode cL_summer 20 = .ok (.ireturn, 1) := by decide +kernel
theorem dL_fits_0 : decode cL_fits 0 = .ok (.aload_n 2, 1) := by decide +kernel
theorem dL_fits_1 : decode cL_fits 1 = .ok (.iconst 0, 1) := by decide +kernel
theorem dL_fits_2 : decode cL_fits 2 = .ok (.aload_n 0, 1) := by decide +kernel
theorem dL_fits_3 : decode cL_fits 3 = .ok (.iload_n 1, 1) := by decide +kernel
theorem dL_fits_4 : decode cL_fits 4 = .ok (.invokevirtual 103, 3) := by decide +kernel
theorem dL_fits_7 : decode cL_fits 7 = .ok (.i2l, 1) := by decide +kernel
theorem dL_fits_8 : decode cL_fits 8 = .ok (.lastore, 1) := by decide +kernel
theorem dL_fits_9 : decode cL_fits 9 = .ok (.goto 6, 3) := by decide +kernel
theorem dL_fits_12 : decode cL_fits 12 = .ok (.astore_n 3, 1) := by decide +kernel
theorem dL_fits_13 : decode cL_fits 13 = .ok (.iconst 1, 1) := by decide +kernel
theorem dL_fits_14 : decode cL_fits 14 = .ok (.ireturn, 1) := by decide +kernel
theorem dL_fits_15 : decode cL_fits 15 = .ok (.iconst 0, 1) := by decide +kernel
theorem dL_fits_16 : decode cL_fits 16 = .ok (.ireturn, 1) := by decide +kernel
theorem dL_early_0 : decode cL_early 0 = .ok (.aload_n 2, 1) := by decide +kernel
theorem dL_early_1 : decode cL_early 1 = .ok (.iconst 0, 1) := by decide +kernel
theorem dL_early_2 : decode cL_early 2 = .ok (.aload_n 0, 1) := by decide +kernel
theorem dL_early_3 : decode cL_early 3 = .ok (.iload_n 1, 1) := by decide +kernel
theorem dL_early_4 : decode cL_early 4 = .ok (.invokevirtual 106, 3) := by decide +kernel
theorem dL_early_7 : decode cL_early 7 = .ok (.i2l, 1) := by decide +kernel
theorem dL_early_8 : decode cL_early 8 = .ok (.lastore, 1) := by decide +kernel
theorem dL_early_9 : decode cL_early 9 = .ok (.goto 6, 3) := by decide +kernel
theorem dL_early_12 : decode cL_early 12 = .ok (.astore_n 3, 1) := by decide +kernel
theorem dL_early_13 : decode cL_early 13 = .ok (.iconst 1, 1) := by decide +kernel
theorem dL_early_14 : decode cL_early 14 = .ok (.ireturn, 1) := by decide +kernel
theorem dL_early_15 : decode cL_early 15 = .ok (.iconst 0, 1) := by decide +kernel
theorem dL_early_16 : decode cL_early 16 = .ok (.ireturn, 1) := by decide +kernel
theorem dL_hotel_0 : decode cL_hotel 0 = .ok (.aload_n 3, 1) := by decide +kernel
theorem dL_hotel_1 : decode cL_hotel 1 = .ok (.iconst 0, 1) := by decide +kernel
theorem dL_hotel_2 : decode cL_hotel 2 = .ok (.aload_n 0, 1) := by decide +kernel
theorem dL_hotel_3 : decode cL_hotel 3 = .ok (.iload_n 1, 1) := by decide +kernel
theorem dL_hotel_4 : decode cL_hotel 4 = .ok (.iload_n 2, 1) := by decide +kernel
theorem dL_hotel_5 : decode cL_hotel 5 = .ok (.invokevirtual 109, 3) := by decide +kernel
theorem dL_hotel_8 : decode cL_hotel 8 = .ok (.i2l, 1) := by decide +kernel
theorem dL_hotel_9 : decode cL_hotel 9 = .ok (.lastore, 1) := by decide +kernel
theorem dL_hotel_10 : decode cL_hotel 10 = .ok (.goto 7, 3) := by decide +kernel
theorem dL_hotel_13 : decode cL_hotel 13 = .ok (.astore 4, 2) := by decide +kernel
theorem dL_hotel_15 : decode cL_hotel 15 = .ok (.iconst 1, 1) := by decide +kernel
theorem dL_hotel_16 : decode cL_hotel 16 = .ok (.ireturn, 1) := by decide +kernel
theorem dL_hotel_17 : decode cL_hotel 17 = .ok (.iconst 0, 1) := by decide +kernel
theorem dL_hotel_18 : decode cL_hotel 18 = .ok (.ireturn, 1) := by decide +kernel
theorem dL_hire_0 : decode cL_hire 0 = .ok (.aload_n 2, 1) := by decide +kernel
theorem dL_hire_1 : decode cL_hire 1 = .ok (.iconst 0, 1) := by decide +kernel
theorem dL_hire_2 : decode cL_hire 2 = .ok (.aload_n 0, 1) := by decide +kernel
theorem dL_hire_3 : decode cL_hire 3 = .ok (.iload_n 1, 1) := by decide +kernel
theorem dL_hire_4 : decode cL_hire 4 = .ok (.invokevirtual 112, 3) := by decide +kernel
theorem dL_hire_7 : decode cL_hire 7 = .ok (.i2l, 1) := by decide +kernel
theorem dL_hire_8 : decode cL_hire 8 = .ok (.lastore, 1) := by decide +kernel
theorem dL_hire_9 : decode cL_hire 9 = .ok (.goto 6, 3) := by decide +kernel
theorem dL_hire_12 : decode cL_hire 12 = .ok (.astore_n 3, 1) := by decide +kernel
theorem dL_hire_13 : decode cL_hire 13 = .ok (.iconst 1, 1) := by decide +kernel
theorem dL_hire_14 : decode cL_hire 14 = .ok (.ireturn, 1) := by decide +kernel
theorem dL_hire_15 : decode cL_hire 15 = .ok (.iconst 0, 1) := by decide +kernel
theorem dL_hire_16 : decode cL_hire 16 = .ok (.ireturn, 1) := by decide +kernel
theorem dL_wakes_0 : decode cL_wakes 0 = .ok (.aload_n 3, 1) := by decide +kernel
theorem dL_wakes_1 : decode cL_wakes 1 = .ok (.iconst 0, 1) := by decide +kernel
theorem dL_wakes_2 : decode cL_wakes 2 = .ok (.aload_n 0, 1) := by decide +kernel
theorem dL_wakes_3 : decode cL_wakes 3 = .ok (.iload_n 1, 1) := by decide +kernel
theorem dL_wakes_4 : decode cL_wakes 4 = .ok (.iload_n 2, 1) := by decide +kernel
theorem dL_wakes_5 : decode cL_wakes 5 = .ok (.invokevirtual 115, 3) := by decide +kernel
theorem dL_wakes_8 : decode cL_wakes 8 = .ok (.i2l, 1) := by decide +kernel
theorem dL_wakes_9 : decode cL_wakes 9 = .ok (.lastore, 1) := by decide +kernel
theorem dL_wakes_10 : decode cL_wakes 10 = .ok (.goto 11, 3) := by decide +kernel
theorem dL_wakes_13 : decode cL_wakes 13 = .ok (.astore 4, 2) := by decide +kernel
theorem dL_wakes_15 : decode cL_wakes 15 = .ok (.iconst 1, 1) := by decide +kernel
theorem dL_wakes_16 : decode cL_wakes 16 = .ok (.ireturn, 1) := by decide +kernel
theorem dL_wakes_17 : decode cL_wakes 17 = .ok (.astore 4, 2) := by decide +kernel
theorem dL_wakes_19 : decode cL_wakes 19 = .ok (.iconst 2, 1) := by decide +kernel
theorem dL_wakes_20 : decode cL_wakes 20 = .ok (.ireturn, 1) := by decide +kernel
theorem dL_wakes_21 : decode cL_wakes 21 = .ok (.iconst 0, 1) := by decide +kernel
theorem dL_wakes_22 : decode cL_wakes 22 = .ok (.ireturn, 1) := by decide +kernel

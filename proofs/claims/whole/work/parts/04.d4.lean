theorem dX12_by_0 : decode cX12_by 0 = .ok (.iload_n 0, 1) := by decide +kernel
theorem dX12_by_1 : decode cX12_by 1 = .ok (.tableswitch 136 2 10 #[51, 55, 59, 63, 85, 102, 108, 114, 125], 51) := by decide +kernel
theorem dX12_by_52 : decode cX12_by 52 = .ok (.iload_n 1, 1) := by decide +kernel
theorem dX12_by_53 : decode cX12_by 53 = .ok (.iload_n 2, 1) := by decide +kernel
theorem dX12_by_54 : decode cX12_by 54 = .ok (.iadd, 1) := by decide +kernel
theorem dX12_by_55 : decode cX12_by 55 = .ok (.ireturn, 1) := by decide +kernel
theorem dX12_by_56 : decode cX12_by 56 = .ok (.iload_n 1, 1) := by decide +kernel
theorem dX12_by_57 : decode cX12_by 57 = .ok (.iload_n 2, 1) := by decide +kernel
theorem dX12_by_58 : decode cX12_by 58 = .ok (.isub, 1) := by decide +kernel
theorem dX12_by_59 : decode cX12_by 59 = .ok (.ireturn, 1) := by decide +kernel
theorem dX12_by_60 : decode cX12_by 60 = .ok (.iload_n 1, 1) := by decide +kernel
theorem dX12_by_61 : decode cX12_by 61 = .ok (.iload_n 2, 1) := by decide +kernel
theorem dX12_by_62 : decode cX12_by 62 = .ok (.imul, 1) := by decide +kernel
theorem dX12_by_63 : decode cX12_by 63 = .ok (.ireturn, 1) := by decide +kernel
theorem dX12_by_64 : decode cX12_by 64 = .ok (.iload_n 2, 1) := by decide +kernel
theorem dX12_by_65 : decode cX12_by 65 = .ok (.ifCond .ne 7, 3) := by decide +kernel
theorem dX12_by_68 : decode cX12_by 68 = .ok (.iconst 0, 1) := by decide +kernel
theorem dX12_by_69 : decode cX12_by 69 = .ok (.goto 16, 3) := by decide +kernel
theorem dX12_by_72 : decode cX12_by 72 = .ok (.iload_n 2, 1) := by decide +kernel
theorem dX12_by_73 : decode cX12_by 73 = .ok (.iconst (-1), 1) := by decide +kernel
theorem dX12_by_74 : decode cX12_by 74 = .ok (.if_icmp .ne 8, 3) := by decide +kernel
theorem dX12_by_77 : decode cX12_by 77 = .ok (.iload_n 1, 1) := by decide +kernel
theorem dX12_by_78 : decode cX12_by 78 = .ok (.ineg, 1) := by decide +kernel
theorem dX12_by_79 : decode cX12_by 79 = .ok (.goto 6, 3) := by decide +kernel
theorem dX12_by_82 : decode cX12_by 82 = .ok (.iload_n 1, 1) := by decide +kernel
theorem dX12_by_83 : decode cX12_by 83 = .ok (.iload_n 2, 1) := by decide +kernel
theorem dX12_by_84 : decode cX12_by 84 = .ok (.idiv, 1) := by decide +kernel
theorem dX12_by_85 : decode cX12_by 85 = .ok (.ireturn, 1) := by decide +kernel
theorem dX12_by_86 : decode cX12_by 86 = .ok (.iload_n 2, 1) := by decide +kernel
theorem dX12_by_87 : decode cX12_by 87 = .ok (.ifCond .eq 8, 3) := by decide +kernel
theorem dX12_by_90 : decode cX12_by 90 = .ok (.iload_n 2, 1) := by decide +kernel
theorem dX12_by_91 : decode cX12_by 91 = .ok (.iconst (-1), 1) := by decide +kernel
theorem dX12_by_92 : decode cX12_by 92 = .ok (.if_icmp .ne 7, 3) := by decide +kernel
theorem dX12_by_95 : decode cX12_by 95 = .ok (.iconst 0, 1) := by decide +kernel
theorem dX12_by_96 : decode cX12_by 96 = .ok (.goto 6, 3) := by decide +kernel
theorem dX12_by_99 : decode cX12_by 99 = .ok (.iload_n 1, 1) := by decide +kernel
theorem dX12_by_100 : decode cX12_by 100 = .ok (.iload_n 2, 1) := by decide +kernel
theorem dX12_by_101 : decode cX12_by 101 = .ok (.irem, 1) := by decide +kernel
theorem dX12_by_102 : decode cX12_by 102 = .ok (.ireturn, 1) := by decide +kernel
theorem dX12_by_103 : decode cX12_by 103 = .ok (.iload_n 1, 1) := by decide +kernel
theorem dX12_by_104 : decode cX12_by 104 = .ok (.iload_n 2, 1) := by decide +kernel
theorem dX12_by_105 : decode cX12_by 105 = .ok (.invokestatic 288, 3) := by decide +kernel
theorem dX12_by_108 : decode cX12_by 108 = .ok (.ireturn, 1) := by decide +kernel
theorem dX12_by_109 : decode cX12_by 109 = .ok (.iload_n 1, 1) := by decide +kernel
theorem dX12_by_110 : decode cX12_by 110 = .ok (.iload_n 2, 1) := by decide +kernel
theorem dX12_by_111 : decode cX12_by 111 = .ok (.invokestatic 291, 3) := by decide +kernel
theorem dX12_by_114 : decode cX12_by 114 = .ok (.ireturn, 1) := by decide +kernel
theorem dX12_by_115 : decode cX12_by 115 = .ok (.iload_n 1, 1) := by decide +kernel
theorem dX12_by_116 : decode cX12_by 116 = .ok (.iload_n 2, 1) := by decide +kernel
theorem dX12_by_117 : decode cX12_by 117 = .ok (.if_icmp .ge 7, 3) := by decide +kernel
theorem dX12_by_120 : decode cX12_by 120 = .ok (.iconst 1, 1) := by decide +kernel
theorem dX12_by_121 : decode cX12_by 121 = .ok (.goto 4, 3) := by decide +kernel
theorem dX12_by_124 : decode cX12_by 124 = .ok (.iconst 0, 1) := by decide +kernel
theorem dX12_by_125 : decode cX12_by 125 = .ok (.ireturn, 1) := by decide +kernel
theorem dX12_by_126 : decode cX12_by 126 = .ok (.iload_n 1, 1) := by decide +kernel
theorem dX12_by_127 : decode cX12_by 127 = .ok (.iload_n 2, 1) := by decide +kernel
theorem dX12_by_128 : decode cX12_by 128 = .ok (.if_icmp .le 7, 3) := by decide +kernel
theorem dX12_by_131 : decode cX12_by 131 = .ok (.iconst 1, 1) := by decide +kernel
theorem dX12_by_132 : decode cX12_by 132 = .ok (.goto 4, 3) := by decide +kernel
theorem dX12_by_135 : decode cX12_by 135 = .ok (.iconst 0, 1) := by decide +kernel
theorem dX12_by_136 : decode cX12_by 136 = .ok (.ireturn, 1) := by decide +kernel
theorem dX12_by_137 : decode cX12_by 137 = .ok (.iload_n 1, 1) := by decide +kernel
theorem dX12_by_138 : decode cX12_by 138 = .ok (.iload_n 2, 1) := by decide +kernel
theorem dX12_by_139 : decode cX12_by 139 = .ok (.if_icmp .ne 7, 3) := by decide +kernel
theorem dX12_by_142 : decode cX12_by 142 = .ok (.iconst 1, 1) := by decide +kernel
theorem dX12_by_143 : decode cX12_by 143 = .ok (.goto 4, 3) := by decide +kernel
theorem dX12_by_146 : decode cX12_by 146 = .ok (.iconst 0, 1) := by decide +kernel
theorem dX12_by_147 : decode cX12_by 147 = .ok (.ireturn, 1) := by decide +kernel
theorem dX12_comesBy_0 : decode cX12_comesBy 0 = .ok (.aload_n 0, 1) := by decide +kernel
theorem dX12_comesBy_1 : decode cX12_comesBy 1 = .ok (.getfield 40, 3) := by decide +kernel
theorem dX12_comesBy_4 : decode cX12_comesBy 4 = .ok (.iload_n 1, 1) := by decide +kernel
theorem dX12_comesBy_5 : decode cX12_comesBy 5 = .ok (.iaload, 1) := by decide +kernel
theorem dX12_comesBy_6 : decode cX12_comesBy 6 = .ok (.ifCond .ne 11, 3) := by decide +kernel
theorem dX12_comesBy_9 : decode cX12_comesBy 9 = .ok (.aload_n 0, 1) := by decide +kernel
theorem dX12_comesBy_10 : decode cX12_comesBy 10 = .ok (.getfield 46, 3) := by decide +kernel
theorem dX12_comesBy_13 : decode cX12_comesBy 13 = .ok (.bipush 8, 2) := by decide +kernel
theorem dX12_comesBy_15 : decode cX12_comesBy 15 = .ok (.iaload, 1) := by decide +kernel
theorem dX12_comesBy_16 : decode cX12_comesBy 16 = .ok (.ireturn, 1) := by decide +kernel
theorem dX12_comesBy_17 : decode cX12_comesBy 17 = .ok (.iconst 0, 1) := by decide +kernel
theorem dX12_comesBy_18 : decode cX12_comesBy 18 = .ok (.istore_n 2, 1) := by decide +kernel
theorem dX12_comesBy_19 : decode cX12_comesBy 19 = .ok (.iconst 0, 1) := by decide +kernel
theorem dX12_comesBy_20 : decode cX12_comesBy 20 = .ok (.istore_n 3, 1) := by decide +kernel
theorem dX12_comesBy_21 : decode cX12_comesBy 21 = .ok (.iload_n 3, 1) := by decide +kernel
theorem dX12_comesBy_22 : decode cX12_comesBy 22 = .ok (.aload_n 0, 1) := by decide +kernel
theorem dX12_comesBy_23 : decode cX12_comesBy 23 = .ok (.getfield 40, 3) := by decide +kernel
theorem dX12_comesBy_26 : decode cX12_comesBy 26 = .ok (.iload_n 1, 1) := by decide +kernel
theorem dX12_comesBy_27 : decode cX12_comesBy 27 = .ok (.iaload, 1) := by decide +kernel
theorem dX12_comesBy_28 : decode cX12_comesBy 28 = .ok (.if_icmp .ge 150, 3) := by decide +kernel
theorem dX12_comesBy_31 : decode cX12_comesBy 31 = .ok (.aload_n 0, 1) := by decide +kernel
theorem dX12_comesBy_32 : decode cX12_comesBy 32 = .ok (.getfield 52, 3) := by decide +kernel
theorem dX12_comesBy_35 : decode cX12_comesBy 35 = .ok (.iload_n 1, 1) := by decide +kernel
theorem dX12_comesBy_36 : decode cX12_comesBy 36 = .ok (.aaload, 1) := by decide +kernel
theorem dX12_comesBy_37 : decode cX12_comesBy 37 = .ok (.iconst 2, 1) := by decide +kernel
theorem dX12_comesBy_38 : decode cX12_comesBy 38 = .ok (.iload_n 3, 1) := by decide +kernel
theorem dX12_comesBy_39 : decode cX12_comesBy 39 = .ok (.imul, 1) := by decide +kernel
theorem dX12_comesBy_40 : decode cX12_comesBy 40 = .ok (.iaload, 1) := by decide +kernel
theorem dX12_comesBy_41 : decode cX12_comesBy 41 = .ok (.istore 4, 2) := by decide +kernel
theorem dX12_comesBy_43 : decode cX12_comesBy 43 = .ok (.aload_n 0, 1) := by decide +kernel
theorem dX12_comesBy_44 : decode cX12_comesBy 44 = .ok (.getfield 52, 3) := by decide +kernel
theorem dX12_comesBy_47 : decode cX12_comesBy 47 = .ok (.iload_n 1, 1) := by decide +kernel
theorem dX12_comesBy_48 : decode cX12_comesBy 48 = .ok (.aaload, 1) := by decide +kernel
theorem dX12_comesBy_49 : decode cX12_comesBy 49 = .ok (.iconst 2, 1) := by decide +kernel
theorem dX12_comesBy_50 : decode cX12_comesBy 50 = .ok (.iload_n 3, 1) := by decide +kernel
theorem dX12_comesBy_51 : decode cX12_comesBy 51 = .ok (.imul, 1) := by decide +kernel
theorem dX12_comesBy_52 : decode cX12_comesBy 52 = .ok (.iconst 1, 1) := by decide +kernel
theorem dX12_comesBy_53 : decode cX12_comesBy 53 = .ok (.iadd, 1) := by decide +kernel
theorem dX12_comesBy_54 : decode cX12_comesBy 54 = .ok (.iaload, 1) := by decide +kernel
theorem dX12_comesBy_55 : decode cX12_comesBy 55 = .ok (.istore 5, 2) := by decide +kernel
theorem dX12_comesBy_57 : decode cX12_comesBy 57 = .ok (.iload 4, 2) := by decide +kernel
theorem dX12_comesBy_59 : decode cX12_comesBy 59 = .ok (.iconst 2, 1) := by decide +kernel
theorem dX12_comesBy_60 : decode cX12_comesBy 60 = .ok (.if_icmp .ge 32, 3) := by decide +kernel
theorem dX12_comesBy_63 : decode cX12_comesBy 63 = .ok (.aload_n 0, 1) := by decide +kernel
theorem dX12_comesBy_64 : decode cX12_comesBy 64 = .ok (.getfield 43, 3) := by decide +kernel
theorem dX12_comesBy_67 : decode cX12_comesBy 67 = .ok (.iload_n 2, 1) := by decide +kernel
theorem dX12_comesBy_68 : decode cX12_comesBy 68 = .ok (.iload 4, 2) := by decide +kernel
theorem dX12_comesBy_70 : decode cX12_comesBy 70 = .ok (.ifCond .ne 8, 3) := by decide +kernel
theorem dX12_comesBy_73 : decode cX12_comesBy 73 = .ok (.iload 5, 2) := by decide +kernel
theorem dX12_comesBy_75 : decode cX12_comesBy 75 = .ok (.goto 10, 3) := by decide +kernel
theorem dX12_comesBy_78 : decode cX12_comesBy 78 = .ok (.aload_n 0, 1) := by decide +kernel
theorem dX12_comesBy_79 : decode cX12_comesBy 79 = .ok (.getfield 46, 3) := by decide +kernel
theorem dX12_comesBy_82 : decode cX12_comesBy 82 = .ok (.iload 5, 2) := by decide +kernel
theorem dX12_comesBy_84 : decode cX12_comesBy 84 = .ok (.iaload, 1) := by decide +kernel
theorem dX12_comesBy_85 : decode cX12_comesBy 85 = .ok (.iastore, 1) := by decide +kernel
theorem dX12_comesBy_86 : decode cX12_comesBy 86 = .ok (.iinc 2 1, 3) := by decide +kernel
theorem dX12_comesBy_89 : decode cX12_comesBy 89 = .ok (.goto 83, 3) := by decide +kernel
theorem dX12_comesBy_92 : decode cX12_comesBy 92 = .ok (.iload 4, 2) := by decide +kernel
theorem dX12_comesBy_94 : decode cX12_comesBy 94 = .ok (.bipush 12, 2) := by decide +kernel
theorem dX12_comesBy_96 : decode cX12_comesBy 96 = .ok (.if_icmp .ne 46, 3) := by decide +kernel
theorem dX12_comesBy_99 : decode cX12_comesBy 99 = .ok (.iinc 2 (-2), 3) := by decide +kernel
theorem dX12_comesBy_102 : decode cX12_comesBy 102 = .ok (.aload_n 0, 1) := by decide +kernel
theorem dX12_comesBy_103 : decode cX12_comesBy 103 = .ok (.getfield 43, 3) := by decide +kernel
theorem dX12_comesBy_106 : decode cX12_comesBy 106 = .ok (.iload_n 2, 1) := by decide +kernel
theorem dX12_comesBy_107 : decode cX12_comesBy 107 = .ok (.iconst 1, 1) := by decide +kernel
theorem dX12_comesBy_108 : decode cX12_comesBy 108 = .ok (.isub, 1) := by decide +kernel
theorem dX12_comesBy_109 : decode cX12_comesBy 109 = .ok (.aload_n 0, 1) := by decide +kernel
theorem dX12_comesBy_110 : decode cX12_comesBy 110 = .ok (.getfield 43, 3) := by decide +kernel
theorem dX12_comesBy_113 : decode cX12_comesBy 113 = .ok (.iload_n 2, 1) := by decide +kernel
theorem dX12_comesBy_114 : decode cX12_comesBy 114 = .ok (.iconst 1, 1) := by decide +kernel
theorem dX12_comesBy_115 : decode cX12_comesBy 115 = .ok (.isub, 1) := by decide +kernel
theorem dX12_comesBy_116 : decode cX12_comesBy 116 = .ok (.iaload, 1) := by decide +kernel
theorem dX12_comesBy_117 : decode cX12_comesBy 117 = .ok (.iconst 1, 1) := by decide +kernel
theorem dX12_comesBy_118 : decode cX12_comesBy 118 = .ok (.if_icmp .ne 12, 3) := by decide +kernel
theorem dX12_comesBy_121 : decode cX12_comesBy 121 = .ok (.aload_n 0, 1) := by decide +kernel
theorem dX12_comesBy_122 : decode cX12_comesBy 122 = .ok (.getfield 43, 3) := by decide +kernel
theorem dX12_comesBy_125 : decode cX12_comesBy 125 = .ok (.iload_n 2, 1) := by decide +kernel
theorem dX12_comesBy_126 : decode cX12_comesBy 126 = .ok (.iaload, 1) := by decide +kernel
theorem dX12_comesBy_127 : decode cX12_comesBy 127 = .ok (.goto 11, 3) := by decide +kernel
theorem dX12_comesBy_130 : decode cX12_comesBy 130 = .ok (.aload_n 0, 1) := by decide +kernel
theorem dX12_comesBy_131 : decode cX12_comesBy 131 = .ok (.getfield 43, 3) := by decide +kernel
theorem dX12_comesBy_134 : decode cX12_comesBy 134 = .ok (.iload_n 2, 1) := by decide +kernel
theorem dX12_comesBy_135 : decode cX12_comesBy 135 = .ok (.iconst 1, 1) := by decide +kernel
theorem dX12_comesBy_136 : decode cX12_comesBy 136 = .ok (.iadd, 1) := by decide +kernel
theorem dX12_comesBy_137 : decode cX12_comesBy 137 = .ok (.iaload, 1) := by decide +kernel
theorem dX12_comesBy_138 : decode cX12_comesBy 138 = .ok (.iastore, 1) := by decide +kernel
theorem dX12_comesBy_139 : decode cX12_comesBy 139 = .ok (.goto 33, 3) := by decide +kernel
theorem dX12_comesBy_142 : decode cX12_comesBy 142 = .ok (.iinc 2 (-1), 3) := by decide +kernel
theorem dX12_comesBy_145 : decode cX12_comesBy 145 = .ok (.aload_n 0, 1) := by decide +kernel
theorem dX12_comesBy_146 : decode cX12_comesBy 146 = .ok (.getfield 43, 3) := by decide +kernel
theorem dX12_comesBy_149 : decode cX12_comesBy 149 = .ok (.iload_n 2, 1) := by decide +kernel
theorem dX12_comesBy_150 : decode cX12_comesBy 150 = .ok (.iconst 1, 1) := by decide +kernel
theorem dX12_comesBy_151 : decode cX12_comesBy 151 = .ok (.isub, 1) := by decide +kernel
theorem dX12_comesBy_152 : decode cX12_comesBy 152 = .ok (.iload 4, 2) := by decide +kernel
theorem dX12_comesBy_154 : decode cX12_comesBy 154 = .ok (.aload_n 0, 1) := by decide +kernel
theorem dX12_comesBy_155 : decode cX12_comesBy 155 = .ok (.getfield 43, 3) := by decide +kernel
theorem dX12_comesBy_158 : decode cX12_comesBy 158 = .ok (.iload_n 2, 1) := by decide +kernel
theorem dX12_comesBy_159 : decode cX12_comesBy 159 = .ok (.iconst 1, 1) := by decide +kernel
theorem dX12_comesBy_160 : decode cX12_comesBy 160 = .ok (.isub, 1) := by decide +kernel
theorem dX12_comesBy_161 : decode cX12_comesBy 161 = .ok (.iaload, 1) := by decide +kernel
theorem dX12_comesBy_162 : decode cX12_comesBy 162 = .ok (.aload_n 0, 1) := by decide +kernel
theorem dX12_comesBy_163 : decode cX12_comesBy 163 = .ok (.getfield 43, 3) := by decide +kernel
theorem dX12_comesBy_166 : decode cX12_comesBy 166 = .ok (.iload_n 2, 1) := by decide +kernel
theorem dX12_comesBy_167 : decode cX12_comesBy 167 = .ok (.iaload, 1) := by decide +kernel
theorem dX12_comesBy_168 : decode cX12_comesBy 168 = .ok (.invokestatic 294, 3) := by decide +kernel
theorem dX12_comesBy_171 : decode cX12_comesBy 171 = .ok (.iastore, 1) := by decide +kernel
theorem dX12_comesBy_172 : decode cX12_comesBy 172 = .ok (.iinc 3 1, 3) := by decide +kernel
theorem dX12_comesBy_175 : decode cX12_comesBy 175 = .ok (.goto (-154), 3) := by decide +kernel
theorem dX12_comesBy_178 : decode cX12_comesBy 178 = .ok (.iconst 0, 1) := by decide +kernel
theorem dX12_comesBy_179 : decode cX12_comesBy 179 = .ok (.bipush 23, 2) := by decide +kernel
theorem dX12_comesBy_181 : decode cX12_comesBy 181 = .ok (.aload_n 0, 1) := by decide +kernel
theorem dX12_comesBy_182 : decode cX12_comesBy 182 = .ok (.getfield 43, 3) := by decide +kernel
theorem dX12_comesBy_185 : decode cX12_comesBy 185 = .ok (.iconst 0, 1) := by decide +kernel
theorem dX12_comesBy_186 : decode cX12_comesBy 186 = .ok (.iaload, 1) := by decide +kernel
theorem dX12_comesBy_187 : decode cX12_comesBy 187 = .ok (.invokestatic 288, 3) := by decide +kernel
theorem dX12_comesBy_190 : decode cX12_comesBy 190 = .ok (.invokestatic 291, 3) := by decide +kernel
theorem dX12_comesBy_193 : decode cX12_comesBy 193 = .ok (.ireturn, 1) := by decide +kernel
theorem dX12_knowsSelf_0 : decode cX12_knowsSelf 0 = .ok (.aload_n 0, 1) := by decide +kernel
theorem dX12_knowsSelf_1 : decode cX12_knowsSelf 1 = .ok (.getfield 46, 3) := by decide +kernel
theorem dX12_knowsSelf_4 : decode cX12_knowsSelf 4 = .ok (.bipush 7, 2) := by decide +kernel
theorem dX12_knowsSelf_6 : decode cX12_knowsSelf 6 = .ok (.aload_n 0, 1) := by decide +kernel
theorem dX12_knowsSelf_7 : decode cX12_knowsSelf 7 = .ok (.getfield 37, 3) := by decide +kernel
theorem dX12_knowsSelf_10 : decode cX12_knowsSelf 10 = .ok (.iload_n 1, 1) := by decide +kernel
theorem dX12_knowsSelf_11 : decode cX12_knowsSelf 11 = .ok (.aaload, 1) := by decide +kernel
theorem dX12_knowsSelf_12 : decode cX12_knowsSelf 12 = .ok (.iconst 1, 1) := by decide +kernel
theorem dX12_knowsSelf_13 : decode cX12_knowsSelf 13 = .ok (.iaload, 1) := by decide +kernel
theorem dX12_knowsSelf_14 : decode cX12_knowsSelf 14 = .ok (.iastore, 1) := by decide +kernel
theorem dX12_knowsSelf_15 : decode cX12_knowsSelf 15 = .ok (.aload_n 0, 1) := by decide +kernel
theorem dX12_knowsSelf_16 : decode cX12_knowsSelf 16 = .ok (.getfield 46, 3) := by decide +kernel
theorem dX12_knowsSelf_19 : decode cX12_knowsSelf 19 = .ok (.bipush 8, 2) := by decide +kernel
theorem dX12_knowsSelf_21 : decode cX12_knowsSelf 21 = .ok (.aload_n 0, 1) := by decide +kernel
theorem dX12_knowsSelf_22 : decode cX12_knowsSelf 22 = .ok (.getfield 37, 3) := by decide +kernel
theorem dX12_knowsSelf_25 : decode cX12_knowsSelf 25 = .ok (.iload_n 1, 1) := by decide +kernel
theorem dX12_knowsSelf_26 : decode cX12_knowsSelf 26 = .ok (.aaload, 1) := by decide +kernel
theorem dX12_knowsSelf_27 : decode cX12_knowsSelf 27 = .ok (.iconst 0, 1) := by decide +kernel
theorem dX12_knowsSelf_28 : decode cX12_knowsSelf 28 = .ok (.iaload, 1) := by decide +kernel
theorem dX12_knowsSelf_29 : decode cX12_knowsSelf 29 = .ok (.iastore, 1) := by decide +kernel
theorem dX12_knowsSelf_30 : decode cX12_knowsSelf 30 = .ok (.aload_n 0, 1) := by decide +kernel
theorem dX12_knowsSelf_31 : decode cX12_knowsSelf 31 = .ok (.getfield 46, 3) := by decide +kernel
theorem dX12_knowsSelf_34 : decode cX12_knowsSelf 34 = .ok (.bipush 9, 2) := by decide +kernel
theorem dX12_knowsSelf_36 : decode cX12_knowsSelf 36 = .ok (.aload_n 0, 1) := by decide +kernel
theorem dX12_knowsSelf_37 : decode cX12_knowsSelf 37 = .ok (.getfield 23, 3) := by decide +kernel
theorem dX12_knowsSelf_40 : decode cX12_knowsSelf 40 = .ok (.iconst 0, 1) := by decide +kernel
theorem dX12_knowsSelf_41 : decode cX12_knowsSelf 41 = .ok (.iaload, 1) := by decide +kernel
theorem dX12_knowsSelf_42 : decode cX12_knowsSelf 42 = .ok (.iastore, 1) := by decide +kernel
theorem dX12_knowsSelf_43 : decode cX12_knowsSelf 43 = .ok (.aload_n 0, 1) := by decide +kernel
theorem dX12_knowsSelf_44 : decode cX12_knowsSelf 44 = .ok (.getfield 46, 3) := by decide +kernel
theorem dX12_knowsSelf_47 : decode cX12_knowsSelf 47 = .ok (.bipush 10, 2) := by decide +kernel
theorem dX12_knowsSelf_49 : decode cX12_knowsSelf 49 = .ok (.aload_n 0, 1) := by decide +kernel
theorem dX12_knowsSelf_50 : decode cX12_knowsSelf 50 = .ok (.getfield 23, 3) := by decide +kernel
theorem dX12_knowsSelf_53 : decode cX12_knowsSelf 53 = .ok (.iconst 1, 1) := by decide +kernel
theorem dX12_knowsSelf_54 : decode cX12_knowsSelf 54 = .ok (.iaload, 1) := by decide +kernel
theorem dX12_knowsSelf_55 : decode cX12_knowsSelf 55 = .ok (.iastore, 1) := by decide +kernel
theorem dX12_knowsSelf_56 : decode cX12_knowsSelf 56 = .ok (.return_, 1) := by decide +kernel
theorem dX12_would_0 : decode cX12_would 0 = .ok (.aload_n 0, 1) := by decide +kernel
theorem dX12_would_1 : decode cX12_would 1 = .ok (.iconst 0, 1) := by decide +kernel
theorem dX12_would_2 : decode cX12_would 2 = .ok (.putfield 158, 3) := by decide +kernel
theorem dX12_would_5 : decode cX12_would 5 = .ok (.aload_n 0, 1) := by decide +kernel
theorem dX12_would_6 : decode cX12_would 6 = .ok (.aload_n 0, 1) := by decide +kernel
theorem dX12_would_7 : decode cX12_would 7 = .ok (.iload_n 1, 1) := by decide +kernel
theorem dX12_would_8 : decode cX12_would 8 = .ok (.invokevirtual 285, 3) := by decide +kernel
theorem dX12_would_11 : decode cX12_would 11 = .ok (.ifCond .ne 7, 3) := by decide +kernel
theorem dX12_would_14 : decode cX12_would 14 = .ok (.iconst 1, 1) := by decide +kernel
theorem dX12_would_15 : decode cX12_would 15 = .ok (.goto 4, 3) := by decide +kernel
theorem dX12_would_18 : decode cX12_would 18 = .ok (.iconst 0, 1) := by decide +kernel
theorem dX12_would_19 : decode cX12_would 19 = .ok (.iconst 1, 1) := by decide +kernel
theorem dX12_would_20 : decode cX12_would 20 = .ok (.iconst 0, 1) := by decide +kernel
theorem dX12_would_21 : decode cX12_would 21 = .ok (.invokevirtual 228, 3) := by decide +kernel
theorem dX12_would_24 : decode cX12_would 24 = .ok (.ifCond .ne 69, 3) := by decide +kernel
theorem dX12_would_27 : decode cX12_would 27 = .ok (.aload_n 0, 1) := by decide +kernel
theorem dX12_would_28 : decode cX12_would 28 = .ok (.iload_n 2, 1) := by decide +kernel
theorem dX12_would_29 : decode cX12_would 29 = .ok (.invokestatic 298, 3) := by decide +kernel
theorem dX12_would_32 : decode cX12_would 32 = .ok (.ifCond .eq 48, 3) := by decide +kernel
theorem dX12_would_35 : decode cX12_would 35 = .ok (.iload_n 3, 1) := by decide +kernel
theorem dX12_would_36 : decode cX12_would 36 = .ok (.invokestatic 298, 3) := by decide +kernel
theorem dX12_would_39 : decode cX12_would 39 = .ok (.ifCond .eq 41, 3) := by decide +kernel
theorem dX12_would_42 : decode cX12_would 42 = .ok (.iload 4, 2) := by decide +kernel
theorem dX12_would_44 : decode cX12_would 44 = .ok (.invokestatic 298, 3) := by decide +kernel
theorem dX12_would_47 : decode cX12_would 47 = .ok (.ifCond .eq 33, 3) := by decide +kernel
theorem dX12_would_50 : decode cX12_would 50 = .ok (.iload 5, 2) := by decide +kernel
theorem dX12_would_52 : decode cX12_would 52 = .ok (.iconst 0, 1) := by decide +kernel
theorem dX12_would_53 : decode cX12_would 53 = .ok (.iconst 1, 1) := by decide +kernel
theorem dX12_would_54 : decode cX12_would 54 = .ok (.invokestatic 192, 3) := by decide +kernel
theorem dX12_would_57 : decode cX12_would 57 = .ok (.ifCond .eq 23, 3) := by decide +kernel
theorem dX12_would_60 : decode cX12_would 60 = .ok (.iload 6, 2) := by decide +kernel
theorem dX12_would_62 : decode cX12_would 62 = .ok (.invokestatic 298, 3) := by decide +kernel
theorem dX12_would_65 : decode cX12_would 65 = .ok (.ifCond .eq 15, 3) := by decide +kernel
theorem dX12_would_68 : decode cX12_would 68 = .ok (.iload 7, 2) := by decide +kernel
theorem dX12_would_70 : decode cX12_would 70 = .ok (.iconst 0, 1) := by decide +kernel
theorem dX12_would_71 : decode cX12_would 71 = .ok (.sipush 999, 3) := by decide +kernel
theorem dX12_would_74 : decode cX12_would 74 = .ok (.invokestatic 192, 3) := by decide +kernel
theorem dX12_would_77 : decode cX12_would 77 = .ok (.ifCond .ne 7, 3) := by decide +kernel
theorem dX12_would_80 : decode cX12_would 80 = .ok (.iconst 1, 1) := by decide +kernel
theorem dX12_would_81 : decode cX12_would 81 = .ok (.goto 4, 3) := by decide +kernel
theorem dX12_would_84 : decode cX12_would 84 = .ok (.iconst 0, 1) := by decide +kernel
theorem dX12_would_85 : decode cX12_would 85 = .ok (.iconst 2, 1) := by decide +kernel
theorem dX12_would_86 : decode cX12_would 86 = .ok (.iconst 1, 1) := by decide +kernel
theorem dX12_would_87 : decode cX12_would 87 = .ok (.invokevirtual 228, 3) := by decide +kernel
theorem dX12_would_90 : decode cX12_would 90 = .ok (.ifCond .eq 5, 3) := by decide +kernel
theorem dX12_would_93 : decode cX12_would 93 = .ok (.iconst 0, 1) := by decide +kernel
theorem dX12_would_94 : decode cX12_would 94 = .ok (.ireturn, 1) := by decide +kernel
theorem dX12_would_95 : decode cX12_would 95 = .ok (.aload_n 0, 1) := by decide +kernel
theorem dX12_would_96 : decode cX12_would 96 = .ok (.getfield 46, 3) := by decide +kernel
theorem dX12_would_99 : decode cX12_would 99 = .ok (.iconst 0, 1) := by decide +kernel
theorem dX12_would_100 : decode cX12_would 100 = .ok (.iload_n 2, 1) := by decide +kernel
theorem dX12_would_101 : decode cX12_would 101 = .ok (.iastore, 1) := by decide +kernel
theorem dX12_would_102 : decode cX12_would 102 = .ok (.aload_n 0, 1) := by decide +kernel
theorem dX12_would_103 : decode cX12_would 103 = .ok (.getfield 46, 3) := by decide +kernel
theorem dX12_would_106 : decode cX12_would 106 = .ok (.iconst 1, 1) := by decide +kernel
theorem dX12_would_107 : decode cX12_would 107 = .ok (.iload_n 3, 1) := by decide +kernel
theorem dX12_would_108 : decode cX12_would 108 = .ok (.iastore, 1) := by decide +kernel
theorem dX12_would_109 : decode cX12_would 109 = .ok (.aload_n 0, 1) := by decide +kernel
theorem dX12_would_110 : decode cX12_would 110 = .ok (.getfield 46, 3) := by decide +kernel
theorem dX12_would_113 : decode cX12_would 113 = .ok (.iconst 2, 1) := by decide +kernel
theorem dX12_would_114 : decode cX12_would 114 = .ok (.iload 4, 2) := by decide +kernel
theorem dX12_would_116 : decode cX12_would 116 = .ok (.iastore, 1) := by decide +kernel
theorem dX12_would_117 : decode cX12_would 117 = .ok (.aload_n 0, 1) := by decide +kernel
theorem dX12_would_118 : decode cX12_would 118 = .ok (.getfield 46, 3) := by decide +kernel
theorem dX12_would_121 : decode cX12_would 121 = .ok (.iconst 3, 1) := by decide +kernel
theorem dX12_would_122 : decode cX12_would 122 = .ok (.iload 5, 2) := by decide +kernel
theorem dX12_would_124 : decode cX12_would 124 = .ok (.iastore, 1) := by decide +kernel
theorem dX12_would_125 : decode cX12_would 125 = .ok (.aload_n 0, 1) := by decide +kernel
theorem dX12_would_126 : decode cX12_would 126 = .ok (.getfield 46, 3) := by decide +kernel
theorem dX12_would_129 : decode cX12_would 129 = .ok (.iconst 4, 1) := by decide +kernel
theorem dX12_would_130 : decode cX12_would 130 = .ok (.iload 6, 2) := by decide +kernel
theorem dX12_would_132 : decode cX12_would 132 = .ok (.iastore, 1) := by decide +kernel
theorem dX12_would_133 : decode cX12_would 133 = .ok (.aload_n 0, 1) := by decide +kernel
theorem dX12_would_134 : decode cX12_would 134 = .ok (.getfield 46, 3) := by decide +kernel
theorem dX12_would_137 : decode cX12_would 137 = .ok (.iconst 5, 1) := by decide +kernel
theorem dX12_would_138 : decode cX12_would 138 = .ok (.iconst 0, 1) := by decide +kernel
theorem dX12_would_139 : decode cX12_would 139 = .ok (.iastore, 1) := by decide +kernel
theorem dX12_would_140 : decode cX12_would 140 = .ok (.aload_n 0, 1) := by decide +kernel
theorem dX12_would_141 : decode cX12_would 141 = .ok (.getfield 46, 3) := by decide +kernel
theorem dX12_would_144 : decode cX12_would 144 = .ok (.bipush 6, 2) := by decide +kernel
theorem dX12_would_146 : decode cX12_would 146 = .ok (.iload 7, 2) := by decide +kernel
theorem dX12_would_148 : decode cX12_would 148 = .ok (.iastore, 1) := by decide +kernel
theorem dX12_would_149 : decode cX12_would 149 = .ok (.aload_n 0, 1) := by decide +kernel
theorem dX12_would_150 : decode cX12_would 150 = .ok (.iload_n 1, 1) := by decide +kernel
theorem dX12_would_151 : decode cX12_would 151 = .ok (.invokevirtual 301, 3) := by decide +kernel
theorem dX12_would_154 : decode cX12_would 154 = .ok (.aload_n 0, 1) := by decide +kernel
theorem dX12_would_155 : decode cX12_would 155 = .ok (.iload_n 1, 1) := by decide +kernel
theorem dX12_would_156 : decode cX12_would 156 = .ok (.invokevirtual 304, 3) := by decide +kernel
theorem dX12_would_159 : decode cX12_would 159 = .ok (.ireturn, 1) := by decide +kernel
theorem dX12_book_0 : decode cX12_book 0 = .ok (.aload_n 0, 1) := by decide +kernel
theorem dX12_book_1 : decode cX12_book 1 = .ok (.iconst 0, 1) := by decide +kernel
theorem dX12_book_2 : decode cX12_book 2 = .ok (.putfield 158, 3) := by decide +kernel
theorem dX12_book_5 : decode cX12_book 5 = .ok (.aload_n 0, 1) := by decide +kernel
theorem dX12_book_6 : decode cX12_book 6 = .ok (.iload_n 1, 1) := by decide +kernel
theorem dX12_book_7 : decode cX12_book 7 = .ok (.iconst 0, 1) := by decide +kernel
theorem dX12_book_8 : decode cX12_book 8 = .ok (.aload_n 0, 1) := by decide +kernel
theorem dX12_book_9 : decode cX12_book 9 = .ok (.getfield 161, 3) := by decide +kernel
theorem dX12_book_12 : decode cX12_book 12 = .ok (.invokestatic 192, 3) := by decide +kernel
theorem dX12_book_15 : decode cX12_book 15 = .ok (.ifCond .eq 10, 3) := by decide +kernel
theorem dX12_book_18 : decode cX12_book 18 = .ok (.iload_n 1, 1) := by decide +kernel
theorem dX12_book_19 : decode cX12_book 19 = .ok (.sipush 150, 3) := by decide +kernel
theorem dX12_book_22 : decode cX12_book 22 = .ok (.if_icmp .le 7, 3) := by decide +kernel
theorem dX12_book_25 : decode cX12_book 25 = .ok (.iconst 1, 1) := by decide +kernel
theorem dX12_book_26 : decode cX12_book 26 = .ok (.goto 4, 3) := by decide +kernel
theorem dX12_book_29 : decode cX12_book 29 = .ok (.iconst 0, 1) := by decide +kernel
theorem dX12_book_30 : decode cX12_book 30 = .ok (.iconst 1, 1) := by decide +kernel
theorem dX12_book_31 : decode cX12_book 31 = .ok (.iconst 1, 1) := by decide +kernel
theorem dX12_book_32 : decode cX12_book 32 = .ok (.invokevirtual 228, 3) := by decide +kernel
theorem dX12_book_35 : decode cX12_book 35 = .ok (.ifCond .eq 5, 3) := by decide +kernel
theorem dX12_book_38 : decode cX12_book 38 = .ok (.iconst 0, 1) := by decide +kernel
theorem dX12_book_39 : decode cX12_book 39 = .ok (.ireturn, 1) := by decide +kernel
theorem dX12_book_40 : decode cX12_book 40 = .ok (.aload_n 0, 1) := by decide +kernel
theorem dX12_book_41 : decode cX12_book 41 = .ok (.iload_n 1, 1) := by decide +kernel
theorem dX12_book_42 : decode cX12_book 42 = .ok (.invokevirtual 232, 3) := by decide +kernel
theorem dX12_book_45 : decode cX12_book 45 = .ok (.iconst 0, 1) := by decide +kernel
theorem dX12_book_46 : decode cX12_book 46 = .ok (.istore_n 2, 1) := by decide +kernel
theorem dX12_book_47 : decode cX12_book 47 = .ok (.aload_n 0, 1) := by decide +kernel
theorem dX12_book_48 : decode cX12_book 48 = .ok (.getfield 174, 3) := by decide +kernel
theorem dX12_book_51 : decode cX12_book 51 = .ok (.ifCond .ne 124, 3) := by decide +kernel
theorem dX12_book_54 : decode cX12_book 54 = .ok (.aload_n 0, 1) := by decide +kernel
theorem dX12_book_55 : decode cX12_book 55 = .ok (.getfield 167, 3) := by decide +kernel
theorem dX12_book_58 : decode cX12_book 58 = .ok (.aload_n 0, 1) := by decide +kernel
theorem dX12_book_59 : decode cX12_book 59 = .ok (.getfield 164, 3) := by decide +kernel
theorem dX12_book_62 : decode cX12_book 62 = .ok (.if_icmp .ge 113, 3) := by decide +kernel
theorem dX12_book_65 : decode cX12_book 65 = .ok (.aload_n 0, 1) := by decide +kernel
theorem dX12_book_66 : decode cX12_book 66 = .ok (.getfield 167, 3) := by decide +kernel
theorem dX12_book_69 : decode cX12_book 69 = .ok (.istore_n 3, 1) := by decide +kernel
theorem dX12_book_70 : decode cX12_book 70 = .ok (.aload_n 0, 1) := by decide +kernel
theorem dX12_book_71 : decode cX12_book 71 = .ok (.iconst 0, 1) := by decide +kernel
theorem dX12_book_72 : decode cX12_book 72 = .ok (.bipush 60, 2) := by decide +kernel
theorem dX12_book_74 : decode cX12_book 74 = .ok (.invokevirtual 220, 3) := by decide +kernel
theorem dX12_book_77 : decode cX12_book 77 = .ok (.istore 4, 2) := by decide +kernel
theorem dX12_book_79 : decode cX12_book 79 = .ok (.aload_n 0, 1) := by decide +kernel
theorem dX12_book_80 : decode cX12_book 80 = .ok (.getfield 174, 3) := by decide +kernel
theorem dX12_book_83 : decode cX12_book 83 = .ok (.ifCond .ne 15, 3) := by decide +kernel
theorem dX12_book_86 : decode cX12_book 86 = .ok (.iload_n 2, 1) := by decide +kernel
theorem dX12_book_87 : decode cX12_book 87 = .ok (.bipush 12, 2) := by decide +kernel
theorem dX12_book_89 : decode cX12_book 89 = .ok (.if_icmp .ne 9, 3) := by decide +kernel
theorem dX12_book_92 : decode cX12_book 92 = .ok (.aload_n 0, 1) := by decide +kernel
theorem dX12_book_93 : decode cX12_book 93 = .ok (.iconst 3, 1) := by decide +kernel
theorem dX12_book_94 : decode cX12_book 94 = .ok (.iload_n 3, 1) := by decide +kernel
theorem dX12_book_95 : decode cX12_book 95 = .ok (.invokevirtual 187, 3) := by decide +kernel
theorem dX12_book_98 : decode cX12_book 98 = .ok (.aload_n 0, 1) := by decide +kernel
theorem dX12_book_99 : decode cX12_book 99 = .ok (.iconst 0, 1) := by decide +kernel
theorem dX12_book_100 : decode cX12_book 100 = .ok (.aload_n 0, 1) := by decide +kernel
theorem dX12_book_101 : decode cX12_book 101 = .ok (.getfield 23, 3) := by decide +kernel
theorem dX12_book_104 : decode cX12_book 104 = .ok (.iconst 1, 1) := by decide +kernel
theorem dX12_book_105 : decode cX12_book 105 = .ok (.iaload, 1) := by decide +kernel
theorem dX12_book_106 : decode cX12_book 106 = .ok (.iconst 1, 1) := by decide +kernel
theorem dX12_book_107 : decode cX12_book 107 = .ok (.isub, 1) := by decide +kernel
theorem dX12_book_108 : decode cX12_book 108 = .ok (.invokevirtual 220, 3) := by decide +kernel
theorem dX12_book_111 : decode cX12_book 111 = .ok (.istore 5, 2) := by decide +kernel
theorem dX12_book_113 : decode cX12_book 113 = .ok (.aload_n 0, 1) := by decide +kernel
theorem dX12_book_114 : decode cX12_book 114 = .ok (.iconst 0, 1) := by decide +kernel
theorem dX12_book_115 : decode cX12_book 115 = .ok (.bipush 23, 2) := by decide +kernel
theorem dX12_book_117 : decode cX12_book 117 = .ok (.invokevirtual 220, 3) := by decide +kernel
theorem dX12_book_120 : decode cX12_book 120 = .ok (.istore 6, 2) := by decide +kernel
theorem dX12_book_122 : decode cX12_book 122 = .ok (.aload_n 0, 1) := by decide +kernel
theorem dX12_book_123 : decode cX12_book 123 = .ok (.bipush 59, 2) := by decide +kernel
theorem dX12_book_125 : decode cX12_book 125 = .ok (.invokevirtual 224, 3) := by decide +kernel
theorem dX12_book_128 : decode cX12_book 128 = .ok (.aload_n 0, 1) := by decide +kernel
theorem dX12_book_129 : decode cX12_book 129 = .ok (.getfield 174, 3) := by decide +kernel
theorem dX12_book_132 : decode cX12_book 132 = .ok (.ifCond .ne 36, 3) := by decide +kernel
theorem dX12_book_135 : decode cX12_book 135 = .ok (.aload_n 0, 1) := by decide +kernel
theorem dX12_book_136 : decode cX12_book 136 = .ok (.getfield 58, 3) := by decide +kernel
theorem dX12_book_139 : decode cX12_book 139 = .ok (.iload_n 2, 1) := by decide +kernel
theorem dX12_book_140 : decode cX12_book 140 = .ok (.aaload, 1) := by decide +kernel
theorem dX12_book_141 : decode cX12_book 141 = .ok (.iconst 0, 1) := by decide +kernel
theorem dX12_book_142 : decode cX12_book 142 = .ok (.iload 4, 2) := by decide +kernel
theorem dX12_book_144 : decode cX12_book 144 = .ok (.iastore, 1) := by decide +kernel
theorem dX12_book_145 : decode cX12_book 145 = .ok (.aload_n 0, 1) := by decide +kernel
theorem dX12_book_146 : decode cX12_book 146 = .ok (.getfield 58, 3) := by decide +kernel
theorem dX12_book_149 : decode cX12_book 149 = .ok (.iload_n 2, 1) := by decide +kernel
theorem dX12_book_150 : decode cX12_book 150 = .ok (.aaload, 1) := by decide +kernel
theorem dX12_book_151 : decode cX12_book 151 = .ok (.iconst 1, 1) := by decide +kernel
theorem dX12_book_152 : decode cX12_book 152 = .ok (.iload 5, 2) := by decide +kernel
theorem dX12_book_154 : decode cX12_book 154 = .ok (.iastore, 1) := by decide +kernel
theorem dX12_book_155 : decode cX12_book 155 = .ok (.aload_n 0, 1) := by decide +kernel
theorem dX12_book_156 : decode cX12_book 156 = .ok (.getfield 58, 3) := by decide +kernel
theorem dX12_book_159 : decode cX12_book 159 = .ok (.iload_n 2, 1) := by decide +kernel
theorem dX12_book_160 : decode cX12_book 160 = .ok (.aaload, 1) := by decide +kernel
theorem dX12_book_161 : decode cX12_book 161 = .ok (.iconst 2, 1) := by decide +kernel
theorem dX12_book_162 : decode cX12_book 162 = .ok (.iload 6, 2) := by decide +kernel
theorem dX12_book_164 : decode cX12_book 164 = .ok (.iastore, 1) := by decide +kernel
theorem dX12_book_165 : decode cX12_book 165 = .ok (.iinc 2 1, 3) := by decide +kernel
theorem dX12_book_168 : decode cX12_book 168 = .ok (.aload_n 0, 1) := by decide +kernel
theorem dX12_book_169 : decode cX12_book 169 = .ok (.invokevirtual 180, 3) := by decide +kernel
theorem dX12_book_172 : decode cX12_book 172 = .ok (.goto (-125), 3) := by decide +kernel
theorem dX12_book_175 : decode cX12_book 175 = .ok (.aload_n 0, 1) := by decide +kernel
theorem dX12_book_176 : decode cX12_book 176 = .ok (.getfield 174, 3) := by decide +kernel
theorem dX12_book_179 : decode cX12_book 179 = .ok (.ifCond .eq 8, 3) := by decide +kernel
theorem dX12_book_182 : decode cX12_book 182 = .ok (.aload_n 0, 1) := by decide +kernel
theorem dX12_book_183 : decode cX12_book 183 = .ok (.invokevirtual 238, 3) := by decide +kernel
theorem dX12_book_186 : decode cX12_book 186 = .ok (.ireturn, 1) := by decide +kernel
theorem dX12_book_187 : decode cX12_book 187 = .ok (.aload_n 0, 1) := by decide +kernel
theorem dX12_book_188 : decode cX12_book 188 = .ok (.iconst (-1), 1) := by decide +kernel
theorem dX12_book_189 : decode cX12_book 189 = .ok (.putfield 9, 3) := by decide +kernel
theorem dX12_book_192 : decode cX12_book 192 = .ok (.aload_n 0, 1) := by decide +kernel
theorem dX12_book_193 : decode cX12_book 193 = .ok (.iload_n 2, 1) := by decide +kernel
theorem dX12_book_194 : decode cX12_book 194 = .ok (.putfield 241, 3) := by decide +kernel
theorem dX12_book_197 : decode cX12_book 197 = .ok (.iconst 0, 1) := by decide +kernel
theorem dX12_book_198 : decode cX12_book 198 = .ok (.istore_n 3, 1) := by decide +kernel
theorem dX12_book_199 : decode cX12_book 199 = .ok (.iload_n 3, 1) := by decide +kernel
theorem dX12_book_200 : decode cX12_book 200 = .ok (.iload_n 2, 1) := by decide +kernel
theorem dX12_book_201 : decode cX12_book 201 = .ok (.if_icmp .ge 42, 3) := by decide +kernel
theorem dX12_book_204 : decode cX12_book 204 = .ok (.iconst 0, 1) := by decide +kernel
theorem dX12_book_205 : decode cX12_book 205 = .ok (.istore 4, 2) := by decide +kernel
theorem dX12_book_207 : decode cX12_book 207 = .ok (.iload 4, 2) := by decide +kernel
theorem dX12_book_209 : decode cX12_book 209 = .ok (.iconst 3, 1) := by decide +kernel
theorem dX12_book_210 : decode cX12_book 210 = .ok (.if_icmp .ge 27, 3) := by decide +kernel
theorem dX12_book_213 : decode cX12_book 213 = .ok (.aload_n 0, 1) := by decide +kernel
theorem dX12_book_214 : decode cX12_book 214 = .ok (.getfield 55, 3) := by decide +kernel
theorem dX12_book_217 : decode cX12_book 217 = .ok (.iload_n 3, 1) := by decide +kernel
theorem dX12_book_218 : decode cX12_book 218 = .ok (.aaload, 1) := by decide +kernel
theorem dX12_book_219 : decode cX12_book 219 = .ok (.iload 4, 2) := by decide +kernel
theorem dX12_book_221 : decode cX12_book 221 = .ok (.aload_n 0, 1) := by decide +kernel
theorem dX12_book_222 : decode cX12_book 222 = .ok (.getfield 58, 3) := by decide +kernel
theorem dX12_book_225 : decode cX12_book 225 = .ok (.iload_n 3, 1) := by decide +kernel
theorem dX12_book_226 : decode cX12_book 226 = .ok (.aaload, 1) := by decide +kernel
theorem dX12_book_227 : decode cX12_book 227 = .ok (.iload 4, 2) := by decide +kernel
theorem dX12_book_229 : decode cX12_book 229 = .ok (.iaload, 1) := by decide +kernel
theorem dX12_book_230 : decode cX12_book 230 = .ok (.iastore, 1) := by decide +kernel
theorem dX12_book_231 : decode cX12_book 231 = .ok (.iinc 4 1, 3) := by decide +kernel
theorem dX12_book_234 : decode cX12_book 234 = .ok (.goto (-27), 3) := by decide +kernel
theorem dX12_book_237 : decode cX12_book 237 = .ok (.iinc 3 1, 3) := by decide +kernel
theorem dX12_book_240 : decode cX12_book 240 = .ok (.goto (-41), 3) := by decide +kernel
theorem dX12_book_243 : decode cX12_book 243 = .ok (.iload_n 2, 1) := by decide +kernel
theorem dX12_book_244 : decode cX12_book 244 = .ok (.ireturn, 1) := by decide +kernel
theorem dX12_fault_0 : decode cX12_fault 0 = .ok (.aload_n 0, 1) := by decide +kernel
theorem dX12_fault_1 : decode cX12_fault 1 = .ok (.iconst 0, 1) := by decide +kernel
theorem dX12_fault_2 : decode cX12_fault 2 = .ok (.putfield 158, 3) := by decide +kernel
theorem dX12_fault_5 : decode cX12_fault 5 = .ok (.aload_n 0, 1) := by decide +kernel
theorem dX12_fault_6 : decode cX12_fault 6 = .ok (.getfield 9, 3) := by decide +kernel
theorem dX12_fault_9 : decode cX12_fault 9 = .ok (.ireturn, 1) := by decide +kernel
theorem dX12_told_0 : decode cX12_told 0 = .ok (.aload_n 0, 1) := by decide +kernel
theorem dX12_told_1 : decode cX12_told 1 = .ok (.iconst 0, 1) := by decide +kernel
theorem dX12_told_2 : decode cX12_told 2 = .ok (.putfield 158, 3) := by decide +kernel
theorem dX12_told_5 : decode cX12_told 5 = .ok (.aload_n 0, 1) := by decide +kernel
theorem dX12_told_6 : decode cX12_told 6 = .ok (.iload_n 1, 1) := by decide +kernel
theorem dX12_told_7 : decode cX12_told 7 = .ok (.iconst 0, 1) := by decide +kernel
theorem dX12_told_8 : decode cX12_told 8 = .ok (.bipush 6, 2) := by decide +kernel
theorem dX12_told_10 : decode cX12_told 10 = .ok (.invokestatic 192, 3) := by decide +kernel
theorem dX12_told_13 : decode cX12_told 13 = .ok (.ifCond .ne 7, 3) := by decide +kernel
theorem dX12_told_16 : decode cX12_told 16 = .ok (.iconst 1, 1) := by decide +kernel
theorem dX12_told_17 : decode cX12_told 17 = .ok (.goto 4, 3) := by decide +kernel
theorem dX12_told_20 : decode cX12_told 20 = .ok (.iconst 0, 1) := by decide +kernel
theorem dX12_told_21 : decode cX12_told 21 = .ok (.iconst 1, 1) := by decide +kernel
theorem dX12_told_22 : decode cX12_told 22 = .ok (.iconst 1, 1) := by decide +kernel
theorem dX12_told_23 : decode cX12_told 23 = .ok (.invokevirtual 228, 3) := by decide +kernel
theorem dX12_told_26 : decode cX12_told 26 = .ok (.ifCond .eq 5, 3) := by decide +kernel
theorem dX12_told_29 : decode cX12_told 29 = .ok (.iconst 0, 1) := by decide +kernel
theorem dX12_told_30 : decode cX12_told 30 = .ok (.ireturn, 1) := by decide +kernel
theorem dX12_told_31 : decode cX12_told 31 = .ok (.iload_n 1, 1) := by decide +kernel
theorem dX12_told_32 : decode cX12_told 32 = .ok (.iconst 5, 1) := by decide +kernel
theorem dX12_told_33 : decode cX12_told 33 = .ok (.if_icmp .ge 12, 3) := by decide +kernel
theorem dX12_told_36 : decode cX12_told 36 = .ok (.aload_n 0, 1) := by decide +kernel
theorem dX12_told_37 : decode cX12_told 37 = .ok (.getfield 23, 3) := by decide +kernel
theorem dX12_told_40 : decode cX12_told 40 = .ok (.iload_n 1, 1) := by decide +kernel
theorem dX12_told_41 : decode cX12_told 41 = .ok (.iaload, 1) := by decide +kernel
theorem dX12_told_42 : decode cX12_told 42 = .ok (.goto 19, 3) := by decide +kernel
theorem dX12_told_45 : decode cX12_told 45 = .ok (.iload_n 1, 1) := by decide +kernel
theorem dX12_told_46 : decode cX12_told 46 = .ok (.iconst 5, 1) := by decide +kernel
theorem dX12_told_47 : decode cX12_told 47 = .ok (.if_icmp .ne 10, 3) := by decide +kernel
theorem dX12_told_50 : decode cX12_told 50 = .ok (.aload_n 0, 1) := by decide +kernel
theorem dX12_told_51 : decode cX12_told 51 = .ok (.getfield 244, 3) := by decide +kernel
theorem dX12_told_54 : decode cX12_told 54 = .ok (.goto 7, 3) := by decide +kernel
theorem dX12_told_57 : decode cX12_told 57 = .ok (.aload_n 0, 1) := by decide +kernel
theorem dX12_told_58 : decode cX12_told 58 = .ok (.getfield 241, 3) := by decide +kernel
theorem dX12_told_61 : decode cX12_told 61 = .ok (.ireturn, 1) := by decide +kernel
theorem dX12_isHalf_0 : decode cX12_isHalf 0 = .ok (.iload_n 0, 1) := by decide +kernel
theorem dX12_isHalf_1 : decode cX12_isHalf 1 = .ok (.iconst 0, 1) := by decide +kernel
theorem dX12_isHalf_2 : decode cX12_isHalf 2 = .ok (.bipush 23, 2) := by decide +kernel
theorem dX12_isHalf_4 : decode cX12_isHalf 4 = .ok (.invokestatic 192, 3) := by decide +kernel
theorem dX12_isHalf_7 : decode cX12_isHalf 7 = .ok (.ireturn, 1) := by decide +kernel
theorem dX12_guest_0 : decode cX12_guest 0 = .ok (.aload_n 0, 1) := by decide +kernel
theorem dX12_guest_1 : decode cX12_guest 1 = .ok (.iconst 0, 1) := by decide +kernel
theorem dX12_guest_2 : decode cX12_guest 2 = .ok (.putfield 158, 3) := by decide +kernel
theorem dX12_guest_5 : decode cX12_guest 5 = .ok (.aload_n 0, 1) := by decide +kernel
theorem dX12_guest_6 : decode cX12_guest 6 = .ok (.aload_n 0, 1) := by decide +kernel
theorem dX12_guest_7 : decode cX12_guest 7 = .ok (.iload_n 1, 1) := by decide +kernel
theorem dX12_guest_8 : decode cX12_guest 8 = .ok (.invokevirtual 285, 3) := by decide +kernel
theorem dX12_guest_11 : decode cX12_guest 11 = .ok (.ifCond .ne 7, 3) := by decide +kernel
theorem dX12_guest_14 : decode cX12_guest 14 = .ok (.iconst 1, 1) := by decide +kernel
theorem dX12_guest_15 : decode cX12_guest 15 = .ok (.goto 4, 3) := by decide +kernel
theorem dX12_guest_18 : decode cX12_guest 18 = .ok (.iconst 0, 1) := by decide +kernel
theorem dX12_guest_19 : decode cX12_guest 19 = .ok (.iconst 1, 1) := by decide +kernel
theorem dX12_guest_20 : decode cX12_guest 20 = .ok (.iconst 0, 1) := by decide +kernel
theorem dX12_guest_21 : decode cX12_guest 21 = .ok (.invokevirtual 228, 3) := by decide +kernel
theorem dX12_guest_24 : decode cX12_guest 24 = .ok (.ifCond .ne 26, 3) := by decide +kernel
theorem dX12_guest_27 : decode cX12_guest 27 = .ok (.aload_n 0, 1) := by decide +kernel
theorem dX12_guest_28 : decode cX12_guest 28 = .ok (.iload_n 2, 1) := by decide +kernel
theorem dX12_guest_29 : decode cX12_guest 29 = .ok (.iconst 0, 1) := by decide +kernel
theorem dX12_guest_30 : decode cX12_guest 30 = .ok (.iconst 3, 1) := by decide +kernel
theorem dX12_guest_31 : decode cX12_guest 31 = .ok (.invokestatic 192, 3) := by decide +kernel
theorem dX12_guest_34 : decode cX12_guest 34 = .ok (.ifCond .ne 7, 3) := by decide +kernel
theorem dX12_guest_37 : decode cX12_guest 37 = .ok (.iconst 1, 1) := by decide +kernel
theorem dX12_guest_38 : decode cX12_guest 38 = .ok (.goto 4, 3) := by decide +kernel
theorem dX12_guest_41 : decode cX12_guest 41 = .ok (.iconst 0, 1) := by decide +kernel
theorem dX12_guest_42 : decode cX12_guest 42 = .ok (.iconst 2, 1) := by decide +kernel
theorem dX12_guest_43 : decode cX12_guest 43 = .ok (.iconst 1, 1) := by decide +kernel
theorem dX12_guest_44 : decode cX12_guest 44 = .ok (.invokevirtual 228, 3) := by decide +kernel
theorem dX12_guest_47 : decode cX12_guest 47 = .ok (.ifCond .eq 5, 3) := by decide +kernel
theorem dX12_guest_50 : decode cX12_guest 50 = .ok (.iconst 0, 1) := by decide +kernel
theorem dX12_guest_51 : decode cX12_guest 51 = .ok (.ireturn, 1) := by decide +kernel
theorem dX12_guest_52 : decode cX12_guest 52 = .ok (.aload_n 0, 1) := by decide +kernel
theorem dX12_guest_53 : decode cX12_guest 53 = .ok (.getfield 37, 3) := by decide +kernel
theorem dX12_guest_56 : decode cX12_guest 56 = .ok (.iload_n 1, 1) := by decide +kernel
theorem dX12_guest_57 : decode cX12_guest 57 = .ok (.aaload, 1) := by decide +kernel
theorem dX12_guest_58 : decode cX12_guest 58 = .ok (.iload_n 2, 1) := by decide +kernel
theorem dX12_guest_59 : decode cX12_guest 59 = .ok (.iaload, 1) := by decide +kernel
theorem dX12_guest_60 : decode cX12_guest 60 = .ok (.ireturn, 1) := by decide +kernel
theorem dX12_worthOf_0 : decode cX12_worthOf 0 = .ok (.iconst 0, 1) := by decide +kernel
theorem dX12_worthOf_1 : decode cX12_worthOf 1 = .ok (.istore 4, 2) := by decide +kernel
theorem dX12_worthOf_3 : decode cX12_worthOf 3 = .ok (.iload_n 3, 1) := by decide +kernel
theorem dX12_worthOf_4 : decode cX12_worthOf 4 = .ok (.aload_n 0, 1) := by decide +kernel
theorem dX12_worthOf_5 : decode cX12_worthOf 5 = .ok (.getfield 37, 3) := by decide +kernel
theorem dX12_worthOf_8 : decode cX12_worthOf 8 = .ok (.iload_n 1, 1) := by decide +kernel
theorem dX12_worthOf_9 : decode cX12_worthOf 9 = .ok (.aaload, 1) := by decide +kernel
theorem dX12_worthOf_10 : decode cX12_worthOf 10 = .ok (.iconst 1, 1) := by decide +kernel
theorem dX12_worthOf_11 : decode cX12_worthOf 11 = .ok (.iaload, 1) := by decide +kernel
theorem dX12_worthOf_12 : decode cX12_worthOf 12 = .ok (.invokestatic 291, 3) := by decide +kernel
theorem dX12_worthOf_15 : decode cX12_worthOf 15 = .ok (.istore 5, 2) := by decide +kernel
theorem dX12_worthOf_17 : decode cX12_worthOf 17 = .ok (.iload 5, 2) := by decide +kernel
theorem dX12_worthOf_19 : decode cX12_worthOf 19 = .ok (.aload_n 0, 1) := by decide +kernel
theorem dX12_worthOf_20 : decode cX12_worthOf 20 = .ok (.getfield 37, 3) := by decide +kernel
theorem dX12_worthOf_23 : decode cX12_worthOf 23 = .ok (.iload_n 1, 1) := by decide +kernel
theorem dX12_worthOf_24 : decode cX12_worthOf 24 = .ok (.aaload, 1) := by decide +kernel
theorem dX12_worthOf_25 : decode cX12_worthOf 25 = .ok (.iconst 2, 1) := by decide +kernel
theorem dX12_worthOf_26 : decode cX12_worthOf 26 = .ok (.iaload, 1) := by decide +kernel
theorem dX12_worthOf_27 : decode cX12_worthOf 27 = .ok (.if_icmp .ge 33, 3) := by decide +kernel
theorem dX12_worthOf_30 : decode cX12_worthOf 30 = .ok (.iload 4, 2) := by decide +kernel
theorem dX12_worthOf_32 : decode cX12_worthOf 32 = .ok (.aload_n 0, 1) := by decide +kernel
theorem dX12_worthOf_33 : decode cX12_worthOf 33 = .ok (.getfield 31, 3) := by decide +kernel
theorem dX12_worthOf_36 : decode cX12_worthOf 36 = .ok (.iload_n 2, 1) := by decide +kernel
theorem dX12_worthOf_37 : decode cX12_worthOf 37 = .ok (.aaload, 1) := by decide +kernel
theorem dX12_worthOf_38 : decode cX12_worthOf 38 = .ok (.iload 5, 2) := by decide +kernel
theorem dX12_worthOf_40 : decode cX12_worthOf 40 = .ok (.bipush 12, 2) := by decide +kernel
theorem dX12_worthOf_42 : decode cX12_worthOf 42 = .ok (.if_icmp .ge 7, 3) := by decide +kernel
theorem dX12_worthOf_45 : decode cX12_worthOf 45 = .ok (.iconst 0, 1) := by decide +kernel
theorem dX12_worthOf_46 : decode cX12_worthOf 46 = .ok (.goto 4, 3) := by decide +kernel
theorem dX12_worthOf_49 : decode cX12_worthOf 49 = .ok (.iconst 1, 1) := by decide +kernel
theorem dX12_worthOf_50 : decode cX12_worthOf 50 = .ok (.iaload, 1) := by decide +kernel
theorem dX12_worthOf_51 : decode cX12_worthOf 51 = .ok (.iadd, 1) := by decide +kernel
theorem dX12_worthOf_52 : decode cX12_worthOf 52 = .ok (.istore 4, 2) := by decide +kernel
theorem dX12_worthOf_54 : decode cX12_worthOf 54 = .ok (.iinc 5 1, 3) := by decide +kernel
theorem dX12_worthOf_57 : decode cX12_worthOf 57 = .ok (.goto (-40), 3) := by decide +kernel
theorem dX12_worthOf_60 : decode cX12_worthOf 60 = .ok (.iload 4, 2) := by decide +kernel
theorem dX12_worthOf_62 : decode cX12_worthOf 62 = .ok (.ireturn, 1) := by decide +kernel
theorem dX12_worth_0 : decode cX12_worth 0 = .ok (.aload_n 0, 1) := by decide +kernel
theorem dX12_worth_1 : decode cX12_worth 1 = .ok (.iconst 0, 1) := by decide +kernel
theorem dX12_worth_2 : decode cX12_worth 2 = .ok (.putfield 158, 3) := by decide +kernel
theorem dX12_worth_5 : decode cX12_worth 5 = .ok (.aload_n 0, 1) := by decide +kernel
theorem dX12_worth_6 : decode cX12_worth 6 = .ok (.aload_n 0, 1) := by decide +kernel
theorem dX12_worth_7 : decode cX12_worth 7 = .ok (.iload_n 1, 1) := by decide +kernel
theorem dX12_worth_8 : decode cX12_worth 8 = .ok (.invokevirtual 285, 3) := by decide +kernel
theorem dX12_worth_11 : decode cX12_worth 11 = .ok (.ifCond .eq 11, 3) := by decide +kernel
theorem dX12_worth_14 : decode cX12_worth 14 = .ok (.aload_n 0, 1) := by decide +kernel
theorem dX12_worth_15 : decode cX12_worth 15 = .ok (.iload_n 2, 1) := by decide +kernel
theorem dX12_worth_16 : decode cX12_worth 16 = .ok (.invokevirtual 307, 3) := by decide +kernel
theorem dX12_worth_19 : decode cX12_worth 19 = .ok (.ifCond .ne 7, 3) := by decide +kernel
theorem dX12_worth_22 : decode cX12_worth 22 = .ok (.iconst 1, 1) := by decide +kernel
theorem dX12_worth_23 : decode cX12_worth 23 = .ok (.goto 4, 3) := by decide +kernel
theorem dX12_worth_26 : decode cX12_worth 26 = .ok (.iconst 0, 1) := by decide +kernel
theorem dX12_worth_27 : decode cX12_worth 27 = .ok (.iconst 1, 1) := by decide +kernel
theorem dX12_worth_28 : decode cX12_worth 28 = .ok (.iconst 0, 1) := by decide +kernel
theorem dX12_worth_29 : decode cX12_worth 29 = .ok (.invokevirtual 228, 3) := by decide +kernel
theorem dX12_worth_32 : decode cX12_worth 32 = .ok (.ifCond .ne 24, 3) := by decide +kernel
theorem dX12_worth_35 : decode cX12_worth 35 = .ok (.aload_n 0, 1) := by decide +kernel
theorem dX12_worth_36 : decode cX12_worth 36 = .ok (.iload_n 3, 1) := by decide +kernel
theorem dX12_worth_37 : decode cX12_worth 37 = .ok (.invokestatic 298, 3) := by decide +kernel
theorem dX12_worth_40 : decode cX12_worth 40 = .ok (.ifCond .ne 7, 3) := by decide +kernel
theorem dX12_worth_43 : decode cX12_worth 43 = .ok (.iconst 1, 1) := by decide +kernel
theorem dX12_worth_44 : decode cX12_worth 44 = .ok (.goto 4, 3) := by decide +kernel
theorem dX12_worth_47 : decode cX12_worth 47 = .ok (.iconst 0, 1) := by decide +kernel
theorem dX12_worth_48 : decode cX12_worth 48 = .ok (.iconst 2, 1) := by decide +kernel
theorem dX12_worth_49 : decode cX12_worth 49 = .ok (.iconst 1, 1) := by decide +kernel
theorem dX12_worth_50 : decode cX12_worth 50 = .ok (.invokevirtual 228, 3) := by decide +kernel
theorem dX12_worth_53 : decode cX12_worth 53 = .ok (.ifCond .eq 5, 3) := by decide +kernel
theorem dX12_worth_56 : decode cX12_worth 56 = .ok (.iconst 0, 1) := by decide +kernel
theorem dX12_worth_57 : decode cX12_worth 57 = .ok (.ireturn, 1) := by decide +kernel
theorem dX12_worth_58 : decode cX12_worth 58 = .ok (.aload_n 0, 1) := by decide +kernel
theorem dX12_worth_59 : decode cX12_worth 59 = .ok (.iload_n 1, 1) := by decide +kernel
theorem dX12_worth_60 : decode cX12_worth 60 = .ok (.iload_n 2, 1) := by decide +kernel
theorem dX12_worth_61 : decode cX12_worth 61 = .ok (.iload_n 3, 1) := by decide +kernel
theorem dX12_worth_62 : decode cX12_worth 62 = .ok (.invokevirtual 310, 3) := by decide +kernel
theorem dX12_worth_65 : decode cX12_worth 65 = .ok (.ireturn, 1) := by decide +kernel
theorem dX12_ranksByNumber_0 : decode cX12_ranksByNumber 0 = .ok (.iconst 0, 1) := by decide +kernel
theorem dX12_ranksByNumber_1 : decode cX12_ranksByNumber 1 = .ok (.istore_n 1, 1) := by decide +kernel
theorem dX12_ranksByNumber_2 : decode cX12_ranksByNumber 2 = .ok (.iload_n 1, 1) := by decide +kernel
theorem dX12_ranksByNumber_3 : decode cX12_ranksByNumber 3 = .ok (.bipush 8, 2) := by decide +kernel
theorem dX12_ranksByNumber_5 : decode cX12_ranksByNumber 5 = .ok (.if_icmp .ge 16, 3) := by decide +kernel
theorem dX12_ranksByNumber_8 : decode cX12_ranksByNumber 8 = .ok (.aload_n 0, 1) := by decide +kernel
theorem dX12_ranksByNumber_9 : decode cX12_ranksByNumber 9 = .ok (.getfield 80, 3) := by decide +kernel
theorem dX12_ranksByNumber_12 : decode cX12_ranksByNumber 12 = .ok (.iload_n 1, 1) := by decide +kernel
theorem dX12_ranksByNumber_13 : decode cX12_ranksByNumber 13 = .ok (.iload_n 1, 1) := by decide +kernel
theorem dX12_ranksByNumber_14 : decode cX12_ranksByNumber 14 = .ok (.iastore, 1) := by decide +kernel
theorem dX12_ranksByNumber_15 : decode cX12_ranksByNumber 15 = .ok (.iinc 1 1, 3) := by decide +kernel
theorem dX12_ranksByNumber_18 : decode cX12_ranksByNumber 18 = .ok (.goto (-16), 3) := by decide +kernel
theorem dX12_ranksByNumber_21 : decode cX12_ranksByNumber 21 = .ok (.return_, 1) := by decide +kernel
theorem dX12_frees_0 : decode cX12_frees 0 = .ok (.aload_n 0, 1) := by decide +kernel
theorem dX12_frees_1 : decode cX12_frees 1 = .ok (.getfield 74, 3) := by decide +kernel
theorem dX12_frees_4 : decode cX12_frees 4 = .ok (.iload_n 1, 1) := by decide +kernel
theorem dX12_frees_5 : decode cX12_frees 5 = .ok (.iaload, 1) := by decide +kernel
theorem dX12_frees_6 : decode cX12_frees 6 = .ok (.iconst (-1), 1) := by decide +kernel
theorem dX12_frees_7 : decode cX12_frees 7 = .ok (.if_icmp .ne 4, 3) := by decide +kernel
theorem dX12_frees_10 : decode cX12_frees 10 = .ok (.return_, 1) := by decide +kernel
theorem dX12_frees_11 : decode cX12_frees 11 = .ok (.aload_n 0, 1) := by decide +kernel
theorem dX12_frees_12 : decode cX12_frees 12 = .ok (.getfield 101, 3) := by decide +kernel
theorem dX12_frees_15 : decode cX12_frees 15 = .ok (.aload_n 0, 1) := by decide +kernel
theorem dX12_frees_16 : decode cX12_frees 16 = .ok (.getfield 74, 3) := by decide +kernel
theorem dX12_frees_19 : decode cX12_frees 19 = .ok (.iload_n 1, 1) := by decide +kernel
theorem dX12_frees_20 : decode cX12_frees 20 = .ok (.iaload, 1) := by decide +kernel
theorem dX12_frees_21 : decode cX12_frees 21 = .ok (.iconst (-1), 1) := by decide +kernel
theorem dX12_frees_22 : decode cX12_frees 22 = .ok (.iastore, 1) := by decide +kernel
theorem dX12_frees_23 : decode cX12_frees 23 = .ok (.aload_n 0, 1) := by decide +kernel
theorem dX12_frees_24 : decode cX12_frees 24 = .ok (.getfield 74, 3) := by decide +kernel
theorem dX12_frees_27 : decode cX12_frees 27 = .ok (.iload_n 1, 1) := by decide +kernel
theorem dX12_frees_28 : decode cX12_frees 28 = .ok (.iconst (-1), 1) := by decide +kernel
theorem dX12_frees_29 : decode cX12_frees 29 = .ok (.iastore, 1) := by decide +kernel
theorem dX12_frees_30 : decode cX12_frees 30 = .ok (.return_, 1) := by decide +kernel
theorem dX12_sits_0 : decode cX12_sits 0 = .ok (.iconst (-1), 1) := by decide +kernel
theorem dX12_sits_1 : decode cX12_sits 1 = .ok (.istore_n 3, 1) := by decide +kernel
theorem dX12_sits_2 : decode cX12_sits 2 = .ok (.iconst 0, 1) := by decide +kernel
theorem dX12_sits_3 : decode cX12_sits 3 = .ok (.istore 4, 2) := by decide +kernel
theorem dX12_sits_5 : decode cX12_sits 5 = .ok (.iload 4, 2) := by decide +kernel
theorem dX12_sits_7 : decode cX12_sits 7 = .ok (.aload_n 0, 1) := by decide +kernel
theorem dX12_sits_8 : decode cX12_sits 8 = .ok (.getfield 23, 3) := by decide +kernel
theorem dX12_sits_11 : decode cX12_sits 11 = .ok (.iconst 0, 1) := by decide +kernel
theorem dX12_sits_12 : decode cX12_sits 12 = .ok (.iaload, 1) := by decide +kernel
theorem dX12_sits_13 : decode cX12_sits 13 = .ok (.if_icmp .ge 46, 3) := by decide +kernel
theorem dX12_sits_16 : decode cX12_sits 16 = .ok (.aload_n 0, 1) := by decide +kernel
theorem dX12_sits_17 : decode cX12_sits 17 = .ok (.getfield 101, 3) := by decide +kernel
theorem dX12_sits_20 : decode cX12_sits 20 = .ok (.iload 4, 2) := by decide +kernel
theorem dX12_sits_22 : decode cX12_sits 22 = .ok (.iaload, 1) := by decide +kernel
theorem dX12_sits_23 : decode cX12_sits 23 = .ok (.iconst (-1), 1) := by decide +kernel
theorem dX12_sits_24 : decode cX12_sits 24 = .ok (.if_icmp .ne 29, 3) := by decide +kernel
theorem dX12_sits_27 : decode cX12_sits 27 = .ok (.iload_n 3, 1) := by decide +kernel
theorem dX12_sits_28 : decode cX12_sits 28 = .ok (.iconst (-1), 1) := by decide +kernel
theorem dX12_sits_29 : decode cX12_sits 29 = .ok (.if_icmp .eq 21, 3) := by decide +kernel
theorem dX12_sits_32 : decode cX12_sits 32 = .ok (.aload_n 0, 1) := by decide +kernel
theorem dX12_sits_33 : decode cX12_sits 33 = .ok (.iload_n 1, 1) := by decide +kernel
theorem dX12_sits_34 : decode cX12_sits 34 = .ok (.iload 4, 2) := by decide +kernel
theorem dX12_sits_36 : decode cX12_sits 36 = .ok (.iload_n 2, 1) := by decide +kernel
theorem dX12_sits_37 : decode cX12_sits 37 = .ok (.invokevirtual 310, 3) := by decide +kernel
theorem dX12_sits_40 : decode cX12_sits 40 = .ok (.aload_n 0, 1) := by decide +kernel
theorem dX12_sits_41 : decode cX12_sits 41 = .ok (.iload_n 1, 1) := by decide +kernel
theorem dX12_sits_42 : decode cX12_sits 42 = .ok (.iload_n 3, 1) := by decide +kernel
theorem dX12_sits_43 : decode cX12_sits 43 = .ok (.iload_n 2, 1) := by decide +kernel
theorem dX12_sits_44 : decode cX12_sits 44 = .ok (.invokevirtual 310, 3) := by decide +kernel
theorem dX12_sits_47 : decode cX12_sits 47 = .ok (.if_icmp .le 6, 3) := by decide +kernel
theorem dX12_sits_50 : decode cX12_sits 50 = .ok (.iload 4, 2) := by decide +kernel
theorem dX12_sits_52 : decode cX12_sits 52 = .ok (.istore_n 3, 1) := by decide +kernel
theorem dX12_sits_53 : decode cX12_sits 53 = .ok (.iinc 4 1, 3) := by decide +kernel
theorem dX12_sits_56 : decode cX12_sits 56 = .ok (.goto (-51), 3) := by decide +kernel
theorem dX12_sits_59 : decode cX12_sits 59 = .ok (.iload_n 3, 1) := by decide +kernel
theorem dX12_sits_60 : decode cX12_sits 60 = .ok (.iconst (-1), 1) := by decide +kernel
theorem dX12_sits_61 : decode cX12_sits 61 = .ok (.if_icmp .ne 5, 3) := by decide +kernel
theorem dX12_sits_64 : decode cX12_sits 64 = .ok (.iconst 0, 1) := by decide +kernel
theorem dX12_sits_65 : decode cX12_sits 65 = .ok (.ireturn, 1) := by decide +kernel
theorem dX12_sits_66 : decode cX12_sits 66 = .ok (.aload_n 0, 1) := by decide +kernel
theorem dX12_sits_67 : decode cX12_sits 67 = .ok (.getfield 101, 3) := by decide +kernel
theorem dX12_sits_70 : decode cX12_sits 70 = .ok (.iload_n 3, 1) := by decide +kernel
theorem dX12_sits_71 : decode cX12_sits 71 = .ok (.iload_n 1, 1) := by decide +kernel
theorem dX12_sits_72 : decode cX12_sits 72 = .ok (.iastore, 1) := by decide +kernel
theorem dX12_sits_73 : decode cX12_sits 73 = .ok (.aload_n 0, 1) := by decide +kernel
theorem dX12_sits_74 : decode cX12_sits 74 = .ok (.getfield 74, 3) := by decide +kernel
theorem dX12_sits_77 : decode cX12_sits 77 = .ok (.iload_n 1, 1) := by decide +kernel
theorem dX12_sits_78 : decode cX12_sits 78 = .ok (.iload_n 3, 1) := by decide +kernel
theorem dX12_sits_79 : decode cX12_sits 79 = .ok (.iastore, 1) := by decide +kernel
theorem dX12_sits_80 : decode cX12_sits 80 = .ok (.aload_n 0, 1) := by decide +kernel
theorem dX12_sits_81 : decode cX12_sits 81 = .ok (.getfield 104, 3) := by decide +kernel
theorem dX12_sits_84 : decode cX12_sits 84 = .ok (.iload_n 3, 1) := by decide +kernel
theorem dX12_sits_85 : decode cX12_sits 85 = .ok (.iload_n 2, 1) := by decide +kernel
theorem dX12_sits_86 : decode cX12_sits 86 = .ok (.iastore, 1) := by decide +kernel
theorem dX12_sits_87 : decode cX12_sits 87 = .ok (.aload_n 0, 1) := by decide +kernel
theorem dX12_sits_88 : decode cX12_sits 88 = .ok (.getfield 77, 3) := by decide +kernel
theorem dX12_sits_91 : decode cX12_sits 91 = .ok (.iload_n 1, 1) := by decide +kernel
theorem dX12_sits_92 : decode cX12_sits 92 = .ok (.iconst (-1), 1) := by decide +kernel
theorem dX12_sits_93 : decode cX12_sits 93 = .ok (.iastore, 1) := by decide +kernel
theorem dX12_sits_94 : decode cX12_sits 94 = .ok (.aload_n 0, 1) := by decide +kernel
theorem dX12_sits_95 : decode cX12_sits 95 = .ok (.getfield 92, 3) := by decide +kernel
theorem dX12_sits_98 : decode cX12_sits 98 = .ok (.iload_n 1, 1) := by decide +kernel
theorem dX12_sits_99 : decode cX12_sits 99 = .ok (.dup2, 1) := by decide +kernel
theorem dX12_sits_100 : decode cX12_sits 100 = .ok (.iaload, 1) := by decide +kernel
theorem dX12_sits_101 : decode cX12_sits 101 = .ok (.iconst 1, 1) := by decide +kernel
theorem dX12_sits_102 : decode cX12_sits 102 = .ok (.iadd, 1) := by decide +kernel
theorem dX12_sits_103 : decode cX12_sits 103 = .ok (.iastore, 1) := by decide +kernel
theorem dX12_sits_104 : decode cX12_sits 104 = .ok (.aload_n 0, 1) := by decide +kernel
theorem dX12_sits_105 : decode cX12_sits 105 = .ok (.getfield 113, 3) := by decide +kernel
theorem dX12_sits_108 : decode cX12_sits 108 = .ok (.iload_n 3, 1) := by decide +kernel
theorem dX12_sits_109 : decode cX12_sits 109 = .ok (.dup2, 1) := by decide +kernel
theorem dX12_sits_110 : decode cX12_sits 110 = .ok (.iaload, 1) := by decide +kernel
theorem dX12_sits_111 : decode cX12_sits 111 = .ok (.iconst 1, 1) := by decide +kernel
theorem dX12_sits_112 : decode cX12_sits 112 = .ok (.iadd, 1) := by decide +kernel
theorem dX12_sits_113 : decode cX12_sits 113 = .ok (.iastore, 1) := by decide +kernel
theorem dX12_sits_114 : decode cX12_sits 114 = .ok (.aload_n 0, 1) := by decide +kernel
theorem dX12_sits_115 : decode cX12_sits 115 = .ok (.getfield 83, 3) := by decide +kernel
theorem dX12_sits_118 : decode cX12_sits 118 = .ok (.iload_n 1, 1) := by decide +kernel
theorem dX12_sits_119 : decode cX12_sits 119 = .ok (.aload_n 0, 1) := by decide +kernel
theorem dX12_sits_120 : decode cX12_sits 120 = .ok (.getfield 83, 3) := by decide +kernel
theorem dX12_sits_123 : decode cX12_sits 123 = .ok (.iload_n 1, 1) := by decide +kernel
theorem dX12_sits_124 : decode cX12_sits 124 = .ok (.iaload, 1) := by decide +kernel
theorem dX12_sits_125 : decode cX12_sits 125 = .ok (.iconst (-1), 1) := by decide +kernel
theorem dX12_sits_126 : decode cX12_sits 126 = .ok (.if_icmp .ne 7, 3) := by decide +kernel
theorem dX12_sits_129 : decode cX12_sits 129 = .ok (.iload_n 3, 1) := by decide +kernel
theorem dX12_sits_130 : decode cX12_sits 130 = .ok (.goto 9, 3) := by decide +kernel
theorem dX12_sits_133 : decode cX12_sits 133 = .ok (.aload_n 0, 1) := by decide +kernel
theorem dX12_sits_134 : decode cX12_sits 134 = .ok (.getfield 83, 3) := by decide +kernel
theorem dX12_sits_137 : decode cX12_sits 137 = .ok (.iload_n 1, 1) := by decide +kernel
theorem dX12_sits_138 : decode cX12_sits 138 = .ok (.iaload, 1) := by decide +kernel
theorem dX12_sits_139 : decode cX12_sits 139 = .ok (.iastore, 1) := by decide +kernel
theorem dX12_sits_140 : decode cX12_sits 140 = .ok (.iconst 1, 1) := by decide +kernel
theorem dX12_sits_141 : decode cX12_sits 141 = .ok (.ireturn, 1) := by decide +kernel
theorem dX12_hotelGoes_0 : decode cX12_hotelGoes 0 = .ok (.aload_n 0, 1) := by decide +kernel
theorem dX12_hotelGoes_1 : decode cX12_hotelGoes 1 = .ok (.getfield 23, 3) := by decide +kernel
theorem dX12_hotelGoes_4 : decode cX12_hotelGoes 4 = .ok (.iconst 2, 1) := by decide +kernel
theorem dX12_hotelGoes_5 : decode cX12_hotelGoes 5 = .ok (.iaload, 1) := by decide +kernel
theorem dX12_hotelGoes_6 : decode cX12_hotelGoes 6 = .ok (.ifCond .eq 18, 3) := by decide +kernel
theorem dX12_hotelGoes_9 : decode cX12_hotelGoes 9 = .ok (.iload_n 1, 1) := by decide +kernel
theorem dX12_hotelGoes_10 : decode cX12_hotelGoes 10 = .ok (.ifCond .eq 14, 3) := by decide +kernel
theorem dX12_hotelGoes_13 : decode cX12_hotelGoes 13 = .ok (.iload_n 1, 1) := by decide +kernel
theorem dX12_hotelGoes_14 : decode cX12_hotelGoes 14 = .ok (.aload_n 0, 1) := by decide +kernel
theorem dX12_hotelGoes_15 : decode cX12_hotelGoes 15 = .ok (.getfield 23, 3) := by decide +kernel
theorem dX12_hotelGoes_18 : decode cX12_hotelGoes 18 = .ok (.iconst 2, 1) := by decide +kernel
theorem dX12_hotelGoes_19 : decode cX12_hotelGoes 19 = .ok (.iaload, 1) := by decide +kernel
theorem dX12_hotelGoes_20 : decode cX12_hotelGoes 20 = .ok (.irem, 1) := by decide +kernel
theorem dX12_hotelGoes_21 : decode cX12_hotelGoes 21 = .ok (.ifCond .eq 4, 3) := by decide +kernel
theorem dX12_hotelGoes_24 : decode cX12_hotelGoes 24 = .ok (.return_, 1) := by decide +kernel
theorem dX12_hotelGoes_25 : decode cX12_hotelGoes 25 = .ok (.iconst 0, 1) := by decide +kernel
theorem dX12_hotelGoes_26 : decode cX12_hotelGoes 26 = .ok (.istore_n 2, 1) := by decide +kernel
theorem dX12_hotelGoes_27 : decode cX12_hotelGoes 27 = .ok (.iload_n 2, 1) := by decide +kernel
theorem dX12_hotelGoes_28 : decode cX12_hotelGoes 28 = .ok (.aload_n 0, 1) := by decide +kernel
theorem dX12_hotelGoes_29 : decode cX12_hotelGoes 29 = .ok (.getfield 23, 3) := by decide +kernel
theorem dX12_hotelGoes_32 : decode cX12_hotelGoes 32 = .ok (.iconst 0, 1) := by decide +kernel
theorem dX12_hotelGoes_33 : decode cX12_hotelGoes 33 = .ok (.iaload, 1) := by decide +kernel
theorem dX12_hotelGoes_34 : decode cX12_hotelGoes 34 = .ok (.if_icmp .ge 72, 3) := by decide +kernel
theorem dX12_hotelGoes_37 : decode cX12_hotelGoes 37 = .ok (.aload_n 0, 1) := by decide +kernel
theorem dX12_hotelGoes_38 : decode cX12_hotelGoes 38 = .ok (.getfield 101, 3) := by decide +kernel
theorem dX12_hotelGoes_41 : decode cX12_hotelGoes 41 = .ok (.iload_n 2, 1) := by decide +kernel
theorem dX12_hotelGoes_42 : decode cX12_hotelGoes 42 = .ok (.iaload, 1) := by decide +kernel
theorem dX12_hotelGoes_43 : decode cX12_hotelGoes 43 = .ok (.istore_n 3, 1) := by decide +kernel
theorem dX12_hotelGoes_44 : decode cX12_hotelGoes 44 = .ok (.iload_n 3, 1) := by decide +kernel
theorem dX12_hotelGoes_45 : decode cX12_hotelGoes 45 = .ok (.iconst (-1), 1) := by decide +kernel
theorem dX12_hotelGoes_46 : decode cX12_hotelGoes 46 = .ok (.if_icmp .eq 54, 3) := by decide +kernel
theorem dX12_hotelGoes_49 : decode cX12_hotelGoes 49 = .ok (.iload_n 1, 1) := by decide +kernel
theorem dX12_hotelGoes_50 : decode cX12_hotelGoes 50 = .ok (.aload_n 0, 1) := by decide +kernel
theorem dX12_hotelGoes_51 : decode cX12_hotelGoes 51 = .ok (.getfield 104, 3) := by decide +kernel
theorem dX12_hotelGoes_54 : decode cX12_hotelGoes 54 = .ok (.iload_n 2, 1) := by decide +kernel
theorem dX12_hotelGoes_55 : decode cX12_hotelGoes 55 = .ok (.iaload, 1) := by decide +kernel
theorem dX12_hotelGoes_56 : decode cX12_hotelGoes 56 = .ok (.isub, 1) := by decide +kernel
theorem dX12_hotelGoes_57 : decode cX12_hotelGoes 57 = .ok (.aload_n 0, 1) := by decide +kernel
theorem dX12_hotelGoes_58 : decode cX12_hotelGoes 58 = .ok (.getfield 313, 3) := by decide +kernel
theorem dX12_hotelGoes_61 : decode cX12_hotelGoes 61 = .ok (.if_icmp .ge 6, 3) := by decide +kernel
theorem dX12_hotelGoes_64 : decode cX12_hotelGoes 64 = .ok (.goto 36, 3) := by decide +kernel
theorem dX12_hotelGoes_67 : decode cX12_hotelGoes 67 = .ok (.aload_n 0, 1) := by decide +kernel
theorem dX12_hotelGoes_68 : decode cX12_hotelGoes 68 = .ok (.iload_n 3, 1) := by decide +kernel
theorem dX12_hotelGoes_69 : decode cX12_hotelGoes 69 = .ok (.invokevirtual 316, 3) := by decide +kernel
theorem dX12_hotelGoes_72 : decode cX12_hotelGoes 72 = .ok (.aload_n 0, 1) := by decide +kernel
theorem dX12_hotelGoes_73 : decode cX12_hotelGoes 73 = .ok (.getfield 95, 3) := by decide +kernel
theorem dX12_hotelGoes_76 : decode cX12_hotelGoes 76 = .ok (.iload_n 3, 1) := by decide +kernel
theorem dX12_hotelGoes_77 : decode cX12_hotelGoes 77 = .ok (.dup2, 1) := by decide +kernel
theorem dX12_hotelGoes_78 : decode cX12_hotelGoes 78 = .ok (.iaload, 1) := by decide +kernel
theorem dX12_hotelGoes_79 : decode cX12_hotelGoes 79 = .ok (.iconst 1, 1) := by decide +kernel
theorem dX12_hotelGoes_80 : decode cX12_hotelGoes 80 = .ok (.iadd, 1) := by decide +kernel
theorem dX12_hotelGoes_81 : decode cX12_hotelGoes 81 = .ok (.iastore, 1) := by decide +kernel
theorem dX12_hotelGoes_82 : decode cX12_hotelGoes 82 = .ok (.aload_n 0, 1) := by decide +kernel
theorem dX12_hotelGoes_83 : decode cX12_hotelGoes 83 = .ok (.getfield 77, 3) := by decide +kernel
theorem dX12_hotelGoes_86 : decode cX12_hotelGoes 86 = .ok (.iload_n 3, 1) := by decide +kernel
theorem dX12_hotelGoes_87 : decode cX12_hotelGoes 87 = .ok (.aload_n 0, 1) := by decide +kernel
theorem dX12_hotelGoes_88 : decode cX12_hotelGoes 88 = .ok (.getfield 37, 3) := by decide +kernel
theorem dX12_hotelGoes_91 : decode cX12_hotelGoes 91 = .ok (.iload_n 3, 1) := by decide +kernel
theorem dX12_hotelGoes_92 : decode cX12_hotelGoes 92 = .ok (.aaload, 1) := by decide +kernel
theorem dX12_hotelGoes_93 : decode cX12_hotelGoes 93 = .ok (.iconst 1, 1) := by decide +kernel
theorem dX12_hotelGoes_94 : decode cX12_hotelGoes 94 = .ok (.iaload, 1) := by decide +kernel
theorem dX12_hotelGoes_95 : decode cX12_hotelGoes 95 = .ok (.iload_n 1, 1) := by decide +kernel
theorem dX12_hotelGoes_96 : decode cX12_hotelGoes 96 = .ok (.invokestatic 291, 3) := by decide +kernel
theorem dX12_hotelGoes_99 : decode cX12_hotelGoes 99 = .ok (.iastore, 1) := by decide +kernel
theorem dX12_hotelGoes_100 : decode cX12_hotelGoes 100 = .ok (.iinc 2 1, 3) := by decide +kernel
theorem dX12_hotelGoes_103 : decode cX12_hotelGoes 103 = .ok (.goto (-76), 3) := by decide +kernel
theorem dX12_hotelGoes_106 : decode cX12_hotelGoes 106 = .ok (.return_, 1) := by decide +kernel
theorem dX12_nextWaiting_0 : decode cX12_nextWaiting 0 = .ok (.iconst (-1), 1) := by decide +kernel
theorem dX12_nextWaiting_1 : decode cX12_nextWaiting 1 = .ok (.istore_n 3, 1) := by decide +kernel
theorem dX12_nextWaiting_2 : decode cX12_nextWaiting 2 = .ok (.iconst 0, 1) := by decide +kernel
theorem dX12_nextWaiting_3 : decode cX12_nextWaiting 3 = .ok (.istore 4, 2) := by decide +kernel
theorem dX12_nextWaiting_5 : decode cX12_nextWaiting 5 = .ok (.iload 4, 2) := by decide +kernel
theorem dX12_nextWaiting_7 : decode cX12_nextWaiting 7 = .ok (.aload_n 0, 1) := by decide +kernel
theorem dX12_nextWaiting_8 : decode cX12_nextWaiting 8 = .ok (.getfield 23, 3) := by decide +kernel
theorem dX12_nextWaiting_11 : decode cX12_nextWaiting 11 = .ok (.iconst 1, 1) := by decide +kernel
theorem dX12_nextWaiting_12 : decode cX12_nextWaiting 12 = .ok (.iaload, 1) := by decide +kernel
theorem dX12_nextWaiting_13 : decode cX12_nextWaiting 13 = .ok (.if_icmp .ge 96, 3) := by decide +kernel
theorem dX12_nextWaiting_16 : decode cX12_nextWaiting 16 = .ok (.aload_n 0, 1) := by decide +kernel
theorem dX12_nextWaiting_17 : decode cX12_nextWaiting 17 = .ok (.getfield 77, 3) := by decide +kernel
theorem dX12_nextWaiting_20 : decode cX12_nextWaiting 20 = .ok (.iload 4, 2) := by decide +kernel
theorem dX12_nextWaiting_22 : decode cX12_nextWaiting 22 = .ok (.iaload, 1) := by decide +kernel
theorem dX12_nextWaiting_23 : decode cX12_nextWaiting 23 = .ok (.iconst (-1), 1) := by decide +kernel
theorem dX12_nextWaiting_24 : decode cX12_nextWaiting 24 = .ok (.if_icmp .eq 79, 3) := by decide +kernel
theorem dX12_nextWaiting_27 : decode cX12_nextWaiting 27 = .ok (.aload_n 0, 1) := by decide +kernel
theorem dX12_nextWaiting_28 : decode cX12_nextWaiting 28 = .ok (.getfield 77, 3) := by decide +kernel
theorem dX12_nextWaiting_31 : decode cX12_nextWaiting 31 = .ok (.iload 4, 2) := by decide +kernel
theorem dX12_nextWaiting_33 : decode cX12_nextWaiting 33 = .ok (.iaload, 1) := by decide +kernel
theorem dX12_nextWaiting_34 : decode cX12_nextWaiting 34 = .ok (.iload_n 1, 1) := by decide +kernel
theorem dX12_nextWaiting_35 : decode cX12_nextWaiting 35 = .ok (.if_icmp .gt 68, 3) := by decide +kernel
theorem dX12_nextWaiting_38 : decode cX12_nextWaiting 38 = .ok (.iload_n 2, 1) := by decide +kernel
theorem dX12_nextWaiting_39 : decode cX12_nextWaiting 39 = .ok (.iload 4, 2) := by decide +kernel
theorem dX12_nextWaiting_41 : decode cX12_nextWaiting 41 = .ok (.ishr, 1) := by decide +kernel
theorem dX12_nextWaiting_42 : decode cX12_nextWaiting 42 = .ok (.iconst 1, 1) := by decide +kernel
theorem dX12_nextWaiting_43 : decode cX12_nextWaiting 43 = .ok (.iand, 1) := by decide +kernel
theorem dX12_nextWaiting_44 : decode cX12_nextWaiting 44 = .ok (.ifCond .ne 59, 3) := by decide +kernel
theorem dX12_nextWaiting_47 : decode cX12_nextWaiting 47 = .ok (.iload_n 3, 1) := by decide +kernel
theorem dX12_nextWaiting_48 : decode cX12_nextWaiting 48 = .ok (.iconst (-1), 1) := by decide +kernel
theorem dX12_nextWaiting_49 : decode cX12_nextWaiting 49 = .ok (.if_icmp .eq 51, 3) := by decide +kernel
theorem dX12_nextWaiting_52 : decode cX12_nextWaiting 52 = .ok (.aload_n 0, 1) := by decide +kernel
theorem dX12_nextWaiting_53 : decode cX12_nextWaiting 53 = .ok (.getfield 77, 3) := by decide +kernel
theorem dX12_nextWaiting_56 : decode cX12_nextWaiting 56 = .ok (.iload 4, 2) := by decide +kernel
theorem dX12_nextWaiting_58 : decode cX12_nextWaiting 58 = .ok (.iaload, 1) := by decide +kernel
theorem dX12_nextWaiting_59 : decode cX12_nextWaiting 59 = .ok (.aload_n 0, 1) := by decide +kernel
theorem dX12_nextWaiting_60 : decode cX12_nextWaiting 60 = .ok (.getfield 77, 3) := by decide +kernel
theorem dX12_nextWaiting_63 : decode cX12_nextWaiting 63 = .ok (.iload_n 3, 1) := by decide +kernel
theorem dX12_nextWaiting_64 : decode cX12_nextWaiting 64 = .ok (.iaload, 1) := by decide +kernel
theorem dX12_nextWaiting_65 : decode cX12_nextWaiting 65 = .ok (.if_icmp .lt 35, 3) := by decide +kernel
theorem dX12_nextWaiting_68 : decode cX12_nextWaiting 68 = .ok (.aload_n 0, 1) := by decide +kernel
theorem dX12_nextWaiting_69 : decode cX12_nextWaiting 69 = .ok (.getfield 77, 3) := by decide +kernel
theorem dX12_nextWaiting_72 : decode cX12_nextWaiting 72 = .ok (.iload 4, 2) := by decide +kernel
theorem dX12_nextWaiting_74 : decode cX12_nextWaiting 74 = .ok (.iaload, 1) := by decide +kernel
theorem dX12_nextWaiting_75 : decode cX12_nextWaiting 75 = .ok (.aload_n 0, 1) := by decide +kernel
theorem dX12_nextWaiting_76 : decode cX12_nextWaiting 76 = .ok (.getfield 77, 3) := by decide +kernel
theorem dX12_nextWaiting_79 : decode cX12_nextWaiting 79 = .ok (.iload_n 3, 1) := by decide +kernel
theorem dX12_nextWaiting_80 : decode cX12_nextWaiting 80 = .ok (.iaload, 1) := by decide +kernel
theorem dX12_nextWaiting_81 : decode cX12_nextWaiting 81 = .ok (.if_icmp .ne 22, 3) := by decide +kernel
theorem dX12_nextWaiting_84 : decode cX12_nextWaiting 84 = .ok (.aload_n 0, 1) := by decide +kernel
theorem dX12_nextWaiting_85 : decode cX12_nextWaiting 85 = .ok (.getfield 80, 3) := by decide +kernel
theorem dX12_nextWaiting_88 : decode cX12_nextWaiting 88 = .ok (.iload 4, 2) := by decide +kernel
theorem dX12_nextWaiting_90 : decode cX12_nextWaiting 90 = .ok (.iaload, 1) := by decide +kernel
theorem dX12_nextWaiting_91 : decode cX12_nextWaiting 91 = .ok (.aload_n 0, 1) := by decide +kernel
theorem dX12_nextWaiting_92 : decode cX12_nextWaiting 92 = .ok (.getfield 80, 3) := by decide +kernel
theorem dX12_nextWaiting_95 : decode cX12_nextWaiting 95 = .ok (.iload_n 3, 1) := by decide +kernel
theorem dX12_nextWaiting_96 : decode cX12_nextWaiting 96 = .ok (.iaload, 1) := by decide +kernel
theorem dX12_nextWaiting_97 : decode cX12_nextWaiting 97 = .ok (.if_icmp .ge 6, 3) := by decide +kernel
theorem dX12_nextWaiting_100 : decode cX12_nextWaiting 100 = .ok (.iload 4, 2) := by decide +kernel
theorem dX12_nextWaiting_102 : decode cX12_nextWaiting 102 = .ok (.istore_n 3, 1) := by decide +kernel
theorem dX12_nextWaiting_103 : decode cX12_nextWaiting 103 = .ok (.iinc 4 1, 3) := by decide +kernel
theorem dX12_nextWaiting_106 : decode cX12_nextWaiting 106 = .ok (.goto (-101), 3) := by decide +kernel
theorem dX12_nextWaiting_109 : decode cX12_nextWaiting 109 = .ok (.iload_n 3, 1) := by decide +kernel
theorem dX12_nextWaiting_110 : decode cX12_nextWaiting 110 = .ok (.ireturn, 1) := by decide +kernel
theorem dX12_guestOfRank_0 : decode cX12_guestOfRank 0 = .ok (.iconst 0, 1) := by decide +kernel
theorem dX12_guestOfRank_1 : decode cX12_guestOfRank 1 = .ok (.istore_n 2, 1) := by decide +kernel
theorem dX12_guestOfRank_2 : decode cX12_guestOfRank 2 = .ok (.aload_n 0, 1) := by decide +kernel
theorem dX12_guestOfRank_3 : decode cX12_guestOfRank 3 = .ok (.getfield 80, 3) := by decide +kernel
theorem dX12_guestOfRank_6 : decode cX12_guestOfRank 6 = .ok (.iload_n 2, 1) := by decide +kernel
theorem dX12_guestOfRank_7 : decode cX12_guestOfRank 7 = .ok (.iaload, 1) := by decide +kernel
theorem dX12_guestOfRank_8 : decode cX12_guestOfRank 8 = .ok (.iload_n 1, 1) := by decide +kernel
theorem dX12_guestOfRank_9 : decode cX12_guestOfRank 9 = .ok (.if_icmp .eq 9, 3) := by decide +kernel
theorem dX12_guestOfRank_12 : decode cX12_guestOfRank 12 = .ok (.iinc 2 1, 3) := by decide +kernel
theorem dX12_guestOfRank_15 : decode cX12_guestOfRank 15 = .ok (.goto (-13), 3) := by decide +kernel
theorem dX12_guestOfRank_18 : decode cX12_guestOfRank 18 = .ok (.iload_n 2, 1) := by decide +kernel
theorem dX12_guestOfRank_19 : decode cX12_guestOfRank 19 = .ok (.ireturn, 1) := by decide +kernel
theorem dX12_half_0 : decode cX12_half 0 = .ok (.iconst 0, 1) := by decide +kernel
theorem dX12_half_1 : decode cX12_half 1 = .ok (.istore_n 2, 1) := by decide +kernel
theorem dX12_half_2 : decode cX12_half 2 = .ok (.iload_n 2, 1) := by decide +kernel
theorem dX12_half_3 : decode cX12_half 3 = .ok (.aload_n 0, 1) := by decide +kernel
theorem dX12_half_4 : decode cX12_half 4 = .ok (.getfield 23, 3) := by decide +kernel
theorem dX12_half_7 : decode cX12_half 7 = .ok (.iconst 1, 1) := by decide +kernel
theorem dX12_half_8 : decode cX12_half 8 = .ok (.iaload, 1) := by decide +kernel
theorem dX12_half_9 : decode cX12_half 9 = .ok (.if_icmp .ge 36, 3) := by decide +kernel
theorem dX12_half_12 : decode cX12_half 12 = .ok (.aload_n 0, 1) := by decide +kernel
theorem dX12_half_13 : decode cX12_half 13 = .ok (.getfield 37, 3) := by decide +kernel
theorem dX12_half_16 : decode cX12_half 16 = .ok (.iload_n 2, 1) := by decide +kernel
theorem dX12_half_17 : decode cX12_half 17 = .ok (.aaload, 1) := by decide +kernel
theorem dX12_half_18 : decode cX12_half 18 = .ok (.iconst 2, 1) := by decide +kernel
theorem dX12_half_19 : decode cX12_half 19 = .ok (.iaload, 1) := by decide +kernel
theorem dX12_half_20 : decode cX12_half 20 = .ok (.iload_n 1, 1) := by decide +kernel
theorem dX12_half_21 : decode cX12_half 21 = .ok (.if_icmp .eq 6, 3) := by decide +kernel
theorem dX12_half_24 : decode cX12_half 24 = .ok (.goto 15, 3) := by decide +kernel
theorem dX12_half_27 : decode cX12_half 27 = .ok (.aload_n 0, 1) := by decide +kernel
theorem dX12_half_28 : decode cX12_half 28 = .ok (.iload_n 2, 1) := by decide +kernel
theorem dX12_half_29 : decode cX12_half 29 = .ok (.invokevirtual 316, 3) := by decide +kernel
theorem dX12_half_32 : decode cX12_half 32 = .ok (.aload_n 0, 1) := by decide +kernel
theorem dX12_half_33 : decode cX12_half 33 = .ok (.getfield 77, 3) := by decide +kernel
theorem dX12_half_36 : decode cX12_half 36 = .ok (.iload_n 2, 1) := by decide +kernel
theorem dX12_half_37 : decode cX12_half 37 = .ok (.iconst (-1), 1) := by decide +kernel
theorem dX12_half_38 : decode cX12_half 38 = .ok (.iastore, 1) := by decide +kernel
theorem dX12_half_39 : decode cX12_half 39 = .ok (.iinc 2 1, 3) := by decide +kernel
theorem dX12_half_42 : decode cX12_half 42 = .ok (.goto (-40), 3) := by decide +kernel
theorem dX12_half_45 : decode cX12_half 45 = .ok (.aload_n 0, 1) := by decide +kernel
theorem dX12_half_46 : decode cX12_half 46 = .ok (.iload_n 1, 1) := by decide +kernel
theorem dX12_half_47 : decode cX12_half 47 = .ok (.invokevirtual 319, 3) := by decide +kernel
theorem dX12_half_50 : decode cX12_half 50 = .ok (.iconst 0, 1) := by decide +kernel
theorem dX12_half_51 : decode cX12_half 51 = .ok (.istore_n 2, 1) := by decide +kernel
theorem dX12_half_52 : decode cX12_half 52 = .ok (.iload_n 2, 1) := by decide +kernel
theorem dX12_half_53 : decode cX12_half 53 = .ok (.aload_n 0, 1) := by decide +kernel
theorem dX12_half_54 : decode cX12_half 54 = .ok (.getfield 23, 3) := by decide +kernel
theorem dX12_half_57 : decode cX12_half 57 = .ok (.iconst 1, 1) := by decide +kernel
theorem dX12_half_58 : decode cX12_half 58 = .ok (.iaload, 1) := by decide +kernel
theorem dX12_half_59 : decode cX12_half 59 = .ok (.if_icmp .ge 68, 3) := by decide +kernel
theorem dX12_half_62 : decode cX12_half 62 = .ok (.aload_n 0, 1) := by decide +kernel
theorem dX12_half_63 : decode cX12_half 63 = .ok (.iload_n 2, 1) := by decide +kernel
theorem dX12_half_64 : decode cX12_half 64 = .ok (.invokevirtual 322, 3) := by decide +kernel
theorem dX12_half_67 : decode cX12_half 67 = .ok (.istore_n 3, 1) := by decide +kernel
theorem dX12_half_68 : decode cX12_half 68 = .ok (.aload_n 0, 1) := by decide +kernel
theorem dX12_half_69 : decode cX12_half 69 = .ok (.getfield 71, 3) := by decide +kernel
theorem dX12_half_72 : decode cX12_half 72 = .ok (.iload_n 3, 1) := by decide +kernel
theorem dX12_half_73 : decode cX12_half 73 = .ok (.iaload, 1) := by decide +kernel
theorem dX12_half_74 : decode cX12_half 74 = .ok (.iload_n 1, 1) := by decide +kernel
theorem dX12_half_75 : decode cX12_half 75 = .ok (.if_icmp .ne 46, 3) := by decide +kernel
theorem dX12_half_78 : decode cX12_half 78 = .ok (.aload_n 0, 1) := by decide +kernel
theorem dX12_half_79 : decode cX12_half 79 = .ok (.getfield 37, 3) := by decide +kernel
theorem dX12_half_82 : decode cX12_half 82 = .ok (.iload_n 3, 1) := by decide +kernel
theorem dX12_half_83 : decode cX12_half 83 = .ok (.aaload, 1) := by decide +kernel
theorem dX12_half_84 : decode cX12_half 84 = .ok (.iconst 2, 1) := by decide +kernel
theorem dX12_half_85 : decode cX12_half 85 = .ok (.iaload, 1) := by decide +kernel
theorem dX12_half_86 : decode cX12_half 86 = .ok (.iload_n 1, 1) := by decide +kernel
theorem dX12_half_87 : decode cX12_half 87 = .ok (.if_icmp .gt 6, 3) := by decide +kernel
theorem dX12_half_90 : decode cX12_half 90 = .ok (.goto 31, 3) := by decide +kernel
theorem dX12_half_93 : decode cX12_half 93 = .ok (.aload_n 0, 1) := by decide +kernel
theorem dX12_half_94 : decode cX12_half 94 = .ok (.getfield 125, 3) := by decide +kernel
theorem dX12_half_97 : decode cX12_half 97 = .ok (.iload_n 3, 1) := by decide +kernel
theorem dX12_half_98 : decode cX12_half 98 = .ok (.aload_n 0, 1) := by decide +kernel
theorem dX12_half_99 : decode cX12_half 99 = .ok (.iload_n 3, 1) := by decide +kernel
theorem dX12_half_100 : decode cX12_half 100 = .ok (.iload_n 1, 1) := by decide +kernel
theorem dX12_half_101 : decode cX12_half 101 = .ok (.invokevirtual 325, 3) := by decide +kernel
theorem dX12_half_104 : decode cX12_half 104 = .ok (.bastore, 1) := by decide +kernel
theorem dX12_half_105 : decode cX12_half 105 = .ok (.aload_n 0, 1) := by decide +kernel
theorem dX12_half_106 : decode cX12_half 106 = .ok (.getfield 125, 3) := by decide +kernel
theorem dX12_half_109 : decode cX12_half 109 = .ok (.iload_n 3, 1) := by decide +kernel
theorem dX12_half_110 : decode cX12_half 110 = .ok (.baload, 1) := by decide +kernel
theorem dX12_half_111 : decode cX12_half 111 = .ok (.ifCond .ne 10, 3) := by decide +kernel
theorem dX12_half_114 : decode cX12_half 114 = .ok (.aload_n 0, 1) := by decide +kernel
theorem dX12_half_115 : decode cX12_half 115 = .ok (.getfield 77, 3) := by decide +kernel
theorem dX12_half_118 : decode cX12_half 118 = .ok (.iload_n 3, 1) := by decide +kernel
theorem dX12_half_119 : decode cX12_half 119 = .ok (.iload_n 1, 1) := by decide +kernel
theorem dX12_half_120 : decode cX12_half 120 = .ok (.iastore, 1) := by decide +kernel
theorem dX12_half_121 : decode cX12_half 121 = .ok (.iinc 2 1, 3) := by decide +kernel
theorem dX12_half_124 : decode cX12_half 124 = .ok (.goto (-72), 3) := by decide +kernel
theorem dX12_half_127 : decode cX12_half 127 = .ok (.iconst 0, 1) := by decide +kernel
theorem dX12_half_128 : decode cX12_half 128 = .ok (.istore_n 2, 1) := by decide +kernel
theorem dX12_half_129 : decode cX12_half 129 = .ok (.aload_n 0, 1) := by decide +kernel
theorem dX12_half_130 : decode cX12_half 130 = .ok (.iload_n 1, 1) := by decide +kernel
theorem dX12_half_131 : decode cX12_half 131 = .ok (.iload_n 2, 1) := by decide +kernel
theorem dX12_half_132 : decode cX12_half 132 = .ok (.invokevirtual 329, 3) := by decide +kernel
theorem dX12_half_135 : decode cX12_half 135 = .ok (.istore_n 3, 1) := by decide +kernel
theorem dX12_half_136 : decode cX12_half 136 = .ok (.iload_n 3, 1) := by decide +kernel
theorem dX12_half_137 : decode cX12_half 137 = .ok (.iconst (-1), 1) := by decide +kernel
theorem dX12_half_138 : decode cX12_half 138 = .ok (.if_icmp .eq 26, 3) := by decide +kernel
theorem dX12_half_141 : decode cX12_half 141 = .ok (.iload_n 2, 1) := by decide +kernel
theorem dX12_half_142 : decode cX12_half 142 = .ok (.iconst 1, 1) := by decide +kernel
theorem dX12_half_143 : decode cX12_half 143 = .ok (.iload_n 3, 1) := by decide +kernel
theorem dX12_half_144 : decode cX12_half 144 = .ok (.ishl, 1) := by decide +kernel
theorem dX12_half_145 : decode cX12_half 145 = .ok (.ior, 1) := by decide +kernel
theorem dX12_half_146 : decode cX12_half 146 = .ok (.istore_n 2, 1) := by decide +kernel
theorem dX12_half_147 : decode cX12_half 147 = .ok (.aload_n 0, 1) := by decide +kernel
theorem dX12_half_148 : decode cX12_half 148 = .ok (.iload_n 3, 1) := by decide +kernel
theorem dX12_half_149 : decode cX12_half 149 = .ok (.iload_n 1, 1) := by decide +kernel
theorem dX12_half_150 : decode cX12_half 150 = .ok (.invokevirtual 325, 3) := by decide +kernel
theorem dX12_half_153 : decode cX12_half 153 = .ok (.pop, 1) := by decide +kernel
theorem dX12_half_154 : decode cX12_half 154 = .ok (.aload_n 0, 1) := by decide +kernel
theorem dX12_half_155 : decode cX12_half 155 = .ok (.iload_n 1, 1) := by decide +kernel
theorem dX12_half_156 : decode cX12_half 156 = .ok (.iload_n 2, 1) := by decide +kernel
theorem dX12_half_157 : decode cX12_half 157 = .ok (.invokevirtual 329, 3) := by decide +kernel
theorem dX12_half_160 : decode cX12_half 160 = .ok (.istore_n 3, 1) := by decide +kernel
theorem dX12_half_161 : decode cX12_half 161 = .ok (.goto (-25), 3) := by decide +kernel
theorem dX12_half_164 : decode cX12_half 164 = .ok (.aload_n 0, 1) := by decide +kernel
theorem dX12_half_165 : decode cX12_half 165 = .ok (.getfield 116, 3) := by decide +kernel
theorem dX12_half_168 : decode cX12_half 168 = .ok (.iload_n 1, 1) := by decide +kernel
theorem dX12_half_169 : decode cX12_half 169 = .ok (.iconst 0, 1) := by decide +kernel
theorem dX12_half_170 : decode cX12_half 170 = .ok (.iastore, 1) := by decide +kernel
theorem dX12_half_171 : decode cX12_half 171 = .ok (.iconst 0, 1) := by decide +kernel
theorem dX12_half_172 : decode cX12_half 172 = .ok (.istore_n 3, 1) := by decide +kernel
theorem dX12_half_173 : decode cX12_half 173 = .ok (.iload_n 3, 1) := by decide +kernel
theorem dX12_half_174 : decode cX12_half 174 = .ok (.aload_n 0, 1) := by decide +kernel
theorem dX12_half_175 : decode cX12_half 175 = .ok (.getfield 23, 3) := by decide +kernel
theorem dX12_half_178 : decode cX12_half 178 = .ok (.iconst 1, 1) := by decide +kernel
theorem dX12_half_179 : decode cX12_half 179 = .ok (.iaload, 1) := by decide +kernel
theorem dX12_half_180 : decode cX12_half 180 = .ok (.if_icmp .ge 54, 3) := by decide +kernel
theorem dX12_half_183 : decode cX12_half 183 = .ok (.aload_n 0, 1) := by decide +kernel
theorem dX12_half_184 : decode cX12_half 184 = .ok (.getfield 77, 3) := by decide +kernel
theorem dX12_half_187 : decode cX12_half 187 = .ok (.iload_n 3, 1) := by decide +kernel
theorem dX12_half_188 : decode cX12_half 188 = .ok (.iaload, 1) := by decide +kernel
theorem dX12_half_189 : decode cX12_half 189 = .ok (.iconst (-1), 1) := by decide +kernel
theorem dX12_half_190 : decode cX12_half 190 = .ok (.if_icmp .eq 38, 3) := by decide +kernel
theorem dX12_half_193 : decode cX12_half 193 = .ok (.aload_n 0, 1) := by decide +kernel
theorem dX12_half_194 : decode cX12_half 194 = .ok (.getfield 77, 3) := by decide +kernel
theorem dX12_half_197 : decode cX12_half 197 = .ok (.iload_n 3, 1) := by decide +kernel
theorem dX12_half_198 : decode cX12_half 198 = .ok (.iaload, 1) := by decide +kernel
theorem dX12_half_199 : decode cX12_half 199 = .ok (.iload_n 1, 1) := by decide +kernel
theorem dX12_half_200 : decode cX12_half 200 = .ok (.if_icmp .le 6, 3) := by decide +kernel
theorem dX12_half_203 : decode cX12_half 203 = .ok (.goto 25, 3) := by decide +kernel
theorem dX12_half_206 : decode cX12_half 206 = .ok (.aload_n 0, 1) := by decide +kernel
theorem dX12_half_207 : decode cX12_half 207 = .ok (.getfield 116, 3) := by decide +kernel
theorem dX12_half_210 : decode cX12_half 210 = .ok (.iload_n 1, 1) := by decide +kernel
theorem dX12_half_211 : decode cX12_half 211 = .ok (.dup2, 1) := by decide +kernel
theorem dX12_half_212 : decode cX12_half 212 = .ok (.iaload, 1) := by decide +kernel
theorem dX12_half_213 : decode cX12_half 213 = .ok (.iconst 1, 1) := by decide +kernel
theorem dX12_half_214 : decode cX12_half 214 = .ok (.iload_n 3, 1) := by decide +kernel
theorem dX12_half_215 : decode cX12_half 215 = .ok (.ishl, 1) := by decide +kernel
theorem dX12_half_216 : decode cX12_half 216 = .ok (.ior, 1) := by decide +kernel
theorem dX12_half_217 : decode cX12_half 217 = .ok (.iastore, 1) := by decide +kernel
theorem dX12_half_218 : decode cX12_half 218 = .ok (.aload_n 0, 1) := by decide +kernel
theorem dX12_half_219 : decode cX12_half 219 = .ok (.getfield 98, 3) := by decide +kernel
theorem dX12_half_222 : decode cX12_half 222 = .ok (.iload_n 3, 1) := by decide +kernel
theorem dX12_half_223 : decode cX12_half 223 = .ok (.dup2, 1) := by decide +kernel
theorem dX12_half_224 : decode cX12_half 224 = .ok (.iaload, 1) := by decide +kernel
theorem dX12_half_225 : decode cX12_half 225 = .ok (.iconst 1, 1) := by decide +kernel
theorem dX12_half_226 : decode cX12_half 226 = .ok (.iadd, 1) := by decide +kernel
theorem dX12_half_227 : decode cX12_half 227 = .ok (.iastore, 1) := by decide +kernel
theorem dX12_half_228 : decode cX12_half 228 = .ok (.iinc 3 1, 3) := by decide +kernel
theorem dX12_half_231 : decode cX12_half 231 = .ok (.goto (-58), 3) := by decide +kernel
theorem dX12_half_234 : decode cX12_half 234 = .ok (.iconst 0, 1) := by decide +kernel
theorem dX12_half_235 : decode cX12_half 235 = .ok (.istore_n 3, 1) := by decide +kernel
theorem dX12_half_236 : decode cX12_half 236 = .ok (.iload_n 3, 1) := by decide +kernel
theorem dX12_half_237 : decode cX12_half 237 = .ok (.aload_n 0, 1) := by decide +kernel
theorem dX12_half_238 : decode cX12_half 238 = .ok (.getfield 23, 3) := by decide +kernel
theorem dX12_half_241 : decode cX12_half 241 = .ok (.iconst 0, 1) := by decide +kernel
theorem dX12_half_242 : decode cX12_half 242 = .ok (.iaload, 1) := by decide +kernel
theorem dX12_half_243 : decode cX12_half 243 = .ok (.if_icmp .ge 139, 3) := by decide +kernel
theorem dX12_half_246 : decode cX12_half 246 = .ok (.aload_n 0, 1) := by decide +kernel
theorem dX12_half_247 : decode cX12_half 247 = .ok (.getfield 101, 3) := by decide +kernel
theorem dX12_half_250 : decode cX12_half 250 = .ok (.iload_n 3, 1) := by decide +kernel
theorem dX12_half_251 : decode cX12_half 251 = .ok (.iaload, 1) := by decide +kernel
theorem dX12_half_252 : decode cX12_half 252 = .ok (.istore 4, 2) := by decide +kernel
theorem dX12_half_254 : decode cX12_half 254 = .ok (.aload_n 0, 1) := by decide +kernel
theorem dX12_half_255 : decode cX12_half 255 = .ok (.getfield 119, 3) := by decide +kernel
theorem dX12_half_258 : decode cX12_half 258 = .ok (.iload_n 3, 1) := by decide +kernel
theorem dX12_half_259 : decode cX12_half 259 = .ok (.aaload, 1) := by decide +kernel
theorem dX12_half_260 : decode cX12_half 260 = .ok (.iload_n 1, 1) := by decide +kernel
theorem dX12_half_261 : decode cX12_half 261 = .ok (.iload 4, 2) := by decide +kernel
theorem dX12_half_263 : decode cX12_half 263 = .ok (.iastore, 1) := by decide +kernel
theorem dX12_half_264 : decode cX12_half 264 = .ok (.aload_n 0, 1) := by decide +kernel
theorem dX12_half_265 : decode cX12_half 265 = .ok (.getfield 122, 3) := by decide +kernel
theorem dX12_half_268 : decode cX12_half 268 = .ok (.iload_n 3, 1) := by decide +kernel
theorem dX12_half_269 : decode cX12_half 269 = .ok (.aaload, 1) := by decide +kernel
theorem dX12_half_270 : decode cX12_half 270 = .ok (.iload_n 1, 1) := by decide +kernel
theorem dX12_half_271 : decode cX12_half 271 = .ok (.iconst (-1), 1) := by decide +kernel
theorem dX12_half_272 : decode cX12_half 272 = .ok (.iastore, 1) := by decide +kernel
theorem dX12_half_273 : decode cX12_half 273 = .ok (.iload 4, 2) := by decide +kernel
theorem dX12_half_275 : decode cX12_half 275 = .ok (.iconst (-1), 1) := by decide +kernel
theorem dX12_half_276 : decode cX12_half 276 = .ok (.if_icmp .ne 6, 3) := by decide +kernel
theorem dX12_half_279 : decode cX12_half 279 = .ok (.goto 97, 3) := by decide +kernel
theorem dX12_half_282 : decode cX12_half 282 = .ok (.iload_n 1, 1) := by decide +kernel
theorem dX12_half_283 : decode cX12_half 283 = .ok (.aload_n 0, 1) := by decide +kernel
theorem dX12_half_284 : decode cX12_half 284 = .ok (.getfield 37, 3) := by decide +kernel
theorem dX12_half_287 : decode cX12_half 287 = .ok (.iload 4, 2) := by decide +kernel
theorem dX12_half_289 : decode cX12_half 289 = .ok (.aaload, 1) := by decide +kernel
theorem dX12_half_290 : decode cX12_half 290 = .ok (.iconst 1, 1) := by decide +kernel
theorem dX12_half_291 : decode cX12_half 291 = .ok (.iaload, 1) := by decide +kernel
theorem dX12_half_292 : decode cX12_half 292 = .ok (.if_icmp .ge 16, 3) := by decide +kernel
theorem dX12_half_295 : decode cX12_half 295 = .ok (.aload_n 0, 1) := by decide +kernel
theorem dX12_half_296 : decode cX12_half 296 = .ok (.getfield 110, 3) := by decide +kernel
theorem dX12_half_299 : decode cX12_half 299 = .ok (.iload_n 3, 1) := by decide +kernel
theorem dX12_half_300 : decode cX12_half 300 = .ok (.dup2, 1) := by decide +kernel
theorem dX12_half_301 : decode cX12_half 301 = .ok (.iaload, 1) := by decide +kernel
theorem dX12_half_302 : decode cX12_half 302 = .ok (.iconst 1, 1) := by decide +kernel
theorem dX12_half_303 : decode cX12_half 303 = .ok (.iadd, 1) := by decide +kernel
theorem dX12_half_304 : decode cX12_half 304 = .ok (.iastore, 1) := by decide +kernel
theorem dX12_half_305 : decode cX12_half 305 = .ok (.goto 71, 3) := by decide +kernel
theorem dX12_half_308 : decode cX12_half 308 = .ok (.aload_n 0, 1) := by decide +kernel
theorem dX12_half_309 : decode cX12_half 309 = .ok (.getfield 122, 3) := by decide +kernel
theorem dX12_half_312 : decode cX12_half 312 = .ok (.iload_n 3, 1) := by decide +kernel
theorem dX12_half_313 : decode cX12_half 313 = .ok (.aaload, 1) := by decide +kernel
theorem dX12_half_314 : decode cX12_half 314 = .ok (.iload_n 1, 1) := by decide +kernel
theorem dX12_half_315 : decode cX12_half 315 = .ok (.iload 4, 2) := by decide +kernel
theorem dX12_half_317 : decode cX12_half 317 = .ok (.iastore, 1) := by decide +kernel
theorem dX12_half_318 : decode cX12_half 318 = .ok (.aload_n 0, 1) := by decide +kernel
theorem dX12_half_319 : decode cX12_half 319 = .ok (.getfield 104, 3) := by decide +kernel
theorem dX12_half_322 : decode cX12_half 322 = .ok (.iload_n 3, 1) := by decide +kernel
theorem dX12_half_323 : decode cX12_half 323 = .ok (.iload_n 1, 1) := by decide +kernel
theorem dX12_half_324 : decode cX12_half 324 = .ok (.iconst 1, 1) := by decide +kernel
theorem dX12_half_325 : decode cX12_half 325 = .ok (.iadd, 1) := by decide +kernel
theorem dX12_half_326 : decode cX12_half 326 = .ok (.iastore, 1) := by decide +kernel
theorem dX12_half_327 : decode cX12_half 327 = .ok (.aload_n 0, 1) := by decide +kernel
theorem dX12_half_328 : decode cX12_half 328 = .ok (.getfield 107, 3) := by decide +kernel
theorem dX12_half_331 : decode cX12_half 331 = .ok (.iload_n 3, 1) := by decide +kernel
theorem dX12_half_332 : decode cX12_half 332 = .ok (.dup2, 1) := by decide +kernel
theorem dX12_half_333 : decode cX12_half 333 = .ok (.iaload, 1) := by decide +kernel
theorem dX12_half_334 : decode cX12_half 334 = .ok (.iconst 1, 1) := by decide +kernel
theorem dX12_half_335 : decode cX12_half 335 = .ok (.iadd, 1) := by decide +kernel
theorem dX12_half_336 : decode cX12_half 336 = .ok (.iastore, 1) := by decide +kernel
theorem dX12_half_337 : decode cX12_half 337 = .ok (.aload_n 0, 1) := by decide +kernel
theorem dX12_half_338 : decode cX12_half 338 = .ok (.getfield 86, 3) := by decide +kernel
theorem dX12_half_341 : decode cX12_half 341 = .ok (.iload 4, 2) := by decide +kernel
theorem dX12_half_343 : decode cX12_half 343 = .ok (.dup2, 1) := by decide +kernel
theorem dX12_half_344 : decode cX12_half 344 = .ok (.iaload, 1) := by decide +kernel
theorem dX12_half_345 : decode cX12_half 345 = .ok (.iconst 1, 1) := by decide +kernel
theorem dX12_half_346 : decode cX12_half 346 = .ok (.iadd, 1) := by decide +kernel
theorem dX12_half_347 : decode cX12_half 347 = .ok (.iastore, 1) := by decide +kernel
theorem dX12_half_348 : decode cX12_half 348 = .ok (.aload_n 0, 1) := by decide +kernel
theorem dX12_half_349 : decode cX12_half 349 = .ok (.getfield 89, 3) := by decide +kernel
theorem dX12_half_352 : decode cX12_half 352 = .ok (.iload 4, 2) := by decide +kernel
theorem dX12_half_354 : decode cX12_half 354 = .ok (.dup2, 1) := by decide +kernel
theorem dX12_half_355 : decode cX12_half 355 = .ok (.iaload, 1) := by decide +kernel
theorem dX12_half_356 : decode cX12_half 356 = .ok (.aload_n 0, 1) := by decide +kernel
theorem dX12_half_357 : decode cX12_half 357 = .ok (.getfield 31, 3) := by decide +kernel
theorem dX12_half_360 : decode cX12_half 360 = .ok (.iload_n 3, 1) := by decide +kernel
theorem dX12_half_361 : decode cX12_half 361 = .ok (.aaload, 1) := by decide +kernel
theorem dX12_half_362 : decode cX12_half 362 = .ok (.iload_n 1, 1) := by decide +kernel
theorem dX12_half_363 : decode cX12_half 363 = .ok (.bipush 12, 2) := by decide +kernel
theorem dX12_half_365 : decode cX12_half 365 = .ok (.if_icmp .ge 7, 3) := by decide +kernel
theorem dX12_half_368 : decode cX12_half 368 = .ok (.iconst 0, 1) := by decide +kernel
theorem dX12_half_369 : decode cX12_half 369 = .ok (.goto 4, 3) := by decide +kernel
theorem dX12_half_372 : decode cX12_half 372 = .ok (.iconst 1, 1) := by decide +kernel
theorem dX12_half_373 : decode cX12_half 373 = .ok (.iaload, 1) := by decide +kernel
theorem dX12_half_374 : decode cX12_half 374 = .ok (.iadd, 1) := by decide +kernel
theorem dX12_half_375 : decode cX12_half 375 = .ok (.iastore, 1) := by decide +kernel
theorem dX12_half_376 : decode cX12_half 376 = .ok (.iinc 3 1, 3) := by decide +kernel
theorem dX12_half_379 : decode cX12_half 379 = .ok (.goto (-143), 3) := by decide +kernel
theorem dX12_half_382 : decode cX12_half 382 = .ok (.return_, 1) := by decide +kernel
theorem dX12_runs_0 : decode cX12_runs 0 = .ok (.iconst 0, 1) := by decide +kernel
theorem dX12_runs_1 : decode cX12_runs 1 = .ok (.istore_n 1, 1) := by decide +kernel
theorem dX12_runs_2 : decode cX12_runs 2 = .ok (.iload_n 1, 1) := by decide +kernel
theorem dX12_runs_3 : decode cX12_runs 3 = .ok (.bipush 8, 2) := by decide +kernel
theorem dX12_runs_5 : decode cX12_runs 5 = .ok (.if_icmp .ge 72, 3) := by decide +kernel
theorem dX12_runs_8 : decode cX12_runs 8 = .ok (.aload_n 0, 1) := by decide +kernel
theorem dX12_runs_9 : decode cX12_runs 9 = .ok (.getfield 74, 3) := by decide +kernel
theorem dX12_runs_12 : decode cX12_runs 12 = .ok (.iload_n 1, 1) := by decide +kernel
theorem dX12_runs_13 : decode cX12_runs 13 = .ok (.iconst (-1), 1) := by decide +kernel
theorem dX12_runs_14 : decode cX12_runs 14 = .ok (.iastore, 1) := by decide +kernel
theorem dX12_runs_15 : decode cX12_runs 15 = .ok (.aload_n 0, 1) := by decide +kernel
theorem dX12_runs_16 : decode cX12_runs 16 = .ok (.getfield 77, 3) := by decide +kernel
theorem dX12_runs_19 : decode cX12_runs 19 = .ok (.iload_n 1, 1) := by decide +kernel
theorem dX12_runs_20 : decode cX12_runs 20 = .ok (.iconst (-1), 1) := by decide +kernel
theorem dX12_runs_21 : decode cX12_runs 21 = .ok (.iastore, 1) := by decide +kernel
theorem dX12_runs_22 : decode cX12_runs 22 = .ok (.aload_n 0, 1) := by decide +kernel
theorem dX12_runs_23 : decode cX12_runs 23 = .ok (.getfield 83, 3) := by decide +kernel
theorem dX12_runs_26 : decode cX12_runs 26 = .ok (.iload_n 1, 1) := by decide +kernel
theorem dX12_runs_27 : decode cX12_runs 27 = .ok (.iconst (-1), 1) := by decide +kernel
theorem dX12_runs_28 : decode cX12_runs 28 = .ok (.iastore, 1) := by decide +kernel
theorem dX12_runs_29 : decode cX12_runs 29 = .ok (.aload_n 0, 1) := by decide +kernel
theorem dX12_runs_30 : decode cX12_runs 30 = .ok (.getfield 86, 3) := by decide +kernel
theorem dX12_runs_33 : decode cX12_runs 33 = .ok (.iload_n 1, 1) := by decide +kernel
theorem dX12_runs_34 : decode cX12_runs 34 = .ok (.iconst 0, 1) := by decide +kernel
theorem dX12_runs_35 : decode cX12_runs 35 = .ok (.iastore, 1) := by decide +kernel
theorem dX12_runs_36 : decode cX12_runs 36 = .ok (.aload_n 0, 1) := by decide +kernel
theorem dX12_runs_37 : decode cX12_runs 37 = .ok (.getfield 89, 3) := by decide +kernel
theorem dX12_runs_40 : decode cX12_runs 40 = .ok (.iload_n 1, 1) := by decide +kernel
theorem dX12_runs_41 : decode cX12_runs 41 = .ok (.iconst 0, 1) := by decide +kernel
theorem dX12_runs_42 : decode cX12_runs 42 = .ok (.iastore, 1) := by decide +kernel
theorem dX12_runs_43 : decode cX12_runs 43 = .ok (.aload_n 0, 1) := by decide +kernel
theorem dX12_runs_44 : decode cX12_runs 44 = .ok (.getfield 92, 3) := by decide +kernel
theorem dX12_runs_47 : decode cX12_runs 47 = .ok (.iload_n 1, 1) := by decide +kernel
theorem dX12_runs_48 : decode cX12_runs 48 = .ok (.iconst 0, 1) := by decide +kernel
theorem dX12_runs_49 : decode cX12_runs 49 = .ok (.iastore, 1) := by decide +kernel
theorem dX12_runs_50 : decode cX12_runs 50 = .ok (.aload_n 0, 1) := by decide +kernel
theorem dX12_runs_51 : decode cX12_runs 51 = .ok (.getfield 95, 3) := by decide +kernel
theorem dX12_runs_54 : decode cX12_runs 54 = .ok (.iload_n 1, 1) := by decide +kernel
theorem dX12_runs_55 : decode cX12_runs 55 = .ok (.iconst 0, 1) := by decide +kernel
theorem dX12_runs_56 : decode cX12_runs 56 = .ok (.iastore, 1) := by decide +kernel
theorem dX12_runs_57 : decode cX12_runs 57 = .ok (.aload_n 0, 1) := by decide +kernel
theorem dX12_runs_58 : decode cX12_runs 58 = .ok (.getfield 98, 3) := by decide +kernel
theorem dX12_runs_61 : decode cX12_runs 61 = .ok (.iload_n 1, 1) := by decide +kernel
theorem dX12_runs_62 : decode cX12_runs 62 = .ok (.iconst 0, 1) := by decide +kernel
theorem dX12_runs_63 : decode cX12_runs 63 = .ok (.iastore, 1) := by decide +kernel
theorem dX12_runs_64 : decode cX12_runs 64 = .ok (.aload_n 0, 1) := by decide +kernel
theorem dX12_runs_65 : decode cX12_runs 65 = .ok (.getfield 125, 3) := by decide +kernel
theorem dX12_runs_68 : decode cX12_runs 68 = .ok (.iload_n 1, 1) := by decide +kernel
theorem dX12_runs_69 : decode cX12_runs 69 = .ok (.iconst 0, 1) := by decide +kernel
theorem dX12_runs_70 : decode cX12_runs 70 = .ok (.bastore, 1) := by decide +kernel
theorem dX12_runs_71 : decode cX12_runs 71 = .ok (.iinc 1 1, 3) := by decide +kernel
theorem dX12_runs_74 : decode cX12_runs 74 = .ok (.goto (-72), 3) := by decide +kernel
theorem dX12_runs_77 : decode cX12_runs 77 = .ok (.iconst 0, 1) := by decide +kernel
theorem dX12_runs_78 : decode cX12_runs 78 = .ok (.istore_n 1, 1) := by decide +kernel
theorem dX12_runs_79 : decode cX12_runs 79 = .ok (.iload_n 1, 1) := by decide +kernel
theorem dX12_runs_80 : decode cX12_runs 80 = .ok (.bipush 8, 2) := by decide +kernel
theorem dX12_runs_82 : decode cX12_runs 82 = .ok (.if_icmp .ge 37, 3) := by decide +kernel
theorem dX12_runs_85 : decode cX12_runs 85 = .ok (.aload_n 0, 1) := by decide +kernel
theorem dX12_runs_86 : decode cX12_runs 86 = .ok (.getfield 101, 3) := by decide +kernel
theorem dX12_runs_89 : decode cX12_runs 89 = .ok (.iload_n 1, 1) := by decide +kernel
theorem dX12_runs_90 : decode cX12_runs 90 = .ok (.iconst (-1), 1) := by decide +kernel
theorem dX12_runs_91 : decode cX12_runs 91 = .ok (.iastore, 1) := by decide +kernel
theorem dX12_runs_92 : decode cX12_runs 92 = .ok (.aload_n 0, 1) := by decide +kernel
theorem dX12_runs_93 : decode cX12_runs 93 = .ok (.getfield 107, 3) := by decide +kernel
theorem dX12_runs_96 : decode cX12_runs 96 = .ok (.iload_n 1, 1) := by decide +kernel
theorem dX12_runs_97 : decode cX12_runs 97 = .ok (.iconst 0, 1) := by decide +kernel
theorem dX12_runs_98 : decode cX12_runs 98 = .ok (.iastore, 1) := by decide +kernel
theorem dX12_runs_99 : decode cX12_runs 99 = .ok (.aload_n 0, 1) := by decide +kernel
theorem dX12_runs_100 : decode cX12_runs 100 = .ok (.getfield 110, 3) := by decide +kernel
theorem dX12_runs_103 : decode cX12_runs 103 = .ok (.iload_n 1, 1) := by decide +kernel
theorem dX12_runs_104 : decode cX12_runs 104 = .ok (.iconst 0, 1) := by decide +kernel
theorem dX12_runs_105 : decode cX12_runs 105 = .ok (.iastore, 1) := by decide +kernel
theorem dX12_runs_106 : decode cX12_runs 106 = .ok (.aload_n 0, 1) := by decide +kernel
theorem dX12_runs_107 : decode cX12_runs 107 = .ok (.getfield 113, 3) := by decide +kernel
theorem dX12_runs_110 : decode cX12_runs 110 = .ok (.iload_n 1, 1) := by decide +kernel
theorem dX12_runs_111 : decode cX12_runs 111 = .ok (.iconst 0, 1) := by decide +kernel
theorem dX12_runs_112 : decode cX12_runs 112 = .ok (.iastore, 1) := by decide +kernel
theorem dX12_runs_113 : decode cX12_runs 113 = .ok (.iinc 1 1, 3) := by decide +kernel
theorem dX12_runs_116 : decode cX12_runs 116 = .ok (.goto (-37), 3) := by decide +kernel
theorem dX12_runs_119 : decode cX12_runs 119 = .ok (.iconst 0, 1) := by decide +kernel
theorem dX12_runs_120 : decode cX12_runs 120 = .ok (.istore_n 1, 1) := by decide +kernel
theorem dX12_runs_121 : decode cX12_runs 121 = .ok (.iload_n 1, 1) := by decide +kernel
theorem dX12_runs_122 : decode cX12_runs 122 = .ok (.bipush 24, 2) := by decide +kernel
theorem dX12_runs_124 : decode cX12_runs 124 = .ok (.if_icmp .ge 14, 3) := by decide +kernel
theorem dX12_runs_127 : decode cX12_runs 127 = .ok (.aload_n 0, 1) := by decide +kernel
theorem dX12_runs_128 : decode cX12_runs 128 = .ok (.iload_n 1, 1) := by decide +kernel
theorem dX12_runs_129 : decode cX12_runs 129 = .ok (.invokevirtual 332, 3) := by decide +kernel
theorem dX12_runs_132 : decode cX12_runs 132 = .ok (.iinc 1 1, 3) := by decide +kernel
theorem dX12_runs_135 : decode cX12_runs 135 = .ok (.goto (-14), 3) := by decide +kernel
theorem dX12_runs_138 : decode cX12_runs 138 = .ok (.return_, 1) := by decide +kernel
theorem dX12_lostOf_0 : decode cX12_lostOf 0 = .ok (.iconst 0, 1) := by decide +kernel
theorem dX12_lostOf_1 : decode cX12_lostOf 1 = .ok (.aload_n 0, 1) := by decide +kernel
theorem dX12_lostOf_2 : decode cX12_lostOf 2 = .ok (.getfield 37, 3) := by decide +kernel
theorem dX12_lostOf_5 : decode cX12_lostOf 5 = .ok (.iload_n 1, 1) := by decide +kernel
theorem dX12_lostOf_6 : decode cX12_lostOf 6 = .ok (.aaload, 1) := by decide +kernel
theorem dX12_lostOf_7 : decode cX12_lostOf 7 = .ok (.iconst 0, 1) := by decide +kernel
theorem dX12_lostOf_8 : decode cX12_lostOf 8 = .ok (.iaload, 1) := by decide +kernel
theorem dX12_lostOf_9 : decode cX12_lostOf 9 = .ok (.aload_n 0, 1) := by decide +kernel
theorem dX12_lostOf_10 : decode cX12_lostOf 10 = .ok (.getfield 71, 3) := by decide +kernel
theorem dX12_lostOf_13 : decode cX12_lostOf 13 = .ok (.iload_n 1, 1) := by decide +kernel
theorem dX12_lostOf_14 : decode cX12_lostOf 14 = .ok (.iaload, 1) := by decide +kernel
theorem dX12_lostOf_15 : decode cX12_lostOf 15 = .ok (.isub, 1) := by decide +kernel
theorem dX12_lostOf_16 : decode cX12_lostOf 16 = .ok (.invokestatic 291, 3) := by decide +kernel
theorem dX12_lostOf_19 : decode cX12_lostOf 19 = .ok (.ireturn, 1) := by decide +kernel
theorem dX12_netOf_0 : decode cX12_netOf 0 = .ok (.aload_n 0, 1) := by decide +kernel
theorem dX12_netOf_1 : decode cX12_netOf 1 = .ok (.getfield 89, 3) := by decide +kernel
theorem dX12_netOf_4 : decode cX12_netOf 4 = .ok (.iload_n 1, 1) := by decide +kernel
theorem dX12_netOf_5 : decode cX12_netOf 5 = .ok (.iaload, 1) := by decide +kernel
theorem dX12_netOf_6 : decode cX12_netOf 6 = .ok (.aload_n 0, 1) := by decide +kernel
theorem dX12_netOf_7 : decode cX12_netOf 7 = .ok (.getfield 37, 3) := by decide +kernel
theorem dX12_netOf_10 : decode cX12_netOf 10 = .ok (.iload_n 1, 1) := by decide +kernel
theorem dX12_netOf_11 : decode cX12_netOf 11 = .ok (.aaload, 1) := by decide +kernel
theorem dX12_netOf_12 : decode cX12_netOf 12 = .ok (.iconst 3, 1) := by decide +kernel
theorem dX12_netOf_13 : decode cX12_netOf 13 = .ok (.iaload, 1) := by decide +kernel
theorem dX12_netOf_14 : decode cX12_netOf 14 = .ok (.aload_n 0, 1) := by decide +kernel
theorem dX12_netOf_15 : decode cX12_netOf 15 = .ok (.iload_n 1, 1) := by decide +kernel
theorem dX12_netOf_16 : decode cX12_netOf 16 = .ok (.invokevirtual 335, 3) := by decide +kernel
theorem dX12_netOf_19 : decode cX12_netOf 19 = .ok (.imul, 1) := by decide +kernel
theorem dX12_netOf_20 : decode cX12_netOf 20 = .ok (.isub, 1) := by decide +kernel
theorem dX12_netOf_21 : decode cX12_netOf 21 = .ok (.aload_n 0, 1) := by decide +kernel
theorem dX12_netOf_22 : decode cX12_netOf 22 = .ok (.getfield 23, 3) := by decide +kernel
theorem dX12_netOf_25 : decode cX12_netOf 25 = .ok (.iconst 4, 1) := by decide +kernel
theorem dX12_netOf_26 : decode cX12_netOf 26 = .ok (.iaload, 1) := by decide +kernel
theorem dX12_netOf_27 : decode cX12_netOf 27 = .ok (.aload_n 0, 1) := by decide +kernel
theorem dX12_netOf_28 : decode cX12_netOf 28 = .ok (.getfield 92, 3) := by decide +kernel
theorem dX12_netOf_31 : decode cX12_netOf 31 = .ok (.iload_n 1, 1) := by decide +kernel
theorem dX12_netOf_32 : decode cX12_netOf 32 = .ok (.iaload, 1) := by decide +kernel
theorem dX12_netOf_33 : decode cX12_netOf 33 = .ok (.imul, 1) := by decide +kernel
theorem dX12_netOf_34 : decode cX12_netOf 34 = .ok (.isub, 1) := by decide +kernel
theorem dX12_netOf_35 : decode cX12_netOf 35 = .ok (.ireturn, 1) := by decide +kernel
theorem dX12_allGot_0 : decode cX12_allGot 0 = .ok (.iconst 0, 1) := by decide +kernel
theorem dX12_allGot_1 : decode cX12_allGot 1 = .ok (.istore_n 1, 1) := by decide +kernel
theorem dX12_allGot_2 : decode cX12_allGot 2 = .ok (.iconst 0, 1) := by decide +kernel
theorem dX12_allGot_3 : decode cX12_allGot 3 = .ok (.istore_n 2, 1) := by decide +kernel
theorem dX12_allGot_4 : decode cX12_allGot 4 = .ok (.iload_n 2, 1) := by decide +kernel
theorem dX12_allGot_5 : decode cX12_allGot 5 = .ok (.aload_n 0, 1) := by decide +kernel
theorem dX12_allGot_6 : decode cX12_allGot 6 = .ok (.getfield 23, 3) := by decide +kernel
theorem dX12_allGot_9 : decode cX12_allGot 9 = .ok (.iconst 1, 1) := by decide +kernel
theorem dX12_allGot_10 : decode cX12_allGot 10 = .ok (.iaload, 1) := by decide +kernel
theorem dX12_allGot_11 : decode cX12_allGot 11 = .ok (.if_icmp .ge 18, 3) := by decide +kernel
theorem dX12_allGot_14 : decode cX12_allGot 14 = .ok (.iload_n 1, 1) := by decide +kernel
theorem dX12_allGot_15 : decode cX12_allGot 15 = .ok (.aload_n 0, 1) := by decide +kernel
theorem dX12_allGot_16 : decode cX12_allGot 16 = .ok (.getfield 89, 3) := by decide +kernel
theorem dX12_allGot_19 : decode cX12_allGot 19 = .ok (.iload_n 2, 1) := by decide +kernel
theorem dX12_allGot_20 : decode cX12_allGot 20 = .ok (.iaload, 1) := by decide +kernel
theorem dX12_allGot_21 : decode cX12_allGot 21 = .ok (.iadd, 1) := by decide +kernel
theorem dX12_allGot_22 : decode cX12_allGot 22 = .ok (.istore_n 1, 1) := by decide +kernel
theorem dX12_allGot_23 : decode cX12_allGot 23 = .ok (.iinc 2 1, 3) := by decide +kernel
theorem dX12_allGot_26 : decode cX12_allGot 26 = .ok (.goto (-22), 3) := by decide +kernel
theorem dX12_allGot_29 : decode cX12_allGot 29 = .ok (.iload_n 1, 1) := by decide +kernel
theorem dX12_allGot_30 : decode cX12_allGot 30 = .ok (.ireturn, 1) := by decide +kernel
theorem dX12_allIdle_0 : decode cX12_allIdle 0 = .ok (.iconst 0, 1) := by decide +kernel
theorem dX12_allIdle_1 : decode cX12_allIdle 1 = .ok (.istore_n 1, 1) := by decide +kernel
theorem dX12_allIdle_2 : decode cX12_allIdle 2 = .ok (.iconst 0, 1) := by decide +kernel
theorem dX12_allIdle_3 : decode cX12_allIdle 3 = .ok (.istore_n 2, 1) := by decide +kernel
theorem dX12_allIdle_4 : decode cX12_allIdle 4 = .ok (.iload_n 2, 1) := by decide +kernel
theorem dX12_allIdle_5 : decode cX12_allIdle 5 = .ok (.aload_n 0, 1) := by decide +kernel
theorem dX12_allIdle_6 : decode cX12_allIdle 6 = .ok (.getfield 23, 3) := by decide +kernel
theorem dX12_allIdle_9 : decode cX12_allIdle 9 = .ok (.iconst 0, 1) := by decide +kernel
theorem dX12_allIdle_10 : decode cX12_allIdle 10 = .ok (.iaload, 1) := by decide +kernel
theorem dX12_allIdle_11 : decode cX12_allIdle 11 = .ok (.if_icmp .ge 18, 3) := by decide +kernel
theorem dX12_allIdle_14 : decode cX12_allIdle 14 = .ok (.iload_n 1, 1) := by decide +kernel
theorem dX12_allIdle_15 : decode cX12_allIdle 15 = .ok (.aload_n 0, 1) := by decide +kernel
theorem dX12_allIdle_16 : decode cX12_allIdle 16 = .ok (.getfield 110, 3) := by decide +kernel
theorem dX12_allIdle_19 : decode cX12_allIdle 19 = .ok (.iload_n 2, 1) := by decide +kernel
theorem dX12_allIdle_20 : decode cX12_allIdle 20 = .ok (.iaload, 1) := by decide +kernel
theorem dX12_allIdle_21 : decode cX12_allIdle 21 = .ok (.iadd, 1) := by decide +kernel
theorem dX12_allIdle_22 : decode cX12_allIdle 22 = .ok (.istore_n 1, 1) := by decide +kernel
theorem dX12_allIdle_23 : decode cX12_allIdle 23 = .ok (.iinc 2 1, 3) := by decide +kernel
theorem dX12_allIdle_26 : decode cX12_allIdle 26 = .ok (.goto (-22), 3) := by decide +kernel
theorem dX12_allIdle_29 : decode cX12_allIdle 29 = .ok (.iload_n 1, 1) := by decide +kernel
theorem dX12_allIdle_30 : decode cX12_allIdle 30 = .ok (.ireturn, 1) := by decide +kernel
theorem dX12_allLost_0 : decode cX12_allLost 0 = .ok (.iconst 0, 1) := by decide +kernel
theorem dX12_allLost_1 : decode cX12_allLost 1 = .ok (.istore_n 1, 1) := by decide +kernel
theorem dX12_allLost_2 : decode cX12_allLost 2 = .ok (.iconst 0, 1) := by decide +kernel
theorem dX12_allLost_3 : decode cX12_allLost 3 = .ok (.istore_n 2, 1) := by decide +kernel
theorem dX12_allLost_4 : decode cX12_allLost 4 = .ok (.iload_n 2, 1) := by decide +kernel
theorem dX12_allLost_5 : decode cX12_allLost 5 = .ok (.aload_n 0, 1) := by decide +kernel
theorem dX12_allLost_6 : decode cX12_allLost 6 = .ok (.getfield 23, 3) := by decide +kernel
theorem dX12_allLost_9 : decode cX12_allLost 9 = .ok (.iconst 1, 1) := by decide +kernel
theorem dX12_allLost_10 : decode cX12_allLost 10 = .ok (.iaload, 1) := by decide +kernel
theorem dX12_allLost_11 : decode cX12_allLost 11 = .ok (.if_icmp .ge 17, 3) := by decide +kernel
theorem dX12_allLost_14 : decode cX12_allLost 14 = .ok (.iload_n 1, 1) := by decide +kernel
theorem dX12_allLost_15 : decode cX12_allLost 15 = .ok (.aload_n 0, 1) := by decide +kernel
theorem dX12_allLost_16 : decode cX12_allLost 16 = .ok (.iload_n 2, 1) := by decide +kernel
theorem dX12_allLost_17 : decode cX12_allLost 17 = .ok (.invokevirtual 335, 3) := by decide +kernel
theorem dX12_allLost_20 : decode cX12_allLost 20 = .ok (.iadd, 1) := by decide +kernel
theorem dX12_allLost_21 : decode cX12_allLost 21 = .ok (.istore_n 1, 1) := by decide +kernel
theorem dX12_allLost_22 : decode cX12_allLost 22 = .ok (.iinc 2 1, 3) := by decide +kernel
theorem dX12_allLost_25 : decode cX12_allLost 25 = .ok (.goto (-21), 3) := by decide +kernel
theorem dX12_allLost_28 : decode cX12_allLost 28 = .ok (.iload_n 1, 1) := by decide +kernel
theorem dX12_allLost_29 : decode cX12_allLost 29 = .ok (.ireturn, 1) := by decide +kernel
theorem dX12_begins_0 : decode cX12_begins 0 = .ok (.aload_n 0, 1) := by decide +kernel
theorem dX12_begins_1 : decode cX12_begins 1 = .ok (.invokevirtual 338, 3) := by decide +kernel
theorem dX12_begins_4 : decode cX12_begins 4 = .ok (.aload_n 0, 1) := by decide +kernel
theorem dX12_begins_5 : decode cX12_begins 5 = .ok (.aload_n 0, 1) := by decide +kernel
theorem dX12_begins_6 : decode cX12_begins 6 = .ok (.getfield 23, 3) := by decide +kernel
theorem dX12_begins_9 : decode cX12_begins 9 = .ok (.iconst 3, 1) := by decide +kernel
theorem dX12_begins_10 : decode cX12_begins 10 = .ok (.iaload, 1) := by decide +kernel
theorem dX12_begins_11 : decode cX12_begins 11 = .ok (.putfield 313, 3) := by decide +kernel
theorem dX12_begins_14 : decode cX12_begins 14 = .ok (.iconst 0, 1) := by decide +kernel
theorem dX12_begins_15 : decode cX12_begins 15 = .ok (.istore_n 1, 1) := by decide +kernel
theorem dX12_begins_16 : decode cX12_begins 16 = .ok (.iload_n 1, 1) := by decide +kernel
theorem dX12_begins_17 : decode cX12_begins 17 = .ok (.bipush 8, 2) := by decide +kernel
theorem dX12_begins_19 : decode cX12_begins 19 = .ok (.if_icmp .ge 44, 3) := by decide +kernel
theorem dX12_begins_22 : decode cX12_begins 22 = .ok (.aload_n 0, 1) := by decide +kernel
theorem dX12_begins_23 : decode cX12_begins 23 = .ok (.getfield 128, 3) := by decide +kernel
theorem dX12_begins_26 : decode cX12_begins 26 = .ok (.iload_n 1, 1) := by decide +kernel
theorem dX12_begins_27 : decode cX12_begins 27 = .ok (.iload_n 1, 1) := by decide +kernel
theorem dX12_begins_28 : decode cX12_begins 28 = .ok (.iastore, 1) := by decide +kernel
theorem dX12_begins_29 : decode cX12_begins 29 = .ok (.aload_n 0, 1) := by decide +kernel
theorem dX12_begins_30 : decode cX12_begins 30 = .ok (.getfield 71, 3) := by decide +kernel
theorem dX12_begins_33 : decode cX12_begins 33 = .ok (.iload_n 1, 1) := by decide +kernel
theorem dX12_begins_34 : decode cX12_begins 34 = .ok (.iload_n 1, 1) := by decide +kernel
theorem dX12_begins_35 : decode cX12_begins 35 = .ok (.aload_n 0, 1) := by decide +kernel
theorem dX12_begins_36 : decode cX12_begins 36 = .ok (.getfield 23, 3) := by decide +kernel
theorem dX12_begins_39 : decode cX12_begins 39 = .ok (.iconst 1, 1) := by decide +kernel
theorem dX12_begins_40 : decode cX12_begins 40 = .ok (.iaload, 1) := by decide +kernel
theorem dX12_begins_41 : decode cX12_begins 41 = .ok (.if_icmp .ge 14, 3) := by decide +kernel
theorem dX12_begins_44 : decode cX12_begins 44 = .ok (.aload_n 0, 1) := by decide +kernel
theorem dX12_begins_45 : decode cX12_begins 45 = .ok (.getfield 37, 3) := by decide +kernel
theorem dX12_begins_48 : decode cX12_begins 48 = .ok (.iload_n 1, 1) := by decide +kernel
theorem dX12_begins_49 : decode cX12_begins 49 = .ok (.aaload, 1) := by decide +kernel
theorem dX12_begins_50 : decode cX12_begins 50 = .ok (.iconst 0, 1) := by decide +kernel
theorem dX12_begins_51 : decode cX12_begins 51 = .ok (.iaload, 1) := by decide +kernel
theorem dX12_begins_52 : decode cX12_begins 52 = .ok (.goto 4, 3) := by decide +kernel
theorem dX12_begins_55 : decode cX12_begins 55 = .ok (.iconst 0, 1) := by decide +kernel
theorem dX12_begins_56 : decode cX12_begins 56 = .ok (.iastore, 1) := by decide +kernel
theorem dX12_begins_57 : decode cX12_begins 57 = .ok (.iinc 1 1, 3) := by decide +kernel
theorem dX12_begins_60 : decode cX12_begins 60 = .ok (.goto (-44), 3) := by decide +kernel
theorem dX12_begins_63 : decode cX12_begins 63 = .ok (.return_, 1) := by decide +kernel
theorem dX12_asks_0 : decode cX12_asks 0 = .ok (.bipush 23, 2) := by decide +kernel
theorem dX12_asks_2 : decode cX12_asks 2 = .ok (.istore_n 2, 1) := by decide +kernel
theorem dX12_asks_3 : decode cX12_asks 3 = .ok (.iconst (-1), 1) := by decide +kernel
theorem dX12_asks_4 : decode cX12_asks 4 = .ok (.istore_n 3, 1) := by decide +kernel
theorem dX12_asks_5 : decode cX12_asks 5 = .ok (.iconst 0, 1) := by decide +kernel
theorem dX12_asks_6 : decode cX12_asks 6 = .ok (.istore 4, 2) := by decide +kernel
theorem dX12_asks_8 : decode cX12_asks 8 = .ok (.iload 4, 2) := by decide +kernel
theorem dX12_asks_10 : decode cX12_asks 10 = .ok (.aload_n 0, 1) := by decide +kernel
theorem dX12_asks_11 : decode cX12_asks 11 = .ok (.getfield 23, 3) := by decide +kernel
theorem dX12_asks_14 : decode cX12_asks 14 = .ok (.iconst 1, 1) := by decide +kernel
theorem dX12_asks_15 : decode cX12_asks 15 = .ok (.iaload, 1) := by decide +kernel
theorem dX12_asks_16 : decode cX12_asks 16 = .ok (.if_icmp .ge 47, 3) := by decide +kernel
theorem dX12_asks_19 : decode cX12_asks 19 = .ok (.iload_n 2, 1) := by decide +kernel
theorem dX12_asks_20 : decode cX12_asks 20 = .ok (.aload_n 0, 1) := by decide +kernel
theorem dX12_asks_21 : decode cX12_asks 21 = .ok (.getfield 71, 3) := by decide +kernel
theorem dX12_asks_24 : decode cX12_asks 24 = .ok (.iload 4, 2) := by decide +kernel
theorem dX12_asks_26 : decode cX12_asks 26 = .ok (.iaload, 1) := by decide +kernel
theorem dX12_asks_27 : decode cX12_asks 27 = .ok (.invokestatic 288, 3) := by decide +kernel
theorem dX12_asks_30 : decode cX12_asks 30 = .ok (.istore_n 2, 1) := by decide +kernel
theorem dX12_asks_31 : decode cX12_asks 31 = .ok (.aload_n 0, 1) := by decide +kernel
theorem dX12_asks_32 : decode cX12_asks 32 = .ok (.getfield 125, 3) := by decide +kernel
theorem dX12_asks_35 : decode cX12_asks 35 = .ok (.iload 4, 2) := by decide +kernel
theorem dX12_asks_37 : decode cX12_asks 37 = .ok (.baload, 1) := by decide +kernel
theorem dX12_asks_38 : decode cX12_asks 38 = .ok (.ifCond .eq 17, 3) := by decide +kernel
theorem dX12_asks_41 : decode cX12_asks 41 = .ok (.iload_n 3, 1) := by decide +kernel
theorem dX12_asks_42 : decode cX12_asks 42 = .ok (.aload_n 0, 1) := by decide +kernel
theorem dX12_asks_43 : decode cX12_asks 43 = .ok (.getfield 71, 3) := by decide +kernel
theorem dX12_asks_46 : decode cX12_asks 46 = .ok (.iload 4, 2) := by decide +kernel
theorem dX12_asks_48 : decode cX12_asks 48 = .ok (.iaload, 1) := by decide +kernel
theorem dX12_asks_49 : decode cX12_asks 49 = .ok (.invokestatic 291, 3) := by decide +kernel
theorem dX12_asks_52 : decode cX12_asks 52 = .ok (.goto 4, 3) := by decide +kernel
theorem dX12_asks_55 : decode cX12_asks 55 = .ok (.iload_n 3, 1) := by decide +kernel
theorem dX12_asks_56 : decode cX12_asks 56 = .ok (.istore_n 3, 1) := by decide +kernel
theorem dX12_asks_57 : decode cX12_asks 57 = .ok (.iinc 4 1, 3) := by decide +kernel
theorem dX12_asks_60 : decode cX12_asks 60 = .ok (.goto (-52), 3) := by decide +kernel
theorem dX12_asks_63 : decode cX12_asks 63 = .ok (.iconst 0, 1) := by decide +kernel
theorem dX12_asks_64 : decode cX12_asks 64 = .ok (.istore 4, 2) := by decide +kernel
theorem dX12_asks_66 : decode cX12_asks 66 = .ok (.iload 4, 2) := by decide +kernel
theorem dX12_asks_68 : decode cX12_asks 68 = .ok (.aload_n 0, 1) := by decide +kernel
theorem dX12_asks_69 : decode cX12_asks 69 = .ok (.getfield 23, 3) := by decide +kernel
theorem dX12_asks_72 : decode cX12_asks 72 = .ok (.iconst 1, 1) := by decide +kernel
theorem dX12_asks_73 : decode cX12_asks 73 = .ok (.iaload, 1) := by decide +kernel
theorem dX12_asks_74 : decode cX12_asks 74 = .ok (.if_icmp .ge 133, 3) := by decide +kernel
theorem dX12_asks_77 : decode cX12_asks 77 = .ok (.aload_n 0, 1) := by decide +kernel
theorem dX12_asks_78 : decode cX12_asks 78 = .ok (.getfield 46, 3) := by decide +kernel
theorem dX12_asks_81 : decode cX12_asks 81 = .ok (.iconst 0, 1) := by decide +kernel
theorem dX12_asks_82 : decode cX12_asks 82 = .ok (.aload_n 0, 1) := by decide +kernel
theorem dX12_asks_83 : decode cX12_asks 83 = .ok (.getfield 71, 3) := by decide +kernel
theorem dX12_asks_86 : decode cX12_asks 86 = .ok (.iload 4, 2) := by decide +kernel
theorem dX12_asks_88 : decode cX12_asks 88 = .ok (.iaload, 1) := by decide +kernel
theorem dX12_asks_89 : decode cX12_asks 89 = .ok (.iastore, 1) := by decide +kernel
theorem dX12_asks_90 : decode cX12_asks 90 = .ok (.aload_n 0, 1) := by decide +kernel
theorem dX12_asks_91 : decode cX12_asks 91 = .ok (.getfield 46, 3) := by decide +kernel
theorem dX12_asks_94 : decode cX12_asks 94 = .ok (.iconst 1, 1) := by decide +kernel
theorem dX12_asks_95 : decode cX12_asks 95 = .ok (.iload_n 2, 1) := by decide +kernel
theorem dX12_asks_96 : decode cX12_asks 96 = .ok (.iastore, 1) := by decide +kernel
theorem dX12_asks_97 : decode cX12_asks 97 = .ok (.aload_n 0, 1) := by decide +kernel
theorem dX12_asks_98 : decode cX12_asks 98 = .ok (.getfield 46, 3) := by decide +kernel
theorem dX12_asks_101 : decode cX12_asks 101 = .ok (.iconst 2, 1) := by decide +kernel
theorem dX12_asks_102 : decode cX12_asks 102 = .ok (.iload_n 3, 1) := by decide +kernel
theorem dX12_asks_103 : decode cX12_asks 103 = .ok (.iconst (-1), 1) := by decide +kernel
theorem dX12_asks_104 : decode cX12_asks 104 = .ok (.if_icmp .ne 8, 3) := by decide +kernel
theorem dX12_asks_107 : decode cX12_asks 107 = .ok (.bipush 23, 2) := by decide +kernel
theorem dX12_asks_109 : decode cX12_asks 109 = .ok (.goto 4, 3) := by decide +kernel
theorem dX12_asks_112 : decode cX12_asks 112 = .ok (.iload_n 3, 1) := by decide +kernel
theorem dX12_asks_113 : decode cX12_asks 113 = .ok (.iastore, 1) := by decide +kernel
theorem dX12_asks_114 : decode cX12_asks 114 = .ok (.aload_n 0, 1) := by decide +kernel
theorem dX12_asks_115 : decode cX12_asks 115 = .ok (.getfield 46, 3) := by decide +kernel
theorem dX12_asks_118 : decode cX12_asks 118 = .ok (.iconst 3, 1) := by decide +kernel
theorem dX12_asks_119 : decode cX12_asks 119 = .ok (.aload_n 0, 1) := by decide +kernel
theorem dX12_asks_120 : decode cX12_asks 120 = .ok (.getfield 92, 3) := by decide +kernel
theorem dX12_asks_123 : decode cX12_asks 123 = .ok (.iload 4, 2) := by decide +kernel
theorem dX12_asks_125 : decode cX12_asks 125 = .ok (.iaload, 1) := by decide +kernel
theorem dX12_asks_126 : decode cX12_asks 126 = .ok (.ifCond .le 7, 3) := by decide +kernel
theorem dX12_asks_129 : decode cX12_asks 129 = .ok (.iconst 1, 1) := by decide +kernel
theorem dX12_asks_130 : decode cX12_asks 130 = .ok (.goto 4, 3) := by decide +kernel
theorem dX12_asks_133 : decode cX12_asks 133 = .ok (.iconst 0, 1) := by decide +kernel
theorem dX12_asks_134 : decode cX12_asks 134 = .ok (.iastore, 1) := by decide +kernel
theorem dX12_asks_135 : decode cX12_asks 135 = .ok (.aload_n 0, 1) := by decide +kernel
theorem dX12_asks_136 : decode cX12_asks 136 = .ok (.getfield 46, 3) := by decide +kernel
theorem dX12_asks_139 : decode cX12_asks 139 = .ok (.iconst 4, 1) := by decide +kernel
theorem dX12_asks_140 : decode cX12_asks 140 = .ok (.aload_n 0, 1) := by decide +kernel
theorem dX12_asks_141 : decode cX12_asks 141 = .ok (.getfield 86, 3) := by decide +kernel
theorem dX12_asks_144 : decode cX12_asks 144 = .ok (.iload 4, 2) := by decide +kernel
theorem dX12_asks_146 : decode cX12_asks 146 = .ok (.iaload, 1) := by decide +kernel
theorem dX12_asks_147 : decode cX12_asks 147 = .ok (.iastore, 1) := by decide +kernel
theorem dX12_asks_148 : decode cX12_asks 148 = .ok (.aload_n 0, 1) := by decide +kernel
theorem dX12_asks_149 : decode cX12_asks 149 = .ok (.getfield 46, 3) := by decide +kernel
theorem dX12_asks_152 : decode cX12_asks 152 = .ok (.iconst 5, 1) := by decide +kernel
theorem dX12_asks_153 : decode cX12_asks 153 = .ok (.aload_n 0, 1) := by decide +kernel
theorem dX12_asks_154 : decode cX12_asks 154 = .ok (.getfield 95, 3) := by decide +kernel
theorem dX12_asks_157 : decode cX12_asks 157 = .ok (.iload 4, 2) := by decide +kernel
theorem dX12_asks_159 : decode cX12_asks 159 = .ok (.iaload, 1) := by decide +kernel
theorem dX12_asks_160 : decode cX12_asks 160 = .ok (.ifCond .le 7, 3) := by decide +kernel
theorem dX12_asks_163 : decode cX12_asks 163 = .ok (.iconst 1, 1) := by decide +kernel
theorem dX12_asks_164 : decode cX12_asks 164 = .ok (.goto 4, 3) := by decide +kernel
theorem dX12_asks_167 : decode cX12_asks 167 = .ok (.iconst 0, 1) := by decide +kernel
theorem dX12_asks_168 : decode cX12_asks 168 = .ok (.iastore, 1) := by decide +kernel
theorem dX12_asks_169 : decode cX12_asks 169 = .ok (.aload_n 0, 1) := by decide +kernel
theorem dX12_asks_170 : decode cX12_asks 170 = .ok (.getfield 46, 3) := by decide +kernel
theorem dX12_asks_173 : decode cX12_asks 173 = .ok (.bipush 6, 2) := by decide +kernel
theorem dX12_asks_175 : decode cX12_asks 175 = .ok (.iload_n 1, 1) := by decide +kernel
theorem dX12_asks_176 : decode cX12_asks 176 = .ok (.iastore, 1) := by decide +kernel
theorem dX12_asks_177 : decode cX12_asks 177 = .ok (.aload_n 0, 1) := by decide +kernel
theorem dX12_asks_178 : decode cX12_asks 178 = .ok (.iload 4, 2) := by decide +kernel
theorem dX12_asks_180 : decode cX12_asks 180 = .ok (.invokevirtual 301, 3) := by decide +kernel
theorem dX12_asks_183 : decode cX12_asks 183 = .ok (.aload_n 0, 1) := by decide +kernel
theorem dX12_asks_184 : decode cX12_asks 184 = .ok (.getfield 131, 3) := by decide +kernel
theorem dX12_asks_187 : decode cX12_asks 187 = .ok (.iload 4, 2) := by decide +kernel
theorem dX12_asks_189 : decode cX12_asks 189 = .ok (.aload_n 0, 1) := by decide +kernel
theorem dX12_asks_190 : decode cX12_asks 190 = .ok (.aload_n 0, 1) := by decide +kernel
theorem dX12_asks_191 : decode cX12_asks 191 = .ok (.getfield 128, 3) := by decide +kernel
theorem dX12_asks_194 : decode cX12_asks 194 = .ok (.iload 4, 2) := by decide +kernel
theorem dX12_asks_196 : decode cX12_asks 196 = .ok (.iaload, 1) := by decide +kernel
theorem dX12_asks_197 : decode cX12_asks 197 = .ok (.invokevirtual 304, 3) := by decide +kernel
theorem dX12_asks_200 : decode cX12_asks 200 = .ok (.iastore, 1) := by decide +kernel
theorem dX12_asks_201 : decode cX12_asks 201 = .ok (.iinc 4 1, 3) := by decide +kernel
theorem dX12_asks_204 : decode cX12_asks 204 = .ok (.goto (-138), 3) := by decide +kernel
theorem dX12_asks_207 : decode cX12_asks 207 = .ok (.iconst 0, 1) := by decide +kernel
theorem dX12_asks_208 : decode cX12_asks 208 = .ok (.istore 4, 2) := by decide +kernel
theorem dX12_asks_210 : decode cX12_asks 210 = .ok (.iload 4, 2) := by decide +kernel
theorem dX12_asks_212 : decode cX12_asks 212 = .ok (.aload_n 0, 1) := by decide +kernel
theorem dX12_asks_213 : decode cX12_asks 213 = .ok (.getfield 23, 3) := by decide +kernel
theorem dX12_asks_216 : decode cX12_asks 216 = .ok (.iconst 1, 1) := by decide +kernel
theorem dX12_asks_217 : decode cX12_asks 217 = .ok (.iaload, 1) := by decide +kernel
theorem dX12_asks_218 : decode cX12_asks 218 = .ok (.if_icmp .ge 23, 3) := by decide +kernel
theorem dX12_asks_221 : decode cX12_asks 221 = .ok (.aload_n 0, 1) := by decide +kernel
theorem dX12_asks_222 : decode cX12_asks 222 = .ok (.getfield 71, 3) := by decide +kernel
theorem dX12_asks_225 : decode cX12_asks 225 = .ok (.iload 4, 2) := by decide +kernel
theorem dX12_asks_227 : decode cX12_asks 227 = .ok (.aload_n 0, 1) := by decide +kernel
theorem dX12_asks_228 : decode cX12_asks 228 = .ok (.getfield 131, 3) := by decide +kernel
theorem dX12_asks_231 : decode cX12_asks 231 = .ok (.iload 4, 2) := by decide +kernel
theorem dX12_asks_233 : decode cX12_asks 233 = .ok (.iaload, 1) := by decide +kernel
theorem dX12_asks_234 : decode cX12_asks 234 = .ok (.iastore, 1) := by decide +kernel
theorem dX12_asks_235 : decode cX12_asks 235 = .ok (.iinc 4 1, 3) := by decide +kernel
theorem dX12_asks_238 : decode cX12_asks 238 = .ok (.goto (-28), 3) := by decide +kernel
theorem dX12_asks_241 : decode cX12_asks 241 = .ok (.return_, 1) := by decide +kernel
theorem dX12_goesTo_0 : decode cX12_goesTo 0 = .ok (.aload_n 0, 1) := by decide +kernel
theorem dX12_goesTo_1 : decode cX12_goesTo 1 = .ok (.invokevirtual 341, 3) := by decide +kernel
theorem dX12_goesTo_4 : decode cX12_goesTo 4 = .ok (.iconst 1, 1) := by decide +kernel
theorem dX12_goesTo_5 : decode cX12_goesTo 5 = .ok (.istore_n 2, 1) := by decide +kernel
theorem dX12_goesTo_6 : decode cX12_goesTo 6 = .ok (.iload_n 2, 1) := by decide +kernel
theorem dX12_goesTo_7 : decode cX12_goesTo 7 = .ok (.iload_n 1, 1) := by decide +kernel
theorem dX12_goesTo_8 : decode cX12_goesTo 8 = .ok (.if_icmp .gt 18, 3) := by decide +kernel
theorem dX12_goesTo_11 : decode cX12_goesTo 11 = .ok (.aload_n 0, 1) := by decide +kernel
theorem dX12_goesTo_12 : decode cX12_goesTo 12 = .ok (.iload_n 2, 1) := by decide +kernel
theorem dX12_goesTo_13 : decode cX12_goesTo 13 = .ok (.invokevirtual 344, 3) := by decide +kernel
theorem dX12_goesTo_16 : decode cX12_goesTo 16 = .ok (.aload_n 0, 1) := by decide +kernel
theorem dX12_goesTo_17 : decode cX12_goesTo 17 = .ok (.invokevirtual 341, 3) := by decide +kernel
theorem dX12_goesTo_20 : decode cX12_goesTo 20 = .ok (.iinc 2 1, 3) := by decide +kernel
theorem dX12_goesTo_23 : decode cX12_goesTo 23 = .ok (.goto (-17), 3) := by decide +kernel
theorem dX12_goesTo_26 : decode cX12_goesTo 26 = .ok (.return_, 1) := by decide +kernel
theorem dX12_dayNow_0 : decode cX12_dayNow 0 = .ok (.aload_n 0, 1) := by decide +kernel
theorem dX12_dayNow_1 : decode cX12_dayNow 1 = .ok (.invokevirtual 347, 3) := by decide +kernel
theorem dX12_dayNow_4 : decode cX12_dayNow 4 = .ok (.aload_n 0, 1) := by decide +kernel
theorem dX12_dayNow_5 : decode cX12_dayNow 5 = .ok (.aload_n 0, 1) := by decide +kernel
theorem dX12_dayNow_6 : decode cX12_dayNow 6 = .ok (.getfield 244, 3) := by decide +kernel
theorem dX12_dayNow_9 : decode cX12_dayNow 9 = .ok (.invokevirtual 350, 3) := by decide +kernel
theorem dX12_dayNow_12 : decode cX12_dayNow 12 = .ok (.return_, 1) := by decide +kernel
theorem dX12_day_0 : decode cX12_day 0 = .ok (.aload_n 0, 1) := by decide +kernel
theorem dX12_day_1 : decode cX12_day 1 = .ok (.iconst 0, 1) := by decide +kernel
theorem dX12_day_2 : decode cX12_day 2 = .ok (.putfield 158, 3) := by decide +kernel
theorem dX12_day_5 : decode cX12_day 5 = .ok (.aload_n 0, 1) := by decide +kernel
theorem dX12_day_6 : decode cX12_day 6 = .ok (.iload_n 1, 1) := by decide +kernel
theorem dX12_day_7 : decode cX12_day 7 = .ok (.iconst 0, 1) := by decide +kernel
theorem dX12_day_8 : decode cX12_day 8 = .ok (.sipush 199, 3) := by decide +kernel
theorem dX12_day_11 : decode cX12_day 11 = .ok (.invokestatic 192, 3) := by decide +kernel
theorem dX12_day_14 : decode cX12_day 14 = .ok (.ifCond .ne 7, 3) := by decide +kernel
theorem dX12_day_17 : decode cX12_day 17 = .ok (.iconst 1, 1) := by decide +kernel
theorem dX12_day_18 : decode cX12_day 18 = .ok (.goto 4, 3) := by decide +kernel
theorem dX12_day_21 : decode cX12_day 21 = .ok (.iconst 0, 1) := by decide +kernel
theorem dX12_day_22 : decode cX12_day 22 = .ok (.iconst 1, 1) := by decide +kernel
theorem dX12_day_23 : decode cX12_day 23 = .ok (.iconst 1, 1) := by decide +kernel
theorem dX12_day_24 : decode cX12_day 24 = .ok (.invokevirtual 228, 3) := by decide +kernel
theorem dX12_day_27 : decode cX12_day 27 = .ok (.ifCond .eq 5, 3) := by decide +kernel
theorem dX12_day_30 : decode cX12_day 30 = .ok (.iconst 0, 1) := by decide +kernel
theorem dX12_day_31 : decode cX12_day 31 = .ok (.ireturn, 1) := by decide +kernel
theorem dX12_day_32 : decode cX12_day 32 = .ok (.aload_n 0, 1) := by decide +kernel
theorem dX12_day_33 : decode cX12_day 33 = .ok (.getfield 244, 3) := by decide +kernel
theorem dX12_day_36 : decode cX12_day 36 = .ok (.istore_n 2, 1) := by decide +kernel
theorem dX12_day_37 : decode cX12_day 37 = .ok (.aload_n 0, 1) := by decide +kernel
theorem dX12_day_38 : decode cX12_day 38 = .ok (.iload_n 1, 1) := by decide +kernel
theorem dX12_day_39 : decode cX12_day 39 = .ok (.putfield 244, 3) := by decide +kernel
theorem dX12_day_42 : decode cX12_day 42 = .ok (.iload_n 2, 1) := by decide +kernel
theorem dX12_day_43 : decode cX12_day 43 = .ok (.ireturn, 1) := by decide +kernel
theorem dX12_chair_0 : decode cX12_chair 0 = .ok (.aload_n 0, 1) := by decide +kernel
theorem dX12_chair_1 : decode cX12_chair 1 = .ok (.iconst 0, 1) := by decide +kernel
theorem dX12_chair_2 : decode cX12_chair 2 = .ok (.putfield 158, 3) := by decide +kernel
theorem dX12_chair_5 : decode cX12_chair 5 = .ok (.aload_n 0, 1) := by decide +kernel
theorem dX12_chair_6 : decode cX12_chair 6 = .ok (.aload_n 0, 1) := by decide +kernel
theorem dX12_chair_7 : decode cX12_chair 7 = .ok (.iload_n 1, 1) := by decide +kernel
theorem dX12_chair_8 : decode cX12_chair 8 = .ok (.invokevirtual 307, 3) := by decide +kernel
theorem dX12_chair_11 : decode cX12_chair 11 = .ok (.ifCond .ne 7, 3) := by decide +kernel
theorem dX12_chair_14 : decode cX12_chair 14 = .ok (.iconst 1, 1) := by decide +kernel
theorem dX12_chair_15 : decode cX12_chair 15 = .ok (.goto 4, 3) := by decide +kernel
theorem dX12_chair_18 : decode cX12_chair 18 = .ok (.iconst 0, 1) := by decide +kernel
theorem dX12_chair_19 : decode cX12_chair 19 = .ok (.iconst 1, 1) := by decide +kernel
theorem dX12_chair_20 : decode cX12_chair 20 = .ok (.iconst 0, 1) := by decide +kernel
theorem dX12_chair_21 : decode cX12_chair 21 = .ok (.invokevirtual 228, 3) := by decide +kernel
theorem dX12_chair_24 : decode cX12_chair 24 = .ok (.ifCond .ne 26, 3) := by decide +kernel
theorem dX12_chair_27 : decode cX12_chair 27 = .ok (.aload_n 0, 1) := by decide +kernel
theorem dX12_chair_28 : decode cX12_chair 28 = .ok (.iload_n 2, 1) := by decide +kernel
theorem dX12_chair_29 : decode cX12_chair 29 = .ok (.iconst 0, 1) := by decide +kernel
theorem dX12_chair_30 : decode cX12_chair 30 = .ok (.iconst 4, 1) := by decide +kernel
theorem dX12_chair_31 : decode cX12_chair 31 = .ok (.invokestatic 192, 3) := by decide +kernel
theorem dX12_chair_34 : decode cX12_chair 34 = .ok (.ifCond .ne 7, 3) := by decide +kernel
theorem dX12_chair_37 : decode cX12_chair 37 = .ok (.iconst 1, 1) := by decide +kernel
theorem dX12_chair_38 : decode cX12_chair 38 = .ok (.goto 4, 3) := by decide +kernel
theorem dX12_chair_41 : decode cX12_chair 41 = .ok (.iconst 0, 1) := by decide +kernel
theorem dX12_chair_42 : decode cX12_chair 42 = .ok (.iconst 2, 1) := by decide +kernel
theorem dX12_chair_43 : decode cX12_chair 43 = .ok (.iconst 1, 1) := by decide +kernel
theorem dX12_chair_44 : decode cX12_chair 44 = .ok (.invokevirtual 228, 3) := by decide +kernel
theorem dX12_chair_47 : decode cX12_chair 47 = .ok (.ifCond .eq 5, 3) := by decide +kernel
theorem dX12_chair_50 : decode cX12_chair 50 = .ok (.iconst 0, 1) := by decide +kernel
theorem dX12_chair_51 : decode cX12_chair 51 = .ok (.ireturn, 1) := by decide +kernel
theorem dX12_chair_52 : decode cX12_chair 52 = .ok (.iload_n 2, 1) := by decide +kernel
theorem dX12_chair_53 : decode cX12_chair 53 = .ok (.iconst 2, 1) := by decide +kernel
theorem dX12_chair_54 : decode cX12_chair 54 = .ok (.if_icmp .ge 12, 3) := by decide +kernel
theorem dX12_chair_57 : decode cX12_chair 57 = .ok (.aload_n 0, 1) := by decide +kernel
theorem dX12_chair_58 : decode cX12_chair 58 = .ok (.getfield 31, 3) := by decide +kernel
theorem dX12_chair_61 : decode cX12_chair 61 = .ok (.iload_n 1, 1) := by decide +kernel
theorem dX12_chair_62 : decode cX12_chair 62 = .ok (.aaload, 1) := by decide +kernel
theorem dX12_chair_63 : decode cX12_chair 63 = .ok (.iload_n 2, 1) := by decide +kernel
theorem dX12_chair_64 : decode cX12_chair 64 = .ok (.iaload, 1) := by decide +kernel
theorem dX12_chair_65 : decode cX12_chair 65 = .ok (.ireturn, 1) := by decide +kernel
theorem dX12_chair_66 : decode cX12_chair 66 = .ok (.aload_n 0, 1) := by decide +kernel
theorem dX12_chair_67 : decode cX12_chair 67 = .ok (.invokevirtual 353, 3) := by decide +kernel
theorem dX12_chair_70 : decode cX12_chair 70 = .ok (.iload_n 2, 1) := by decide +kernel
theorem dX12_chair_71 : decode cX12_chair 71 = .ok (.iconst 2, 1) := by decide +kernel
theorem dX12_chair_72 : decode cX12_chair 72 = .ok (.if_icmp .ne 12, 3) := by decide +kernel
theorem dX12_chair_75 : decode cX12_chair 75 = .ok (.aload_n 0, 1) := by decide +kernel
theorem dX12_chair_76 : decode cX12_chair 76 = .ok (.getfield 107, 3) := by decide +kernel
theorem dX12_chair_79 : decode cX12_chair 79 = .ok (.iload_n 1, 1) := by decide +kernel
theorem dX12_chair_80 : decode cX12_chair 80 = .ok (.iaload, 1) := by decide +kernel
theorem dX12_chair_81 : decode cX12_chair 81 = .ok (.goto 23, 3) := by decide +kernel
theorem dX12_chair_84 : decode cX12_chair 84 = .ok (.iload_n 2, 1) := by decide +kernel
theorem dX12_chair_85 : decode cX12_chair 85 = .ok (.iconst 3, 1) := by decide +kernel
theorem dX12_chair_86 : decode cX12_chair 86 = .ok (.if_icmp .ne 12, 3) := by decide +kernel
theorem dX12_chair_89 : decode cX12_chair 89 = .ok (.aload_n 0, 1) := by decide +kernel
theorem dX12_chair_90 : decode cX12_chair 90 = .ok (.getfield 110, 3) := by decide +kernel
theorem dX12_chair_93 : decode cX12_chair 93 = .ok (.iload_n 1, 1) := by decide +kernel
theorem dX12_chair_94 : decode cX12_chair 94 = .ok (.iaload, 1) := by decide +kernel
theorem dX12_chair_95 : decode cX12_chair 95 = .ok (.goto 9, 3) := by decide +kernel
theorem dX12_chair_98 : decode cX12_chair 98 = .ok (.aload_n 0, 1) := by decide +kernel
theorem dX12_chair_99 : decode cX12_chair 99 = .ok (.getfield 113, 3) := by decide +kernel
theorem dX12_chair_102 : decode cX12_chair 102 = .ok (.iload_n 1, 1) := by decide +kernel
theorem dX12_chair_103 : decode cX12_chair 103 = .ok (.iaload, 1) := by decide +kernel
theorem dX12_chair_104 : decode cX12_chair 104 = .ok (.ireturn, 1) := by decide +kernel
theorem dX12_did_0 : decode cX12_did 0 = .ok (.aload_n 0, 1) := by decide +kernel
theorem dX12_did_1 : decode cX12_did 1 = .ok (.iconst 0, 1) := by decide +kernel
theorem dX12_did_2 : decode cX12_did 2 = .ok (.putfield 158, 3) := by decide +kernel
theorem dX12_did_5 : decode cX12_did 5 = .ok (.aload_n 0, 1) := by decide +kernel
theorem dX12_did_6 : decode cX12_did 6 = .ok (.aload_n 0, 1) := by decide +kernel
theorem dX12_did_7 : decode cX12_did 7 = .ok (.iload_n 1, 1) := by decide +kernel
theorem dX12_did_8 : decode cX12_did 8 = .ok (.invokevirtual 285, 3) := by decide +kernel
theorem dX12_did_11 : decode cX12_did 11 = .ok (.ifCond .ne 7, 3) := by decide +kernel
theorem dX12_did_14 : decode cX12_did 14 = .ok (.iconst 1, 1) := by decide +kernel
theorem dX12_did_15 : decode cX12_did 15 = .ok (.goto 4, 3) := by decide +kernel
theorem dX12_did_18 : decode cX12_did 18 = .ok (.iconst 0, 1) := by decide +kernel
theorem dX12_did_19 : decode cX12_did 19 = .ok (.iconst 1, 1) := by decide +kernel
theorem dX12_did_20 : decode cX12_did 20 = .ok (.iconst 0, 1) := by decide +kernel
theorem dX12_did_21 : decode cX12_did 21 = .ok (.invokevirtual 228, 3) := by decide +kernel
theorem dX12_did_24 : decode cX12_did 24 = .ok (.ifCond .ne 27, 3) := by decide +kernel
theorem dX12_did_27 : decode cX12_did 27 = .ok (.aload_n 0, 1) := by decide +kernel
theorem dX12_did_28 : decode cX12_did 28 = .ok (.iload_n 2, 1) := by decide +kernel
theorem dX12_did_29 : decode cX12_did 29 = .ok (.iconst 0, 1) := by decide +kernel
theorem dX12_did_30 : decode cX12_did 30 = .ok (.bipush 7, 2) := by decide +kernel
theorem dX12_did_32 : decode cX12_did 32 = .ok (.invokestatic 192, 3) := by decide +kernel
theorem dX12_did_35 : decode cX12_did 35 = .ok (.ifCond .ne 7, 3) := by decide +kernel
theorem dX12_did_38 : decode cX12_did 38 = .ok (.iconst 1, 1) := by decide +kernel
theorem dX12_did_39 : decode cX12_did 39 = .ok (.goto 4, 3) := by decide +kernel
theorem dX12_did_42 : decode cX12_did 42 = .ok (.iconst 0, 1) := by decide +kernel
theorem dX12_did_43 : decode cX12_did 43 = .ok (.iconst 2, 1) := by decide +kernel
theorem dX12_did_44 : decode cX12_did 44 = .ok (.iconst 1, 1) := by decide +kernel
theorem dX12_did_45 : decode cX12_did 45 = .ok (.invokevirtual 228, 3) := by decide +kernel
theorem dX12_did_48 : decode cX12_did 48 = .ok (.ifCond .eq 5, 3) := by decide +kernel
theorem dX12_did_51 : decode cX12_did 51 = .ok (.iconst 0, 1) := by decide +kernel
theorem dX12_did_52 : decode cX12_did 52 = .ok (.ireturn, 1) := by decide +kernel
theorem dX12_did_53 : decode cX12_did 53 = .ok (.aload_n 0, 1) := by decide +kernel
theorem dX12_did_54 : decode cX12_did 54 = .ok (.invokevirtual 353, 3) := by decide +kernel
theorem dX12_did_57 : decode cX12_did 57 = .ok (.iload_n 2, 1) := by decide +kernel
theorem dX12_did_58 : decode cX12_did 58 = .ok (.tableswitch 90 0 6 #[42, 49, 56, 63, 70, 76, 83], 42) := by decide +kernel
theorem dX12_did_100 : decode cX12_did 100 = .ok (.aload_n 0, 1) := by decide +kernel
theorem dX12_did_101 : decode cX12_did 101 = .ok (.getfield 71, 3) := by decide +kernel
theorem dX12_did_104 : decode cX12_did 104 = .ok (.iload_n 1, 1) := by decide +kernel
theorem dX12_did_105 : decode cX12_did 105 = .ok (.iaload, 1) := by decide +kernel
theorem dX12_did_106 : decode cX12_did 106 = .ok (.ireturn, 1) := by decide +kernel
theorem dX12_did_107 : decode cX12_did 107 = .ok (.aload_n 0, 1) := by decide +kernel
theorem dX12_did_108 : decode cX12_did 108 = .ok (.getfield 83, 3) := by decide +kernel
theorem dX12_did_111 : decode cX12_did 111 = .ok (.iload_n 1, 1) := by decide +kernel
theorem dX12_did_112 : decode cX12_did 112 = .ok (.iaload, 1) := by decide +kernel
theorem dX12_did_113 : decode cX12_did 113 = .ok (.ireturn, 1) := by decide +kernel
theorem dX12_did_114 : decode cX12_did 114 = .ok (.aload_n 0, 1) := by decide +kernel
theorem dX12_did_115 : decode cX12_did 115 = .ok (.getfield 86, 3) := by decide +kernel
theorem dX12_did_118 : decode cX12_did 118 = .ok (.iload_n 1, 1) := by decide +kernel
theorem dX12_did_119 : decode cX12_did 119 = .ok (.iaload, 1) := by decide +kernel
theorem dX12_did_120 : decode cX12_did 120 = .ok (.ireturn, 1) := by decide +kernel
theorem dX12_did_121 : decode cX12_did 121 = .ok (.aload_n 0, 1) := by decide +kernel
theorem dX12_did_122 : decode cX12_did 122 = .ok (.getfield 89, 3) := by decide +kernel
theorem dX12_did_125 : decode cX12_did 125 = .ok (.iload_n 1, 1) := by decide +kernel
theorem dX12_did_126 : decode cX12_did 126 = .ok (.iaload, 1) := by decide +kernel
theorem dX12_did_127 : decode cX12_did 127 = .ok (.ireturn, 1) := by decide +kernel
theorem dX12_did_128 : decode cX12_did 128 = .ok (.aload_n 0, 1) := by decide +kernel
theorem dX12_did_129 : decode cX12_did 129 = .ok (.iload_n 1, 1) := by decide +kernel
theorem dX12_did_130 : decode cX12_did 130 = .ok (.invokevirtual 356, 3) := by decide +kernel
theorem dX12_did_133 : decode cX12_did 133 = .ok (.ireturn, 1) := by decide +kernel
theorem dX12_did_134 : decode cX12_did 134 = .ok (.aload_n 0, 1) := by decide +kernel
theorem dX12_did_135 : decode cX12_did 135 = .ok (.getfield 92, 3) := by decide +kernel
theorem dX12_did_138 : decode cX12_did 138 = .ok (.iload_n 1, 1) := by decide +kernel
theorem dX12_did_139 : decode cX12_did 139 = .ok (.iaload, 1) := by decide +kernel
theorem dX12_did_140 : decode cX12_did 140 = .ok (.ireturn, 1) := by decide +kernel
theorem dX12_did_141 : decode cX12_did 141 = .ok (.aload_n 0, 1) := by decide +kernel
theorem dX12_did_142 : decode cX12_did 142 = .ok (.getfield 95, 3) := by decide +kernel
theorem dX12_did_145 : decode cX12_did 145 = .ok (.iload_n 1, 1) := by decide +kernel
theorem dX12_did_146 : decode cX12_did 146 = .ok (.iaload, 1) := by decide +kernel
theorem dX12_did_147 : decode cX12_did 147 = .ok (.ireturn, 1) := by decide +kernel
theorem dX12_did_148 : decode cX12_did 148 = .ok (.aload_n 0, 1) := by decide +kernel
theorem dX12_did_149 : decode cX12_did 149 = .ok (.getfield 98, 3) := by decide +kernel
theorem dX12_did_152 : decode cX12_did 152 = .ok (.iload_n 1, 1) := by decide +kernel
theorem dX12_did_153 : decode cX12_did 153 = .ok (.iaload, 1) := by decide +kernel
theorem dX12_did_154 : decode cX12_did 154 = .ok (.ireturn, 1) := by decide +kernel
theorem dX12_towel_0 : decode cX12_towel 0 = .ok (.aload_n 0, 1) := by decide +kernel
theorem dX12_towel_1 : decode cX12_towel 1 = .ok (.iconst 0, 1) := by decide +kernel
theorem dX12_towel_2 : decode cX12_towel 2 = .ok (.putfield 158, 3) := by decide +kernel
theorem dX12_towel_5 : decode cX12_towel 5 = .ok (.aload_n 0, 1) := by decide +kernel
theorem dX12_towel_6 : decode cX12_towel 6 = .ok (.aload_n 0, 1) := by decide +kernel
theorem dX12_towel_7 : decode cX12_towel 7 = .ok (.iload_n 1, 1) := by decide +kernel
theorem dX12_towel_8 : decode cX12_towel 8 = .ok (.invokevirtual 307, 3) := by decide +kernel
theorem dX12_towel_11 : decode cX12_towel 11 = .ok (.ifCond .ne 7, 3) := by decide +kernel
theorem dX12_towel_14 : decode cX12_towel 14 = .ok (.iconst 1, 1) := by decide +kernel
theorem dX12_towel_15 : decode cX12_towel 15 = .ok (.goto 4, 3) := by decide +kernel
theorem dX12_towel_18 : decode cX12_towel 18 = .ok (.iconst 0, 1) := by decide +kernel
theorem dX12_towel_19 : decode cX12_towel 19 = .ok (.iconst 1, 1) := by decide +kernel
theorem dX12_towel_20 : decode cX12_towel 20 = .ok (.iconst 0, 1) := by decide +kernel
theorem dX12_towel_21 : decode cX12_towel 21 = .ok (.invokevirtual 228, 3) := by decide +kernel
theorem dX12_towel_24 : decode cX12_towel 24 = .ok (.ifCond .ne 24, 3) := by decide +kernel
theorem dX12_towel_27 : decode cX12_towel 27 = .ok (.aload_n 0, 1) := by decide +kernel
theorem dX12_towel_28 : decode cX12_towel 28 = .ok (.iload_n 2, 1) := by decide +kernel
theorem dX12_towel_29 : decode cX12_towel 29 = .ok (.invokestatic 298, 3) := by decide +kernel
theorem dX12_towel_32 : decode cX12_towel 32 = .ok (.ifCond .ne 7, 3) := by decide +kernel
theorem dX12_towel_35 : decode cX12_towel 35 = .ok (.iconst 1, 1) := by decide +kernel
theorem dX12_towel_36 : decode cX12_towel 36 = .ok (.goto 4, 3) := by decide +kernel
theorem dX12_towel_39 : decode cX12_towel 39 = .ok (.iconst 0, 1) := by decide +kernel
theorem dX12_towel_40 : decode cX12_towel 40 = .ok (.iconst 2, 1) := by decide +kernel
theorem dX12_towel_41 : decode cX12_towel 41 = .ok (.iconst 1, 1) := by decide +kernel
theorem dX12_towel_42 : decode cX12_towel 42 = .ok (.invokevirtual 228, 3) := by decide +kernel
theorem dX12_towel_45 : decode cX12_towel 45 = .ok (.ifCond .eq 5, 3) := by decide +kernel
theorem dX12_towel_48 : decode cX12_towel 48 = .ok (.iconst 0, 1) := by decide +kernel
theorem dX12_towel_49 : decode cX12_towel 49 = .ok (.ireturn, 1) := by decide +kernel
theorem dX12_towel_50 : decode cX12_towel 50 = .ok (.aload_n 0, 1) := by decide +kernel
theorem dX12_towel_51 : decode cX12_towel 51 = .ok (.invokevirtual 353, 3) := by decide +kernel
theorem dX12_towel_54 : decode cX12_towel 54 = .ok (.aload_n 0, 1) := by decide +kernel
theorem dX12_towel_55 : decode cX12_towel 55 = .ok (.getfield 119, 3) := by decide +kernel
theorem dX12_towel_58 : decode cX12_towel 58 = .ok (.iload_n 1, 1) := by decide +kernel
theorem dX12_towel_59 : decode cX12_towel 59 = .ok (.aaload, 1) := by decide +kernel
theorem dX12_towel_60 : decode cX12_towel 60 = .ok (.iload_n 2, 1) := by decide +kernel
theorem dX12_towel_61 : decode cX12_towel 61 = .ok (.iaload, 1) := by decide +kernel
theorem dX12_towel_62 : decode cX12_towel 62 = .ok (.ireturn, 1) := by decide +kernel
theorem dX12_lies_0 : decode cX12_lies 0 = .ok (.aload_n 0, 1) := by decide +kernel
theorem dX12_lies_1 : decode cX12_lies 1 = .ok (.iconst 0, 1) := by decide +kernel
theorem dX12_lies_2 : decode cX12_lies 2 = .ok (.putfield 158, 3) := by decide +kernel
theorem dX12_lies_5 : decode cX12_lies 5 = .ok (.aload_n 0, 1) := by decide +kernel
theorem dX12_lies_6 : decode cX12_lies 6 = .ok (.aload_n 0, 1) := by decide +kernel
theorem dX12_lies_7 : decode cX12_lies 7 = .ok (.iload_n 1, 1) := by decide +kernel
theorem dX12_lies_8 : decode cX12_lies 8 = .ok (.invokevirtual 307, 3) := by decide +kernel
theorem dX12_lies_11 : decode cX12_lies 11 = .ok (.ifCond .ne 7, 3) := by decide +kernel
theorem dX12_lies_14 : decode cX12_lies 14 = .ok (.iconst 1, 1) := by decide +kernel
theorem dX12_lies_15 : decode cX12_lies 15 = .ok (.goto 4, 3) := by decide +kernel
theorem dX12_lies_18 : decode cX12_lies 18 = .ok (.iconst 0, 1) := by decide +kernel
theorem dX12_lies_19 : decode cX12_lies 19 = .ok (.iconst 1, 1) := by decide +kernel
theorem dX12_lies_20 : decode cX12_lies 20 = .ok (.iconst 0, 1) := by decide +kernel
theorem dX12_lies_21 : decode cX12_lies 21 = .ok (.invokevirtual 228, 3) := by decide +kernel
theorem dX12_lies_24 : decode cX12_lies 24 = .ok (.ifCond .ne 24, 3) := by decide +kernel
theorem dX12_lies_27 : decode cX12_lies 27 = .ok (.aload_n 0, 1) := by decide +kernel
theorem dX12_lies_28 : decode cX12_lies 28 = .ok (.iload_n 2, 1) := by decide +kernel
theorem dX12_lies_29 : decode cX12_lies 29 = .ok (.invokestatic 298, 3) := by decide +kernel
theorem dX12_lies_32 : decode cX12_lies 32 = .ok (.ifCond .ne 7, 3) := by decide +kernel
theorem dX12_lies_35 : decode cX12_lies 35 = .ok (.iconst 1, 1) := by decide +kernel
theorem dX12_lies_36 : decode cX12_lies 36 = .ok (.goto 4, 3) := by decide +kernel
theorem dX12_lies_39 : decode cX12_lies 39 = .ok (.iconst 0, 1) := by decide +kernel
theorem dX12_lies_40 : decode cX12_lies 40 = .ok (.iconst 2, 1) := by decide +kernel
theorem dX12_lies_41 : decode cX12_lies 41 = .ok (.iconst 1, 1) := by decide +kernel
theorem dX12_lies_42 : decode cX12_lies 42 = .ok (.invokevirtual 228, 3) := by decide +kernel
theorem dX12_lies_45 : decode cX12_lies 45 = .ok (.ifCond .eq 5, 3) := by decide +kernel
theorem dX12_lies_48 : decode cX12_lies 48 = .ok (.iconst 0, 1) := by decide +kernel
theorem dX12_lies_49 : decode cX12_lies 49 = .ok (.ireturn, 1) := by decide +kernel
theorem dX12_lies_50 : decode cX12_lies 50 = .ok (.aload_n 0, 1) := by decide +kernel
theorem dX12_lies_51 : decode cX12_lies 51 = .ok (.invokevirtual 353, 3) := by decide +kernel
theorem dX12_lies_54 : decode cX12_lies 54 = .ok (.aload_n 0, 1) := by decide +kernel
theorem dX12_lies_55 : decode cX12_lies 55 = .ok (.getfield 122, 3) := by decide +kernel
theorem dX12_lies_58 : decode cX12_lies 58 = .ok (.iload_n 1, 1) := by decide +kernel
theorem dX12_lies_59 : decode cX12_lies 59 = .ok (.aaload, 1) := by decide +kernel
theorem dX12_lies_60 : decode cX12_lies 60 = .ok (.iload_n 2, 1) := by decide +kernel
theorem dX12_lies_61 : decode cX12_lies 61 = .ok (.iaload, 1) := by decide +kernel
theorem dX12_lies_62 : decode cX12_lies 62 = .ok (.ireturn, 1) := by decide +kernel
theorem dX12_waits_0 : decode cX12_waits 0 = .ok (.aload_n 0, 1) := by decide +kernel
theorem dX12_waits_1 : decode cX12_waits 1 = .ok (.iconst 0, 1) := by decide +kernel
theorem dX12_waits_2 : decode cX12_waits 2 = .ok (.putfield 158, 3) := by decide +kernel
theorem dX12_waits_5 : decode cX12_waits 5 = .ok (.aload_n 0, 1) := by decide +kernel
theorem dX12_waits_6 : decode cX12_waits 6 = .ok (.iload_n 1, 1) := by decide +kernel
theorem dX12_waits_7 : decode cX12_waits 7 = .ok (.invokestatic 298, 3) := by decide +kernel
theorem dX12_waits_10 : decode cX12_waits 10 = .ok (.ifCond .ne 7, 3) := by decide +kernel
theorem dX12_waits_13 : decode cX12_waits 13 = .ok (.iconst 1, 1) := by decide +kernel
theorem dX12_waits_14 : decode cX12_waits 14 = .ok (.goto 4, 3) := by decide +kernel
theorem dX12_waits_17 : decode cX12_waits 17 = .ok (.iconst 0, 1) := by decide +kernel
theorem dX12_waits_18 : decode cX12_waits 18 = .ok (.iconst 1, 1) := by decide +kernel
theorem dX12_waits_19 : decode cX12_waits 19 = .ok (.iconst 1, 1) := by decide +kernel
theorem dX12_waits_20 : decode cX12_waits 20 = .ok (.invokevirtual 228, 3) := by decide +kernel
theorem dX12_waits_23 : decode cX12_waits 23 = .ok (.ifCond .eq 5, 3) := by decide +kernel
theorem dX12_waits_26 : decode cX12_waits 26 = .ok (.iconst 0, 1) := by decide +kernel
theorem dX12_waits_27 : decode cX12_waits 27 = .ok (.ireturn, 1) := by decide +kernel
theorem dX12_waits_28 : decode cX12_waits 28 = .ok (.aload_n 0, 1) := by decide +kernel
theorem dX12_waits_29 : decode cX12_waits 29 = .ok (.invokevirtual 353, 3) := by decide +kernel
theorem dX12_waits_32 : decode cX12_waits 32 = .ok (.aload_n 0, 1) := by decide +kernel
theorem dX12_waits_33 : decode cX12_waits 33 = .ok (.getfield 116, 3) := by decide +kernel
theorem dX12_waits_36 : decode cX12_waits 36 = .ok (.iload_n 1, 1) := by decide +kernel
theorem dX12_waits_37 : decode cX12_waits 37 = .ok (.iaload, 1) := by decide +kernel
theorem dX12_waits_38 : decode cX12_waits 38 = .ok (.ireturn, 1) := by decide +kernel
theorem dX12_sums_0 : decode cX12_sums 0 = .ok (.aload_n 0, 1) := by decide +kernel
theorem dX12_sums_1 : decode cX12_sums 1 = .ok (.iconst 0, 1) := by decide +kernel
theorem dX12_sums_2 : decode cX12_sums 2 = .ok (.putfield 158, 3) := by decide +kernel
theorem dX12_sums_5 : decode cX12_sums 5 = .ok (.aload_n 0, 1) := by decide +kernel
theorem dX12_sums_6 : decode cX12_sums 6 = .ok (.iload_n 1, 1) := by decide +kernel
theorem dX12_sums_7 : decode cX12_sums 7 = .ok (.iconst 0, 1) := by decide +kernel
theorem dX12_sums_8 : decode cX12_sums 8 = .ok (.iconst 5, 1) := by decide +kernel
theorem dX12_sums_9 : decode cX12_sums 9 = .ok (.invokestatic 192, 3) := by decide +kernel
theorem dX12_sums_12 : decode cX12_sums 12 = .ok (.ifCond .ne 7, 3) := by decide +kernel
theorem dX12_sums_15 : decode cX12_sums 15 = .ok (.iconst 1, 1) := by decide +kernel
theorem dX12_sums_16 : decode cX12_sums 16 = .ok (.goto 4, 3) := by decide +kernel
theorem dX12_sums_19 : decode cX12_sums 19 = .ok (.iconst 0, 1) := by decide +kernel
theorem dX12_sums_20 : decode cX12_sums 20 = .ok (.iconst 1, 1) := by decide +kernel
theorem dX12_sums_21 : decode cX12_sums 21 = .ok (.iconst 1, 1) := by decide +kernel
theorem dX12_sums_22 : decode cX12_sums 22 = .ok (.invokevirtual 228, 3) := by decide +kernel
theorem dX12_sums_25 : decode cX12_sums 25 = .ok (.ifCond .eq 5, 3) := by decide +kernel
theorem dX12_sums_28 : decode cX12_sums 28 = .ok (.iconst 0, 1) := by decide +kernel
theorem dX12_sums_29 : decode cX12_sums 29 = .ok (.ireturn, 1) := by decide +kernel
theorem dX12_sums_30 : decode cX12_sums 30 = .ok (.aload_n 0, 1) := by decide +kernel
theorem dX12_sums_31 : decode cX12_sums 31 = .ok (.invokevirtual 353, 3) := by decide +kernel
theorem dX12_sums_34 : decode cX12_sums 34 = .ok (.iload_n 1, 1) := by decide +kernel
theorem dX12_sums_35 : decode cX12_sums 35 = .ok (.ifCond .ne 8, 3) := by decide +kernel
theorem dX12_sums_38 : decode cX12_sums 38 = .ok (.aload_n 0, 1) := by decide +kernel
theorem dX12_sums_39 : decode cX12_sums 39 = .ok (.invokevirtual 359, 3) := by decide +kernel
theorem dX12_sums_42 : decode cX12_sums 42 = .ok (.ireturn, 1) := by decide +kernel
theorem dX12_sums_43 : decode cX12_sums 43 = .ok (.iload_n 1, 1) := by decide +kernel
theorem dX12_sums_44 : decode cX12_sums 44 = .ok (.iconst 2, 1) := by decide +kernel
theorem dX12_sums_45 : decode cX12_sums 45 = .ok (.if_icmp .ne 8, 3) := by decide +kernel
theorem dX12_sums_48 : decode cX12_sums 48 = .ok (.aload_n 0, 1) := by decide +kernel
theorem dX12_sums_49 : decode cX12_sums 49 = .ok (.invokevirtual 362, 3) := by decide +kernel
theorem dX12_sums_52 : decode cX12_sums 52 = .ok (.ireturn, 1) := by decide +kernel
theorem dX12_sums_53 : decode cX12_sums 53 = .ok (.iload_n 1, 1) := by decide +kernel
theorem dX12_sums_54 : decode cX12_sums 54 = .ok (.iconst 3, 1) := by decide +kernel
theorem dX12_sums_55 : decode cX12_sums 55 = .ok (.if_icmp .ne 8, 3) := by decide +kernel
theorem dX12_sums_58 : decode cX12_sums 58 = .ok (.aload_n 0, 1) := by decide +kernel
theorem dX12_sums_59 : decode cX12_sums 59 = .ok (.invokevirtual 365, 3) := by decide +kernel
theorem dX12_sums_62 : decode cX12_sums 62 = .ok (.ireturn, 1) := by decide +kernel
theorem dX12_sums_63 : decode cX12_sums 63 = .ok (.iconst 0, 1) := by decide +kernel
theorem dX12_sums_64 : decode cX12_sums 64 = .ok (.istore_n 2, 1) := by decide +kernel
theorem dX12_sums_65 : decode cX12_sums 65 = .ok (.iconst 0, 1) := by decide +kernel
theorem dX12_sums_66 : decode cX12_sums 66 = .ok (.istore_n 3, 1) := by decide +kernel
theorem dX12_sums_67 : decode cX12_sums 67 = .ok (.iload_n 3, 1) := by decide +kernel
theorem dX12_sums_68 : decode cX12_sums 68 = .ok (.aload_n 0, 1) := by decide +kernel
theorem dX12_sums_69 : decode cX12_sums 69 = .ok (.getfield 23, 3) := by decide +kernel
theorem dX12_sums_72 : decode cX12_sums 72 = .ok (.iconst 1, 1) := by decide +kernel
theorem dX12_sums_73 : decode cX12_sums 73 = .ok (.iaload, 1) := by decide +kernel
theorem dX12_sums_74 : decode cX12_sums 74 = .ok (.if_icmp .ge 53, 3) := by decide +kernel
theorem dX12_sums_77 : decode cX12_sums 77 = .ok (.iload_n 2, 1) := by decide +kernel
theorem dX12_sums_78 : decode cX12_sums 78 = .ok (.iload_n 1, 1) := by decide +kernel
theorem dX12_sums_79 : decode cX12_sums 79 = .ok (.iconst 1, 1) := by decide +kernel
theorem dX12_sums_80 : decode cX12_sums 80 = .ok (.if_icmp .ne 11, 3) := by decide +kernel
theorem dX12_sums_83 : decode cX12_sums 83 = .ok (.aload_n 0, 1) := by decide +kernel
theorem dX12_sums_84 : decode cX12_sums 84 = .ok (.iload_n 3, 1) := by decide +kernel
theorem dX12_sums_85 : decode cX12_sums 85 = .ok (.invokevirtual 356, 3) := by decide +kernel
theorem dX12_sums_88 : decode cX12_sums 88 = .ok (.goto 31, 3) := by decide +kernel
theorem dX12_sums_91 : decode cX12_sums 91 = .ok (.iload_n 1, 1) := by decide +kernel
theorem dX12_sums_92 : decode cX12_sums 92 = .ok (.iconst 4, 1) := by decide +kernel
theorem dX12_sums_93 : decode cX12_sums 93 = .ok (.if_icmp .ne 20, 3) := by decide +kernel
theorem dX12_sums_96 : decode cX12_sums 96 = .ok (.aload_n 0, 1) := by decide +kernel
theorem dX12_sums_97 : decode cX12_sums 97 = .ok (.getfield 92, 3) := by decide +kernel
theorem dX12_sums_100 : decode cX12_sums 100 = .ok (.iload_n 3, 1) := by decide +kernel
theorem dX12_sums_101 : decode cX12_sums 101 = .ok (.iaload, 1) := by decide +kernel
theorem dX12_sums_102 : decode cX12_sums 102 = .ok (.ifCond .le 7, 3) := by decide +kernel
theorem dX12_sums_105 : decode cX12_sums 105 = .ok (.iconst 1, 1) := by decide +kernel
theorem dX12_sums_106 : decode cX12_sums 106 = .ok (.goto 13, 3) := by decide +kernel
theorem dX12_sums_109 : decode cX12_sums 109 = .ok (.iconst 0, 1) := by decide +kernel
theorem dX12_sums_110 : decode cX12_sums 110 = .ok (.goto 9, 3) := by decide +kernel
theorem dX12_sums_113 : decode cX12_sums 113 = .ok (.aload_n 0, 1) := by decide +kernel
theorem dX12_sums_114 : decode cX12_sums 114 = .ok (.getfield 95, 3) := by decide +kernel
theorem dX12_sums_117 : decode cX12_sums 117 = .ok (.iload_n 3, 1) := by decide +kernel
theorem dX12_sums_118 : decode cX12_sums 118 = .ok (.iaload, 1) := by decide +kernel
theorem dX12_sums_119 : decode cX12_sums 119 = .ok (.iadd, 1) := by decide +kernel
theorem dX12_sums_120 : decode cX12_sums 120 = .ok (.istore_n 2, 1) := by decide +kernel
theorem dX12_sums_121 : decode cX12_sums 121 = .ok (.iinc 3 1, 3) := by decide +kernel
theorem dX12_sums_124 : decode cX12_sums 124 = .ok (.goto (-57), 3) := by decide +kernel
theorem dX12_sums_127 : decode cX12_sums 127 = .ok (.iload_n 2, 1) := by decide +kernel
theorem dX12_sums_128 : decode cX12_sums 128 = .ok (.ireturn, 1) := by decide +kernel
theorem dX12_isAs_0 : decode cX12_isAs 0 = .ok (.iconst 0, 1) := by decide +kernel
theorem dX12_isAs_1 : decode cX12_isAs 1 = .ok (.istore_n 3, 1) := by decide +kernel
theorem dX12_isAs_2 : decode cX12_isAs 2 = .ok (.iload_n 3, 1) := by decide +kernel
theorem dX12_isAs_3 : decode cX12_isAs 3 = .ok (.iconst 4, 1) := by decide +kernel
theorem dX12_isAs_4 : decode cX12_isAs 4 = .ok (.aload_n 0, 1) := by decide +kernel
theorem dX12_isAs_5 : decode cX12_isAs 5 = .ok (.getfield 23, 3) := by decide +kernel
theorem dX12_isAs_8 : decode cX12_isAs 8 = .ok (.iconst 1, 1) := by decide +kernel
theorem dX12_isAs_9 : decode cX12_isAs 9 = .ok (.iaload, 1) := by decide +kernel
theorem dX12_isAs_10 : decode cX12_isAs 10 = .ok (.imul, 1) := by decide +kernel
theorem dX12_isAs_11 : decode cX12_isAs 11 = .ok (.if_icmp .ge 20, 3) := by decide +kernel
theorem dX12_isAs_14 : decode cX12_isAs 14 = .ok (.aload_n 1, 1) := by decide +kernel
theorem dX12_isAs_15 : decode cX12_isAs 15 = .ok (.iload_n 3, 1) := by decide +kernel
theorem dX12_isAs_16 : decode cX12_isAs 16 = .ok (.iaload, 1) := by decide +kernel
theorem dX12_isAs_17 : decode cX12_isAs 17 = .ok (.aload_n 2, 1) := by decide +kernel
theorem dX12_isAs_18 : decode cX12_isAs 18 = .ok (.iload_n 3, 1) := by decide +kernel
theorem dX12_isAs_19 : decode cX12_isAs 19 = .ok (.iaload, 1) := by decide +kernel
theorem dX12_isAs_20 : decode cX12_isAs 20 = .ok (.if_icmp .eq 5, 3) := by decide +kernel
theorem dX12_isAs_23 : decode cX12_isAs 23 = .ok (.iconst 0, 1) := by decide +kernel
theorem dX12_isAs_24 : decode cX12_isAs 24 = .ok (.ireturn, 1) := by decide +kernel
theorem dX12_isAs_25 : decode cX12_isAs 25 = .ok (.iinc 3 1, 3) := by decide +kernel
theorem dX12_isAs_28 : decode cX12_isAs 28 = .ok (.goto (-26), 3) := by decide +kernel
theorem dX12_isAs_31 : decode cX12_isAs 31 = .ok (.iconst 1, 1) := by decide +kernel
theorem dX12_isAs_32 : decode cX12_isAs 32 = .ok (.ireturn, 1) := by decide +kernel
theorem dX12_round_0 : decode cX12_round 0 = .ok (.aload_n 0, 1) := by decide +kernel
theorem dX12_round_1 : decode cX12_round 1 = .ok (.iconst 0, 1) := by decide +kernel
theorem dX12_round_2 : decode cX12_round 2 = .ok (.putfield 158, 3) := by decide +kernel
theorem dX12_round_5 : decode cX12_round 5 = .ok (.aload_n 0, 1) := by decide +kernel
theorem dX12_round_6 : decode cX12_round 6 = .ok (.iload_n 1, 1) := by decide +kernel
theorem dX12_round_7 : decode cX12_round 7 = .ok (.iconst 0, 1) := by decide +kernel
theorem dX12_round_8 : decode cX12_round 8 = .ok (.iconst 1, 1) := by decide +kernel
theorem dX12_round_9 : decode cX12_round 9 = .ok (.invokestatic 192, 3) := by decide +kernel
theorem dX12_round_12 : decode cX12_round 12 = .ok (.ifCond .ne 7, 3) := by decide +kernel
theorem dX12_round_15 : decode cX12_round 15 = .ok (.iconst 1, 1) := by decide +kernel
theorem dX12_round_16 : decode cX12_round 16 = .ok (.goto 4, 3) := by decide +kernel
theorem dX12_round_19 : decode cX12_round 19 = .ok (.iconst 0, 1) := by decide +kernel
theorem dX12_round_20 : decode cX12_round 20 = .ok (.iconst 1, 1) := by decide +kernel
theorem dX12_round_21 : decode cX12_round 21 = .ok (.iconst 1, 1) := by decide +kernel
theorem dX12_round_22 : decode cX12_round 22 = .ok (.invokevirtual 228, 3) := by decide +kernel
theorem dX12_round_25 : decode cX12_round 25 = .ok (.ifCond .eq 5, 3) := by decide +kernel
theorem dX12_round_28 : decode cX12_round 28 = .ok (.iconst 0, 1) := by decide +kernel
theorem dX12_round_29 : decode cX12_round 29 = .ok (.ireturn, 1) := by decide +kernel
theorem dX12_round_30 : decode cX12_round 30 = .ok (.iconst 0, 1) := by decide +kernel
theorem dX12_round_31 : decode cX12_round 31 = .ok (.istore_n 2, 1) := by decide +kernel
theorem dX12_round_32 : decode cX12_round 32 = .ok (.iload_n 2, 1) := by decide +kernel
theorem dX12_round_33 : decode cX12_round 33 = .ok (.aload_n 0, 1) := by decide +kernel
theorem dX12_round_34 : decode cX12_round 34 = .ok (.getfield 23, 3) := by decide +kernel
theorem dX12_round_37 : decode cX12_round 37 = .ok (.iconst 1, 1) := by decide +kernel
theorem dX12_round_38 : decode cX12_round 38 = .ok (.iaload, 1) := by decide +kernel
theorem dX12_round_39 : decode cX12_round 39 = .ok (.if_icmp .ge 20, 3) := by decide +kernel
theorem dX12_round_42 : decode cX12_round 42 = .ok (.aload_n 0, 1) := by decide +kernel
theorem dX12_round_43 : decode cX12_round 43 = .ok (.getfield 67, 3) := by decide +kernel
theorem dX12_round_46 : decode cX12_round 46 = .ok (.iload_n 2, 1) := by decide +kernel
theorem dX12_round_47 : decode cX12_round 47 = .ok (.baload, 1) := by decide +kernel
theorem dX12_round_48 : decode cX12_round 48 = .ok (.ifCond .eq 5, 3) := by decide +kernel
theorem dX12_round_51 : decode cX12_round 51 = .ok (.iconst (-1), 1) := by decide +kernel
theorem dX12_round_52 : decode cX12_round 52 = .ok (.ireturn, 1) := by decide +kernel
theorem dX12_round_53 : decode cX12_round 53 = .ok (.iinc 2 1, 3) := by decide +kernel
theorem dX12_round_56 : decode cX12_round 56 = .ok (.goto (-24), 3) := by decide +kernel
theorem dX12_round_59 : decode cX12_round 59 = .ok (.aload_n 0, 1) := by decide +kernel
theorem dX12_round_60 : decode cX12_round 60 = .ok (.invokevirtual 347, 3) := by decide +kernel
theorem dX12_round_63 : decode cX12_round 63 = .ok (.aload_n 0, 1) := by decide +kernel
theorem dX12_round_64 : decode cX12_round 64 = .ok (.invokevirtual 341, 3) := by decide +kernel
theorem dX12_round_67 : decode cX12_round 67 = .ok (.iconst 0, 1) := by decide +kernel
theorem dX12_round_68 : decode cX12_round 68 = .ok (.istore_n 2, 1) := by decide +kernel
theorem dX12_round_69 : decode cX12_round 69 = .ok (.iload_n 2, 1) := by decide +kernel
theorem dX12_round_70 : decode cX12_round 70 = .ok (.sipush 200, 3) := by decide +kernel
theorem dX12_round_73 : decode cX12_round 73 = .ok (.if_icmp .ge 170, 3) := by decide +kernel
theorem dX12_round_76 : decode cX12_round 76 = .ok (.iload_n 2, 1) := by decide +kernel
theorem dX12_round_77 : decode cX12_round 77 = .ok (.ifCond .le 12, 3) := by decide +kernel
theorem dX12_round_80 : decode cX12_round 80 = .ok (.aload_n 0, 1) := by decide +kernel
theorem dX12_round_81 : decode cX12_round 81 = .ok (.iload_n 2, 1) := by decide +kernel
theorem dX12_round_82 : decode cX12_round 82 = .ok (.invokevirtual 344, 3) := by decide +kernel
theorem dX12_round_85 : decode cX12_round 85 = .ok (.aload_n 0, 1) := by decide +kernel
theorem dX12_round_86 : decode cX12_round 86 = .ok (.invokevirtual 341, 3) := by decide +kernel
theorem dX12_round_89 : decode cX12_round 89 = .ok (.iconst 0, 1) := by decide +kernel
theorem dX12_round_90 : decode cX12_round 90 = .ok (.istore_n 3, 1) := by decide +kernel
theorem dX12_round_91 : decode cX12_round 91 = .ok (.iload_n 3, 1) := by decide +kernel
theorem dX12_round_92 : decode cX12_round 92 = .ok (.aload_n 0, 1) := by decide +kernel
theorem dX12_round_93 : decode cX12_round 93 = .ok (.getfield 23, 3) := by decide +kernel
theorem dX12_round_96 : decode cX12_round 96 = .ok (.iconst 1, 1) := by decide +kernel
theorem dX12_round_97 : decode cX12_round 97 = .ok (.iaload, 1) := by decide +kernel
theorem dX12_round_98 : decode cX12_round 98 = .ok (.if_icmp .ge 95, 3) := by decide +kernel
theorem dX12_round_101 : decode cX12_round 101 = .ok (.aload_n 0, 1) := by decide +kernel
theorem dX12_round_102 : decode cX12_round 102 = .ok (.getfield 134, 3) := by decide +kernel
theorem dX12_round_105 : decode cX12_round 105 = .ok (.iload_n 2, 1) := by decide +kernel
theorem dX12_round_106 : decode cX12_round 106 = .ok (.aaload, 1) := by decide +kernel
theorem dX12_round_107 : decode cX12_round 107 = .ok (.iconst 4, 1) := by decide +kernel
theorem dX12_round_108 : decode cX12_round 108 = .ok (.iload_n 3, 1) := by decide +kernel
theorem dX12_round_109 : decode cX12_round 109 = .ok (.imul, 1) := by decide +kernel
theorem dX12_round_110 : decode cX12_round 110 = .ok (.aload_n 0, 1) := by decide +kernel
theorem dX12_round_111 : decode cX12_round 111 = .ok (.getfield 71, 3) := by decide +kernel
theorem dX12_round_114 : decode cX12_round 114 = .ok (.iload_n 3, 1) := by decide +kernel
theorem dX12_round_115 : decode cX12_round 115 = .ok (.iaload, 1) := by decide +kernel
theorem dX12_round_116 : decode cX12_round 116 = .ok (.iastore, 1) := by decide +kernel
theorem dX12_round_117 : decode cX12_round 117 = .ok (.aload_n 0, 1) := by decide +kernel
theorem dX12_round_118 : decode cX12_round 118 = .ok (.getfield 134, 3) := by decide +kernel
theorem dX12_round_121 : decode cX12_round 121 = .ok (.iload_n 2, 1) := by decide +kernel
theorem dX12_round_122 : decode cX12_round 122 = .ok (.aaload, 1) := by decide +kernel
theorem dX12_round_123 : decode cX12_round 123 = .ok (.iconst 4, 1) := by decide +kernel
theorem dX12_round_124 : decode cX12_round 124 = .ok (.iload_n 3, 1) := by decide +kernel
theorem dX12_round_125 : decode cX12_round 125 = .ok (.imul, 1) := by decide +kernel
theorem dX12_round_126 : decode cX12_round 126 = .ok (.iconst 1, 1) := by decide +kernel
theorem dX12_round_127 : decode cX12_round 127 = .ok (.iadd, 1) := by decide +kernel
theorem dX12_round_128 : decode cX12_round 128 = .ok (.aload_n 0, 1) := by decide +kernel
theorem dX12_round_129 : decode cX12_round 129 = .ok (.getfield 92, 3) := by decide +kernel
theorem dX12_round_132 : decode cX12_round 132 = .ok (.iload_n 3, 1) := by decide +kernel
theorem dX12_round_133 : decode cX12_round 133 = .ok (.iaload, 1) := by decide +kernel
theorem dX12_round_134 : decode cX12_round 134 = .ok (.ifCond .le 7, 3) := by decide +kernel
theorem dX12_round_137 : decode cX12_round 137 = .ok (.iconst 1, 1) := by decide +kernel
theorem dX12_round_138 : decode cX12_round 138 = .ok (.goto 4, 3) := by decide +kernel
theorem dX12_round_141 : decode cX12_round 141 = .ok (.iconst 0, 1) := by decide +kernel
theorem dX12_round_142 : decode cX12_round 142 = .ok (.iastore, 1) := by decide +kernel
theorem dX12_round_143 : decode cX12_round 143 = .ok (.aload_n 0, 1) := by decide +kernel
theorem dX12_round_144 : decode cX12_round 144 = .ok (.getfield 134, 3) := by decide +kernel
theorem dX12_round_147 : decode cX12_round 147 = .ok (.iload_n 2, 1) := by decide +kernel
theorem dX12_round_148 : decode cX12_round 148 = .ok (.aaload, 1) := by decide +kernel
theorem dX12_round_149 : decode cX12_round 149 = .ok (.iconst 4, 1) := by decide +kernel
theorem dX12_round_150 : decode cX12_round 150 = .ok (.iload_n 3, 1) := by decide +kernel
theorem dX12_round_151 : decode cX12_round 151 = .ok (.imul, 1) := by decide +kernel
theorem dX12_round_152 : decode cX12_round 152 = .ok (.iconst 2, 1) := by decide +kernel
theorem dX12_round_153 : decode cX12_round 153 = .ok (.iadd, 1) := by decide +kernel
theorem dX12_round_154 : decode cX12_round 154 = .ok (.aload_n 0, 1) := by decide +kernel
theorem dX12_round_155 : decode cX12_round 155 = .ok (.getfield 86, 3) := by decide +kernel
theorem dX12_round_158 : decode cX12_round 158 = .ok (.iload_n 3, 1) := by decide +kernel
theorem dX12_round_159 : decode cX12_round 159 = .ok (.iaload, 1) := by decide +kernel
theorem dX12_round_160 : decode cX12_round 160 = .ok (.iastore, 1) := by decide +kernel
theorem dX12_round_161 : decode cX12_round 161 = .ok (.aload_n 0, 1) := by decide +kernel
theorem dX12_round_162 : decode cX12_round 162 = .ok (.getfield 134, 3) := by decide +kernel
theorem dX12_round_165 : decode cX12_round 165 = .ok (.iload_n 2, 1) := by decide +kernel
theorem dX12_round_166 : decode cX12_round 166 = .ok (.aaload, 1) := by decide +kernel
theorem dX12_round_167 : decode cX12_round 167 = .ok (.iconst 4, 1) := by decide +kernel
theorem dX12_round_168 : decode cX12_round 168 = .ok (.iload_n 3, 1) := by decide +kernel
theorem dX12_round_169 : decode cX12_round 169 = .ok (.imul, 1) := by decide +kernel
theorem dX12_round_170 : decode cX12_round 170 = .ok (.iconst 3, 1) := by decide +kernel
theorem dX12_round_171 : decode cX12_round 171 = .ok (.iadd, 1) := by decide +kernel
theorem dX12_round_172 : decode cX12_round 172 = .ok (.aload_n 0, 1) := by decide +kernel
theorem dX12_round_173 : decode cX12_round 173 = .ok (.getfield 95, 3) := by decide +kernel
theorem dX12_round_176 : decode cX12_round 176 = .ok (.iload_n 3, 1) := by decide +kernel
theorem dX12_round_177 : decode cX12_round 177 = .ok (.iaload, 1) := by decide +kernel
theorem dX12_round_178 : decode cX12_round 178 = .ok (.ifCond .le 7, 3) := by decide +kernel
theorem dX12_round_181 : decode cX12_round 181 = .ok (.iconst 1, 1) := by decide +kernel
theorem dX12_round_182 : decode cX12_round 182 = .ok (.goto 4, 3) := by decide +kernel
theorem dX12_round_185 : decode cX12_round 185 = .ok (.iconst 0, 1) := by decide +kernel
theorem dX12_round_186 : decode cX12_round 186 = .ok (.iastore, 1) := by decide +kernel
theorem dX12_round_187 : decode cX12_round 187 = .ok (.iinc 3 1, 3) := by decide +kernel
theorem dX12_round_190 : decode cX12_round 190 = .ok (.goto (-99), 3) := by decide +kernel
theorem dX12_round_193 : decode cX12_round 193 = .ok (.iconst 0, 1) := by decide +kernel
theorem dX12_round_194 : decode cX12_round 194 = .ok (.istore_n 3, 1) := by decide +kernel
theorem dX12_round_195 : decode cX12_round 195 = .ok (.iload_n 3, 1) := by decide +kernel
theorem dX12_round_196 : decode cX12_round 196 = .ok (.iload_n 2, 1) := by decide +kernel
theorem dX12_round_197 : decode cX12_round 197 = .ok (.if_icmp .ge 40, 3) := by decide +kernel
theorem dX12_round_200 : decode cX12_round 200 = .ok (.aload_n 0, 1) := by decide +kernel
theorem dX12_round_201 : decode cX12_round 201 = .ok (.aload_n 0, 1) := by decide +kernel
theorem dX12_round_202 : decode cX12_round 202 = .ok (.getfield 134, 3) := by decide +kernel
theorem dX12_round_205 : decode cX12_round 205 = .ok (.iload_n 2, 1) := by decide +kernel
theorem dX12_round_206 : decode cX12_round 206 = .ok (.aaload, 1) := by decide +kernel
theorem dX12_round_207 : decode cX12_round 207 = .ok (.aload_n 0, 1) := by decide +kernel
theorem dX12_round_208 : decode cX12_round 208 = .ok (.getfield 134, 3) := by decide +kernel
theorem dX12_round_211 : decode cX12_round 211 = .ok (.iload_n 3, 1) := by decide +kernel
theorem dX12_round_212 : decode cX12_round 212 = .ok (.aaload, 1) := by decide +kernel
theorem dX12_round_213 : decode cX12_round 213 = .ok (.invokevirtual 368, 3) := by decide +kernel
theorem dX12_round_216 : decode cX12_round 216 = .ok (.ifCond .eq 15, 3) := by decide +kernel
theorem dX12_round_219 : decode cX12_round 219 = .ok (.iload_n 1, 1) := by decide +kernel
theorem dX12_round_220 : decode cX12_round 220 = .ok (.ifCond .ne 7, 3) := by decide +kernel
theorem dX12_round_223 : decode cX12_round 223 = .ok (.iload_n 3, 1) := by decide +kernel
theorem dX12_round_224 : decode cX12_round 224 = .ok (.goto 6, 3) := by decide +kernel
theorem dX12_round_227 : decode cX12_round 227 = .ok (.iload_n 2, 1) := by decide +kernel
theorem dX12_round_228 : decode cX12_round 228 = .ok (.iload_n 3, 1) := by decide +kernel
theorem dX12_round_229 : decode cX12_round 229 = .ok (.isub, 1) := by decide +kernel
theorem dX12_round_230 : decode cX12_round 230 = .ok (.ireturn, 1) := by decide +kernel
theorem dX12_round_231 : decode cX12_round 231 = .ok (.iinc 3 1, 3) := by decide +kernel
theorem dX12_round_234 : decode cX12_round 234 = .ok (.goto (-39), 3) := by decide +kernel
theorem dX12_round_237 : decode cX12_round 237 = .ok (.iinc 2 1, 3) := by decide +kernel
theorem dX12_round_240 : decode cX12_round 240 = .ok (.goto (-171), 3) := by decide +kernel
theorem dX12_round_243 : decode cX12_round 243 = .ok (.iconst (-1), 1) := by decide +kernel
theorem dX12_round_244 : decode cX12_round 244 = .ok (.ireturn, 1) := by decide +kernel
theorem dX12_out_0 : decode cX12_out 0 = .ok (.aload_n 0, 1) := by decide +kernel
theorem dX12_out_1 : decode cX12_out 1 = .ok (.iconst 0, 1) := by decide +kernel
theorem dX12_out_2 : decode cX12_out 2 = .ok (.putfield 158, 3) := by decide +kernel
theorem dX12_out_5 : decode cX12_out 5 = .ok (.aload_n 0, 1) := by decide +kernel
theorem dX12_out_6 : decode cX12_out 6 = .ok (.aload_n 0, 1) := by decide +kernel
theorem dX12_out_7 : decode cX12_out 7 = .ok (.iload_n 1, 1) := by decide +kernel
theorem dX12_out_8 : decode cX12_out 8 = .ok (.invokevirtual 285, 3) := by decide +kernel
theorem dX12_out_11 : decode cX12_out 11 = .ok (.ifCond .ne 7, 3) := by decide +kernel
theorem dX12_out_14 : decode cX12_out 14 = .ok (.iconst 1, 1) := by decide +kernel
theorem dX12_out_15 : decode cX12_out 15 = .ok (.goto 4, 3) := by decide +kernel
theorem dX12_out_18 : decode cX12_out 18 = .ok (.iconst 0, 1) := by decide +kernel
theorem dX12_out_19 : decode cX12_out 19 = .ok (.iconst 1, 1) := by decide +kernel
theorem dX12_out_20 : decode cX12_out 20 = .ok (.iconst 0, 1) := by decide +kernel
theorem dX12_out_21 : decode cX12_out 21 = .ok (.invokevirtual 228, 3) := by decide +kernel
theorem dX12_out_24 : decode cX12_out 24 = .ok (.ifCond .eq 5, 3) := by decide +kernel
theorem dX12_out_27 : decode cX12_out 27 = .ok (.iconst 0, 1) := by decide +kernel
theorem dX12_out_28 : decode cX12_out 28 = .ok (.ireturn, 1) := by decide +kernel
theorem dX12_out_29 : decode cX12_out 29 = .ok (.aload_n 0, 1) := by decide +kernel
theorem dX12_out_30 : decode cX12_out 30 = .ok (.invokevirtual 347, 3) := by decide +kernel
theorem dX12_out_33 : decode cX12_out 33 = .ok (.aload_n 0, 1) := by decide +kernel
theorem dX12_out_34 : decode cX12_out 34 = .ok (.invokevirtual 341, 3) := by decide +kernel
theorem dX12_out_37 : decode cX12_out 37 = .ok (.iconst 1, 1) := by decide +kernel
theorem dX12_out_38 : decode cX12_out 38 = .ok (.istore_n 2, 1) := by decide +kernel
theorem dX12_out_39 : decode cX12_out 39 = .ok (.iload_n 2, 1) := by decide +kernel
theorem dX12_out_40 : decode cX12_out 40 = .ok (.sipush 200, 3) := by decide +kernel
theorem dX12_out_43 : decode cX12_out 43 = .ok (.if_icmp .ge 29, 3) := by decide +kernel
theorem dX12_out_46 : decode cX12_out 46 = .ok (.aload_n 0, 1) := by decide +kernel
theorem dX12_out_47 : decode cX12_out 47 = .ok (.iload_n 2, 1) := by decide +kernel
theorem dX12_out_48 : decode cX12_out 48 = .ok (.invokevirtual 344, 3) := by decide +kernel
theorem dX12_out_51 : decode cX12_out 51 = .ok (.aload_n 0, 1) := by decide +kernel
theorem dX12_out_52 : decode cX12_out 52 = .ok (.invokevirtual 341, 3) := by decide +kernel
theorem dX12_out_55 : decode cX12_out 55 = .ok (.aload_n 0, 1) := by decide +kernel
theorem dX12_out_56 : decode cX12_out 56 = .ok (.getfield 92, 3) := by decide +kernel
theorem dX12_out_59 : decode cX12_out 59 = .ok (.iload_n 1, 1) := by decide +kernel
theorem dX12_out_60 : decode cX12_out 60 = .ok (.iaload, 1) := by decide +kernel
theorem dX12_out_61 : decode cX12_out 61 = .ok (.ifCond .ne 5, 3) := by decide +kernel
theorem dX12_out_64 : decode cX12_out 64 = .ok (.iload_n 2, 1) := by decide +kernel
theorem dX12_out_65 : decode cX12_out 65 = .ok (.ireturn, 1) := by decide +kernel
theorem dX12_out_66 : decode cX12_out 66 = .ok (.iinc 2 1, 3) := by decide +kernel
theorem dX12_out_69 : decode cX12_out 69 = .ok (.goto (-30), 3) := by decide +kernel
theorem dX12_out_72 : decode cX12_out 72 = .ok (.iconst (-1), 1) := by decide +kernel
theorem dX12_out_73 : decode cX12_out 73 = .ok (.ireturn, 1) := by decide +kernel
theorem dX12_had_0 : decode cX12_had 0 = .ok (.aload_n 0, 1) := by decide +kernel
theorem dX12_had_1 : decode cX12_had 1 = .ok (.iconst 0, 1) := by decide +kernel
theorem dX12_had_2 : decode cX12_had 2 = .ok (.putfield 158, 3) := by decide +kernel
theorem dX12_had_5 : decode cX12_had 5 = .ok (.aload_n 0, 1) := by decide +kernel
theorem dX12_had_6 : decode cX12_had 6 = .ok (.aload_n 0, 1) := by decide +kernel
theorem dX12_had_7 : decode cX12_had 7 = .ok (.iload_n 1, 1) := by decide +kernel
theorem dX12_had_8 : decode cX12_had 8 = .ok (.invokevirtual 285, 3) := by decide +kernel
theorem dX12_had_11 : decode cX12_had 11 = .ok (.ifCond .ne 7, 3) := by decide +kernel
theorem dX12_had_14 : decode cX12_had 14 = .ok (.iconst 1, 1) := by decide +kernel
theorem dX12_had_15 : decode cX12_had 15 = .ok (.goto 4, 3) := by decide +kernel
theorem dX12_had_18 : decode cX12_had 18 = .ok (.iconst 0, 1) := by decide +kernel
theorem dX12_had_19 : decode cX12_had 19 = .ok (.iconst 1, 1) := by decide +kernel
theorem dX12_had_20 : decode cX12_had 20 = .ok (.iconst 0, 1) := by decide +kernel
theorem dX12_had_21 : decode cX12_had 21 = .ok (.invokevirtual 228, 3) := by decide +kernel
theorem dX12_had_24 : decode cX12_had 24 = .ok (.ifCond .ne 28, 3) := by decide +kernel
theorem dX12_had_27 : decode cX12_had 27 = .ok (.aload_n 0, 1) := by decide +kernel
theorem dX12_had_28 : decode cX12_had 28 = .ok (.iload_n 2, 1) := by decide +kernel
theorem dX12_had_29 : decode cX12_had 29 = .ok (.iconst 1, 1) := by decide +kernel
theorem dX12_had_30 : decode cX12_had 30 = .ok (.sipush 200, 3) := by decide +kernel
theorem dX12_had_33 : decode cX12_had 33 = .ok (.invokestatic 192, 3) := by decide +kernel
theorem dX12_had_36 : decode cX12_had 36 = .ok (.ifCond .ne 7, 3) := by decide +kernel
theorem dX12_had_39 : decode cX12_had 39 = .ok (.iconst 1, 1) := by decide +kernel
theorem dX12_had_40 : decode cX12_had 40 = .ok (.goto 4, 3) := by decide +kernel
theorem dX12_had_43 : decode cX12_had 43 = .ok (.iconst 0, 1) := by decide +kernel
theorem dX12_had_44 : decode cX12_had 44 = .ok (.iconst 2, 1) := by decide +kernel
theorem dX12_had_45 : decode cX12_had 45 = .ok (.iconst 1, 1) := by decide +kernel
theorem dX12_had_46 : decode cX12_had 46 = .ok (.invokevirtual 228, 3) := by decide +kernel
theorem dX12_had_49 : decode cX12_had 49 = .ok (.ifCond .eq 5, 3) := by decide +kernel
theorem dX12_had_52 : decode cX12_had 52 = .ok (.iconst 0, 1) := by decide +kernel
theorem dX12_had_53 : decode cX12_had 53 = .ok (.ireturn, 1) := by decide +kernel
theorem dX12_had_54 : decode cX12_had 54 = .ok (.aload_n 0, 1) := by decide +kernel
theorem dX12_had_55 : decode cX12_had 55 = .ok (.invokevirtual 347, 3) := by decide +kernel
theorem dX12_had_58 : decode cX12_had 58 = .ok (.aload_n 0, 1) := by decide +kernel
theorem dX12_had_59 : decode cX12_had 59 = .ok (.invokevirtual 341, 3) := by decide +kernel
theorem dX12_had_62 : decode cX12_had 62 = .ok (.aload_n 0, 1) := by decide +kernel
theorem dX12_had_63 : decode cX12_had 63 = .ok (.getfield 92, 3) := by decide +kernel
theorem dX12_had_66 : decode cX12_had 66 = .ok (.iload_n 1, 1) := by decide +kernel
theorem dX12_had_67 : decode cX12_had 67 = .ok (.iaload, 1) := by decide +kernel
theorem dX12_had_68 : decode cX12_had 68 = .ok (.ifCond .le 7, 3) := by decide +kernel
theorem dX12_had_71 : decode cX12_had 71 = .ok (.iconst 1, 1) := by decide +kernel
theorem dX12_had_72 : decode cX12_had 72 = .ok (.goto 4, 3) := by decide +kernel
theorem dX12_had_75 : decode cX12_had 75 = .ok (.iconst 0, 1) := by decide +kernel
theorem dX12_had_76 : decode cX12_had 76 = .ok (.istore_n 3, 1) := by decide +kernel
theorem dX12_had_77 : decode cX12_had 77 = .ok (.iconst 1, 1) := by decide +kernel
theorem dX12_had_78 : decode cX12_had 78 = .ok (.istore 4, 2) := by decide +kernel
theorem dX12_had_80 : decode cX12_had 80 = .ok (.iload 4, 2) := by decide +kernel
theorem dX12_had_82 : decode cX12_had 82 = .ok (.iload_n 2, 1) := by decide +kernel
theorem dX12_had_83 : decode cX12_had 83 = .ok (.if_icmp .ge 36, 3) := by decide +kernel
theorem dX12_had_86 : decode cX12_had 86 = .ok (.aload_n 0, 1) := by decide +kernel
theorem dX12_had_87 : decode cX12_had 87 = .ok (.iload 4, 2) := by decide +kernel
theorem dX12_had_89 : decode cX12_had 89 = .ok (.invokevirtual 344, 3) := by decide +kernel
theorem dX12_had_92 : decode cX12_had 92 = .ok (.aload_n 0, 1) := by decide +kernel
theorem dX12_had_93 : decode cX12_had 93 = .ok (.invokevirtual 341, 3) := by decide +kernel
theorem dX12_had_96 : decode cX12_had 96 = .ok (.iload_n 3, 1) := by decide +kernel
theorem dX12_had_97 : decode cX12_had 97 = .ok (.aload_n 0, 1) := by decide +kernel
theorem dX12_had_98 : decode cX12_had 98 = .ok (.getfield 92, 3) := by decide +kernel
theorem dX12_had_101 : decode cX12_had 101 = .ok (.iload_n 1, 1) := by decide +kernel
theorem dX12_had_102 : decode cX12_had 102 = .ok (.iaload, 1) := by decide +kernel
theorem dX12_had_103 : decode cX12_had 103 = .ok (.ifCond .le 7, 3) := by decide +kernel
theorem dX12_had_106 : decode cX12_had 106 = .ok (.iconst 1, 1) := by decide +kernel
theorem dX12_had_107 : decode cX12_had 107 = .ok (.goto 4, 3) := by decide +kernel
theorem dX12_had_110 : decode cX12_had 110 = .ok (.iconst 0, 1) := by decide +kernel
theorem dX12_had_111 : decode cX12_had 111 = .ok (.iadd, 1) := by decide +kernel
theorem dX12_had_112 : decode cX12_had 112 = .ok (.istore_n 3, 1) := by decide +kernel
theorem dX12_had_113 : decode cX12_had 113 = .ok (.iinc 4 1, 3) := by decide +kernel
theorem dX12_had_116 : decode cX12_had 116 = .ok (.goto (-36), 3) := by decide +kernel
theorem dX12_had_119 : decode cX12_had 119 = .ok (.iload_n 3, 1) := by decide +kernel
theorem dX12_had_120 : decode cX12_had 120 = .ok (.ireturn, 1) := by decide +kernel
theorem dX12_power_0 : decode cX12_power 0 = .ok (.iconst 1, 1) := by decide +kernel
theorem dX12_power_1 : decode cX12_power 1 = .ok (.istore_n 2, 1) := by decide +kernel
theorem dX12_power_2 : decode cX12_power 2 = .ok (.iconst 0, 1) := by decide +kernel
theorem dX12_power_3 : decode cX12_power 3 = .ok (.istore_n 3, 1) := by decide +kernel
theorem dX12_power_4 : decode cX12_power 4 = .ok (.iload_n 3, 1) := by decide +kernel
theorem dX12_power_5 : decode cX12_power 5 = .ok (.iload_n 1, 1) := by decide +kernel
theorem dX12_power_6 : decode cX12_power 6 = .ok (.if_icmp .ge 13, 3) := by decide +kernel
theorem dX12_power_9 : decode cX12_power 9 = .ok (.iload_n 2, 1) := by decide +kernel
theorem dX12_power_10 : decode cX12_power 10 = .ok (.iload_n 0, 1) := by decide +kernel
theorem dX12_power_11 : decode cX12_power 11 = .ok (.imul, 1) := by decide +kernel
theorem dX12_power_12 : decode cX12_power 12 = .ok (.istore_n 2, 1) := by decide +kernel
theorem dX12_power_13 : decode cX12_power 13 = .ok (.iinc 3 1, 3) := by decide +kernel
theorem dX12_power_16 : decode cX12_power 16 = .ok (.goto (-12), 3) := by decide +kernel
theorem dX12_power_19 : decode cX12_power 19 = .ok (.iload_n 2, 1) := by decide +kernel
theorem dX12_power_20 : decode cX12_power 20 = .ok (.ireturn, 1) := by decide +kernel
theorem dX12_comeBy_0 : decode cX12_comeBy 0 = .ok (.iload_n 1, 1) := by decide +kernel
theorem dX12_comeBy_1 : decode cX12_comeBy 1 = .ok (.istore_n 3, 1) := by decide +kernel
theorem dX12_comeBy_2 : decode cX12_comeBy 2 = .ok (.aload_n 0, 1) := by decide +kernel
theorem dX12_comeBy_3 : decode cX12_comeBy 3 = .ok (.getfield 23, 3) := by decide +kernel
theorem dX12_comeBy_6 : decode cX12_comeBy 6 = .ok (.iconst 1, 1) := by decide +kernel
theorem dX12_comeBy_7 : decode cX12_comeBy 7 = .ok (.iaload, 1) := by decide +kernel
theorem dX12_comeBy_8 : decode cX12_comeBy 8 = .ok (.iconst 1, 1) := by decide +kernel
theorem dX12_comeBy_9 : decode cX12_comeBy 9 = .ok (.isub, 1) := by decide +kernel
theorem dX12_comeBy_10 : decode cX12_comeBy 10 = .ok (.istore 4, 2) := by decide +kernel
theorem dX12_comeBy_12 : decode cX12_comeBy 12 = .ok (.iload 4, 2) := by decide +kernel
theorem dX12_comeBy_14 : decode cX12_comeBy 14 = .ok (.ifCond .lt 23, 3) := by decide +kernel
theorem dX12_comeBy_17 : decode cX12_comeBy 17 = .ok (.aload_n 0, 1) := by decide +kernel
theorem dX12_comeBy_18 : decode cX12_comeBy 18 = .ok (.getfield 71, 3) := by decide +kernel
theorem dX12_comeBy_21 : decode cX12_comeBy 21 = .ok (.iload 4, 2) := by decide +kernel
theorem dX12_comeBy_23 : decode cX12_comeBy 23 = .ok (.iload_n 3, 1) := by decide +kernel
theorem dX12_comeBy_24 : decode cX12_comeBy 24 = .ok (.iload_n 2, 1) := by decide +kernel
theorem dX12_comeBy_25 : decode cX12_comeBy 25 = .ok (.irem, 1) := by decide +kernel
theorem dX12_comeBy_26 : decode cX12_comeBy 26 = .ok (.iastore, 1) := by decide +kernel
theorem dX12_comeBy_27 : decode cX12_comeBy 27 = .ok (.iload_n 3, 1) := by decide +kernel
theorem dX12_comeBy_28 : decode cX12_comeBy 28 = .ok (.iload_n 2, 1) := by decide +kernel
theorem dX12_comeBy_29 : decode cX12_comeBy 29 = .ok (.idiv, 1) := by decide +kernel
theorem dX12_comeBy_30 : decode cX12_comeBy 30 = .ok (.istore_n 3, 1) := by decide +kernel
theorem dX12_comeBy_31 : decode cX12_comeBy 31 = .ok (.iinc 4 (-1), 3) := by decide +kernel
theorem dX12_comeBy_34 : decode cX12_comeBy 34 = .ok (.goto (-22), 3) := by decide +kernel
theorem dX12_comeBy_37 : decode cX12_comeBy 37 = .ok (.return_, 1) := by decide +kernel
theorem dX12_still_0 : decode cX12_still 0 = .ok (.aload_n 0, 1) := by decide +kernel
theorem dX12_still_1 : decode cX12_still 1 = .ok (.iconst 0, 1) := by decide +kernel
theorem dX12_still_2 : decode cX12_still 2 = .ok (.putfield 158, 3) := by decide +kernel
theorem dX12_still_5 : decode cX12_still 5 = .ok (.aload_n 0, 1) := by decide +kernel
theorem dX12_still_6 : decode cX12_still 6 = .ok (.iload_n 1, 1) := by decide +kernel
theorem dX12_still_7 : decode cX12_still 7 = .ok (.iconst 2, 1) := by decide +kernel
theorem dX12_still_8 : decode cX12_still 8 = .ok (.bipush 8, 2) := by decide +kernel
theorem dX12_still_10 : decode cX12_still 10 = .ok (.invokestatic 192, 3) := by decide +kernel
theorem dX12_still_13 : decode cX12_still 13 = .ok (.ifCond .eq 12, 3) := by decide +kernel
theorem dX12_still_16 : decode cX12_still 16 = .ok (.iload_n 2, 1) := by decide +kernel
theorem dX12_still_17 : decode cX12_still 17 = .ok (.iconst 0, 1) := by decide +kernel
theorem dX12_still_18 : decode cX12_still 18 = .ok (.iconst 1, 1) := by decide +kernel
theorem dX12_still_19 : decode cX12_still 19 = .ok (.invokestatic 192, 3) := by decide +kernel
theorem dX12_still_22 : decode cX12_still 22 = .ok (.ifCond .ne 7, 3) := by decide +kernel
theorem dX12_still_25 : decode cX12_still 25 = .ok (.iconst 1, 1) := by decide +kernel
theorem dX12_still_26 : decode cX12_still 26 = .ok (.goto 4, 3) := by decide +kernel
theorem dX12_still_29 : decode cX12_still 29 = .ok (.iconst 0, 1) := by decide +kernel
theorem dX12_still_30 : decode cX12_still 30 = .ok (.iconst 1, 1) := by decide +kernel
theorem dX12_still_31 : decode cX12_still 31 = .ok (.iconst 1, 1) := by decide +kernel
theorem dX12_still_32 : decode cX12_still 32 = .ok (.invokevirtual 228, 3) := by decide +kernel
theorem dX12_still_35 : decode cX12_still 35 = .ok (.ifCond .ne 27, 3) := by decide +kernel
theorem dX12_still_38 : decode cX12_still 38 = .ok (.aload_n 0, 1) := by decide +kernel
theorem dX12_still_39 : decode cX12_still 39 = .ok (.aload_n 0, 1) := by decide +kernel
theorem dX12_still_40 : decode cX12_still 40 = .ok (.getfield 23, 3) := by decide +kernel
theorem dX12_still_43 : decode cX12_still 43 = .ok (.iconst 1, 1) := by decide +kernel
theorem dX12_still_44 : decode cX12_still 44 = .ok (.iaload, 1) := by decide +kernel
theorem dX12_still_45 : decode cX12_still 45 = .ok (.iconst 4, 1) := by decide +kernel
theorem dX12_still_46 : decode cX12_still 46 = .ok (.if_icmp .le 7, 3) := by decide +kernel
theorem dX12_still_49 : decode cX12_still 49 = .ok (.iconst 1, 1) := by decide +kernel
theorem dX12_still_50 : decode cX12_still 50 = .ok (.goto 4, 3) := by decide +kernel
theorem dX12_still_53 : decode cX12_still 53 = .ok (.iconst 0, 1) := by decide +kernel
theorem dX12_still_54 : decode cX12_still 54 = .ok (.iconst 2, 1) := by decide +kernel
theorem dX12_still_55 : decode cX12_still 55 = .ok (.iconst 2, 1) := by decide +kernel
theorem dX12_still_56 : decode cX12_still 56 = .ok (.invokevirtual 228, 3) := by decide +kernel
theorem dX12_still_59 : decode cX12_still 59 = .ok (.ifCond .eq 5, 3) := by decide +kernel
theorem dX12_still_62 : decode cX12_still 62 = .ok (.iconst 0, 1) := by decide +kernel
theorem dX12_still_63 : decode cX12_still 63 = .ok (.ireturn, 1) := by decide +kernel
theorem dX12_still_64 : decode cX12_still 64 = .ok (.iload_n 1, 1) := by decide +kernel
theorem dX12_still_65 : decode cX12_still 65 = .ok (.aload_n 0, 1) := by decide +kernel
theorem dX12_still_66 : decode cX12_still 66 = .ok (.getfield 23, 3) := by decide +kernel
theorem dX12_still_69 : decode cX12_still 69 = .ok (.iconst 1, 1) := by decide +kernel
theorem dX12_still_70 : decode cX12_still 70 = .ok (.iaload, 1) := by decide +kernel
theorem dX12_still_71 : decode cX12_still 71 = .ok (.invokestatic 372, 3) := by decide +kernel
theorem dX12_still_74 : decode cX12_still 74 = .ok (.istore_n 3, 1) := by decide +kernel
theorem dX12_still_75 : decode cX12_still 75 = .ok (.iconst 0, 1) := by decide +kernel
theorem dX12_still_76 : decode cX12_still 76 = .ok (.istore 4, 2) := by decide +kernel
theorem dX12_still_78 : decode cX12_still 78 = .ok (.iconst (-1), 1) := by decide +kernel
theorem dX12_still_79 : decode cX12_still 79 = .ok (.istore 5, 2) := by decide +kernel
theorem dX12_still_81 : decode cX12_still 81 = .ok (.aload_n 0, 1) := by decide +kernel
theorem dX12_still_82 : decode cX12_still 82 = .ok (.invokevirtual 347, 3) := by decide +kernel
theorem dX12_still_85 : decode cX12_still 85 = .ok (.iconst 0, 1) := by decide +kernel
theorem dX12_still_86 : decode cX12_still 86 = .ok (.istore 6, 2) := by decide +kernel
theorem dX12_still_88 : decode cX12_still 88 = .ok (.iload 6, 2) := by decide +kernel
theorem dX12_still_90 : decode cX12_still 90 = .ok (.iload_n 3, 1) := by decide +kernel
theorem dX12_still_91 : decode cX12_still 91 = .ok (.if_icmp .ge 56, 3) := by decide +kernel
theorem dX12_still_94 : decode cX12_still 94 = .ok (.aload_n 0, 1) := by decide +kernel
theorem dX12_still_95 : decode cX12_still 95 = .ok (.iload 6, 2) := by decide +kernel
theorem dX12_still_97 : decode cX12_still 97 = .ok (.iload_n 1, 1) := by decide +kernel
theorem dX12_still_98 : decode cX12_still 98 = .ok (.invokevirtual 375, 3) := by decide +kernel
theorem dX12_still_101 : decode cX12_still 101 = .ok (.aload_n 0, 1) := by decide +kernel
theorem dX12_still_102 : decode cX12_still 102 = .ok (.invokevirtual 341, 3) := by decide +kernel
theorem dX12_still_105 : decode cX12_still 105 = .ok (.iconst 0, 1) := by decide +kernel
theorem dX12_still_106 : decode cX12_still 106 = .ok (.istore 7, 2) := by decide +kernel
theorem dX12_still_108 : decode cX12_still 108 = .ok (.iload 7, 2) := by decide +kernel
theorem dX12_still_110 : decode cX12_still 110 = .ok (.aload_n 0, 1) := by decide +kernel
theorem dX12_still_111 : decode cX12_still 111 = .ok (.getfield 23, 3) := by decide +kernel
theorem dX12_still_114 : decode cX12_still 114 = .ok (.iconst 1, 1) := by decide +kernel
theorem dX12_still_115 : decode cX12_still 115 = .ok (.iaload, 1) := by decide +kernel
theorem dX12_still_116 : decode cX12_still 116 = .ok (.if_icmp .ge 25, 3) := by decide +kernel
theorem dX12_still_119 : decode cX12_still 119 = .ok (.aload_n 0, 1) := by decide +kernel
theorem dX12_still_120 : decode cX12_still 120 = .ok (.getfield 137, 3) := by decide +kernel
theorem dX12_still_123 : decode cX12_still 123 = .ok (.iload 7, 2) := by decide +kernel
theorem dX12_still_125 : decode cX12_still 125 = .ok (.aaload, 1) := by decide +kernel
theorem dX12_still_126 : decode cX12_still 126 = .ok (.iload 6, 2) := by decide +kernel
theorem dX12_still_128 : decode cX12_still 128 = .ok (.aload_n 0, 1) := by decide +kernel
theorem dX12_still_129 : decode cX12_still 129 = .ok (.iload 7, 2) := by decide +kernel
theorem dX12_still_131 : decode cX12_still 131 = .ok (.invokevirtual 356, 3) := by decide +kernel
theorem dX12_still_134 : decode cX12_still 134 = .ok (.iastore, 1) := by decide +kernel
theorem dX12_still_135 : decode cX12_still 135 = .ok (.iinc 7 1, 3) := by decide +kernel
theorem dX12_still_138 : decode cX12_still 138 = .ok (.goto (-30), 3) := by decide +kernel
theorem dX12_still_141 : decode cX12_still 141 = .ok (.iinc 6 1, 3) := by decide +kernel
theorem dX12_still_144 : decode cX12_still 144 = .ok (.goto (-56), 3) := by decide +kernel
theorem dX12_still_147 : decode cX12_still 147 = .ok (.iload_n 3, 1) := by decide +kernel
theorem dX12_still_148 : decode cX12_still 148 = .ok (.iconst 1, 1) := by decide +kernel
theorem dX12_still_149 : decode cX12_still 149 = .ok (.isub, 1) := by decide +kernel
theorem dX12_still_150 : decode cX12_still 150 = .ok (.istore 6, 2) := by decide +kernel
theorem dX12_still_152 : decode cX12_still 152 = .ok (.iload 6, 2) := by decide +kernel
theorem dX12_still_154 : decode cX12_still 154 = .ok (.ifCond .lt 145, 3) := by decide +kernel
theorem dX12_still_157 : decode cX12_still 157 = .ok (.iconst 1, 1) := by decide +kernel
theorem dX12_still_158 : decode cX12_still 158 = .ok (.istore 7, 2) := by decide +kernel
theorem dX12_still_160 : decode cX12_still 160 = .ok (.iconst 0, 1) := by decide +kernel
theorem dX12_still_161 : decode cX12_still 161 = .ok (.istore 8, 2) := by decide +kernel
theorem dX12_still_163 : decode cX12_still 163 = .ok (.iconst 0, 1) := by decide +kernel
theorem dX12_still_164 : decode cX12_still 164 = .ok (.istore 9, 2) := by decide +kernel
theorem dX12_still_166 : decode cX12_still 166 = .ok (.iload 9, 2) := by decide +kernel
theorem dX12_still_168 : decode cX12_still 168 = .ok (.aload_n 0, 1) := by decide +kernel
theorem dX12_still_169 : decode cX12_still 169 = .ok (.getfield 23, 3) := by decide +kernel
theorem dX12_still_172 : decode cX12_still 172 = .ok (.iconst 1, 1) := by decide +kernel
theorem dX12_still_173 : decode cX12_still 173 = .ok (.iaload, 1) := by decide +kernel
theorem dX12_still_174 : decode cX12_still 174 = .ok (.if_icmp .ge 104, 3) := by decide +kernel
theorem dX12_still_177 : decode cX12_still 177 = .ok (.iload_n 1, 1) := by decide +kernel
theorem dX12_still_178 : decode cX12_still 178 = .ok (.aload_n 0, 1) := by decide +kernel
theorem dX12_still_179 : decode cX12_still 179 = .ok (.getfield 23, 3) := by decide +kernel
theorem dX12_still_182 : decode cX12_still 182 = .ok (.iconst 1, 1) := by decide +kernel
theorem dX12_still_183 : decode cX12_still 183 = .ok (.iaload, 1) := by decide +kernel
theorem dX12_still_184 : decode cX12_still 184 = .ok (.iconst 1, 1) := by decide +kernel
theorem dX12_still_185 : decode cX12_still 185 = .ok (.isub, 1) := by decide +kernel
theorem dX12_still_186 : decode cX12_still 186 = .ok (.iload 9, 2) := by decide +kernel
theorem dX12_still_188 : decode cX12_still 188 = .ok (.isub, 1) := by decide +kernel
theorem dX12_still_189 : decode cX12_still 189 = .ok (.invokestatic 372, 3) := by decide +kernel
theorem dX12_still_192 : decode cX12_still 192 = .ok (.istore 10, 2) := by decide +kernel
theorem dX12_still_194 : decode cX12_still 194 = .ok (.iload 6, 2) := by decide +kernel
theorem dX12_still_196 : decode cX12_still 196 = .ok (.iload 10, 2) := by decide +kernel
theorem dX12_still_198 : decode cX12_still 198 = .ok (.idiv, 1) := by decide +kernel
theorem dX12_still_199 : decode cX12_still 199 = .ok (.iload_n 1, 1) := by decide +kernel
theorem dX12_still_200 : decode cX12_still 200 = .ok (.irem, 1) := by decide +kernel
theorem dX12_still_201 : decode cX12_still 201 = .ok (.istore 11, 2) := by decide +kernel
theorem dX12_still_203 : decode cX12_still 203 = .ok (.bipush 10, 2) := by decide +kernel
theorem dX12_still_205 : decode cX12_still 205 = .ok (.iload 8, 2) := by decide +kernel
theorem dX12_still_207 : decode cX12_still 207 = .ok (.imul, 1) := by decide +kernel
theorem dX12_still_208 : decode cX12_still 208 = .ok (.iload 11, 2) := by decide +kernel
theorem dX12_still_210 : decode cX12_still 210 = .ok (.iadd, 1) := by decide +kernel
theorem dX12_still_211 : decode cX12_still 211 = .ok (.istore 8, 2) := by decide +kernel
theorem dX12_still_213 : decode cX12_still 213 = .ok (.iconst 0, 1) := by decide +kernel
theorem dX12_still_214 : decode cX12_still 214 = .ok (.istore 12, 2) := by decide +kernel
theorem dX12_still_216 : decode cX12_still 216 = .ok (.iload 12, 2) := by decide +kernel
theorem dX12_still_218 : decode cX12_still 218 = .ok (.iload_n 1, 1) := by decide +kernel
theorem dX12_still_219 : decode cX12_still 219 = .ok (.if_icmp .ge 53, 3) := by decide +kernel
theorem dX12_still_222 : decode cX12_still 222 = .ok (.iload 7, 2) := by decide +kernel
theorem dX12_still_224 : decode cX12_still 224 = .ok (.ifCond .eq 39, 3) := by decide +kernel
theorem dX12_still_227 : decode cX12_still 227 = .ok (.aload_n 0, 1) := by decide +kernel
theorem dX12_still_228 : decode cX12_still 228 = .ok (.getfield 137, 3) := by decide +kernel
theorem dX12_still_231 : decode cX12_still 231 = .ok (.iload 9, 2) := by decide +kernel
theorem dX12_still_233 : decode cX12_still 233 = .ok (.aaload, 1) := by decide +kernel
theorem dX12_still_234 : decode cX12_still 234 = .ok (.iload 6, 2) := by decide +kernel
theorem dX12_still_236 : decode cX12_still 236 = .ok (.iload 12, 2) := by decide +kernel
theorem dX12_still_238 : decode cX12_still 238 = .ok (.iload 11, 2) := by decide +kernel
theorem dX12_still_240 : decode cX12_still 240 = .ok (.isub, 1) := by decide +kernel
theorem dX12_still_241 : decode cX12_still 241 = .ok (.iload 10, 2) := by decide +kernel
theorem dX12_still_243 : decode cX12_still 243 = .ok (.imul, 1) := by decide +kernel
theorem dX12_still_244 : decode cX12_still 244 = .ok (.iadd, 1) := by decide +kernel
theorem dX12_still_245 : decode cX12_still 245 = .ok (.iaload, 1) := by decide +kernel
theorem dX12_still_246 : decode cX12_still 246 = .ok (.aload_n 0, 1) := by decide +kernel
theorem dX12_still_247 : decode cX12_still 247 = .ok (.getfield 137, 3) := by decide +kernel
theorem dX12_still_250 : decode cX12_still 250 = .ok (.iload 9, 2) := by decide +kernel
theorem dX12_still_252 : decode cX12_still 252 = .ok (.aaload, 1) := by decide +kernel
theorem dX12_still_253 : decode cX12_still 253 = .ok (.iload 6, 2) := by decide +kernel
theorem dX12_still_255 : decode cX12_still 255 = .ok (.iaload, 1) := by decide +kernel
theorem dX12_still_256 : decode cX12_still 256 = .ok (.if_icmp .gt 7, 3) := by decide +kernel
theorem dX12_still_259 : decode cX12_still 259 = .ok (.iconst 1, 1) := by decide +kernel
theorem dX12_still_260 : decode cX12_still 260 = .ok (.goto 4, 3) := by decide +kernel
theorem dX12_still_263 : decode cX12_still 263 = .ok (.iconst 0, 1) := by decide +kernel
theorem dX12_still_264 : decode cX12_still 264 = .ok (.istore 7, 2) := by decide +kernel
theorem dX12_still_266 : decode cX12_still 266 = .ok (.iinc 12 1, 3) := by decide +kernel
theorem dX12_still_269 : decode cX12_still 269 = .ok (.goto (-53), 3) := by decide +kernel
theorem dX12_still_272 : decode cX12_still 272 = .ok (.iinc 9 1, 3) := by decide +kernel
theorem dX12_still_275 : decode cX12_still 275 = .ok (.goto (-109), 3) := by decide +kernel
theorem dX12_still_278 : decode cX12_still 278 = .ok (.iload 7, 2) := by decide +kernel
theorem dX12_still_280 : decode cX12_still 280 = .ok (.ifCond .ne 6, 3) := by decide +kernel
theorem dX12_still_283 : decode cX12_still 283 = .ok (.goto 10, 3) := by decide +kernel
theorem dX12_still_286 : decode cX12_still 286 = .ok (.iinc 4 1, 3) := by decide +kernel
theorem dX12_still_289 : decode cX12_still 289 = .ok (.iload 8, 2) := by decide +kernel
theorem dX12_still_291 : decode cX12_still 291 = .ok (.istore 5, 2) := by decide +kernel
theorem dX12_still_293 : decode cX12_still 293 = .ok (.iinc 6 (-1), 3) := by decide +kernel
theorem dX12_still_296 : decode cX12_still 296 = .ok (.goto (-144), 3) := by decide +kernel
theorem dX12_still_299 : decode cX12_still 299 = .ok (.iload_n 2, 1) := by decide +kernel
theorem dX12_still_300 : decode cX12_still 300 = .ok (.ifCond .ne 8, 3) := by decide +kernel
theorem dX12_still_303 : decode cX12_still 303 = .ok (.iload 4, 2) := by decide +kernel
theorem dX12_still_305 : decode cX12_still 305 = .ok (.goto 5, 3) := by decide +kernel
theorem dX12_still_308 : decode cX12_still 308 = .ok (.iload 5, 2) := by decide +kernel
theorem dX12_still_310 : decode cX12_still 310 = .ok (.ireturn, 1) := by decide +kernel
theorem dX12_net_0 : decode cX12_net 0 = .ok (.aload_n 0, 1) := by decide +kernel
theorem dX12_net_1 : decode cX12_net 1 = .ok (.iconst 0, 1) := by decide +kernel
theorem dX12_net_2 : decode cX12_net 2 = .ok (.putfield 158, 3) := by decide +kernel
theorem dX12_net_5 : decode cX12_net 5 = .ok (.aload_n 0, 1) := by decide +kernel
theorem dX12_net_6 : decode cX12_net 6 = .ok (.aload_n 0, 1) := by decide +kernel
theorem dX12_net_7 : decode cX12_net 7 = .ok (.iload_n 1, 1) := by decide +kernel
theorem dX12_net_8 : decode cX12_net 8 = .ok (.invokevirtual 285, 3) := by decide +kernel
theorem dX12_net_11 : decode cX12_net 11 = .ok (.ifCond .ne 7, 3) := by decide +kernel
theorem dX12_net_14 : decode cX12_net 14 = .ok (.iconst 1, 1) := by decide +kernel
theorem dX12_net_15 : decode cX12_net 15 = .ok (.goto 4, 3) := by decide +kernel
theorem dX12_net_18 : decode cX12_net 18 = .ok (.iconst 0, 1) := by decide +kernel
theorem dX12_net_19 : decode cX12_net 19 = .ok (.iconst 1, 1) := by decide +kernel
theorem dX12_net_20 : decode cX12_net 20 = .ok (.iconst 0, 1) := by decide +kernel
theorem dX12_net_21 : decode cX12_net 21 = .ok (.invokevirtual 228, 3) := by decide +kernel
theorem dX12_net_24 : decode cX12_net 24 = .ok (.ifCond .ne 38, 3) := by decide +kernel
theorem dX12_net_27 : decode cX12_net 27 = .ok (.aload_n 0, 1) := by decide +kernel
theorem dX12_net_28 : decode cX12_net 28 = .ok (.iload_n 2, 1) := by decide +kernel
theorem dX12_net_29 : decode cX12_net 29 = .ok (.iconst 0, 1) := by decide +kernel
theorem dX12_net_30 : decode cX12_net 30 = .ok (.bipush 10, 2) := by decide +kernel
theorem dX12_net_32 : decode cX12_net 32 = .ok (.aload_n 0, 1) := by decide +kernel
theorem dX12_net_33 : decode cX12_net 33 = .ok (.getfield 23, 3) := by decide +kernel
theorem dX12_net_36 : decode cX12_net 36 = .ok (.iconst 1, 1) := by decide +kernel
theorem dX12_net_37 : decode cX12_net 37 = .ok (.iaload, 1) := by decide +kernel
theorem dX12_net_38 : decode cX12_net 38 = .ok (.invokestatic 372, 3) := by decide +kernel
theorem dX12_net_41 : decode cX12_net 41 = .ok (.iconst 1, 1) := by decide +kernel
theorem dX12_net_42 : decode cX12_net 42 = .ok (.isub, 1) := by decide +kernel
theorem dX12_net_43 : decode cX12_net 43 = .ok (.invokestatic 192, 3) := by decide +kernel
theorem dX12_net_46 : decode cX12_net 46 = .ok (.ifCond .ne 7, 3) := by decide +kernel
theorem dX12_net_49 : decode cX12_net 49 = .ok (.iconst 1, 1) := by decide +kernel
theorem dX12_net_50 : decode cX12_net 50 = .ok (.goto 4, 3) := by decide +kernel
theorem dX12_net_53 : decode cX12_net 53 = .ok (.iconst 0, 1) := by decide +kernel
theorem dX12_net_54 : decode cX12_net 54 = .ok (.iconst 2, 1) := by decide +kernel
theorem dX12_net_55 : decode cX12_net 55 = .ok (.iconst 1, 1) := by decide +kernel
theorem dX12_net_56 : decode cX12_net 56 = .ok (.invokevirtual 228, 3) := by decide +kernel
theorem dX12_net_59 : decode cX12_net 59 = .ok (.ifCond .eq 5, 3) := by decide +kernel
theorem dX12_net_62 : decode cX12_net 62 = .ok (.iconst 0, 1) := by decide +kernel
theorem dX12_net_63 : decode cX12_net 63 = .ok (.ireturn, 1) := by decide +kernel
theorem dX12_net_64 : decode cX12_net 64 = .ok (.aload_n 0, 1) := by decide +kernel
theorem dX12_net_65 : decode cX12_net 65 = .ok (.invokevirtual 347, 3) := by decide +kernel
theorem dX12_net_68 : decode cX12_net 68 = .ok (.aload_n 0, 1) := by decide +kernel
theorem dX12_net_69 : decode cX12_net 69 = .ok (.iload_n 2, 1) := by decide +kernel
theorem dX12_net_70 : decode cX12_net 70 = .ok (.bipush 10, 2) := by decide +kernel
theorem dX12_net_72 : decode cX12_net 72 = .ok (.invokevirtual 375, 3) := by decide +kernel
theorem dX12_net_75 : decode cX12_net 75 = .ok (.aload_n 0, 1) := by decide +kernel
theorem dX12_net_76 : decode cX12_net 76 = .ok (.invokevirtual 341, 3) := by decide +kernel
theorem dX12_net_79 : decode cX12_net 79 = .ok (.aload_n 0, 1) := by decide +kernel
theorem dX12_net_80 : decode cX12_net 80 = .ok (.iload_n 1, 1) := by decide +kernel
theorem dX12_net_81 : decode cX12_net 81 = .ok (.invokevirtual 356, 3) := by decide +kernel
theorem dX12_net_84 : decode cX12_net 84 = .ok (.ireturn, 1) := by decide +kernel
theorem dX12_laysGiven_0 : decode cX12_laysGiven 0 = .ok (.aload_n 0, 1) := by decide +kernel
theorem dX12_laysGiven_1 : decode cX12_laysGiven 1 = .ok (.getfield 23, 3) := by decide +kernel
theorem dX12_laysGiven_4 : decode cX12_laysGiven 4 = .ok (.iconst 1, 1) := by decide +kernel
theorem dX12_laysGiven_5 : decode cX12_laysGiven 5 = .ok (.iaload, 1) := by decide +kernel
theorem dX12_laysGiven_6 : decode cX12_laysGiven 6 = .ok (.istore_n 2, 1) := by decide +kernel
theorem dX12_laysGiven_7 : decode cX12_laysGiven 7 = .ok (.iload_n 2, 1) := by decide +kernel
theorem dX12_laysGiven_8 : decode cX12_laysGiven 8 = .ok (.ifCond .lt 132, 3) := by decide +kernel
theorem dX12_laysGiven_11 : decode cX12_laysGiven 11 = .ok (.iconst 0, 1) := by decide +kernel
theorem dX12_laysGiven_12 : decode cX12_laysGiven 12 = .ok (.istore_n 3, 1) := by decide +kernel
theorem dX12_laysGiven_13 : decode cX12_laysGiven 13 = .ok (.iload_n 3, 1) := by decide +kernel
theorem dX12_laysGiven_14 : decode cX12_laysGiven 14 = .ok (.iconst 1, 1) := by decide +kernel
theorem dX12_laysGiven_15 : decode cX12_laysGiven 15 = .ok (.iload_n 1, 1) := by decide +kernel
theorem dX12_laysGiven_16 : decode cX12_laysGiven 16 = .ok (.ishl, 1) := by decide +kernel
theorem dX12_laysGiven_17 : decode cX12_laysGiven 17 = .ok (.if_icmp .ge 117, 3) := by decide +kernel
theorem dX12_laysGiven_20 : decode cX12_laysGiven 20 = .ok (.iload_n 2, 1) := by decide +kernel
theorem dX12_laysGiven_21 : decode cX12_laysGiven 21 = .ok (.aload_n 0, 1) := by decide +kernel
theorem dX12_laysGiven_22 : decode cX12_laysGiven 22 = .ok (.getfield 23, 3) := by decide +kernel
theorem dX12_laysGiven_25 : decode cX12_laysGiven 25 = .ok (.iconst 1, 1) := by decide +kernel
theorem dX12_laysGiven_26 : decode cX12_laysGiven 26 = .ok (.iaload, 1) := by decide +kernel
theorem dX12_laysGiven_27 : decode cX12_laysGiven 27 = .ok (.if_icmp .ne 7, 3) := by decide +kernel
theorem dX12_laysGiven_30 : decode cX12_laysGiven 30 = .ok (.iconst 0, 1) := by decide +kernel
theorem dX12_laysGiven_31 : decode cX12_laysGiven 31 = .ok (.goto 13, 3) := by decide +kernel
theorem dX12_laysGiven_34 : decode cX12_laysGiven 34 = .ok (.aload_n 0, 1) := by decide +kernel
theorem dX12_laysGiven_35 : decode cX12_laysGiven 35 = .ok (.getfield 140, 3) := by decide +kernel
theorem dX12_laysGiven_38 : decode cX12_laysGiven 38 = .ok (.iload_n 2, 1) := by decide +kernel
theorem dX12_laysGiven_39 : decode cX12_laysGiven 39 = .ok (.iconst 1, 1) := by decide +kernel
theorem dX12_laysGiven_40 : decode cX12_laysGiven 40 = .ok (.iadd, 1) := by decide +kernel
theorem dX12_laysGiven_41 : decode cX12_laysGiven 41 = .ok (.aaload, 1) := by decide +kernel
theorem dX12_laysGiven_42 : decode cX12_laysGiven 42 = .ok (.iload_n 3, 1) := by decide +kernel
theorem dX12_laysGiven_43 : decode cX12_laysGiven 43 = .ok (.iaload, 1) := by decide +kernel
theorem dX12_laysGiven_44 : decode cX12_laysGiven 44 = .ok (.istore 4, 2) := by decide +kernel
theorem dX12_laysGiven_46 : decode cX12_laysGiven 46 = .ok (.iconst 0, 1) := by decide +kernel
theorem dX12_laysGiven_47 : decode cX12_laysGiven 47 = .ok (.istore 5, 2) := by decide +kernel
theorem dX12_laysGiven_49 : decode cX12_laysGiven 49 = .ok (.iload 5, 2) := by decide +kernel
theorem dX12_laysGiven_51 : decode cX12_laysGiven 51 = .ok (.iload_n 1, 1) := by decide +kernel
theorem dX12_laysGiven_52 : decode cX12_laysGiven 52 = .ok (.if_icmp .ge 66, 3) := by decide +kernel
theorem dX12_laysGiven_55 : decode cX12_laysGiven 55 = .ok (.iload_n 2, 1) := by decide +kernel
theorem dX12_laysGiven_56 : decode cX12_laysGiven 56 = .ok (.aload_n 0, 1) := by decide +kernel
theorem dX12_laysGiven_57 : decode cX12_laysGiven 57 = .ok (.getfield 23, 3) := by decide +kernel
theorem dX12_laysGiven_60 : decode cX12_laysGiven 60 = .ok (.iconst 1, 1) := by decide +kernel
theorem dX12_laysGiven_61 : decode cX12_laysGiven 61 = .ok (.iaload, 1) := by decide +kernel
theorem dX12_laysGiven_62 : decode cX12_laysGiven 62 = .ok (.if_icmp .ge 56, 3) := by decide +kernel
theorem dX12_laysGiven_65 : decode cX12_laysGiven 65 = .ok (.iload_n 3, 1) := by decide +kernel
theorem dX12_laysGiven_66 : decode cX12_laysGiven 66 = .ok (.iload 5, 2) := by decide +kernel
theorem dX12_laysGiven_68 : decode cX12_laysGiven 68 = .ok (.ishr, 1) := by decide +kernel
theorem dX12_laysGiven_69 : decode cX12_laysGiven 69 = .ok (.iconst 1, 1) := by decide +kernel
theorem dX12_laysGiven_70 : decode cX12_laysGiven 70 = .ok (.iand, 1) := by decide +kernel
theorem dX12_laysGiven_71 : decode cX12_laysGiven 71 = .ok (.ifCond .ne 41, 3) := by decide +kernel
theorem dX12_laysGiven_74 : decode cX12_laysGiven 74 = .ok (.iload 4, 2) := by decide +kernel
theorem dX12_laysGiven_76 : decode cX12_laysGiven 76 = .ok (.aload_n 0, 1) := by decide +kernel
theorem dX12_laysGiven_77 : decode cX12_laysGiven 77 = .ok (.iload_n 2, 1) := by decide +kernel
theorem dX12_laysGiven_78 : decode cX12_laysGiven 78 = .ok (.iload 5, 2) := by decide +kernel
theorem dX12_laysGiven_80 : decode cX12_laysGiven 80 = .ok (.aload_n 0, 1) := by decide +kernel
theorem dX12_laysGiven_81 : decode cX12_laysGiven 81 = .ok (.getfield 37, 3) := by decide +kernel
theorem dX12_laysGiven_84 : decode cX12_laysGiven 84 = .ok (.iload_n 2, 1) := by decide +kernel
theorem dX12_laysGiven_85 : decode cX12_laysGiven 85 = .ok (.aaload, 1) := by decide +kernel
theorem dX12_laysGiven_86 : decode cX12_laysGiven 86 = .ok (.iconst 1, 1) := by decide +kernel
theorem dX12_laysGiven_87 : decode cX12_laysGiven 87 = .ok (.iaload, 1) := by decide +kernel
theorem dX12_laysGiven_88 : decode cX12_laysGiven 88 = .ok (.invokevirtual 310, 3) := by decide +kernel
theorem dX12_laysGiven_91 : decode cX12_laysGiven 91 = .ok (.aload_n 0, 1) := by decide +kernel
theorem dX12_laysGiven_92 : decode cX12_laysGiven 92 = .ok (.getfield 140, 3) := by decide +kernel
theorem dX12_laysGiven_95 : decode cX12_laysGiven 95 = .ok (.iload_n 2, 1) := by decide +kernel
theorem dX12_laysGiven_96 : decode cX12_laysGiven 96 = .ok (.iconst 1, 1) := by decide +kernel
theorem dX12_laysGiven_97 : decode cX12_laysGiven 97 = .ok (.iadd, 1) := by decide +kernel
theorem dX12_laysGiven_98 : decode cX12_laysGiven 98 = .ok (.aaload, 1) := by decide +kernel
theorem dX12_laysGiven_99 : decode cX12_laysGiven 99 = .ok (.iload_n 3, 1) := by decide +kernel
theorem dX12_laysGiven_100 : decode cX12_laysGiven 100 = .ok (.iconst 1, 1) := by decide +kernel
theorem dX12_laysGiven_101 : decode cX12_laysGiven 101 = .ok (.iload 5, 2) := by decide +kernel
theorem dX12_laysGiven_103 : decode cX12_laysGiven 103 = .ok (.ishl, 1) := by decide +kernel
theorem dX12_laysGiven_104 : decode cX12_laysGiven 104 = .ok (.ior, 1) := by decide +kernel
theorem dX12_laysGiven_105 : decode cX12_laysGiven 105 = .ok (.iaload, 1) := by decide +kernel
theorem dX12_laysGiven_106 : decode cX12_laysGiven 106 = .ok (.iadd, 1) := by decide +kernel
theorem dX12_laysGiven_107 : decode cX12_laysGiven 107 = .ok (.invokestatic 291, 3) := by decide +kernel
theorem dX12_laysGiven_110 : decode cX12_laysGiven 110 = .ok (.istore 4, 2) := by decide +kernel
theorem dX12_laysGiven_112 : decode cX12_laysGiven 112 = .ok (.iinc 5 1, 3) := by decide +kernel
theorem dX12_laysGiven_115 : decode cX12_laysGiven 115 = .ok (.goto (-66), 3) := by decide +kernel
theorem dX12_laysGiven_118 : decode cX12_laysGiven 118 = .ok (.aload_n 0, 1) := by decide +kernel
theorem dX12_laysGiven_119 : decode cX12_laysGiven 119 = .ok (.getfield 140, 3) := by decide +kernel
theorem dX12_laysGiven_122 : decode cX12_laysGiven 122 = .ok (.iload_n 2, 1) := by decide +kernel
theorem dX12_laysGiven_123 : decode cX12_laysGiven 123 = .ok (.aaload, 1) := by decide +kernel
theorem dX12_laysGiven_124 : decode cX12_laysGiven 124 = .ok (.iload_n 3, 1) := by decide +kernel
theorem dX12_laysGiven_125 : decode cX12_laysGiven 125 = .ok (.iload 4, 2) := by decide +kernel
theorem dX12_laysGiven_127 : decode cX12_laysGiven 127 = .ok (.iastore, 1) := by decide +kernel
theorem dX12_laysGiven_128 : decode cX12_laysGiven 128 = .ok (.iinc 3 1, 3) := by decide +kernel
theorem dX12_laysGiven_131 : decode cX12_laysGiven 131 = .ok (.goto (-118), 3) := by decide +kernel
theorem dX12_laysGiven_134 : decode cX12_laysGiven 134 = .ok (.iinc 2 (-1), 3) := by decide +kernel
theorem dX12_laysGiven_137 : decode cX12_laysGiven 137 = .ok (.goto (-130), 3) := by decide +kernel
theorem dX12_laysGiven_140 : decode cX12_laysGiven 140 = .ok (.aload_n 0, 1) := by decide +kernel
theorem dX12_laysGiven_141 : decode cX12_laysGiven 141 = .ok (.getfield 140, 3) := by decide +kernel
theorem dX12_laysGiven_144 : decode cX12_laysGiven 144 = .ok (.iconst 0, 1) := by decide +kernel
theorem dX12_laysGiven_145 : decode cX12_laysGiven 145 = .ok (.aaload, 1) := by decide +kernel
theorem dX12_laysGiven_146 : decode cX12_laysGiven 146 = .ok (.iconst 0, 1) := by decide +kernel
theorem dX12_laysGiven_147 : decode cX12_laysGiven 147 = .ok (.iaload, 1) := by decide +kernel
theorem dX12_laysGiven_148 : decode cX12_laysGiven 148 = .ok (.ireturn, 1) := by decide +kernel

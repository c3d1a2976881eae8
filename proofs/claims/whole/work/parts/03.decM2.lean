theorem dM_turn_104 : decode cM_turn 104 = .ok (.invokevirtual 86, 3) := by decide +kernel
theorem dM_turn_107 : decode cM_turn 107 = .ok (.istore 4, 2) := by decide +kernel
theorem dM_turn_109 : decode cM_turn 109 = .ok (.iload 4, 2) := by decide +kernel
theorem dM_turn_111 : decode cM_turn 111 = .ok (.ifCond .ge 5, 3) := by decide +kernel
theorem dM_turn_114 : decode cM_turn 114 = .ok (.iconst 0, 1) := by decide +kernel
theorem dM_turn_115 : decode cM_turn 115 = .ok (.ireturn, 1) := by decide +kernel
theorem dM_turn_116 : decode cM_turn 116 = .ok (.aload_n 0, 1) := by decide +kernel
theorem dM_turn_117 : decode cM_turn 117 = .ok (.getfield 7, 3) := by decide +kernel
theorem dM_turn_120 : decode cM_turn 120 = .ok (.iload_n 1, 1) := by decide +kernel
theorem dM_turn_121 : decode cM_turn 121 = .ok (.iload 4, 2) := by decide +kernel
theorem dM_turn_123 : decode cM_turn 123 = .ok (.iastore, 1) := by decide +kernel
theorem dM_turn_124 : decode cM_turn 124 = .ok (.aload_n 0, 1) := by decide +kernel
theorem dM_turn_125 : decode cM_turn 125 = .ok (.getfield 13, 3) := by decide +kernel
theorem dM_turn_128 : decode cM_turn 128 = .ok (.iload_n 1, 1) := by decide +kernel
theorem dM_turn_129 : decode cM_turn 129 = .ok (.dup2, 1) := by decide +kernel
theorem dM_turn_130 : decode cM_turn 130 = .ok (.iaload, 1) := by decide +kernel
theorem dM_turn_131 : decode cM_turn 131 = .ok (.iconst 1, 1) := by decide +kernel
theorem dM_turn_132 : decode cM_turn 132 = .ok (.iadd, 1) := by decide +kernel
theorem dM_turn_133 : decode cM_turn 133 = .ok (.iastore, 1) := by decide +kernel
theorem dM_turn_134 : decode cM_turn 134 = .ok (.iconst 1, 1) := by decide +kernel
theorem dM_turn_135 : decode cM_turn 135 = .ok (.ireturn, 1) := by decide +kernel
theorem dM_read_0 : decode cM_read 0 = .ok (.aload_n 0, 1) := by decide +kernel
theorem dM_read_1 : decode cM_read 1 = .ok (.aload_n 0, 1) := by decide +kernel
theorem dM_read_2 : decode cM_read 2 = .ok (.iload_n 1, 1) := by decide +kernel
theorem dM_read_3 : decode cM_read 3 = .ok (.invokevirtual 82, 3) := by decide +kernel
theorem dM_read_6 : decode cM_read 6 = .ok (.ifCond .eq 7, 3) := by decide +kernel
theorem dM_read_9 : decode cM_read 9 = .ok (.iconst 0, 1) := by decide +kernel
theorem dM_read_10 : decode cM_read 10 = .ok (.goto 4, 3) := by decide +kernel
theorem dM_read_13 : decode cM_read 13 = .ok (.iconst 1, 1) := by decide +kernel
theorem dM_read_14 : decode cM_read 14 = .ok (.putfield 62, 3) := by decide +kernel
theorem dM_read_17 : decode cM_read 17 = .ok (.aload_n 0, 1) := by decide +kernel
theorem dM_read_18 : decode cM_read 18 = .ok (.getfield 62, 3) := by decide +kernel
theorem dM_read_21 : decode cM_read 21 = .ok (.ifCond .le 5, 3) := by decide +kernel
theorem dM_read_24 : decode cM_read 24 = .ok (.iconst 0, 1) := by decide +kernel
theorem dM_read_25 : decode cM_read 25 = .ok (.ireturn, 1) := by decide +kernel
theorem dM_read_26 : decode cM_read 26 = .ok (.iload_n 1, 1) := by decide +kernel
theorem dM_read_27 : decode cM_read 27 = .ok (.istore_n 3, 1) := by decide +kernel
theorem dM_read_28 : decode cM_read 28 = .ok (.iload_n 3, 1) := by decide +kernel
theorem dM_read_29 : decode cM_read 29 = .ok (.ifCond .lt 43, 3) := by decide +kernel
theorem dM_read_32 : decode cM_read 32 = .ok (.aload_n 0, 1) := by decide +kernel
theorem dM_read_33 : decode cM_read 33 = .ok (.aload_n 0, 1) := by decide +kernel
theorem dM_read_34 : decode cM_read 34 = .ok (.getfield 7, 3) := by decide +kernel
theorem dM_read_37 : decode cM_read 37 = .ok (.iload_n 3, 1) := by decide +kernel
theorem dM_read_38 : decode cM_read 38 = .ok (.iaload, 1) := by decide +kernel
theorem dM_read_39 : decode cM_read 39 = .ok (.iload_n 2, 1) := by decide +kernel
theorem dM_read_40 : decode cM_read 40 = .ok (.invokevirtual 92, 3) := by decide +kernel
theorem dM_read_43 : decode cM_read 43 = .ok (.istore 4, 2) := by decide +kernel
theorem dM_read_45 : decode cM_read 45 = .ok (.iload 4, 2) := by decide +kernel
theorem dM_read_47 : decode cM_read 47 = .ok (.ifCond .lt 16, 3) := by decide +kernel
theorem dM_read_50 : decode cM_read 50 = .ok (.aload_n 0, 1) := by decide +kernel
theorem dM_read_51 : decode cM_read 51 = .ok (.getfield 16, 3) := by decide +kernel
theorem dM_read_54 : decode cM_read 54 = .ok (.bipush 12, 2) := by decide +kernel
theorem dM_read_56 : decode cM_read 56 = .ok (.iload_n 3, 1) := by decide +kernel
theorem dM_read_57 : decode cM_read 57 = .ok (.imul, 1) := by decide +kernel
theorem dM_read_58 : decode cM_read 58 = .ok (.iload 4, 2) := by decide +kernel
theorem dM_read_60 : decode cM_read 60 = .ok (.iadd, 1) := by decide +kernel
theorem dM_read_61 : decode cM_read 61 = .ok (.iaload, 1) := by decide +kernel
theorem dM_read_62 : decode cM_read 62 = .ok (.ireturn, 1) := by decide +kernel
theorem dM_read_63 : decode cM_read 63 = .ok (.aload_n 0, 1) := by decide +kernel
theorem dM_read_64 : decode cM_read 64 = .ok (.iload_n 3, 1) := by decide +kernel
theorem dM_read_65 : decode cM_read 65 = .ok (.invokevirtual 95, 3) := by decide +kernel
theorem dM_read_68 : decode cM_read 68 = .ok (.istore_n 3, 1) := by decide +kernel
theorem dM_read_69 : decode cM_read 69 = .ok (.goto (-41), 3) := by decide +kernel
theorem dM_read_72 : decode cM_read 72 = .ok (.aload_n 0, 1) := by decide +kernel
theorem dM_read_73 : decode cM_read 73 = .ok (.iconst 2, 1) := by decide +kernel
theorem dM_read_74 : decode cM_read 74 = .ok (.putfield 62, 3) := by decide +kernel
theorem dM_read_77 : decode cM_read 77 = .ok (.iconst 0, 1) := by decide +kernel
theorem dM_read_78 : decode cM_read 78 = .ok (.ireturn, 1) := by decide +kernel
theorem dM_find_0 : decode cM_find 0 = .ok (.aload_n 0, 1) := by decide +kernel
theorem dM_find_1 : decode cM_find 1 = .ok (.iconst 0, 1) := by decide +kernel
theorem dM_find_2 : decode cM_find 2 = .ok (.putfield 62, 3) := by decide +kernel
theorem dM_find_5 : decode cM_find 5 = .ok (.aload_n 0, 1) := by decide +kernel
theorem dM_find_6 : decode cM_find 6 = .ok (.iload_n 1, 1) := by decide +kernel
theorem dM_find_7 : decode cM_find 7 = .ok (.invokevirtual 82, 3) := by decide +kernel
theorem dM_find_10 : decode cM_find 10 = .ok (.ifCond .eq 10, 3) := by decide +kernel
theorem dM_find_13 : decode cM_find 13 = .ok (.iload_n 2, 1) := by decide +kernel
theorem dM_find_14 : decode cM_find 14 = .ok (.invokestatic 89, 3) := by decide +kernel
theorem dM_find_17 : decode cM_find 17 = .ok (.ifCond .ne 5, 3) := by decide +kernel
theorem dM_find_20 : decode cM_find 20 = .ok (.iconst (-1), 1) := by decide +kernel
theorem dM_find_21 : decode cM_find 21 = .ok (.ireturn, 1) := by decide +kernel
theorem dM_find_22 : decode cM_find 22 = .ok (.aload_n 0, 1) := by decide +kernel
theorem dM_find_23 : decode cM_find 23 = .ok (.getfield 98, 3) := by decide +kernel
theorem dM_find_26 : decode cM_find 26 = .ok (.bipush 100, 2) := by decide +kernel
theorem dM_find_28 : decode cM_find 28 = .ok (.irem, 1) := by decide +kernel
theorem dM_find_29 : decode cM_find 29 = .ok (.istore_n 3, 1) := by decide +kernel
theorem dM_find_30 : decode cM_find 30 = .ok (.aload_n 0, 1) := by decide +kernel
theorem dM_find_31 : decode cM_find 31 = .ok (.dup, 1) := by decide +kernel
theorem dM_find_32 : decode cM_find 32 = .ok (.getfield 98, 3) := by decide +kernel
theorem dM_find_35 : decode cM_find 35 = .ok (.iconst 1, 1) := by decide +kernel
theorem dM_find_36 : decode cM_find 36 = .ok (.iadd, 1) := by decide +kernel
theorem dM_find_37 : decode cM_find 37 = .ok (.putfield 98, 3) := by decide +kernel
theorem dM_find_40 : decode cM_find 40 = .ok (.aload_n 0, 1) := by decide +kernel
theorem dM_find_41 : decode cM_find 41 = .ok (.getfield 7, 3) := by decide +kernel
theorem dM_find_44 : decode cM_find 44 = .ok (.iload_n 1, 1) := by decide +kernel
theorem dM_find_45 : decode cM_find 45 = .ok (.iaload, 1) := by decide +kernel
theorem dM_find_46 : decode cM_find 46 = .ok (.istore 4, 2) := by decide +kernel
theorem dM_find_48 : decode cM_find 48 = .ok (.aload_n 0, 1) := by decide +kernel
theorem dM_find_49 : decode cM_find 49 = .ok (.getfield 35, 3) := by decide +kernel
theorem dM_find_52 : decode cM_find 52 = .ok (.iload_n 3, 1) := by decide +kernel
theorem dM_find_53 : decode cM_find 53 = .ok (.iload 4, 2) := by decide +kernel
theorem dM_find_55 : decode cM_find 55 = .ok (.iastore, 1) := by decide +kernel
theorem dM_find_56 : decode cM_find 56 = .ok (.aload_n 0, 1) := by decide +kernel
theorem dM_find_57 : decode cM_find 57 = .ok (.getfield 38, 3) := by decide +kernel
theorem dM_find_60 : decode cM_find 60 = .ok (.iload_n 3, 1) := by decide +kernel
theorem dM_find_61 : decode cM_find 61 = .ok (.iload_n 2, 1) := by decide +kernel
theorem dM_find_62 : decode cM_find 62 = .ok (.iastore, 1) := by decide +kernel
theorem dM_find_63 : decode cM_find 63 = .ok (.aload_n 0, 1) := by decide +kernel
theorem dM_find_64 : decode cM_find 64 = .ok (.getfield 44, 3) := by decide +kernel
theorem dM_find_67 : decode cM_find 67 = .ok (.iload_n 3, 1) := by decide +kernel
theorem dM_find_68 : decode cM_find 68 = .ok (.iconst (-1), 1) := by decide +kernel
theorem dM_find_69 : decode cM_find 69 = .ok (.iastore, 1) := by decide +kernel
theorem dM_find_70 : decode cM_find 70 = .ok (.aload_n 0, 1) := by decide +kernel
theorem dM_find_71 : decode cM_find 71 = .ok (.getfield 50, 3) := by decide +kernel
theorem dM_find_74 : decode cM_find 74 = .ok (.iload_n 3, 1) := by decide +kernel
theorem dM_find_75 : decode cM_find 75 = .ok (.iconst 0, 1) := by decide +kernel
theorem dM_find_76 : decode cM_find 76 = .ok (.iastore, 1) := by decide +kernel
theorem dM_find_77 : decode cM_find 77 = .ok (.aload_n 0, 1) := by decide +kernel
theorem dM_find_78 : decode cM_find 78 = .ok (.getfield 47, 3) := by decide +kernel
theorem dM_find_81 : decode cM_find 81 = .ok (.iload_n 3, 1) := by decide +kernel
theorem dM_find_82 : decode cM_find 82 = .ok (.aload_n 0, 1) := by decide +kernel
theorem dM_find_83 : decode cM_find 83 = .ok (.iload 4, 2) := by decide +kernel
theorem dM_find_85 : decode cM_find 85 = .ok (.iload_n 2, 1) := by decide +kernel
theorem dM_find_86 : decode cM_find 86 = .ok (.invokevirtual 92, 3) := by decide +kernel
theorem dM_find_89 : decode cM_find 89 = .ok (.iastore, 1) := by decide +kernel
theorem dM_find_90 : decode cM_find 90 = .ok (.aload_n 0, 1) := by decide +kernel
theorem dM_find_91 : decode cM_find 91 = .ok (.getfield 41, 3) := by decide +kernel
theorem dM_find_94 : decode cM_find 94 = .ok (.iload_n 3, 1) := by decide +kernel
theorem dM_find_95 : decode cM_find 95 = .ok (.aload_n 0, 1) := by decide +kernel
theorem dM_find_96 : decode cM_find 96 = .ok (.getfield 47, 3) := by decide +kernel
theorem dM_find_99 : decode cM_find 99 = .ok (.iload_n 3, 1) := by decide +kernel
theorem dM_find_100 : decode cM_find 100 = .ok (.iaload, 1) := by decide +kernel
theorem dM_find_101 : decode cM_find 101 = .ok (.ifCond .lt 7, 3) := by decide +kernel
theorem dM_find_104 : decode cM_find 104 = .ok (.iconst 1, 1) := by decide +kernel
theorem dM_find_105 : decode cM_find 105 = .ok (.goto 4, 3) := by decide +kernel
theorem dM_find_108 : decode cM_find 108 = .ok (.iconst 0, 1) := by decide +kernel
theorem dM_find_109 : decode cM_find 109 = .ok (.iastore, 1) := by decide +kernel
theorem dM_find_110 : decode cM_find 110 = .ok (.aload_n 0, 1) := by decide +kernel
theorem dM_find_111 : decode cM_find 111 = .ok (.getfield 23, 3) := by decide +kernel
theorem dM_find_114 : decode cM_find 114 = .ok (.iload 4, 2) := by decide +kernel
theorem dM_find_116 : decode cM_find 116 = .ok (.iaload, 1) := by decide +kernel
theorem dM_find_117 : decode cM_find 117 = .ok (.istore 5, 2) := by decide +kernel
theorem dM_find_119 : decode cM_find 119 = .ok (.iload 5, 2) := by decide +kernel
theorem dM_find_121 : decode cM_find 121 = .ok (.ifCond .lt 119, 3) := by decide +kernel
theorem dM_find_124 : decode cM_find 124 = .ok (.aload_n 0, 1) := by decide +kernel
theorem dM_find_125 : decode cM_find 125 = .ok (.getfield 41, 3) := by decide +kernel
theorem dM_find_128 : decode cM_find 128 = .ok (.iload_n 3, 1) := by decide +kernel
theorem dM_find_129 : decode cM_find 129 = .ok (.iaload, 1) := by decide +kernel
theorem dM_find_130 : decode cM_find 130 = .ok (.ifCond .ne 110, 3) := by decide +kernel
theorem dM_find_133 : decode cM_find 133 = .ok (.aload_n 0, 1) := by decide +kernel
theorem dM_find_134 : decode cM_find 134 = .ok (.getfield 53, 3) := by decide +kernel
theorem dM_find_137 : decode cM_find 137 = .ok (.bipush 60, 2) := by decide +kernel
theorem dM_find_139 : decode cM_find 139 = .ok (.iload_n 3, 1) := by decide +kernel
theorem dM_find_140 : decode cM_find 140 = .ok (.imul, 1) := by decide +kernel
theorem dM_find_141 : decode cM_find 141 = .ok (.aload_n 0, 1) := by decide +kernel
theorem dM_find_142 : decode cM_find 142 = .ok (.getfield 50, 3) := by decide +kernel
theorem dM_find_145 : decode cM_find 145 = .ok (.iload_n 3, 1) := by decide +kernel
theorem dM_find_146 : decode cM_find 146 = .ok (.iaload, 1) := by decide +kernel
theorem dM_find_147 : decode cM_find 147 = .ok (.iadd, 1) := by decide +kernel
theorem dM_find_148 : decode cM_find 148 = .ok (.iload 5, 2) := by decide +kernel
theorem dM_find_150 : decode cM_find 150 = .ok (.iastore, 1) := by decide +kernel
theorem dM_find_151 : decode cM_find 151 = .ok (.aload_n 0, 1) := by decide +kernel
theorem dM_find_152 : decode cM_find 152 = .ok (.getfield 56, 3) := by decide +kernel
theorem dM_find_155 : decode cM_find 155 = .ok (.bipush 60, 2) := by decide +kernel
theorem dM_find_157 : decode cM_find 157 = .ok (.iload_n 3, 1) := by decide +kernel
theorem dM_find_158 : decode cM_find 158 = .ok (.imul, 1) := by decide +kernel
theorem dM_find_159 : decode cM_find 159 = .ok (.aload_n 0, 1) := by decide +kernel
theorem dM_find_160 : decode cM_find 160 = .ok (.getfield 50, 3) := by decide +kernel
theorem dM_find_163 : decode cM_find 163 = .ok (.iload_n 3, 1) := by decide +kernel
theorem dM_find_164 : decode cM_find 164 = .ok (.iaload, 1) := by decide +kernel
theorem dM_find_165 : decode cM_find 165 = .ok (.iadd, 1) := by decide +kernel
theorem dM_find_166 : decode cM_find 166 = .ok (.aload_n 0, 1) := by decide +kernel
theorem dM_find_167 : decode cM_find 167 = .ok (.getfield 13, 3) := by decide +kernel
theorem dM_find_170 : decode cM_find 170 = .ok (.iload 5, 2) := by decide +kernel
theorem dM_find_172 : decode cM_find 172 = .ok (.iaload, 1) := by decide +kernel
theorem dM_find_173 : decode cM_find 173 = .ok (.iastore, 1) := by decide +kernel
theorem dM_find_174 : decode cM_find 174 = .ok (.aload_n 0, 1) := by decide +kernel
theorem dM_find_175 : decode cM_find 175 = .ok (.getfield 50, 3) := by decide +kernel
theorem dM_find_178 : decode cM_find 178 = .ok (.iload_n 3, 1) := by decide +kernel
theorem dM_find_179 : decode cM_find 179 = .ok (.dup2, 1) := by decide +kernel
theorem dM_find_180 : decode cM_find 180 = .ok (.iaload, 1) := by decide +kernel
theorem dM_find_181 : decode cM_find 181 = .ok (.iconst 1, 1) := by decide +kernel
theorem dM_find_182 : decode cM_find 182 = .ok (.iadd, 1) := by decide +kernel
theorem dM_find_183 : decode cM_find 183 = .ok (.iastore, 1) := by decide +kernel
theorem dM_find_184 : decode cM_find 184 = .ok (.aload_n 0, 1) := by decide +kernel
theorem dM_find_185 : decode cM_find 185 = .ok (.aload_n 0, 1) := by decide +kernel
theorem dM_find_186 : decode cM_find 186 = .ok (.getfield 7, 3) := by decide +kernel
theorem dM_find_189 : decode cM_find 189 = .ok (.iload 5, 2) := by decide +kernel
theorem dM_find_191 : decode cM_find 191 = .ok (.iaload, 1) := by decide +kernel
theorem dM_find_192 : decode cM_find 192 = .ok (.iload_n 2, 1) := by decide +kernel
theorem dM_find_193 : decode cM_find 193 = .ok (.invokevirtual 92, 3) := by decide +kernel
theorem dM_find_196 : decode cM_find 196 = .ok (.istore 6, 2) := by decide +kernel
theorem dM_find_198 : decode cM_find 198 = .ok (.iload 6, 2) := by decide +kernel
theorem dM_find_200 : decode cM_find 200 = .ok (.ifCond .ge 6, 3) := by decide +kernel
theorem dM_find_203 : decode cM_find 203 = .ok (.goto 26, 3) := by decide +kernel
theorem dM_find_206 : decode cM_find 206 = .ok (.aload_n 0, 1) := by decide +kernel
theorem dM_find_207 : decode cM_find 207 = .ok (.getfield 41, 3) := by decide +kernel
theorem dM_find_210 : decode cM_find 210 = .ok (.iload_n 3, 1) := by decide +kernel
theorem dM_find_211 : decode cM_find 211 = .ok (.iconst 2, 1) := by decide +kernel
theorem dM_find_212 : decode cM_find 212 = .ok (.iastore, 1) := by decide +kernel
theorem dM_find_213 : decode cM_find 213 = .ok (.aload_n 0, 1) := by decide +kernel
theorem dM_find_214 : decode cM_find 214 = .ok (.getfield 44, 3) := by decide +kernel
theorem dM_find_217 : decode cM_find 217 = .ok (.iload_n 3, 1) := by decide +kernel
theorem dM_find_218 : decode cM_find 218 = .ok (.iload 5, 2) := by decide +kernel
theorem dM_find_220 : decode cM_find 220 = .ok (.iastore, 1) := by decide +kernel
theorem dM_find_221 : decode cM_find 221 = .ok (.aload_n 0, 1) := by decide +kernel
theorem dM_find_222 : decode cM_find 222 = .ok (.getfield 47, 3) := by decide +kernel
theorem dM_find_225 : decode cM_find 225 = .ok (.iload_n 3, 1) := by decide +kernel
theorem dM_find_226 : decode cM_find 226 = .ok (.iload 6, 2) := by decide +kernel
theorem dM_find_228 : decode cM_find 228 = .ok (.iastore, 1) := by decide +kernel
theorem dM_find_229 : decode cM_find 229 = .ok (.aload_n 0, 1) := by decide +kernel
theorem dM_find_230 : decode cM_find 230 = .ok (.iload 5, 2) := by decide +kernel
theorem dM_find_232 : decode cM_find 232 = .ok (.invokevirtual 95, 3) := by decide +kernel
theorem dM_find_235 : decode cM_find 235 = .ok (.istore 5, 2) := by decide +kernel
theorem dM_find_237 : decode cM_find 237 = .ok (.goto (-118), 3) := by decide +kernel
theorem dM_find_240 : decode cM_find 240 = .ok (.iload_n 3, 1) := by decide +kernel
theorem dM_find_241 : decode cM_find 241 = .ok (.ireturn, 1) := by decide +kernel
theorem dM_isFinding_0 : decode cM_isFinding 0 = .ok (.iload_n 1, 1) := by decide +kernel
theorem dM_isFinding_1 : decode cM_isFinding 1 = .ok (.ifCond .lt 21, 3) := by decide +kernel
theorem dM_isFinding_4 : decode cM_isFinding 4 = .ok (.iload_n 1, 1) := by decide +kernel
theorem dM_isFinding_5 : decode cM_isFinding 5 = .ok (.bipush 100, 2) := by decide +kernel
theorem dM_isFinding_7 : decode cM_isFinding 7 = .ok (.if_icmp .ge 15, 3) := by decide +kernel
theorem dM_isFinding_10 : decode cM_isFinding 10 = .ok (.iload_n 1, 1) := by decide +kernel
theorem dM_isFinding_11 : decode cM_isFinding 11 = .ok (.aload_n 0, 1) := by decide +kernel
theorem dM_isFinding_12 : decode cM_isFinding 12 = .ok (.getfield 98, 3) := by decide +kernel
theorem dM_isFinding_15 : decode cM_isFinding 15 = .ok (.if_icmp .ge 7, 3) := by decide +kernel
theorem dM_isFinding_18 : decode cM_isFinding 18 = .ok (.iconst 1, 1) := by decide +kernel
theorem dM_isFinding_19 : decode cM_isFinding 19 = .ok (.goto 4, 3) := by decide +kernel
theorem dM_isFinding_22 : decode cM_isFinding 22 = .ok (.iconst 0, 1) := by decide +kernel
theorem dM_isFinding_23 : decode cM_isFinding 23 = .ok (.ireturn, 1) := by decide +kernel
theorem dM_holdsStill_0 : decode cM_holdsStill 0 = .ok (.iconst 1, 1) := by decide +kernel
theorem dM_holdsStill_1 : decode cM_holdsStill 1 = .ok (.istore_n 2, 1) := by decide +kernel
theorem dM_holdsStill_2 : decode cM_holdsStill 2 = .ok (.iconst 0, 1) := by decide +kernel
theorem dM_holdsStill_3 : decode cM_holdsStill 3 = .ok (.istore_n 3, 1) := by decide +kernel
theorem dM_holdsStill_4 : decode cM_holdsStill 4 = .ok (.iload_n 3, 1) := by decide +kernel
theorem dM_holdsStill_5 : decode cM_holdsStill 5 = .ok (.aload_n 0, 1) := by decide +kernel
theorem dM_holdsStill_6 : decode cM_holdsStill 6 = .ok (.getfield 50, 3) := by decide +kernel
theorem dM_holdsStill_9 : decode cM_holdsStill 9 = .ok (.iload_n 1, 1) := by decide +kernel
theorem dM_holdsStill_10 : decode cM_holdsStill 10 = .ok (.iaload, 1) := by decide +kernel
theorem dM_holdsStill_11 : decode cM_holdsStill 11 = .ok (.if_icmp .ge 49, 3) := by decide +kernel
theorem dM_holdsStill_14 : decode cM_holdsStill 14 = .ok (.iload_n 2, 1) := by decide +kernel
theorem dM_holdsStill_15 : decode cM_holdsStill 15 = .ok (.ifCond .eq 45, 3) := by decide +kernel
theorem dM_holdsStill_18 : decode cM_holdsStill 18 = .ok (.aload_n 0, 1) := by decide +kernel
theorem dM_holdsStill_19 : decode cM_holdsStill 19 = .ok (.getfield 13, 3) := by decide +kernel
theorem dM_holdsStill_22 : decode cM_holdsStill 22 = .ok (.aload_n 0, 1) := by decide +kernel
theorem dM_holdsStill_23 : decode cM_holdsStill 23 = .ok (.getfield 53, 3) := by decide +kernel
theorem dM_holdsStill_26 : decode cM_holdsStill 26 = .ok (.bipush 60, 2) := by decide +kernel
theorem dM_holdsStill_28 : decode cM_holdsStill 28 = .ok (.iload_n 1, 1) := by decide +kernel
theorem dM_holdsStill_29 : decode cM_holdsStill 29 = .ok (.imul, 1) := by decide +kernel
theorem dM_holdsStill_30 : decode cM_holdsStill 30 = .ok (.iload_n 3, 1) := by decide +kernel
theorem dM_holdsStill_31 : decode cM_holdsStill 31 = .ok (.iadd, 1) := by decide +kernel
theorem dM_holdsStill_32 : decode cM_holdsStill 32 = .ok (.iaload, 1) := by decide +kernel
theorem dM_holdsStill_33 : decode cM_holdsStill 33 = .ok (.iaload, 1) := by decide +kernel
theorem dM_holdsStill_34 : decode cM_holdsStill 34 = .ok (.aload_n 0, 1) := by decide +kernel
theorem dM_holdsStill_35 : decode cM_holdsStill 35 = .ok (.getfield 56, 3) := by decide +kernel
theorem dM_holdsStill_38 : decode cM_holdsStill 38 = .ok (.bipush 60, 2) := by decide +kernel
theorem dM_holdsStill_40 : decode cM_holdsStill 40 = .ok (.iload_n 1, 1) := by decide +kernel
theorem dM_holdsStill_41 : decode cM_holdsStill 41 = .ok (.imul, 1) := by decide +kernel
theorem dM_holdsStill_42 : decode cM_holdsStill 42 = .ok (.iload_n 3, 1) := by decide +kernel
theorem dM_holdsStill_43 : decode cM_holdsStill 43 = .ok (.iadd, 1) := by decide +kernel
theorem dM_holdsStill_44 : decode cM_holdsStill 44 = .ok (.iaload, 1) := by decide +kernel
theorem dM_holdsStill_45 : decode cM_holdsStill 45 = .ok (.if_icmp .ne 7, 3) := by decide +kernel
theorem dM_holdsStill_48 : decode cM_holdsStill 48 = .ok (.iconst 1, 1) := by decide +kernel
theorem dM_holdsStill_49 : decode cM_holdsStill 49 = .ok (.goto 4, 3) := by decide +kernel
theorem dM_holdsStill_52 : decode cM_holdsStill 52 = .ok (.iconst 0, 1) := by decide +kernel
theorem dM_holdsStill_53 : decode cM_holdsStill 53 = .ok (.istore_n 2, 1) := by decide +kernel
theorem dM_holdsStill_54 : decode cM_holdsStill 54 = .ok (.iinc 3 1, 3) := by decide +kernel
theorem dM_holdsStill_57 : decode cM_holdsStill 57 = .ok (.goto (-53), 3) := by decide +kernel
theorem dM_holdsStill_60 : decode cM_holdsStill 60 = .ok (.iload_n 2, 1) := by decide +kernel
theorem dM_holdsStill_61 : decode cM_holdsStill 61 = .ok (.ireturn, 1) := by decide +kernel
theorem dM_holds_0 : decode cM_holds 0 = .ok (.aload_n 0, 1) := by decide +kernel
theorem dM_holds_1 : decode cM_holds 1 = .ok (.iconst 0, 1) := by decide +kernel
theorem dM_holds_2 : decode cM_holds 2 = .ok (.putfield 62, 3) := by decide +kernel
theorem dM_holds_5 : decode cM_holds 5 = .ok (.aload_n 0, 1) := by decide +kernel
theorem dM_holds_6 : decode cM_holds 6 = .ok (.iload_n 1, 1) := by decide +kernel
theorem dM_holds_7 : decode cM_holds 7 = .ok (.invokevirtual 101, 3) := by decide +kernel
theorem dM_holds_10 : decode cM_holds 10 = .ok (.ifCond .eq 38, 3) := by decide +kernel
theorem dM_holds_13 : decode cM_holds 13 = .ok (.aload_n 0, 1) := by decide +kernel
theorem dM_holds_14 : decode cM_holds 14 = .ok (.iload_n 2, 1) := by decide +kernel
theorem dM_holds_15 : decode cM_holds 15 = .ok (.invokevirtual 82, 3) := by decide +kernel
theorem dM_holds_18 : decode cM_holds 18 = .ok (.ifCond .eq 30, 3) := by decide +kernel
theorem dM_holds_21 : decode cM_holds 21 = .ok (.aload_n 0, 1) := by decide +kernel
theorem dM_holds_22 : decode cM_holds 22 = .ok (.getfield 7, 3) := by decide +kernel
theorem dM_holds_25 : decode cM_holds 25 = .ok (.iload_n 2, 1) := by decide +kernel
theorem dM_holds_26 : decode cM_holds 26 = .ok (.iaload, 1) := by decide +kernel
theorem dM_holds_27 : decode cM_holds 27 = .ok (.aload_n 0, 1) := by decide +kernel
theorem dM_holds_28 : decode cM_holds 28 = .ok (.getfield 35, 3) := by decide +kernel
theorem dM_holds_31 : decode cM_holds 31 = .ok (.iload_n 1, 1) := by decide +kernel
theorem dM_holds_32 : decode cM_holds 32 = .ok (.iaload, 1) := by decide +kernel
theorem dM_holds_33 : decode cM_holds 33 = .ok (.if_icmp .ne 15, 3) := by decide +kernel
theorem dM_holds_36 : decode cM_holds 36 = .ok (.aload_n 0, 1) := by decide +kernel
theorem dM_holds_37 : decode cM_holds 37 = .ok (.iload_n 1, 1) := by decide +kernel
theorem dM_holds_38 : decode cM_holds 38 = .ok (.invokevirtual 104, 3) := by decide +kernel
theorem dM_holds_41 : decode cM_holds 41 = .ok (.ifCond .eq 7, 3) := by decide +kernel
theorem dM_holds_44 : decode cM_holds 44 = .ok (.iconst 1, 1) := by decide +kernel
theorem dM_holds_45 : decode cM_holds 45 = .ok (.goto 4, 3) := by decide +kernel
theorem dM_holds_48 : decode cM_holds 48 = .ok (.iconst 0, 1) := by decide +kernel
theorem dM_holds_49 : decode cM_holds 49 = .ok (.ireturn, 1) := by decide +kernel
theorem dM_get_0 : decode cM_get 0 = .ok (.aload_n 0, 1) := by decide +kernel
theorem dM_get_1 : decode cM_get 1 = .ok (.aload_n 0, 1) := by decide +kernel
theorem dM_get_2 : decode cM_get 2 = .ok (.iload_n 1, 1) := by decide +kernel
theorem dM_get_3 : decode cM_get 3 = .ok (.invokevirtual 101, 3) := by decide +kernel
theorem dM_get_6 : decode cM_get 6 = .ok (.ifCond .ne 7, 3) := by decide +kernel
theorem dM_get_9 : decode cM_get 9 = .ok (.iconst 1, 1) := by decide +kernel
theorem dM_get_10 : decode cM_get 10 = .ok (.goto 52, 3) := by decide +kernel
theorem dM_get_13 : decode cM_get 13 = .ok (.aload_n 0, 1) := by decide +kernel
theorem dM_get_14 : decode cM_get 14 = .ok (.iload_n 2, 1) := by decide +kernel
theorem dM_get_15 : decode cM_get 15 = .ok (.invokevirtual 82, 3) := by decide +kernel
theorem dM_get_18 : decode cM_get 18 = .ok (.ifCond .eq 26, 3) := by decide +kernel
theorem dM_get_21 : decode cM_get 21 = .ok (.aload_n 0, 1) := by decide +kernel
theorem dM_get_22 : decode cM_get 22 = .ok (.getfield 7, 3) := by decide +kernel
theorem dM_get_25 : decode cM_get 25 = .ok (.iload_n 2, 1) := by decide +kernel
theorem dM_get_26 : decode cM_get 26 = .ok (.iaload, 1) := by decide +kernel
theorem dM_get_27 : decode cM_get 27 = .ok (.aload_n 0, 1) := by decide +kernel
theorem dM_get_28 : decode cM_get 28 = .ok (.getfield 35, 3) := by decide +kernel
theorem dM_get_31 : decode cM_get 31 = .ok (.iload_n 1, 1) := by decide +kernel
theorem dM_get_32 : decode cM_get 32 = .ok (.iaload, 1) := by decide +kernel
theorem dM_get_33 : decode cM_get 33 = .ok (.if_icmp .ne 11, 3) := by decide +kernel
theorem dM_get_36 : decode cM_get 36 = .ok (.aload_n 0, 1) := by decide +kernel
theorem dM_get_37 : decode cM_get 37 = .ok (.iload_n 1, 1) := by decide +kernel
theorem dM_get_38 : decode cM_get 38 = .ok (.invokevirtual 104, 3) := by decide +kernel
theorem dM_get_41 : decode cM_get 41 = .ok (.ifCond .ne 7, 3) := by decide +kernel
theorem dM_get_44 : decode cM_get 44 = .ok (.iconst 2, 1) := by decide +kernel
theorem dM_get_45 : decode cM_get 45 = .ok (.goto 17, 3) := by decide +kernel
theorem dM_get_48 : decode cM_get 48 = .ok (.aload_n 0, 1) := by decide +kernel
theorem dM_get_49 : decode cM_get 49 = .ok (.getfield 41, 3) := by decide +kernel
theorem dM_get_52 : decode cM_get 52 = .ok (.iload_n 1, 1) := by decide +kernel
theorem dM_get_53 : decode cM_get 53 = .ok (.iaload, 1) := by decide +kernel
theorem dM_get_54 : decode cM_get 54 = .ok (.ifCond .ne 7, 3) := by decide +kernel
theorem dM_get_57 : decode cM_get 57 = .ok (.iconst 3, 1) := by decide +kernel
theorem dM_get_58 : decode cM_get 58 = .ok (.goto 4, 3) := by decide +kernel

theorem dM_get_61 : decode cM_get 61 = .ok (.iconst 0, 1) := by decide +kernel
theorem dM_get_62 : decode cM_get 62 = .ok (.putfield 62, 3) := by decide +kernel
theorem dM_get_65 : decode cM_get 65 = .ok (.aload_n 0, 1) := by decide +kernel
theorem dM_get_66 : decode cM_get 66 = .ok (.getfield 62, 3) := by decide +kernel
theorem dM_get_69 : decode cM_get 69 = .ok (.ifCond .le 7, 3) := by decide +kernel
theorem dM_get_72 : decode cM_get 72 = .ok (.iconst 0, 1) := by decide +kernel
theorem dM_get_73 : decode cM_get 73 = .ok (.goto 38, 3) := by decide +kernel
theorem dM_get_76 : decode cM_get 76 = .ok (.aload_n 0, 1) := by decide +kernel
theorem dM_get_77 : decode cM_get 77 = .ok (.getfield 16, 3) := by decide +kernel
theorem dM_get_80 : decode cM_get 80 = .ok (.bipush 12, 2) := by decide +kernel
theorem dM_get_82 : decode cM_get 82 = .ok (.aload_n 0, 1) := by decide +kernel
theorem dM_get_83 : decode cM_get 83 = .ok (.getfield 41, 3) := by decide +kernel
theorem dM_get_86 : decode cM_get 86 = .ok (.iload_n 1, 1) := by decide +kernel
theorem dM_get_87 : decode cM_get 87 = .ok (.iaload, 1) := by decide +kernel
theorem dM_get_88 : decode cM_get 88 = .ok (.iconst 1, 1) := by decide +kernel
theorem dM_get_89 : decode cM_get 89 = .ok (.if_icmp .ne 7, 3) := by decide +kernel
theorem dM_get_92 : decode cM_get 92 = .ok (.iload_n 2, 1) := by decide +kernel
theorem dM_get_93 : decode cM_get 93 = .ok (.goto 9, 3) := by decide +kernel
theorem dM_get_96 : decode cM_get 96 = .ok (.aload_n 0, 1) := by decide +kernel
theorem dM_get_97 : decode cM_get 97 = .ok (.getfield 44, 3) := by decide +kernel
theorem dM_get_100 : decode cM_get 100 = .ok (.iload_n 1, 1) := by decide +kernel
theorem dM_get_101 : decode cM_get 101 = .ok (.iaload, 1) := by decide +kernel
theorem dM_get_102 : decode cM_get 102 = .ok (.imul, 1) := by decide +kernel
theorem dM_get_103 : decode cM_get 103 = .ok (.aload_n 0, 1) := by decide +kernel
theorem dM_get_104 : decode cM_get 104 = .ok (.getfield 47, 3) := by decide +kernel
theorem dM_get_107 : decode cM_get 107 = .ok (.iload_n 1, 1) := by decide +kernel
theorem dM_get_108 : decode cM_get 108 = .ok (.iaload, 1) := by decide +kernel
theorem dM_get_109 : decode cM_get 109 = .ok (.iadd, 1) := by decide +kernel
theorem dM_get_110 : decode cM_get 110 = .ok (.iaload, 1) := by decide +kernel
theorem dM_get_111 : decode cM_get 111 = .ok (.ireturn, 1) := by decide +kernel
theorem dM_look_0 : decode cM_look 0 = .ok (.aload_n 0, 1) := by decide +kernel
theorem dM_look_1 : decode cM_look 1 = .ok (.iconst 0, 1) := by decide +kernel
theorem dM_look_2 : decode cM_look 2 = .ok (.putfield 62, 3) := by decide +kernel
theorem dM_look_5 : decode cM_look 5 = .ok (.aload_n 0, 1) := by decide +kernel
theorem dM_look_6 : decode cM_look 6 = .ok (.iload_n 1, 1) := by decide +kernel
theorem dM_look_7 : decode cM_look 7 = .ok (.invokevirtual 82, 3) := by decide +kernel
theorem dM_look_10 : decode cM_look 10 = .ok (.ifCond .ne 5, 3) := by decide +kernel
theorem dM_look_13 : decode cM_look 13 = .ok (.iconst (-1), 1) := by decide +kernel
theorem dM_look_14 : decode cM_look 14 = .ok (.ireturn, 1) := by decide +kernel
theorem dM_look_15 : decode cM_look 15 = .ok (.iconst 0, 1) := by decide +kernel
theorem dM_look_16 : decode cM_look 16 = .ok (.istore_n 3, 1) := by decide +kernel
theorem dM_look_17 : decode cM_look 17 = .ok (.iload_n 2, 1) := by decide +kernel
theorem dM_look_18 : decode cM_look 18 = .ok (.tableswitch 176 0 5 #[38, 45, 51, 63, 70, 98], 38) := by decide +kernel
theorem dM_look_56 : decode cM_look 56 = .ok (.aload_n 0, 1) := by decide +kernel
theorem dM_look_57 : decode cM_look 57 = .ok (.getfield 7, 3) := by decide +kernel
theorem dM_look_60 : decode cM_look 60 = .ok (.iload_n 1, 1) := by decide +kernel
theorem dM_look_61 : decode cM_look 61 = .ok (.iaload, 1) := by decide +kernel
theorem dM_look_62 : decode cM_look 62 = .ok (.ireturn, 1) := by decide +kernel
theorem dM_look_63 : decode cM_look 63 = .ok (.aload_n 0, 1) := by decide +kernel
theorem dM_look_64 : decode cM_look 64 = .ok (.iload_n 1, 1) := by decide +kernel
theorem dM_look_65 : decode cM_look 65 = .ok (.invokevirtual 95, 3) := by decide +kernel
theorem dM_look_68 : decode cM_look 68 = .ok (.ireturn, 1) := by decide +kernel
theorem dM_look_69 : decode cM_look 69 = .ok (.aload_n 0, 1) := by decide +kernel
theorem dM_look_70 : decode cM_look 70 = .ok (.getfield 29, 3) := by decide +kernel
theorem dM_look_73 : decode cM_look 73 = .ok (.aload_n 0, 1) := by decide +kernel
theorem dM_look_74 : decode cM_look 74 = .ok (.getfield 7, 3) := by decide +kernel
theorem dM_look_77 : decode cM_look 77 = .ok (.iload_n 1, 1) := by decide +kernel
theorem dM_look_78 : decode cM_look 78 = .ok (.iaload, 1) := by decide +kernel
theorem dM_look_79 : decode cM_look 79 = .ok (.iaload, 1) := by decide +kernel
theorem dM_look_80 : decode cM_look 80 = .ok (.ireturn, 1) := by decide +kernel
theorem dM_look_81 : decode cM_look 81 = .ok (.aload_n 0, 1) := by decide +kernel
theorem dM_look_82 : decode cM_look 82 = .ok (.getfield 13, 3) := by decide +kernel
theorem dM_look_85 : decode cM_look 85 = .ok (.iload_n 1, 1) := by decide +kernel
theorem dM_look_86 : decode cM_look 86 = .ok (.iaload, 1) := by decide +kernel
theorem dM_look_87 : decode cM_look 87 = .ok (.ireturn, 1) := by decide +kernel
theorem dM_look_88 : decode cM_look 88 = .ok (.aload_n 0, 1) := by decide +kernel
theorem dM_look_89 : decode cM_look 89 = .ok (.iload_n 1, 1) := by decide +kernel
theorem dM_look_90 : decode cM_look 90 = .ok (.invokevirtual 95, 3) := by decide +kernel
theorem dM_look_93 : decode cM_look 93 = .ok (.istore 4, 2) := by decide +kernel
theorem dM_look_95 : decode cM_look 95 = .ok (.iload 4, 2) := by decide +kernel
theorem dM_look_97 : decode cM_look 97 = .ok (.ifCond .lt 17, 3) := by decide +kernel
theorem dM_look_100 : decode cM_look 100 = .ok (.iinc 3 1, 3) := by decide +kernel
theorem dM_look_103 : decode cM_look 103 = .ok (.aload_n 0, 1) := by decide +kernel
theorem dM_look_104 : decode cM_look 104 = .ok (.iload 4, 2) := by decide +kernel
theorem dM_look_106 : decode cM_look 106 = .ok (.invokevirtual 95, 3) := by decide +kernel
theorem dM_look_109 : decode cM_look 109 = .ok (.istore 4, 2) := by decide +kernel
theorem dM_look_111 : decode cM_look 111 = .ok (.goto (-16), 3) := by decide +kernel
theorem dM_look_114 : decode cM_look 114 = .ok (.iload_n 3, 1) := by decide +kernel
theorem dM_look_115 : decode cM_look 115 = .ok (.ireturn, 1) := by decide +kernel
theorem dM_look_116 : decode cM_look 116 = .ok (.iconst 0, 1) := by decide +kernel
theorem dM_look_117 : decode cM_look 117 = .ok (.istore 4, 2) := by decide +kernel
theorem dM_look_119 : decode cM_look 119 = .ok (.iload 4, 2) := by decide +kernel
theorem dM_look_121 : decode cM_look 121 = .ok (.aload_n 0, 1) := by decide +kernel
theorem dM_look_122 : decode cM_look 122 = .ok (.getfield 65, 3) := by decide +kernel
theorem dM_look_125 : decode cM_look 125 = .ok (.if_icmp .ge 67, 3) := by decide +kernel
theorem dM_look_128 : decode cM_look 128 = .ok (.iconst 0, 1) := by decide +kernel
theorem dM_look_129 : decode cM_look 129 = .ok (.istore 5, 2) := by decide +kernel
theorem dM_look_131 : decode cM_look 131 = .ok (.aload_n 0, 1) := by decide +kernel
theorem dM_look_132 : decode cM_look 132 = .ok (.iload 4, 2) := by decide +kernel
theorem dM_look_134 : decode cM_look 134 = .ok (.invokevirtual 95, 3) := by decide +kernel
theorem dM_look_137 : decode cM_look 137 = .ok (.istore 6, 2) := by decide +kernel
theorem dM_look_139 : decode cM_look 139 = .ok (.iload 6, 2) := by decide +kernel
theorem dM_look_141 : decode cM_look 141 = .ok (.ifCond .lt 32, 3) := by decide +kernel
theorem dM_look_144 : decode cM_look 144 = .ok (.iload 5, 2) := by decide +kernel
theorem dM_look_146 : decode cM_look 146 = .ok (.ifCond .ne 9, 3) := by decide +kernel
theorem dM_look_149 : decode cM_look 149 = .ok (.iload 6, 2) := by decide +kernel
theorem dM_look_151 : decode cM_look 151 = .ok (.iload_n 1, 1) := by decide +kernel
theorem dM_look_152 : decode cM_look 152 = .ok (.if_icmp .ne 7, 3) := by decide +kernel
theorem dM_look_155 : decode cM_look 155 = .ok (.iconst 1, 1) := by decide +kernel
theorem dM_look_156 : decode cM_look 156 = .ok (.goto 4, 3) := by decide +kernel
theorem dM_look_159 : decode cM_look 159 = .ok (.iconst 0, 1) := by decide +kernel
theorem dM_look_160 : decode cM_look 160 = .ok (.istore 5, 2) := by decide +kernel
theorem dM_look_162 : decode cM_look 162 = .ok (.aload_n 0, 1) := by decide +kernel
theorem dM_look_163 : decode cM_look 163 = .ok (.iload 6, 2) := by decide +kernel
theorem dM_look_165 : decode cM_look 165 = .ok (.invokevirtual 95, 3) := by decide +kernel
theorem dM_look_168 : decode cM_look 168 = .ok (.istore 6, 2) := by decide +kernel
theorem dM_look_170 : decode cM_look 170 = .ok (.goto (-31), 3) := by decide +kernel
theorem dM_look_173 : decode cM_look 173 = .ok (.iload_n 3, 1) := by decide +kernel
theorem dM_look_174 : decode cM_look 174 = .ok (.iload 5, 2) := by decide +kernel
theorem dM_look_176 : decode cM_look 176 = .ok (.ifCond .eq 7, 3) := by decide +kernel
theorem dM_look_179 : decode cM_look 179 = .ok (.iconst 1, 1) := by decide +kernel
theorem dM_look_180 : decode cM_look 180 = .ok (.goto 4, 3) := by decide +kernel
theorem dM_look_183 : decode cM_look 183 = .ok (.iconst 0, 1) := by decide +kernel
theorem dM_look_184 : decode cM_look 184 = .ok (.iadd, 1) := by decide +kernel
theorem dM_look_185 : decode cM_look 185 = .ok (.istore_n 3, 1) := by decide +kernel
theorem dM_look_186 : decode cM_look 186 = .ok (.iinc 4 1, 3) := by decide +kernel
theorem dM_look_189 : decode cM_look 189 = .ok (.goto (-70), 3) := by decide +kernel
theorem dM_look_192 : decode cM_look 192 = .ok (.iload_n 3, 1) := by decide +kernel
theorem dM_look_193 : decode cM_look 193 = .ok (.ireturn, 1) := by decide +kernel
theorem dM_look_194 : decode cM_look 194 = .ok (.iconst (-1), 1) := by decide +kernel
theorem dM_look_195 : decode cM_look 195 = .ok (.ireturn, 1) := by decide +kernel
theorem dM_shape_0 : decode cM_shape 0 = .ok (.aload_n 0, 1) := by decide +kernel
theorem dM_shape_1 : decode cM_shape 1 = .ok (.iconst 0, 1) := by decide +kernel
theorem dM_shape_2 : decode cM_shape 2 = .ok (.putfield 62, 3) := by decide +kernel
theorem dM_shape_5 : decode cM_shape 5 = .ok (.iload_n 1, 1) := by decide +kernel
theorem dM_shape_6 : decode cM_shape 6 = .ok (.ifCond .lt 15, 3) := by decide +kernel
theorem dM_shape_9 : decode cM_shape 9 = .ok (.iload_n 1, 1) := by decide +kernel
theorem dM_shape_10 : decode cM_shape 10 = .ok (.aload_n 0, 1) := by decide +kernel
theorem dM_shape_11 : decode cM_shape 11 = .ok (.getfield 19, 3) := by decide +kernel
theorem dM_shape_14 : decode cM_shape 14 = .ok (.if_icmp .ge 7, 3) := by decide +kernel
theorem dM_shape_17 : decode cM_shape 17 = .ok (.iload_n 2, 1) := by decide +kernel
theorem dM_shape_18 : decode cM_shape 18 = .ok (.ifCond .ge 5, 3) := by decide +kernel
theorem dM_shape_21 : decode cM_shape 21 = .ok (.iconst (-1), 1) := by decide +kernel
theorem dM_shape_22 : decode cM_shape 22 = .ok (.ireturn, 1) := by decide +kernel
theorem dM_shape_23 : decode cM_shape 23 = .ok (.iload_n 2, 1) := by decide +kernel
theorem dM_shape_24 : decode cM_shape 24 = .ok (.iconst 3, 1) := by decide +kernel
theorem dM_shape_25 : decode cM_shape 25 = .ok (.if_icmp .le 33, 3) := by decide +kernel
theorem dM_shape_28 : decode cM_shape 28 = .ok (.iload_n 2, 1) := by decide +kernel
theorem dM_shape_29 : decode cM_shape 29 = .ok (.iconst 4, 1) := by decide +kernel
theorem dM_shape_30 : decode cM_shape 30 = .ok (.isub, 1) := by decide +kernel
theorem dM_shape_31 : decode cM_shape 31 = .ok (.aload_n 0, 1) := by decide +kernel
theorem dM_shape_32 : decode cM_shape 32 = .ok (.getfield 29, 3) := by decide +kernel
theorem dM_shape_35 : decode cM_shape 35 = .ok (.iload_n 1, 1) := by decide +kernel
theorem dM_shape_36 : decode cM_shape 36 = .ok (.iaload, 1) := by decide +kernel
theorem dM_shape_37 : decode cM_shape 37 = .ok (.if_icmp .ge 19, 3) := by decide +kernel
theorem dM_shape_40 : decode cM_shape 40 = .ok (.aload_n 0, 1) := by decide +kernel
theorem dM_shape_41 : decode cM_shape 41 = .ok (.getfield 32, 3) := by decide +kernel
theorem dM_shape_44 : decode cM_shape 44 = .ok (.bipush 12, 2) := by decide +kernel
theorem dM_shape_46 : decode cM_shape 46 = .ok (.iload_n 1, 1) := by decide +kernel
theorem dM_shape_47 : decode cM_shape 47 = .ok (.imul, 1) := by decide +kernel
theorem dM_shape_48 : decode cM_shape 48 = .ok (.iload_n 2, 1) := by decide +kernel
theorem dM_shape_49 : decode cM_shape 49 = .ok (.iadd, 1) := by decide +kernel
theorem dM_shape_50 : decode cM_shape 50 = .ok (.iconst 4, 1) := by decide +kernel
theorem dM_shape_51 : decode cM_shape 51 = .ok (.isub, 1) := by decide +kernel
theorem dM_shape_52 : decode cM_shape 52 = .ok (.iaload, 1) := by decide +kernel
theorem dM_shape_53 : decode cM_shape 53 = .ok (.goto 4, 3) := by decide +kernel
theorem dM_shape_56 : decode cM_shape 56 = .ok (.iconst (-1), 1) := by decide +kernel
theorem dM_shape_57 : decode cM_shape 57 = .ok (.ireturn, 1) := by decide +kernel
theorem dM_shape_58 : decode cM_shape 58 = .ok (.iconst 0, 1) := by decide +kernel
theorem dM_shape_59 : decode cM_shape 59 = .ok (.istore_n 3, 1) := by decide +kernel
theorem dM_shape_60 : decode cM_shape 60 = .ok (.iconst 0, 1) := by decide +kernel
theorem dM_shape_61 : decode cM_shape 61 = .ok (.istore 4, 2) := by decide +kernel
theorem dM_shape_63 : decode cM_shape 63 = .ok (.iload 4, 2) := by decide +kernel
theorem dM_shape_65 : decode cM_shape 65 = .ok (.aload_n 0, 1) := by decide +kernel
theorem dM_shape_66 : decode cM_shape 66 = .ok (.getfield 65, 3) := by decide +kernel
theorem dM_shape_69 : decode cM_shape 69 = .ok (.if_icmp .ge 28, 3) := by decide +kernel
theorem dM_shape_72 : decode cM_shape 72 = .ok (.iload_n 3, 1) := by decide +kernel
theorem dM_shape_73 : decode cM_shape 73 = .ok (.aload_n 0, 1) := by decide +kernel
theorem dM_shape_74 : decode cM_shape 74 = .ok (.getfield 7, 3) := by decide +kernel
theorem dM_shape_77 : decode cM_shape 77 = .ok (.iload 4, 2) := by decide +kernel
theorem dM_shape_79 : decode cM_shape 79 = .ok (.iaload, 1) := by decide +kernel
theorem dM_shape_80 : decode cM_shape 80 = .ok (.iload_n 1, 1) := by decide +kernel
theorem dM_shape_81 : decode cM_shape 81 = .ok (.if_icmp .ne 7, 3) := by decide +kernel
theorem dM_shape_84 : decode cM_shape 84 = .ok (.iconst 1, 1) := by decide +kernel
theorem dM_shape_85 : decode cM_shape 85 = .ok (.goto 4, 3) := by decide +kernel
theorem dM_shape_88 : decode cM_shape 88 = .ok (.iconst 0, 1) := by decide +kernel
theorem dM_shape_89 : decode cM_shape 89 = .ok (.iadd, 1) := by decide +kernel
theorem dM_shape_90 : decode cM_shape 90 = .ok (.istore_n 3, 1) := by decide +kernel
theorem dM_shape_91 : decode cM_shape 91 = .ok (.iinc 4 1, 3) := by decide +kernel
theorem dM_shape_94 : decode cM_shape 94 = .ok (.goto (-31), 3) := by decide +kernel
theorem dM_shape_97 : decode cM_shape 97 = .ok (.iload_n 2, 1) := by decide +kernel
theorem dM_shape_98 : decode cM_shape 98 = .ok (.ifCond .ne 12, 3) := by decide +kernel
theorem dM_shape_101 : decode cM_shape 101 = .ok (.aload_n 0, 1) := by decide +kernel
theorem dM_shape_102 : decode cM_shape 102 = .ok (.getfield 23, 3) := by decide +kernel
theorem dM_shape_105 : decode cM_shape 105 = .ok (.iload_n 1, 1) := by decide +kernel
theorem dM_shape_106 : decode cM_shape 106 = .ok (.iaload, 1) := by decide +kernel
theorem dM_shape_107 : decode cM_shape 107 = .ok (.goto 32, 3) := by decide +kernel
theorem dM_shape_110 : decode cM_shape 110 = .ok (.iload_n 2, 1) := by decide +kernel
theorem dM_shape_111 : decode cM_shape 111 = .ok (.iconst 1, 1) := by decide +kernel
theorem dM_shape_112 : decode cM_shape 112 = .ok (.if_icmp .ne 12, 3) := by decide +kernel
theorem dM_shape_115 : decode cM_shape 115 = .ok (.aload_n 0, 1) := by decide +kernel
theorem dM_shape_116 : decode cM_shape 116 = .ok (.getfield 29, 3) := by decide +kernel
theorem dM_shape_119 : decode cM_shape 119 = .ok (.iload_n 1, 1) := by decide +kernel
theorem dM_shape_120 : decode cM_shape 120 = .ok (.iaload, 1) := by decide +kernel
theorem dM_shape_121 : decode cM_shape 121 = .ok (.goto 18, 3) := by decide +kernel
theorem dM_shape_124 : decode cM_shape 124 = .ok (.iload_n 2, 1) := by decide +kernel
theorem dM_shape_125 : decode cM_shape 125 = .ok (.iconst 2, 1) := by decide +kernel
theorem dM_shape_126 : decode cM_shape 126 = .ok (.if_icmp .ne 7, 3) := by decide +kernel
theorem dM_shape_129 : decode cM_shape 129 = .ok (.iload_n 3, 1) := by decide +kernel
theorem dM_shape_130 : decode cM_shape 130 = .ok (.goto 9, 3) := by decide +kernel
theorem dM_shape_133 : decode cM_shape 133 = .ok (.aload_n 0, 1) := by decide +kernel
theorem dM_shape_134 : decode cM_shape 134 = .ok (.getfield 26, 3) := by decide +kernel
theorem dM_shape_137 : decode cM_shape 137 = .ok (.iload_n 1, 1) := by decide +kernel
theorem dM_shape_138 : decode cM_shape 138 = .ok (.iaload, 1) := by decide +kernel
theorem dM_shape_139 : decode cM_shape 139 = .ok (.ireturn, 1) := by decide +kernel
theorem dM_finding_0 : decode cM_finding 0 = .ok (.aload_n 0, 1) := by decide +kernel
theorem dM_finding_1 : decode cM_finding 1 = .ok (.iconst 0, 1) := by decide +kernel
theorem dM_finding_2 : decode cM_finding 2 = .ok (.putfield 62, 3) := by decide +kernel
theorem dM_finding_5 : decode cM_finding 5 = .ok (.aload_n 0, 1) := by decide +kernel
theorem dM_finding_6 : decode cM_finding 6 = .ok (.iload_n 1, 1) := by decide +kernel
theorem dM_finding_7 : decode cM_finding 7 = .ok (.invokevirtual 101, 3) := by decide +kernel
theorem dM_finding_10 : decode cM_finding 10 = .ok (.ifCond .ne 5, 3) := by decide +kernel
theorem dM_finding_13 : decode cM_finding 13 = .ok (.iconst (-1), 1) := by decide +kernel
theorem dM_finding_14 : decode cM_finding 14 = .ok (.ireturn, 1) := by decide +kernel
theorem dM_finding_15 : decode cM_finding 15 = .ok (.iload_n 2, 1) := by decide +kernel
theorem dM_finding_16 : decode cM_finding 16 = .ok (.ifCond .ne 12, 3) := by decide +kernel
theorem dM_finding_19 : decode cM_finding 19 = .ok (.aload_n 0, 1) := by decide +kernel
theorem dM_finding_20 : decode cM_finding 20 = .ok (.getfield 35, 3) := by decide +kernel
theorem dM_finding_23 : decode cM_finding 23 = .ok (.iload_n 1, 1) := by decide +kernel
theorem dM_finding_24 : decode cM_finding 24 = .ok (.iaload, 1) := by decide +kernel
theorem dM_finding_25 : decode cM_finding 25 = .ok (.goto 81, 3) := by decide +kernel
theorem dM_finding_28 : decode cM_finding 28 = .ok (.iload_n 2, 1) := by decide +kernel
theorem dM_finding_29 : decode cM_finding 29 = .ok (.iconst 1, 1) := by decide +kernel
theorem dM_finding_30 : decode cM_finding 30 = .ok (.if_icmp .ne 12, 3) := by decide +kernel
theorem dM_finding_33 : decode cM_finding 33 = .ok (.aload_n 0, 1) := by decide +kernel
theorem dM_finding_34 : decode cM_finding 34 = .ok (.getfield 38, 3) := by decide +kernel
theorem dM_finding_37 : decode cM_finding 37 = .ok (.iload_n 1, 1) := by decide +kernel
theorem dM_finding_38 : decode cM_finding 38 = .ok (.iaload, 1) := by decide +kernel
theorem dM_finding_39 : decode cM_finding 39 = .ok (.goto 67, 3) := by decide +kernel
theorem dM_finding_42 : decode cM_finding 42 = .ok (.iload_n 2, 1) := by decide +kernel
theorem dM_finding_43 : decode cM_finding 43 = .ok (.iconst 2, 1) := by decide +kernel
theorem dM_finding_44 : decode cM_finding 44 = .ok (.if_icmp .ne 12, 3) := by decide +kernel
theorem dM_finding_47 : decode cM_finding 47 = .ok (.aload_n 0, 1) := by decide +kernel
theorem dM_finding_48 : decode cM_finding 48 = .ok (.getfield 41, 3) := by decide +kernel
theorem dM_finding_51 : decode cM_finding 51 = .ok (.iload_n 1, 1) := by decide +kernel
theorem dM_finding_52 : decode cM_finding 52 = .ok (.iaload, 1) := by decide +kernel
theorem dM_finding_53 : decode cM_finding 53 = .ok (.goto 53, 3) := by decide +kernel
theorem dM_finding_56 : decode cM_finding 56 = .ok (.iload_n 2, 1) := by decide +kernel
theorem dM_finding_57 : decode cM_finding 57 = .ok (.iconst 3, 1) := by decide +kernel
theorem dM_finding_58 : decode cM_finding 58 = .ok (.if_icmp .ne 12, 3) := by decide +kernel
theorem dM_finding_61 : decode cM_finding 61 = .ok (.aload_n 0, 1) := by decide +kernel
theorem dM_finding_62 : decode cM_finding 62 = .ok (.getfield 44, 3) := by decide +kernel
theorem dM_finding_65 : decode cM_finding 65 = .ok (.iload_n 1, 1) := by decide +kernel
theorem dM_finding_66 : decode cM_finding 66 = .ok (.iaload, 1) := by decide +kernel
theorem dM_finding_67 : decode cM_finding 67 = .ok (.goto 39, 3) := by decide +kernel
theorem dM_finding_70 : decode cM_finding 70 = .ok (.iload_n 2, 1) := by decide +kernel
theorem dM_finding_71 : decode cM_finding 71 = .ok (.iconst 4, 1) := by decide +kernel
theorem dM_finding_72 : decode cM_finding 72 = .ok (.if_icmp .ne 12, 3) := by decide +kernel
theorem dM_finding_75 : decode cM_finding 75 = .ok (.aload_n 0, 1) := by decide +kernel
theorem dM_finding_76 : decode cM_finding 76 = .ok (.getfield 47, 3) := by decide +kernel
theorem dM_finding_79 : decode cM_finding 79 = .ok (.iload_n 1, 1) := by decide +kernel
theorem dM_finding_80 : decode cM_finding 80 = .ok (.iaload, 1) := by decide +kernel
theorem dM_finding_81 : decode cM_finding 81 = .ok (.goto 25, 3) := by decide +kernel
theorem dM_finding_84 : decode cM_finding 84 = .ok (.iload_n 2, 1) := by decide +kernel
theorem dM_finding_85 : decode cM_finding 85 = .ok (.iconst 5, 1) := by decide +kernel
theorem dM_finding_86 : decode cM_finding 86 = .ok (.if_icmp .ne 19, 3) := by decide +kernel
theorem dM_finding_89 : decode cM_finding 89 = .ok (.aload_n 0, 1) := by decide +kernel
theorem dM_finding_90 : decode cM_finding 90 = .ok (.iload_n 1, 1) := by decide +kernel
theorem dM_finding_91 : decode cM_finding 91 = .ok (.invokevirtual 104, 3) := by decide +kernel
theorem dM_finding_94 : decode cM_finding 94 = .ok (.ifCond .eq 7, 3) := by decide +kernel
theorem dM_finding_97 : decode cM_finding 97 = .ok (.iconst 1, 1) := by decide +kernel
theorem dM_finding_98 : decode cM_finding 98 = .ok (.goto 8, 3) := by decide +kernel
theorem dM_finding_101 : decode cM_finding 101 = .ok (.iconst 0, 1) := by decide +kernel
theorem dM_finding_102 : decode cM_finding 102 = .ok (.goto 4, 3) := by decide +kernel
theorem dM_finding_105 : decode cM_finding 105 = .ok (.iconst (-1), 1) := by decide +kernel
theorem dM_finding_106 : decode cM_finding 106 = .ok (.ireturn, 1) := by decide +kernel
theorem dM_count_0 : decode cM_count 0 = .ok (.aload_n 0, 1) := by decide +kernel
theorem dM_count_1 : decode cM_count 1 = .ok (.iconst 0, 1) := by decide +kernel
theorem dM_count_2 : decode cM_count 2 = .ok (.putfield 62, 3) := by decide +kernel
theorem dM_count_5 : decode cM_count 5 = .ok (.iconst 0, 1) := by decide +kernel
theorem dM_count_6 : decode cM_count 6 = .ok (.istore_n 2, 1) := by decide +kernel
theorem dM_count_7 : decode cM_count 7 = .ok (.iconst 0, 1) := by decide +kernel
theorem dM_count_8 : decode cM_count 8 = .ok (.istore_n 3, 1) := by decide +kernel
theorem dM_count_9 : decode cM_count 9 = .ok (.iload_n 3, 1) := by decide +kernel
theorem dM_count_10 : decode cM_count 10 = .ok (.bipush 100, 2) := by decide +kernel
theorem dM_count_12 : decode cM_count 12 = .ok (.if_icmp .ge 33, 3) := by decide +kernel
theorem dM_count_15 : decode cM_count 15 = .ok (.iload_n 3, 1) := by decide +kernel
theorem dM_count_16 : decode cM_count 16 = .ok (.aload_n 0, 1) := by decide +kernel
theorem dM_count_17 : decode cM_count 17 = .ok (.getfield 98, 3) := by decide +kernel
theorem dM_count_20 : decode cM_count 20 = .ok (.if_icmp .ge 25, 3) := by decide +kernel
theorem dM_count_23 : decode cM_count 23 = .ok (.iload_n 2, 1) := by decide +kernel
theorem dM_count_24 : decode cM_count 24 = .ok (.aload_n 0, 1) := by decide +kernel
theorem dM_count_25 : decode cM_count 25 = .ok (.iload_n 3, 1) := by decide +kernel
theorem dM_count_26 : decode cM_count 26 = .ok (.invokevirtual 104, 3) := by decide +kernel
theorem dM_count_29 : decode cM_count 29 = .ok (.ifCond .eq 7, 3) := by decide +kernel
theorem dM_count_32 : decode cM_count 32 = .ok (.iconst 1, 1) := by decide +kernel
theorem dM_count_33 : decode cM_count 33 = .ok (.goto 4, 3) := by decide +kernel
theorem dM_count_36 : decode cM_count 36 = .ok (.iconst 0, 1) := by decide +kernel
theorem dM_count_37 : decode cM_count 37 = .ok (.iadd, 1) := by decide +kernel
theorem dM_count_38 : decode cM_count 38 = .ok (.istore_n 2, 1) := by decide +kernel
theorem dM_count_39 : decode cM_count 39 = .ok (.iinc 3 1, 3) := by decide +kernel
theorem dM_count_42 : decode cM_count 42 = .ok (.goto (-33), 3) := by decide +kernel
theorem dM_count_45 : decode cM_count 45 = .ok (.iload_n 1, 1) := by decide +kernel
theorem dM_count_46 : decode cM_count 46 = .ok (.ifCond .ne 10, 3) := by decide +kernel
theorem dM_count_49 : decode cM_count 49 = .ok (.aload_n 0, 1) := by decide +kernel
theorem dM_count_50 : decode cM_count 50 = .ok (.getfield 65, 3) := by decide +kernel
theorem dM_count_53 : decode cM_count 53 = .ok (.goto 37, 3) := by decide +kernel
theorem dM_count_56 : decode cM_count 56 = .ok (.iload_n 1, 1) := by decide +kernel
theorem dM_count_57 : decode cM_count 57 = .ok (.iconst 1, 1) := by decide +kernel
theorem dM_count_58 : decode cM_count 58 = .ok (.if_icmp .ne 10, 3) := by decide +kernel
theorem dM_count_61 : decode cM_count 61 = .ok (.aload_n 0, 1) := by decide +kernel
theorem dM_count_62 : decode cM_count 62 = .ok (.getfield 19, 3) := by decide +kernel
theorem dM_count_65 : decode cM_count 65 = .ok (.goto 25, 3) := by decide +kernel
theorem dM_count_68 : decode cM_count 68 = .ok (.iload_n 1, 1) := by decide +kernel
theorem dM_count_69 : decode cM_count 69 = .ok (.iconst 2, 1) := by decide +kernel
theorem dM_count_70 : decode cM_count 70 = .ok (.if_icmp .ne 10, 3) := by decide +kernel
theorem dM_count_73 : decode cM_count 73 = .ok (.aload_n 0, 1) := by decide +kernel
theorem dM_count_74 : decode cM_count 74 = .ok (.getfield 98, 3) := by decide +kernel
theorem dM_count_77 : decode cM_count 77 = .ok (.goto 13, 3) := by decide +kernel
theorem dM_count_80 : decode cM_count 80 = .ok (.iload_n 1, 1) := by decide +kernel
theorem dM_count_81 : decode cM_count 81 = .ok (.iconst 3, 1) := by decide +kernel
theorem dM_count_82 : decode cM_count 82 = .ok (.if_icmp .ne 7, 3) := by decide +kernel
theorem dM_count_85 : decode cM_count 85 = .ok (.iload_n 2, 1) := by decide +kernel
theorem dM_count_86 : decode cM_count 86 = .ok (.goto 4, 3) := by decide +kernel
theorem dM_count_89 : decode cM_count 89 = .ok (.iconst (-1), 1) := by decide +kernel
theorem dM_count_90 : decode cM_count 90 = .ok (.ireturn, 1) := by decide +kernel

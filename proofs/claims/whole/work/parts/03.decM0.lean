theorem dM_init_0 : decode cM_init 0 = .ok (.aload_n 0, 1) := by decide +kernel
theorem dM_init_1 : decode cM_init 1 = .ok (.invokespecial 1, 3) := by decide +kernel
theorem dM_init_4 : decode cM_init 4 = .ok (.aload_n 0, 1) := by decide +kernel
theorem dM_init_5 : decode cM_init 5 = .ok (.bipush 60, 2) := by decide +kernel
theorem dM_init_7 : decode cM_init 7 = .ok (.newarray .int, 2) := by decide +kernel
theorem dM_init_9 : decode cM_init 9 = .ok (.putfield 7, 3) := by decide +kernel
theorem dM_init_12 : decode cM_init 12 = .ok (.aload_n 0, 1) := by decide +kernel
theorem dM_init_13 : decode cM_init 13 = .ok (.bipush 60, 2) := by decide +kernel
theorem dM_init_15 : decode cM_init 15 = .ok (.newarray .int, 2) := by decide +kernel
theorem dM_init_17 : decode cM_init 17 = .ok (.putfield 13, 3) := by decide +kernel
theorem dM_init_20 : decode cM_init 20 = .ok (.aload_n 0, 1) := by decide +kernel
theorem dM_init_21 : decode cM_init 21 = .ok (.sipush 720, 3) := by decide +kernel
theorem dM_init_24 : decode cM_init 24 = .ok (.newarray .int, 2) := by decide +kernel
theorem dM_init_26 : decode cM_init 26 = .ok (.putfield 16, 3) := by decide +kernel
theorem dM_init_29 : decode cM_init 29 = .ok (.aload_n 0, 1) := by decide +kernel
theorem dM_init_30 : decode cM_init 30 = .ok (.iconst 1, 1) := by decide +kernel
theorem dM_init_31 : decode cM_init 31 = .ok (.putfield 19, 3) := by decide +kernel
theorem dM_init_34 : decode cM_init 34 = .ok (.aload_n 0, 1) := by decide +kernel
theorem dM_init_35 : decode cM_init 35 = .ok (.sipush 200, 3) := by decide +kernel
theorem dM_init_38 : decode cM_init 38 = .ok (.newarray .int, 2) := by decide +kernel
theorem dM_init_40 : decode cM_init 40 = .ok (.putfield 23, 3) := by decide +kernel
theorem dM_init_43 : decode cM_init 43 = .ok (.aload_n 0, 1) := by decide +kernel
theorem dM_init_44 : decode cM_init 44 = .ok (.sipush 200, 3) := by decide +kernel
theorem dM_init_47 : decode cM_init 47 = .ok (.newarray .int, 2) := by decide +kernel
theorem dM_init_49 : decode cM_init 49 = .ok (.putfield 26, 3) := by decide +kernel
theorem dM_init_52 : decode cM_init 52 = .ok (.aload_n 0, 1) := by decide +kernel
theorem dM_init_53 : decode cM_init 53 = .ok (.sipush 200, 3) := by decide +kernel
theorem dM_init_56 : decode cM_init 56 = .ok (.newarray .int, 2) := by decide +kernel
theorem dM_init_58 : decode cM_init 58 = .ok (.putfield 29, 3) := by decide +kernel
theorem dM_init_61 : decode cM_init 61 = .ok (.aload_n 0, 1) := by decide +kernel
theorem dM_init_62 : decode cM_init 62 = .ok (.sipush 2400, 3) := by decide +kernel
theorem dM_init_65 : decode cM_init 65 = .ok (.newarray .int, 2) := by decide +kernel
theorem dM_init_67 : decode cM_init 67 = .ok (.putfield 32, 3) := by decide +kernel
theorem dM_init_70 : decode cM_init 70 = .ok (.aload_n 0, 1) := by decide +kernel
theorem dM_init_71 : decode cM_init 71 = .ok (.bipush 100, 2) := by decide +kernel
theorem dM_init_73 : decode cM_init 73 = .ok (.newarray .int, 2) := by decide +kernel
theorem dM_init_75 : decode cM_init 75 = .ok (.putfield 35, 3) := by decide +kernel
theorem dM_init_78 : decode cM_init 78 = .ok (.aload_n 0, 1) := by decide +kernel
theorem dM_init_79 : decode cM_init 79 = .ok (.bipush 100, 2) := by decide +kernel
theorem dM_init_81 : decode cM_init 81 = .ok (.newarray .int, 2) := by decide +kernel
theorem dM_init_83 : decode cM_init 83 = .ok (.putfield 38, 3) := by decide +kernel
theorem dM_init_86 : decode cM_init 86 = .ok (.aload_n 0, 1) := by decide +kernel
theorem dM_init_87 : decode cM_init 87 = .ok (.bipush 100, 2) := by decide +kernel
theorem dM_init_89 : decode cM_init 89 = .ok (.newarray .int, 2) := by decide +kernel
theorem dM_init_91 : decode cM_init 91 = .ok (.putfield 41, 3) := by decide +kernel
theorem dM_init_94 : decode cM_init 94 = .ok (.aload_n 0, 1) := by decide +kernel
theorem dM_init_95 : decode cM_init 95 = .ok (.bipush 100, 2) := by decide +kernel
theorem dM_init_97 : decode cM_init 97 = .ok (.newarray .int, 2) := by decide +kernel
theorem dM_init_99 : decode cM_init 99 = .ok (.putfield 44, 3) := by decide +kernel
theorem dM_init_102 : decode cM_init 102 = .ok (.aload_n 0, 1) := by decide +kernel
theorem dM_init_103 : decode cM_init 103 = .ok (.bipush 100, 2) := by decide +kernel
theorem dM_init_105 : decode cM_init 105 = .ok (.newarray .int, 2) := by decide +kernel
theorem dM_init_107 : decode cM_init 107 = .ok (.putfield 47, 3) := by decide +kernel
theorem dM_init_110 : decode cM_init 110 = .ok (.aload_n 0, 1) := by decide +kernel
theorem dM_init_111 : decode cM_init 111 = .ok (.bipush 100, 2) := by decide +kernel
theorem dM_init_113 : decode cM_init 113 = .ok (.newarray .int, 2) := by decide +kernel
theorem dM_init_115 : decode cM_init 115 = .ok (.putfield 50, 3) := by decide +kernel
theorem dM_init_118 : decode cM_init 118 = .ok (.aload_n 0, 1) := by decide +kernel
theorem dM_init_119 : decode cM_init 119 = .ok (.sipush 6000, 3) := by decide +kernel
theorem dM_init_122 : decode cM_init 122 = .ok (.newarray .int, 2) := by decide +kernel
theorem dM_init_124 : decode cM_init 124 = .ok (.putfield 53, 3) := by decide +kernel
theorem dM_init_127 : decode cM_init 127 = .ok (.aload_n 0, 1) := by decide +kernel
theorem dM_init_128 : decode cM_init 128 = .ok (.sipush 6000, 3) := by decide +kernel
theorem dM_init_131 : decode cM_init 131 = .ok (.newarray .int, 2) := by decide +kernel
theorem dM_init_133 : decode cM_init 133 = .ok (.putfield 56, 3) := by decide +kernel
theorem dM_init_136 : decode cM_init 136 = .ok (.aload_n 0, 1) := by decide +kernel
theorem dM_init_137 : decode cM_init 137 = .ok (.bipush 12, 2) := by decide +kernel
theorem dM_init_139 : decode cM_init 139 = .ok (.newarray .int, 2) := by decide +kernel
theorem dM_init_141 : decode cM_init 141 = .ok (.putfield 59, 3) := by decide +kernel
theorem dM_init_144 : decode cM_init 144 = .ok (.aload_n 0, 1) := by decide +kernel
theorem dM_init_145 : decode cM_init 145 = .ok (.getfield 23, 3) := by decide +kernel
theorem dM_init_148 : decode cM_init 148 = .ok (.iconst 0, 1) := by decide +kernel
theorem dM_init_149 : decode cM_init 149 = .ok (.iconst (-1), 1) := by decide +kernel
theorem dM_init_150 : decode cM_init 150 = .ok (.iastore, 1) := by decide +kernel
theorem dM_init_151 : decode cM_init 151 = .ok (.aload_n 0, 1) := by decide +kernel
theorem dM_init_152 : decode cM_init 152 = .ok (.getfield 26, 3) := by decide +kernel
theorem dM_init_155 : decode cM_init 155 = .ok (.iconst 0, 1) := by decide +kernel
theorem dM_init_156 : decode cM_init 156 = .ok (.iconst (-1), 1) := by decide +kernel
theorem dM_init_157 : decode cM_init 157 = .ok (.iastore, 1) := by decide +kernel
theorem dM_init_158 : decode cM_init 158 = .ok (.return_, 1) := by decide +kernel
theorem dM_thrown_0 : decode cM_thrown 0 = .ok (.aload_n 0, 1) := by decide +kernel
theorem dM_thrown_1 : decode cM_thrown 1 = .ok (.getfield 62, 3) := by decide +kernel
theorem dM_thrown_4 : decode cM_thrown 4 = .ok (.ireturn, 1) := by decide +kernel
theorem dM_isObject_0 : decode cM_isObject 0 = .ok (.iload_n 1, 1) := by decide +kernel
theorem dM_isObject_1 : decode cM_isObject 1 = .ok (.ifCond .lt 15, 3) := by decide +kernel
theorem dM_isObject_4 : decode cM_isObject 4 = .ok (.iload_n 1, 1) := by decide +kernel
theorem dM_isObject_5 : decode cM_isObject 5 = .ok (.aload_n 0, 1) := by decide +kernel
theorem dM_isObject_6 : decode cM_isObject 6 = .ok (.getfield 65, 3) := by decide +kernel
theorem dM_isObject_9 : decode cM_isObject 9 = .ok (.if_icmp .ge 7, 3) := by decide +kernel
theorem dM_isObject_12 : decode cM_isObject 12 = .ok (.iconst 1, 1) := by decide +kernel
theorem dM_isObject_13 : decode cM_isObject 13 = .ok (.goto 4, 3) := by decide +kernel
theorem dM_isObject_16 : decode cM_isObject 16 = .ok (.iconst 0, 1) := by decide +kernel
theorem dM_isObject_17 : decode cM_isObject 17 = .ok (.ireturn, 1) := by decide +kernel
theorem dM_above_0 : decode cM_above 0 = .ok (.aload_n 0, 1) := by decide +kernel
theorem dM_above_1 : decode cM_above 1 = .ok (.getfield 23, 3) := by decide +kernel
theorem dM_above_4 : decode cM_above 4 = .ok (.aload_n 0, 1) := by decide +kernel
theorem dM_above_5 : decode cM_above 5 = .ok (.getfield 7, 3) := by decide +kernel
theorem dM_above_8 : decode cM_above 8 = .ok (.iload_n 1, 1) := by decide +kernel
theorem dM_above_9 : decode cM_above 9 = .ok (.iaload, 1) := by decide +kernel
theorem dM_above_10 : decode cM_above 10 = .ok (.iaload, 1) := by decide +kernel
theorem dM_above_11 : decode cM_above 11 = .ok (.ireturn, 1) := by decide +kernel
theorem dM_empty_0 : decode cM_empty 0 = .ok (.iconst 0, 1) := by decide +kernel
theorem dM_empty_1 : decode cM_empty 1 = .ok (.istore_n 2, 1) := by decide +kernel
theorem dM_empty_2 : decode cM_empty 2 = .ok (.iload_n 2, 1) := by decide +kernel
theorem dM_empty_3 : decode cM_empty 3 = .ok (.aload_n 0, 1) := by decide +kernel
theorem dM_empty_4 : decode cM_empty 4 = .ok (.getfield 19, 3) := by decide +kernel
theorem dM_empty_7 : decode cM_empty 7 = .ok (.if_icmp .ge 31, 3) := by decide +kernel
theorem dM_empty_10 : decode cM_empty 10 = .ok (.aload_n 0, 1) := by decide +kernel
theorem dM_empty_11 : decode cM_empty 11 = .ok (.getfield 26, 3) := by decide +kernel
theorem dM_empty_14 : decode cM_empty 14 = .ok (.iload_n 2, 1) := by decide +kernel
theorem dM_empty_15 : decode cM_empty 15 = .ok (.iaload, 1) := by decide +kernel
theorem dM_empty_16 : decode cM_empty 16 = .ok (.iconst (-1), 1) := by decide +kernel
theorem dM_empty_17 : decode cM_empty 17 = .ok (.if_icmp .ne 15, 3) := by decide +kernel
theorem dM_empty_20 : decode cM_empty 20 = .ok (.aload_n 0, 1) := by decide +kernel
theorem dM_empty_21 : decode cM_empty 21 = .ok (.getfield 23, 3) := by decide +kernel
theorem dM_empty_24 : decode cM_empty 24 = .ok (.iload_n 2, 1) := by decide +kernel
theorem dM_empty_25 : decode cM_empty 25 = .ok (.iaload, 1) := by decide +kernel
theorem dM_empty_26 : decode cM_empty 26 = .ok (.iload_n 1, 1) := by decide +kernel
theorem dM_empty_27 : decode cM_empty 27 = .ok (.if_icmp .ne 5, 3) := by decide +kernel
theorem dM_empty_30 : decode cM_empty 30 = .ok (.iload_n 2, 1) := by decide +kernel
theorem dM_empty_31 : decode cM_empty 31 = .ok (.ireturn, 1) := by decide +kernel
theorem dM_empty_32 : decode cM_empty 32 = .ok (.iinc 2 1, 3) := by decide +kernel
theorem dM_empty_35 : decode cM_empty 35 = .ok (.goto (-33), 3) := by decide +kernel
theorem dM_empty_38 : decode cM_empty 38 = .ok (.iconst (-1), 1) := by decide +kernel
theorem dM_empty_39 : decode cM_empty 39 = .ok (.ireturn, 1) := by decide +kernel
theorem dM_child_0 : decode cM_child 0 = .ok (.iconst 0, 1) := by decide +kernel
theorem dM_child_1 : decode cM_child 1 = .ok (.istore_n 3, 1) := by decide +kernel
theorem dM_child_2 : decode cM_child 2 = .ok (.iload_n 3, 1) := by decide +kernel
theorem dM_child_3 : decode cM_child 3 = .ok (.aload_n 0, 1) := by decide +kernel
theorem dM_child_4 : decode cM_child 4 = .ok (.getfield 19, 3) := by decide +kernel
theorem dM_child_7 : decode cM_child 7 = .ok (.if_icmp .ge 43, 3) := by decide +kernel
theorem dM_child_10 : decode cM_child 10 = .ok (.aload_n 0, 1) := by decide +kernel
theorem dM_child_11 : decode cM_child 11 = .ok (.getfield 26, 3) := by decide +kernel
theorem dM_child_14 : decode cM_child 14 = .ok (.iload_n 3, 1) := by decide +kernel
theorem dM_child_15 : decode cM_child 15 = .ok (.iaload, 1) := by decide +kernel
theorem dM_child_16 : decode cM_child 16 = .ok (.iload_n 1, 1) := by decide +kernel
theorem dM_child_17 : decode cM_child 17 = .ok (.if_icmp .ne 27, 3) := by decide +kernel
theorem dM_child_20 : decode cM_child 20 = .ok (.aload_n 0, 1) := by decide +kernel
theorem dM_child_21 : decode cM_child 21 = .ok (.getfield 32, 3) := by decide +kernel
theorem dM_child_24 : decode cM_child 24 = .ok (.bipush 12, 2) := by decide +kernel
theorem dM_child_26 : decode cM_child 26 = .ok (.iload_n 3, 1) := by decide +kernel
theorem dM_child_27 : decode cM_child 27 = .ok (.imul, 1) := by decide +kernel
theorem dM_child_28 : decode cM_child 28 = .ok (.aload_n 0, 1) := by decide +kernel
theorem dM_child_29 : decode cM_child 29 = .ok (.getfield 29, 3) := by decide +kernel
theorem dM_child_32 : decode cM_child 32 = .ok (.iload_n 3, 1) := by decide +kernel
theorem dM_child_33 : decode cM_child 33 = .ok (.iaload, 1) := by decide +kernel
theorem dM_child_34 : decode cM_child 34 = .ok (.iadd, 1) := by decide +kernel
theorem dM_child_35 : decode cM_child 35 = .ok (.iconst 1, 1) := by decide +kernel
theorem dM_child_36 : decode cM_child 36 = .ok (.isub, 1) := by decide +kernel
theorem dM_child_37 : decode cM_child 37 = .ok (.iaload, 1) := by decide +kernel
theorem dM_child_38 : decode cM_child 38 = .ok (.iload_n 2, 1) := by decide +kernel
theorem dM_child_39 : decode cM_child 39 = .ok (.if_icmp .ne 5, 3) := by decide +kernel
theorem dM_child_42 : decode cM_child 42 = .ok (.iload_n 3, 1) := by decide +kernel
theorem dM_child_43 : decode cM_child 43 = .ok (.ireturn, 1) := by decide +kernel
theorem dM_child_44 : decode cM_child 44 = .ok (.iinc 3 1, 3) := by decide +kernel
theorem dM_child_47 : decode cM_child 47 = .ok (.goto (-45), 3) := by decide +kernel
theorem dM_child_50 : decode cM_child 50 = .ok (.iconst (-1), 1) := by decide +kernel
theorem dM_child_51 : decode cM_child 51 = .ok (.ireturn, 1) := by decide +kernel
theorem dM_makeEmpty_0 : decode cM_makeEmpty 0 = .ok (.aload_n 0, 1) := by decide +kernel
theorem dM_makeEmpty_1 : decode cM_makeEmpty 1 = .ok (.getfield 19, 3) := by decide +kernel
theorem dM_makeEmpty_4 : decode cM_makeEmpty 4 = .ok (.istore_n 2, 1) := by decide +kernel
theorem dM_makeEmpty_5 : decode cM_makeEmpty 5 = .ok (.aload_n 0, 1) := by decide +kernel
theorem dM_makeEmpty_6 : decode cM_makeEmpty 6 = .ok (.getfield 23, 3) := by decide +kernel
theorem dM_makeEmpty_9 : decode cM_makeEmpty 9 = .ok (.iload_n 2, 1) := by decide +kernel
theorem dM_makeEmpty_10 : decode cM_makeEmpty 10 = .ok (.iload_n 1, 1) := by decide +kernel
theorem dM_makeEmpty_11 : decode cM_makeEmpty 11 = .ok (.iastore, 1) := by decide +kernel
theorem dM_makeEmpty_12 : decode cM_makeEmpty 12 = .ok (.aload_n 0, 1) := by decide +kernel
theorem dM_makeEmpty_13 : decode cM_makeEmpty 13 = .ok (.getfield 26, 3) := by decide +kernel
theorem dM_makeEmpty_16 : decode cM_makeEmpty 16 = .ok (.iload_n 2, 1) := by decide +kernel
theorem dM_makeEmpty_17 : decode cM_makeEmpty 17 = .ok (.iconst (-1), 1) := by decide +kernel
theorem dM_makeEmpty_18 : decode cM_makeEmpty 18 = .ok (.iastore, 1) := by decide +kernel
theorem dM_makeEmpty_19 : decode cM_makeEmpty 19 = .ok (.aload_n 0, 1) := by decide +kernel
theorem dM_makeEmpty_20 : decode cM_makeEmpty 20 = .ok (.getfield 29, 3) := by decide +kernel
theorem dM_makeEmpty_23 : decode cM_makeEmpty 23 = .ok (.iload_n 2, 1) := by decide +kernel
theorem dM_makeEmpty_24 : decode cM_makeEmpty 24 = .ok (.iconst 0, 1) := by decide +kernel
theorem dM_makeEmpty_25 : decode cM_makeEmpty 25 = .ok (.iastore, 1) := by decide +kernel
theorem dM_makeEmpty_26 : decode cM_makeEmpty 26 = .ok (.aload_n 0, 1) := by decide +kernel
theorem dM_makeEmpty_27 : decode cM_makeEmpty 27 = .ok (.dup, 1) := by decide +kernel
theorem dM_makeEmpty_28 : decode cM_makeEmpty 28 = .ok (.getfield 19, 3) := by decide +kernel
theorem dM_makeEmpty_31 : decode cM_makeEmpty 31 = .ok (.iconst 1, 1) := by decide +kernel
theorem dM_makeEmpty_32 : decode cM_makeEmpty 32 = .ok (.iadd, 1) := by decide +kernel
theorem dM_makeEmpty_33 : decode cM_makeEmpty 33 = .ok (.putfield 19, 3) := by decide +kernel
theorem dM_makeEmpty_36 : decode cM_makeEmpty 36 = .ok (.iload_n 2, 1) := by decide +kernel
theorem dM_makeEmpty_37 : decode cM_makeEmpty 37 = .ok (.ireturn, 1) := by decide +kernel
theorem dM_makeChild_0 : decode cM_makeChild 0 = .ok (.aload_n 0, 1) := by decide +kernel
theorem dM_makeChild_1 : decode cM_makeChild 1 = .ok (.getfield 19, 3) := by decide +kernel
theorem dM_makeChild_4 : decode cM_makeChild 4 = .ok (.istore_n 3, 1) := by decide +kernel
theorem dM_makeChild_5 : decode cM_makeChild 5 = .ok (.aload_n 0, 1) := by decide +kernel
theorem dM_makeChild_6 : decode cM_makeChild 6 = .ok (.getfield 23, 3) := by decide +kernel
theorem dM_makeChild_9 : decode cM_makeChild 9 = .ok (.iload_n 3, 1) := by decide +kernel
theorem dM_makeChild_10 : decode cM_makeChild 10 = .ok (.aload_n 0, 1) := by decide +kernel
theorem dM_makeChild_11 : decode cM_makeChild 11 = .ok (.getfield 23, 3) := by decide +kernel
theorem dM_makeChild_14 : decode cM_makeChild 14 = .ok (.iload_n 1, 1) := by decide +kernel
theorem dM_makeChild_15 : decode cM_makeChild 15 = .ok (.iaload, 1) := by decide +kernel
theorem dM_makeChild_16 : decode cM_makeChild 16 = .ok (.iastore, 1) := by decide +kernel
theorem dM_makeChild_17 : decode cM_makeChild 17 = .ok (.aload_n 0, 1) := by decide +kernel
theorem dM_makeChild_18 : decode cM_makeChild 18 = .ok (.getfield 26, 3) := by decide +kernel
theorem dM_makeChild_21 : decode cM_makeChild 21 = .ok (.iload_n 3, 1) := by decide +kernel
theorem dM_makeChild_22 : decode cM_makeChild 22 = .ok (.iload_n 1, 1) := by decide +kernel
theorem dM_makeChild_23 : decode cM_makeChild 23 = .ok (.iastore, 1) := by decide +kernel
theorem dM_makeChild_24 : decode cM_makeChild 24 = .ok (.aload_n 0, 1) := by decide +kernel
theorem dM_makeChild_25 : decode cM_makeChild 25 = .ok (.getfield 29, 3) := by decide +kernel
theorem dM_makeChild_28 : decode cM_makeChild 28 = .ok (.iload_n 3, 1) := by decide +kernel
theorem dM_makeChild_29 : decode cM_makeChild 29 = .ok (.aload_n 0, 1) := by decide +kernel
theorem dM_makeChild_30 : decode cM_makeChild 30 = .ok (.getfield 29, 3) := by decide +kernel
theorem dM_makeChild_33 : decode cM_makeChild 33 = .ok (.iload_n 1, 1) := by decide +kernel
theorem dM_makeChild_34 : decode cM_makeChild 34 = .ok (.iaload, 1) := by decide +kernel
theorem dM_makeChild_35 : decode cM_makeChild 35 = .ok (.iconst 1, 1) := by decide +kernel
theorem dM_makeChild_36 : decode cM_makeChild 36 = .ok (.iadd, 1) := by decide +kernel
theorem dM_makeChild_37 : decode cM_makeChild 37 = .ok (.iastore, 1) := by decide +kernel
theorem dM_makeChild_38 : decode cM_makeChild 38 = .ok (.iconst 0, 1) := by decide +kernel
theorem dM_makeChild_39 : decode cM_makeChild 39 = .ok (.istore 4, 2) := by decide +kernel
theorem dM_makeChild_41 : decode cM_makeChild 41 = .ok (.iload 4, 2) := by decide +kernel
theorem dM_makeChild_43 : decode cM_makeChild 43 = .ok (.aload_n 0, 1) := by decide +kernel
theorem dM_makeChild_44 : decode cM_makeChild 44 = .ok (.getfield 29, 3) := by decide +kernel
theorem dM_makeChild_47 : decode cM_makeChild 47 = .ok (.iload_n 1, 1) := by decide +kernel
theorem dM_makeChild_48 : decode cM_makeChild 48 = .ok (.iaload, 1) := by decide +kernel
theorem dM_makeChild_49 : decode cM_makeChild 49 = .ok (.if_icmp .ge 33, 3) := by decide +kernel
theorem dM_makeChild_52 : decode cM_makeChild 52 = .ok (.aload_n 0, 1) := by decide +kernel
theorem dM_makeChild_53 : decode cM_makeChild 53 = .ok (.getfield 32, 3) := by decide +kernel
theorem dM_makeChild_56 : decode cM_makeChild 56 = .ok (.bipush 12, 2) := by decide +kernel
theorem dM_makeChild_58 : decode cM_makeChild 58 = .ok (.iload_n 3, 1) := by decide +kernel
theorem dM_makeChild_59 : decode cM_makeChild 59 = .ok (.imul, 1) := by decide +kernel
theorem dM_makeChild_60 : decode cM_makeChild 60 = .ok (.iload 4, 2) := by decide +kernel
theorem dM_makeChild_62 : decode cM_makeChild 62 = .ok (.iadd, 1) := by decide +kernel
theorem dM_makeChild_63 : decode cM_makeChild 63 = .ok (.aload_n 0, 1) := by decide +kernel
theorem dM_makeChild_64 : decode cM_makeChild 64 = .ok (.getfield 32, 3) := by decide +kernel
theorem dM_makeChild_67 : decode cM_makeChild 67 = .ok (.bipush 12, 2) := by decide +kernel
theorem dM_makeChild_69 : decode cM_makeChild 69 = .ok (.iload_n 1, 1) := by decide +kernel
theorem dM_makeChild_70 : decode cM_makeChild 70 = .ok (.imul, 1) := by decide +kernel
theorem dM_makeChild_71 : decode cM_makeChild 71 = .ok (.iload 4, 2) := by decide +kernel
theorem dM_makeChild_73 : decode cM_makeChild 73 = .ok (.iadd, 1) := by decide +kernel
theorem dM_makeChild_74 : decode cM_makeChild 74 = .ok (.iaload, 1) := by decide +kernel
theorem dM_makeChild_75 : decode cM_makeChild 75 = .ok (.iastore, 1) := by decide +kernel
theorem dM_makeChild_76 : decode cM_makeChild 76 = .ok (.iinc 4 1, 3) := by decide +kernel
theorem dM_makeChild_79 : decode cM_makeChild 79 = .ok (.goto (-38), 3) := by decide +kernel
theorem dM_makeChild_82 : decode cM_makeChild 82 = .ok (.aload_n 0, 1) := by decide +kernel
theorem dM_makeChild_83 : decode cM_makeChild 83 = .ok (.getfield 32, 3) := by decide +kernel
theorem dM_makeChild_86 : decode cM_makeChild 86 = .ok (.bipush 12, 2) := by decide +kernel
theorem dM_makeChild_88 : decode cM_makeChild 88 = .ok (.iload_n 3, 1) := by decide +kernel
theorem dM_makeChild_89 : decode cM_makeChild 89 = .ok (.imul, 1) := by decide +kernel
theorem dM_makeChild_90 : decode cM_makeChild 90 = .ok (.aload_n 0, 1) := by decide +kernel
theorem dM_makeChild_91 : decode cM_makeChild 91 = .ok (.getfield 29, 3) := by decide +kernel
theorem dM_makeChild_94 : decode cM_makeChild 94 = .ok (.iload_n 1, 1) := by decide +kernel
theorem dM_makeChild_95 : decode cM_makeChild 95 = .ok (.iaload, 1) := by decide +kernel
theorem dM_makeChild_96 : decode cM_makeChild 96 = .ok (.iadd, 1) := by decide +kernel
theorem dM_makeChild_97 : decode cM_makeChild 97 = .ok (.iload_n 2, 1) := by decide +kernel
theorem dM_makeChild_98 : decode cM_makeChild 98 = .ok (.iastore, 1) := by decide +kernel
theorem dM_makeChild_99 : decode cM_makeChild 99 = .ok (.aload_n 0, 1) := by decide +kernel
theorem dM_makeChild_100 : decode cM_makeChild 100 = .ok (.dup, 1) := by decide +kernel
theorem dM_makeChild_101 : decode cM_makeChild 101 = .ok (.getfield 19, 3) := by decide +kernel
theorem dM_makeChild_104 : decode cM_makeChild 104 = .ok (.iconst 1, 1) := by decide +kernel
theorem dM_makeChild_105 : decode cM_makeChild 105 = .ok (.iadd, 1) := by decide +kernel
theorem dM_makeChild_106 : decode cM_makeChild 106 = .ok (.putfield 19, 3) := by decide +kernel
theorem dM_makeChild_109 : decode cM_makeChild 109 = .ok (.iload_n 3, 1) := by decide +kernel
theorem dM_makeChild_110 : decode cM_makeChild 110 = .ok (.ireturn, 1) := by decide +kernel
theorem dM_shapeFor_0 : decode cM_shapeFor 0 = .ok (.aload_n 0, 1) := by decide +kernel
theorem dM_shapeFor_1 : decode cM_shapeFor 1 = .ok (.iload_n 1, 1) := by decide +kernel
theorem dM_shapeFor_2 : decode cM_shapeFor 2 = .ok (.invokevirtual 68, 3) := by decide +kernel
theorem dM_shapeFor_5 : decode cM_shapeFor 5 = .ok (.istore_n 3, 1) := by decide +kernel
theorem dM_shapeFor_6 : decode cM_shapeFor 6 = .ok (.iconst 0, 1) := by decide +kernel
theorem dM_shapeFor_7 : decode cM_shapeFor 7 = .ok (.istore 4, 2) := by decide +kernel
theorem dM_shapeFor_9 : decode cM_shapeFor 9 = .ok (.iload_n 3, 1) := by decide +kernel
theorem dM_shapeFor_10 : decode cM_shapeFor 10 = .ok (.istore 5, 2) := by decide +kernel
theorem dM_shapeFor_12 : decode cM_shapeFor 12 = .ok (.iload 5, 2) := by decide +kernel
theorem dM_shapeFor_14 : decode cM_shapeFor 14 = .ok (.ifCond .lt 38, 3) := by decide +kernel
theorem dM_shapeFor_17 : decode cM_shapeFor 17 = .ok (.iload 4, 2) := by decide +kernel
theorem dM_shapeFor_19 : decode cM_shapeFor 19 = .ok (.iload_n 2, 1) := by decide +kernel
theorem dM_shapeFor_20 : decode cM_shapeFor 20 = .ok (.if_icmp .ge 32, 3) := by decide +kernel
theorem dM_shapeFor_23 : decode cM_shapeFor 23 = .ok (.aload_n 0, 1) := by decide +kernel
theorem dM_shapeFor_24 : decode cM_shapeFor 24 = .ok (.iload 5, 2) := by decide +kernel
theorem dM_shapeFor_26 : decode cM_shapeFor 26 = .ok (.aload_n 0, 1) := by decide +kernel
theorem dM_shapeFor_27 : decode cM_shapeFor 27 = .ok (.getfield 59, 3) := by decide +kernel
theorem dM_shapeFor_30 : decode cM_shapeFor 30 = .ok (.iload 4, 2) := by decide +kernel
theorem dM_shapeFor_32 : decode cM_shapeFor 32 = .ok (.iaload, 1) := by decide +kernel
theorem dM_shapeFor_33 : decode cM_shapeFor 33 = .ok (.invokevirtual 72, 3) := by decide +kernel
theorem dM_shapeFor_36 : decode cM_shapeFor 36 = .ok (.istore 5, 2) := by decide +kernel
theorem dM_shapeFor_38 : decode cM_shapeFor 38 = .ok (.iload 5, 2) := by decide +kernel
theorem dM_shapeFor_40 : decode cM_shapeFor 40 = .ok (.ifCond .lt (-28), 3) := by decide +kernel
theorem dM_shapeFor_43 : decode cM_shapeFor 43 = .ok (.iload 5, 2) := by decide +kernel
theorem dM_shapeFor_45 : decode cM_shapeFor 45 = .ok (.istore_n 3, 1) := by decide +kernel
theorem dM_shapeFor_46 : decode cM_shapeFor 46 = .ok (.iinc 4 1, 3) := by decide +kernel
theorem dM_shapeFor_49 : decode cM_shapeFor 49 = .ok (.goto (-37), 3) := by decide +kernel
theorem dM_shapeFor_52 : decode cM_shapeFor 52 = .ok (.iload_n 2, 1) := by decide +kernel
theorem dM_shapeFor_53 : decode cM_shapeFor 53 = .ok (.iload 4, 2) := by decide +kernel
theorem dM_shapeFor_55 : decode cM_shapeFor 55 = .ok (.isub, 1) := by decide +kernel
theorem dM_shapeFor_56 : decode cM_shapeFor 56 = .ok (.iload_n 3, 1) := by decide +kernel
theorem dM_shapeFor_57 : decode cM_shapeFor 57 = .ok (.ifCond .ge 7, 3) := by decide +kernel
theorem dM_shapeFor_60 : decode cM_shapeFor 60 = .ok (.iconst 1, 1) := by decide +kernel
theorem dM_shapeFor_61 : decode cM_shapeFor 61 = .ok (.goto 4, 3) := by decide +kernel
theorem dM_shapeFor_64 : decode cM_shapeFor 64 = .ok (.iconst 0, 1) := by decide +kernel
theorem dM_shapeFor_65 : decode cM_shapeFor 65 = .ok (.iadd, 1) := by decide +kernel
theorem dM_shapeFor_66 : decode cM_shapeFor 66 = .ok (.istore 6, 2) := by decide +kernel
theorem dM_shapeFor_68 : decode cM_shapeFor 68 = .ok (.aload_n 0, 1) := by decide +kernel
theorem dM_shapeFor_69 : decode cM_shapeFor 69 = .ok (.getfield 19, 3) := by decide +kernel
theorem dM_shapeFor_72 : decode cM_shapeFor 72 = .ok (.iload 6, 2) := by decide +kernel
theorem dM_shapeFor_74 : decode cM_shapeFor 74 = .ok (.iadd, 1) := by decide +kernel
theorem dM_shapeFor_75 : decode cM_shapeFor 75 = .ok (.sipush 200, 3) := by decide +kernel
theorem dM_shapeFor_78 : decode cM_shapeFor 78 = .ok (.if_icmp .le 5, 3) := by decide +kernel
theorem dM_shapeFor_81 : decode cM_shapeFor 81 = .ok (.iconst (-1), 1) := by decide +kernel
theorem dM_shapeFor_82 : decode cM_shapeFor 82 = .ok (.ireturn, 1) := by decide +kernel
theorem dM_shapeFor_83 : decode cM_shapeFor 83 = .ok (.iload_n 3, 1) := by decide +kernel
theorem dM_shapeFor_84 : decode cM_shapeFor 84 = .ok (.ifCond .ge 9, 3) := by decide +kernel
theorem dM_shapeFor_87 : decode cM_shapeFor 87 = .ok (.aload_n 0, 1) := by decide +kernel
theorem dM_shapeFor_88 : decode cM_shapeFor 88 = .ok (.iload_n 1, 1) := by decide +kernel
theorem dM_shapeFor_89 : decode cM_shapeFor 89 = .ok (.invokevirtual 76, 3) := by decide +kernel
theorem dM_shapeFor_92 : decode cM_shapeFor 92 = .ok (.istore_n 3, 1) := by decide +kernel
theorem dM_shapeFor_93 : decode cM_shapeFor 93 = .ok (.iload 4, 2) := by decide +kernel
theorem dM_shapeFor_95 : decode cM_shapeFor 95 = .ok (.iload_n 2, 1) := by decide +kernel
theorem dM_shapeFor_96 : decode cM_shapeFor 96 = .ok (.if_icmp .ge 22, 3) := by decide +kernel
theorem dM_shapeFor_99 : decode cM_shapeFor 99 = .ok (.aload_n 0, 1) := by decide +kernel
theorem dM_shapeFor_100 : decode cM_shapeFor 100 = .ok (.iload_n 3, 1) := by decide +kernel
theorem dM_shapeFor_101 : decode cM_shapeFor 101 = .ok (.aload_n 0, 1) := by decide +kernel
theorem dM_shapeFor_102 : decode cM_shapeFor 102 = .ok (.getfield 59, 3) := by decide +kernel
theorem dM_shapeFor_105 : decode cM_shapeFor 105 = .ok (.iload 4, 2) := by decide +kernel
theorem dM_shapeFor_107 : decode cM_shapeFor 107 = .ok (.iaload, 1) := by decide +kernel
theorem dM_shapeFor_108 : decode cM_shapeFor 108 = .ok (.invokevirtual 79, 3) := by decide +kernel
theorem dM_shapeFor_111 : decode cM_shapeFor 111 = .ok (.istore_n 3, 1) := by decide +kernel
theorem dM_shapeFor_112 : decode cM_shapeFor 112 = .ok (.iinc 4 1, 3) := by decide +kernel
theorem dM_shapeFor_115 : decode cM_shapeFor 115 = .ok (.goto (-22), 3) := by decide +kernel
theorem dM_shapeFor_118 : decode cM_shapeFor 118 = .ok (.iload_n 3, 1) := by decide +kernel
theorem dM_shapeFor_119 : decode cM_shapeFor 119 = .ok (.ireturn, 1) := by decide +kernel
theorem dM_placeOf_0 : decode cM_placeOf 0 = .ok (.iconst 0, 1) := by decide +kernel
theorem dM_placeOf_1 : decode cM_placeOf 1 = .ok (.istore_n 3, 1) := by decide +kernel
theorem dM_placeOf_2 : decode cM_placeOf 2 = .ok (.iload_n 3, 1) := by decide +kernel
theorem dM_placeOf_3 : decode cM_placeOf 3 = .ok (.aload_n 0, 1) := by decide +kernel
theorem dM_placeOf_4 : decode cM_placeOf 4 = .ok (.getfield 29, 3) := by decide +kernel
theorem dM_placeOf_7 : decode cM_placeOf 7 = .ok (.iload_n 1, 1) := by decide +kernel
theorem dM_placeOf_8 : decode cM_placeOf 8 = .ok (.iaload, 1) := by decide +kernel
theorem dM_placeOf_9 : decode cM_placeOf 9 = .ok (.if_icmp .ge 26, 3) := by decide +kernel

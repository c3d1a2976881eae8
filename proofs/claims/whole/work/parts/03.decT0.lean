theorem dT_init_0 : decode cT_init 0 = .ok (.aload_n 0, 1) := by decide +kernel
theorem dT_init_1 : decode cT_init 1 = .ok (.invokespecial 3, 3) := by decide +kernel
theorem dT_init_4 : decode cT_init 4 = .ok (.aload_n 0, 1) := by decide +kernel
theorem dT_init_5 : decode cT_init 5 = .ok (.sipush 200, 3) := by decide +kernel
theorem dT_init_8 : decode cT_init 8 = .ok (.newarray .int, 2) := by decide +kernel
theorem dT_init_10 : decode cT_init 10 = .ok (.putfield 9, 3) := by decide +kernel
theorem dT_init_13 : decode cT_init 13 = .ok (.aload_n 0, 1) := by decide +kernel
theorem dT_init_14 : decode cT_init 14 = .ok (.sipush 200, 3) := by decide +kernel
theorem dT_init_17 : decode cT_init 17 = .ok (.newarray .int, 2) := by decide +kernel
theorem dT_init_19 : decode cT_init 19 = .ok (.putfield 15, 3) := by decide +kernel
theorem dT_init_22 : decode cT_init 22 = .ok (.aload_n 0, 1) := by decide +kernel
theorem dT_init_23 : decode cT_init 23 = .ok (.sipush 200, 3) := by decide +kernel
theorem dT_init_26 : decode cT_init 26 = .ok (.newarray .int, 2) := by decide +kernel
theorem dT_init_28 : decode cT_init 28 = .ok (.putfield 18, 3) := by decide +kernel
theorem dT_init_31 : decode cT_init 31 = .ok (.aload_n 0, 1) := by decide +kernel
theorem dT_init_32 : decode cT_init 32 = .ok (.sipush 200, 3) := by decide +kernel
theorem dT_init_35 : decode cT_init 35 = .ok (.newarray .int, 2) := by decide +kernel
theorem dT_init_37 : decode cT_init 37 = .ok (.putfield 21, 3) := by decide +kernel
theorem dT_init_40 : decode cT_init 40 = .ok (.aload_n 0, 1) := by decide +kernel
theorem dT_init_41 : decode cT_init 41 = .ok (.getfield 9, 3) := by decide +kernel
theorem dT_init_44 : decode cT_init 44 = .ok (.iconst 0, 1) := by decide +kernel
theorem dT_init_45 : decode cT_init 45 = .ok (.iconst (-1), 1) := by decide +kernel
theorem dT_init_46 : decode cT_init 46 = .ok (.iastore, 1) := by decide +kernel
theorem dT_init_47 : decode cT_init 47 = .ok (.aload_n 0, 1) := by decide +kernel
theorem dT_init_48 : decode cT_init 48 = .ok (.getfield 15, 3) := by decide +kernel
theorem dT_init_51 : decode cT_init 51 = .ok (.iconst 0, 1) := by decide +kernel
theorem dT_init_52 : decode cT_init 52 = .ok (.iconst (-1), 1) := by decide +kernel
theorem dT_init_53 : decode cT_init 53 = .ok (.iastore, 1) := by decide +kernel
theorem dT_init_54 : decode cT_init 54 = .ok (.aload_n 0, 1) := by decide +kernel
theorem dT_init_55 : decode cT_init 55 = .ok (.getfield 18, 3) := by decide +kernel
theorem dT_init_58 : decode cT_init 58 = .ok (.iconst 0, 1) := by decide +kernel
theorem dT_init_59 : decode cT_init 59 = .ok (.iconst (-1), 1) := by decide +kernel
theorem dT_init_60 : decode cT_init 60 = .ok (.iastore, 1) := by decide +kernel
theorem dT_init_61 : decode cT_init 61 = .ok (.aload_n 0, 1) := by decide +kernel
theorem dT_init_62 : decode cT_init 62 = .ok (.iconst 1, 1) := by decide +kernel
theorem dT_init_63 : decode cT_init 63 = .ok (.putfield 24, 3) := by decide +kernel
theorem dT_init_66 : decode cT_init 66 = .ok (.return_, 1) := by decide +kernel
theorem dT_has_0 : decode cT_has 0 = .ok (.iload_n 1, 1) := by decide +kernel
theorem dT_has_1 : decode cT_has 1 = .ok (.ifCond .lt 15, 3) := by decide +kernel
theorem dT_has_4 : decode cT_has 4 = .ok (.iload_n 1, 1) := by decide +kernel
theorem dT_has_5 : decode cT_has 5 = .ok (.aload_n 0, 1) := by decide +kernel
theorem dT_has_6 : decode cT_has 6 = .ok (.getfield 24, 3) := by decide +kernel
theorem dT_has_9 : decode cT_has 9 = .ok (.if_icmp .ge 7, 3) := by decide +kernel
theorem dT_has_12 : decode cT_has 12 = .ok (.iconst 1, 1) := by decide +kernel
theorem dT_has_13 : decode cT_has 13 = .ok (.goto 4, 3) := by decide +kernel
theorem dT_has_16 : decode cT_has 16 = .ok (.iconst 0, 1) := by decide +kernel
theorem dT_has_17 : decode cT_has 17 = .ok (.ireturn, 1) := by decide +kernel
theorem dT_emptyOf_0 : decode cT_emptyOf 0 = .ok (.iconst 0, 1) := by decide +kernel
theorem dT_emptyOf_1 : decode cT_emptyOf 1 = .ok (.istore_n 2, 1) := by decide +kernel
theorem dT_emptyOf_2 : decode cT_emptyOf 2 = .ok (.iload_n 2, 1) := by decide +kernel
theorem dT_emptyOf_3 : decode cT_emptyOf 3 = .ok (.aload_n 0, 1) := by decide +kernel
theorem dT_emptyOf_4 : decode cT_emptyOf 4 = .ok (.getfield 24, 3) := by decide +kernel
theorem dT_emptyOf_7 : decode cT_emptyOf 7 = .ok (.if_icmp .ge 31, 3) := by decide +kernel
theorem dT_emptyOf_10 : decode cT_emptyOf 10 = .ok (.aload_n 0, 1) := by decide +kernel
theorem dT_emptyOf_11 : decode cT_emptyOf 11 = .ok (.getfield 15, 3) := by decide +kernel
theorem dT_emptyOf_14 : decode cT_emptyOf 14 = .ok (.iload_n 2, 1) := by decide +kernel
theorem dT_emptyOf_15 : decode cT_emptyOf 15 = .ok (.iaload, 1) := by decide +kernel
theorem dT_emptyOf_16 : decode cT_emptyOf 16 = .ok (.iconst (-1), 1) := by decide +kernel
theorem dT_emptyOf_17 : decode cT_emptyOf 17 = .ok (.if_icmp .ne 15, 3) := by decide +kernel
theorem dT_emptyOf_20 : decode cT_emptyOf 20 = .ok (.aload_n 0, 1) := by decide +kernel
theorem dT_emptyOf_21 : decode cT_emptyOf 21 = .ok (.getfield 9, 3) := by decide +kernel
theorem dT_emptyOf_24 : decode cT_emptyOf 24 = .ok (.iload_n 2, 1) := by decide +kernel
theorem dT_emptyOf_25 : decode cT_emptyOf 25 = .ok (.iaload, 1) := by decide +kernel
theorem dT_emptyOf_26 : decode cT_emptyOf 26 = .ok (.iload_n 1, 1) := by decide +kernel
theorem dT_emptyOf_27 : decode cT_emptyOf 27 = .ok (.if_icmp .ne 5, 3) := by decide +kernel
theorem dT_emptyOf_30 : decode cT_emptyOf 30 = .ok (.iload_n 2, 1) := by decide +kernel
theorem dT_emptyOf_31 : decode cT_emptyOf 31 = .ok (.ireturn, 1) := by decide +kernel
theorem dT_emptyOf_32 : decode cT_emptyOf 32 = .ok (.iinc 2 1, 3) := by decide +kernel
theorem dT_emptyOf_35 : decode cT_emptyOf 35 = .ok (.goto (-33), 3) := by decide +kernel
theorem dT_emptyOf_38 : decode cT_emptyOf 38 = .ok (.iconst (-1), 1) := by decide +kernel
theorem dT_emptyOf_39 : decode cT_emptyOf 39 = .ok (.ireturn, 1) := by decide +kernel
theorem dT_withName_0 : decode cT_withName 0 = .ok (.iload_n 1, 1) := by decide +kernel
theorem dT_withName_1 : decode cT_withName 1 = .ok (.iconst 1, 1) := by decide +kernel
theorem dT_withName_2 : decode cT_withName 2 = .ok (.iadd, 1) := by decide +kernel
theorem dT_withName_3 : decode cT_withName 3 = .ok (.istore_n 3, 1) := by decide +kernel
theorem dT_withName_4 : decode cT_withName 4 = .ok (.iload_n 3, 1) := by decide +kernel
theorem dT_withName_5 : decode cT_withName 5 = .ok (.aload_n 0, 1) := by decide +kernel
theorem dT_withName_6 : decode cT_withName 6 = .ok (.getfield 24, 3) := by decide +kernel
theorem dT_withName_9 : decode cT_withName 9 = .ok (.if_icmp .ge 31, 3) := by decide +kernel
theorem dT_withName_12 : decode cT_withName 12 = .ok (.aload_n 0, 1) := by decide +kernel
theorem dT_withName_13 : decode cT_withName 13 = .ok (.getfield 15, 3) := by decide +kernel
theorem dT_withName_16 : decode cT_withName 16 = .ok (.iload_n 3, 1) := by decide +kernel
theorem dT_withName_17 : decode cT_withName 17 = .ok (.iaload, 1) := by decide +kernel
theorem dT_withName_18 : decode cT_withName 18 = .ok (.iload_n 1, 1) := by decide +kernel
theorem dT_withName_19 : decode cT_withName 19 = .ok (.if_icmp .ne 15, 3) := by decide +kernel
theorem dT_withName_22 : decode cT_withName 22 = .ok (.aload_n 0, 1) := by decide +kernel
theorem dT_withName_23 : decode cT_withName 23 = .ok (.getfield 18, 3) := by decide +kernel
theorem dT_withName_26 : decode cT_withName 26 = .ok (.iload_n 3, 1) := by decide +kernel
theorem dT_withName_27 : decode cT_withName 27 = .ok (.iaload, 1) := by decide +kernel
theorem dT_withName_28 : decode cT_withName 28 = .ok (.iload_n 2, 1) := by decide +kernel
theorem dT_withName_29 : decode cT_withName 29 = .ok (.if_icmp .ne 5, 3) := by decide +kernel
theorem dT_withName_32 : decode cT_withName 32 = .ok (.iload_n 3, 1) := by decide +kernel
theorem dT_withName_33 : decode cT_withName 33 = .ok (.ireturn, 1) := by decide +kernel
theorem dT_withName_34 : decode cT_withName 34 = .ok (.iinc 3 1, 3) := by decide +kernel
theorem dT_withName_37 : decode cT_withName 37 = .ok (.goto (-33), 3) := by decide +kernel
theorem dT_withName_40 : decode cT_withName 40 = .ok (.iconst (-1), 1) := by decide +kernel
theorem dT_withName_41 : decode cT_withName 41 = .ok (.ireturn, 1) := by decide +kernel
theorem dT_grow_0 : decode cT_grow 0 = .ok (.aload_n 0, 1) := by decide +kernel
theorem dT_grow_1 : decode cT_grow 1 = .ok (.iload_n 1, 1) := by decide +kernel
theorem dT_grow_2 : decode cT_grow 2 = .ok (.iload_n 2, 1) := by decide +kernel
theorem dT_grow_3 : decode cT_grow 3 = .ok (.invokevirtual 28, 3) := by decide +kernel
theorem dT_grow_6 : decode cT_grow 6 = .ok (.istore_n 3, 1) := by decide +kernel
theorem dT_grow_7 : decode cT_grow 7 = .ok (.iload_n 3, 1) := by decide +kernel
theorem dT_grow_8 : decode cT_grow 8 = .ok (.iconst (-1), 1) := by decide +kernel
theorem dT_grow_9 : decode cT_grow 9 = .ok (.if_icmp .ne 13, 3) := by decide +kernel
theorem dT_grow_12 : decode cT_grow 12 = .ok (.aload_n 0, 1) := by decide +kernel
theorem dT_grow_13 : decode cT_grow 13 = .ok (.getfield 24, 3) := by decide +kernel
theorem dT_grow_16 : decode cT_grow 16 = .ok (.sipush 200, 3) := by decide +kernel
theorem dT_grow_19 : decode cT_grow 19 = .ok (.if_icmp .lt 5, 3) := by decide +kernel
theorem dT_grow_22 : decode cT_grow 22 = .ok (.iload_n 3, 1) := by decide +kernel
theorem dT_grow_23 : decode cT_grow 23 = .ok (.ireturn, 1) := by decide +kernel
theorem dT_grow_24 : decode cT_grow 24 = .ok (.aload_n 0, 1) := by decide +kernel
theorem dT_grow_25 : decode cT_grow 25 = .ok (.iload_n 1, 1) := by decide +kernel
theorem dT_grow_26 : decode cT_grow 26 = .ok (.iload_n 2, 1) := by decide +kernel
theorem dT_grow_27 : decode cT_grow 27 = .ok (.invokevirtual 32, 3) := by decide +kernel
theorem dT_grow_30 : decode cT_grow 30 = .ok (.ireturn, 1) := by decide +kernel
theorem dT_reach_0 : decode cT_reach 0 = .ok (.aload_n 0, 1) := by decide +kernel
theorem dT_reach_1 : decode cT_reach 1 = .ok (.iload_n 1, 1) := by decide +kernel
theorem dT_reach_2 : decode cT_reach 2 = .ok (.invokevirtual 35, 3) := by decide +kernel
theorem dT_reach_5 : decode cT_reach 5 = .ok (.istore 4, 2) := by decide +kernel
theorem dT_reach_7 : decode cT_reach 7 = .ok (.iconst 0, 1) := by decide +kernel
theorem dT_reach_8 : decode cT_reach 8 = .ok (.istore 5, 2) := by decide +kernel
theorem dT_reach_10 : decode cT_reach 10 = .ok (.iconst 0, 1) := by decide +kernel
theorem dT_reach_11 : decode cT_reach 11 = .ok (.istore 6, 2) := by decide +kernel
theorem dT_reach_13 : decode cT_reach 13 = .ok (.iload 4, 2) := by decide +kernel
theorem dT_reach_15 : decode cT_reach 15 = .ok (.iconst (-1), 1) := by decide +kernel
theorem dT_reach_16 : decode cT_reach 16 = .ok (.if_icmp .eq 43, 3) := by decide +kernel
theorem dT_reach_19 : decode cT_reach 19 = .ok (.iload 6, 2) := by decide +kernel
theorem dT_reach_21 : decode cT_reach 21 = .ok (.iload_n 3, 1) := by decide +kernel
theorem dT_reach_22 : decode cT_reach 22 = .ok (.if_icmp .ge 37, 3) := by decide +kernel
theorem dT_reach_25 : decode cT_reach 25 = .ok (.aload_n 0, 1) := by decide +kernel
theorem dT_reach_26 : decode cT_reach 26 = .ok (.iload 4, 2) := by decide +kernel
theorem dT_reach_28 : decode cT_reach 28 = .ok (.aload_n 2, 1) := by decide +kernel
theorem dT_reach_29 : decode cT_reach 29 = .ok (.iload 6, 2) := by decide +kernel
theorem dT_reach_31 : decode cT_reach 31 = .ok (.iaload, 1) := by decide +kernel
theorem dT_reach_32 : decode cT_reach 32 = .ok (.invokevirtual 28, 3) := by decide +kernel
theorem dT_reach_35 : decode cT_reach 35 = .ok (.istore 7, 2) := by decide +kernel
theorem dT_reach_37 : decode cT_reach 37 = .ok (.iload 7, 2) := by decide +kernel
theorem dT_reach_39 : decode cT_reach 39 = .ok (.iconst (-1), 1) := by decide +kernel
theorem dT_reach_40 : decode cT_reach 40 = .ok (.if_icmp .ne 6, 3) := by decide +kernel
theorem dT_reach_43 : decode cT_reach 43 = .ok (.goto 16, 3) := by decide +kernel
theorem dT_reach_46 : decode cT_reach 46 = .ok (.iload 7, 2) := by decide +kernel
theorem dT_reach_48 : decode cT_reach 48 = .ok (.istore 4, 2) := by decide +kernel
theorem dT_reach_50 : decode cT_reach 50 = .ok (.iinc 5 1, 3) := by decide +kernel
theorem dT_reach_53 : decode cT_reach 53 = .ok (.iinc 6 1, 3) := by decide +kernel
theorem dT_reach_56 : decode cT_reach 56 = .ok (.goto (-43), 3) := by decide +kernel
theorem dT_reach_59 : decode cT_reach 59 = .ok (.iload_n 3, 1) := by decide +kernel
theorem dT_reach_60 : decode cT_reach 60 = .ok (.iload 5, 2) := by decide +kernel
theorem dT_reach_62 : decode cT_reach 62 = .ok (.isub, 1) := by decide +kernel
theorem dT_reach_63 : decode cT_reach 63 = .ok (.iload 4, 2) := by decide +kernel
theorem dT_reach_65 : decode cT_reach 65 = .ok (.iconst (-1), 1) := by decide +kernel
theorem dT_reach_66 : decode cT_reach 66 = .ok (.if_icmp .ne 7, 3) := by decide +kernel
theorem dT_reach_69 : decode cT_reach 69 = .ok (.iconst 1, 1) := by decide +kernel
theorem dT_reach_70 : decode cT_reach 70 = .ok (.goto 4, 3) := by decide +kernel
theorem dT_reach_73 : decode cT_reach 73 = .ok (.iconst 0, 1) := by decide +kernel
theorem dT_reach_74 : decode cT_reach 74 = .ok (.iadd, 1) := by decide +kernel
theorem dT_reach_75 : decode cT_reach 75 = .ok (.istore 6, 2) := by decide +kernel
theorem dT_reach_77 : decode cT_reach 77 = .ok (.iload 6, 2) := by decide +kernel
theorem dT_reach_79 : decode cT_reach 79 = .ok (.sipush 200, 3) := by decide +kernel
theorem dT_reach_82 : decode cT_reach 82 = .ok (.aload_n 0, 1) := by decide +kernel
theorem dT_reach_83 : decode cT_reach 83 = .ok (.getfield 24, 3) := by decide +kernel
theorem dT_reach_86 : decode cT_reach 86 = .ok (.isub, 1) := by decide +kernel
theorem dT_reach_87 : decode cT_reach 87 = .ok (.if_icmp .le 5, 3) := by decide +kernel
theorem dT_reach_90 : decode cT_reach 90 = .ok (.iconst (-1), 1) := by decide +kernel
theorem dT_reach_91 : decode cT_reach 91 = .ok (.ireturn, 1) := by decide +kernel
theorem dT_reach_92 : decode cT_reach 92 = .ok (.iload 4, 2) := by decide +kernel
theorem dT_reach_94 : decode cT_reach 94 = .ok (.iconst (-1), 1) := by decide +kernel
theorem dT_reach_95 : decode cT_reach 95 = .ok (.if_icmp .ne 10, 3) := by decide +kernel
theorem dT_reach_98 : decode cT_reach 98 = .ok (.aload_n 0, 1) := by decide +kernel
theorem dT_reach_99 : decode cT_reach 99 = .ok (.iload_n 1, 1) := by decide +kernel
theorem dT_reach_100 : decode cT_reach 100 = .ok (.invokevirtual 39, 3) := by decide +kernel
theorem dT_reach_103 : decode cT_reach 103 = .ok (.istore 4, 2) := by decide +kernel
theorem dT_reach_105 : decode cT_reach 105 = .ok (.iload 5, 2) := by decide +kernel
theorem dT_reach_107 : decode cT_reach 107 = .ok (.istore 7, 2) := by decide +kernel
theorem dT_reach_109 : decode cT_reach 109 = .ok (.iload 7, 2) := by decide +kernel
theorem dT_reach_111 : decode cT_reach 111 = .ok (.iload_n 3, 1) := by decide +kernel
theorem dT_reach_112 : decode cT_reach 112 = .ok (.if_icmp .ge 21, 3) := by decide +kernel
theorem dT_reach_115 : decode cT_reach 115 = .ok (.aload_n 0, 1) := by decide +kernel
theorem dT_reach_116 : decode cT_reach 116 = .ok (.iload 4, 2) := by decide +kernel
theorem dT_reach_118 : decode cT_reach 118 = .ok (.aload_n 2, 1) := by decide +kernel
theorem dT_reach_119 : decode cT_reach 119 = .ok (.iload 7, 2) := by decide +kernel
theorem dT_reach_121 : decode cT_reach 121 = .ok (.iaload, 1) := by decide +kernel
theorem dT_reach_122 : decode cT_reach 122 = .ok (.invokevirtual 32, 3) := by decide +kernel
theorem dT_reach_125 : decode cT_reach 125 = .ok (.istore 4, 2) := by decide +kernel
theorem dT_reach_127 : decode cT_reach 127 = .ok (.iinc 7 1, 3) := by decide +kernel
theorem dT_reach_130 : decode cT_reach 130 = .ok (.goto (-21), 3) := by decide +kernel
theorem dT_reach_133 : decode cT_reach 133 = .ok (.iload 4, 2) := by decide +kernel
theorem dT_reach_135 : decode cT_reach 135 = .ok (.ireturn, 1) := by decide +kernel
theorem dT_makeEmpty_0 : decode cT_makeEmpty 0 = .ok (.aload_n 0, 1) := by decide +kernel
theorem dT_makeEmpty_1 : decode cT_makeEmpty 1 = .ok (.iload_n 1, 1) := by decide +kernel
theorem dT_makeEmpty_2 : decode cT_makeEmpty 2 = .ok (.iconst (-1), 1) := by decide +kernel
theorem dT_makeEmpty_3 : decode cT_makeEmpty 3 = .ok (.iconst (-1), 1) := by decide +kernel
theorem dT_makeEmpty_4 : decode cT_makeEmpty 4 = .ok (.iconst 0, 1) := by decide +kernel
theorem dT_makeEmpty_5 : decode cT_makeEmpty 5 = .ok (.invokevirtual 42, 3) := by decide +kernel
theorem dT_makeEmpty_8 : decode cT_makeEmpty 8 = .ok (.ireturn, 1) := by decide +kernel
theorem dT_makeWith_0 : decode cT_makeWith 0 = .ok (.aload_n 0, 1) := by decide +kernel
theorem dT_makeWith_1 : decode cT_makeWith 1 = .ok (.aload_n 0, 1) := by decide +kernel
theorem dT_makeWith_2 : decode cT_makeWith 2 = .ok (.getfield 9, 3) := by decide +kernel
theorem dT_makeWith_5 : decode cT_makeWith 5 = .ok (.iload_n 1, 1) := by decide +kernel
theorem dT_makeWith_6 : decode cT_makeWith 6 = .ok (.iaload, 1) := by decide +kernel
theorem dT_makeWith_7 : decode cT_makeWith 7 = .ok (.iload_n 1, 1) := by decide +kernel
theorem dT_makeWith_8 : decode cT_makeWith 8 = .ok (.iload_n 2, 1) := by decide +kernel
theorem dT_makeWith_9 : decode cT_makeWith 9 = .ok (.aload_n 0, 1) := by decide +kernel
theorem dT_makeWith_10 : decode cT_makeWith 10 = .ok (.getfield 21, 3) := by decide +kernel
theorem dT_makeWith_13 : decode cT_makeWith 13 = .ok (.iload_n 1, 1) := by decide +kernel
theorem dT_makeWith_14 : decode cT_makeWith 14 = .ok (.iaload, 1) := by decide +kernel
theorem dT_makeWith_15 : decode cT_makeWith 15 = .ok (.iconst 1, 1) := by decide +kernel
theorem dT_makeWith_16 : decode cT_makeWith 16 = .ok (.iadd, 1) := by decide +kernel
theorem dT_makeWith_17 : decode cT_makeWith 17 = .ok (.invokevirtual 42, 3) := by decide +kernel
theorem dT_makeWith_20 : decode cT_makeWith 20 = .ok (.ireturn, 1) := by decide +kernel
theorem dT_make_0 : decode cT_make 0 = .ok (.aload_n 0, 1) := by decide +kernel
theorem dT_make_1 : decode cT_make 1 = .ok (.getfield 24, 3) := by decide +kernel
theorem dT_make_4 : decode cT_make 4 = .ok (.istore 5, 2) := by decide +kernel
theorem dT_make_6 : decode cT_make 6 = .ok (.aload_n 0, 1) := by decide +kernel
theorem dT_make_7 : decode cT_make 7 = .ok (.getfield 9, 3) := by decide +kernel
theorem dT_make_10 : decode cT_make 10 = .ok (.iload 5, 2) := by decide +kernel
theorem dT_make_12 : decode cT_make 12 = .ok (.iload_n 1, 1) := by decide +kernel
theorem dT_make_13 : decode cT_make 13 = .ok (.iastore, 1) := by decide +kernel
theorem dT_make_14 : decode cT_make 14 = .ok (.aload_n 0, 1) := by decide +kernel
theorem dT_make_15 : decode cT_make 15 = .ok (.getfield 15, 3) := by decide +kernel
theorem dT_make_18 : decode cT_make 18 = .ok (.iload 5, 2) := by decide +kernel
theorem dT_make_20 : decode cT_make 20 = .ok (.iload_n 2, 1) := by decide +kernel
theorem dT_make_21 : decode cT_make 21 = .ok (.iastore, 1) := by decide +kernel
theorem dT_make_22 : decode cT_make 22 = .ok (.aload_n 0, 1) := by decide +kernel
theorem dT_make_23 : decode cT_make 23 = .ok (.getfield 18, 3) := by decide +kernel
theorem dT_make_26 : decode cT_make 26 = .ok (.iload 5, 2) := by decide +kernel
theorem dT_make_28 : decode cT_make 28 = .ok (.iload_n 3, 1) := by decide +kernel
theorem dT_make_29 : decode cT_make 29 = .ok (.iastore, 1) := by decide +kernel
theorem dT_make_30 : decode cT_make 30 = .ok (.aload_n 0, 1) := by decide +kernel
theorem dT_make_31 : decode cT_make 31 = .ok (.getfield 21, 3) := by decide +kernel
theorem dT_make_34 : decode cT_make 34 = .ok (.iload 5, 2) := by decide +kernel
theorem dT_make_36 : decode cT_make 36 = .ok (.iload 4, 2) := by decide +kernel
theorem dT_make_38 : decode cT_make 38 = .ok (.iastore, 1) := by decide +kernel
theorem dT_make_39 : decode cT_make 39 = .ok (.aload_n 0, 1) := by decide +kernel
theorem dT_make_40 : decode cT_make 40 = .ok (.dup, 1) := by decide +kernel
theorem dT_make_41 : decode cT_make 41 = .ok (.getfield 24, 3) := by decide +kernel
theorem dT_make_44 : decode cT_make 44 = .ok (.iconst 1, 1) := by decide +kernel
theorem dT_make_45 : decode cT_make 45 = .ok (.iadd, 1) := by decide +kernel
theorem dT_make_46 : decode cT_make 46 = .ok (.putfield 24, 3) := by decide +kernel
theorem dT_make_49 : decode cT_make 49 = .ok (.iload 5, 2) := by decide +kernel
theorem dT_make_51 : decode cT_make 51 = .ok (.ireturn, 1) := by decide +kernel
theorem dT_placeOf_0 : decode cT_placeOf 0 = .ok (.iload_n 1, 1) := by decide +kernel
theorem dT_placeOf_1 : decode cT_placeOf 1 = .ok (.istore_n 3, 1) := by decide +kernel
theorem dT_placeOf_2 : decode cT_placeOf 2 = .ok (.aload_n 0, 1) := by decide +kernel
theorem dT_placeOf_3 : decode cT_placeOf 3 = .ok (.getfield 21, 3) := by decide +kernel
theorem dT_placeOf_6 : decode cT_placeOf 6 = .ok (.iload_n 1, 1) := by decide +kernel
theorem dT_placeOf_7 : decode cT_placeOf 7 = .ok (.iaload, 1) := by decide +kernel
theorem dT_placeOf_8 : decode cT_placeOf 8 = .ok (.iconst 1, 1) := by decide +kernel
theorem dT_placeOf_9 : decode cT_placeOf 9 = .ok (.isub, 1) := by decide +kernel
theorem dT_placeOf_10 : decode cT_placeOf 10 = .ok (.istore 4, 2) := by decide +kernel
theorem dT_placeOf_12 : decode cT_placeOf 12 = .ok (.iload 4, 2) := by decide +kernel
theorem dT_placeOf_14 : decode cT_placeOf 14 = .ok (.ifCond .lt 29, 3) := by decide +kernel
theorem dT_placeOf_17 : decode cT_placeOf 17 = .ok (.aload_n 0, 1) := by decide +kernel
theorem dT_placeOf_18 : decode cT_placeOf 18 = .ok (.getfield 18, 3) := by decide +kernel
theorem dT_placeOf_21 : decode cT_placeOf 21 = .ok (.iload_n 3, 1) := by decide +kernel
theorem dT_placeOf_22 : decode cT_placeOf 22 = .ok (.iaload, 1) := by decide +kernel
theorem dT_placeOf_23 : decode cT_placeOf 23 = .ok (.iload_n 2, 1) := by decide +kernel
theorem dT_placeOf_24 : decode cT_placeOf 24 = .ok (.if_icmp .ne 6, 3) := by decide +kernel
theorem dT_placeOf_27 : decode cT_placeOf 27 = .ok (.iload 4, 2) := by decide +kernel
theorem dT_placeOf_29 : decode cT_placeOf 29 = .ok (.ireturn, 1) := by decide +kernel
theorem dT_placeOf_30 : decode cT_placeOf 30 = .ok (.aload_n 0, 1) := by decide +kernel
theorem dT_placeOf_31 : decode cT_placeOf 31 = .ok (.getfield 15, 3) := by decide +kernel
theorem dT_placeOf_34 : decode cT_placeOf 34 = .ok (.iload_n 3, 1) := by decide +kernel
theorem dT_placeOf_35 : decode cT_placeOf 35 = .ok (.iaload, 1) := by decide +kernel
theorem dT_placeOf_36 : decode cT_placeOf 36 = .ok (.istore_n 3, 1) := by decide +kernel
theorem dT_placeOf_37 : decode cT_placeOf 37 = .ok (.iinc 4 (-1), 3) := by decide +kernel
theorem dT_placeOf_40 : decode cT_placeOf 40 = .ok (.goto (-28), 3) := by decide +kernel
theorem dT_placeOf_43 : decode cT_placeOf 43 = .ok (.iconst (-1), 1) := by decide +kernel
theorem dT_placeOf_44 : decode cT_placeOf 44 = .ok (.ireturn, 1) := by decide +kernel
theorem dT_nameAt_0 : decode cT_nameAt 0 = .ok (.aload_n 0, 1) := by decide +kernel
theorem dT_nameAt_1 : decode cT_nameAt 1 = .ok (.getfield 21, 3) := by decide +kernel
theorem dT_nameAt_4 : decode cT_nameAt 4 = .ok (.iload_n 1, 1) := by decide +kernel
theorem dT_nameAt_5 : decode cT_nameAt 5 = .ok (.iaload, 1) := by decide +kernel
theorem dT_nameAt_6 : decode cT_nameAt 6 = .ok (.iconst 1, 1) := by decide +kernel
theorem dT_nameAt_7 : decode cT_nameAt 7 = .ok (.isub, 1) := by decide +kernel
theorem dT_nameAt_8 : decode cT_nameAt 8 = .ok (.istore_n 3, 1) := by decide +kernel
theorem dT_nameAt_9 : decode cT_nameAt 9 = .ok (.iload_n 2, 1) := by decide +kernel
theorem dT_nameAt_10 : decode cT_nameAt 10 = .ok (.ifCond .lt 8, 3) := by decide +kernel
theorem dT_nameAt_13 : decode cT_nameAt 13 = .ok (.iload_n 2, 1) := by decide +kernel
theorem dT_nameAt_14 : decode cT_nameAt 14 = .ok (.iload_n 3, 1) := by decide +kernel
theorem dT_nameAt_15 : decode cT_nameAt 15 = .ok (.if_icmp .le 5, 3) := by decide +kernel
theorem dT_nameAt_18 : decode cT_nameAt 18 = .ok (.iconst (-1), 1) := by decide +kernel
theorem dT_nameAt_19 : decode cT_nameAt 19 = .ok (.ireturn, 1) := by decide +kernel
theorem dT_nameAt_20 : decode cT_nameAt 20 = .ok (.iload_n 1, 1) := by decide +kernel
theorem dT_nameAt_21 : decode cT_nameAt 21 = .ok (.istore 4, 2) := by decide +kernel
theorem dT_nameAt_23 : decode cT_nameAt 23 = .ok (.iload_n 3, 1) := by decide +kernel
theorem dT_nameAt_24 : decode cT_nameAt 24 = .ok (.istore 5, 2) := by decide +kernel
theorem dT_nameAt_26 : decode cT_nameAt 26 = .ok (.iload 5, 2) := by decide +kernel
theorem dT_nameAt_28 : decode cT_nameAt 28 = .ok (.iload_n 2, 1) := by decide +kernel
theorem dT_nameAt_29 : decode cT_nameAt 29 = .ok (.if_icmp .le 18, 3) := by decide +kernel
theorem dT_nameAt_32 : decode cT_nameAt 32 = .ok (.aload_n 0, 1) := by decide +kernel
theorem dT_nameAt_33 : decode cT_nameAt 33 = .ok (.getfield 15, 3) := by decide +kernel
theorem dT_nameAt_36 : decode cT_nameAt 36 = .ok (.iload 4, 2) := by decide +kernel
theorem dT_nameAt_38 : decode cT_nameAt 38 = .ok (.iaload, 1) := by decide +kernel
theorem dT_nameAt_39 : decode cT_nameAt 39 = .ok (.istore 4, 2) := by decide +kernel
theorem dT_nameAt_41 : decode cT_nameAt 41 = .ok (.iinc 5 (-1), 3) := by decide +kernel
theorem dT_nameAt_44 : decode cT_nameAt 44 = .ok (.goto (-18), 3) := by decide +kernel
theorem dT_nameAt_47 : decode cT_nameAt 47 = .ok (.aload_n 0, 1) := by decide +kernel
theorem dT_nameAt_48 : decode cT_nameAt 48 = .ok (.getfield 18, 3) := by decide +kernel
theorem dT_nameAt_51 : decode cT_nameAt 51 = .ok (.iload 4, 2) := by decide +kernel
theorem dT_nameAt_53 : decode cT_nameAt 53 = .ok (.iaload, 1) := by decide +kernel
theorem dT_nameAt_54 : decode cT_nameAt 54 = .ok (.ireturn, 1) := by decide +kernel
theorem dT_listNames_0 : decode cT_listNames 0 = .ok (.iconst 0, 1) := by decide +kernel
theorem dT_listNames_1 : decode cT_listNames 1 = .ok (.istore 4, 2) := by decide +kernel
theorem dT_listNames_3 : decode cT_listNames 3 = .ok (.iconst 0, 1) := by decide +kernel
theorem dT_listNames_4 : decode cT_listNames 4 = .ok (.istore 5, 2) := by decide +kernel
theorem dT_listNames_6 : decode cT_listNames 6 = .ok (.iload 5, 2) := by decide +kernel
theorem dT_listNames_8 : decode cT_listNames 8 = .ok (.aload_n 0, 1) := by decide +kernel
theorem dT_listNames_9 : decode cT_listNames 9 = .ok (.getfield 21, 3) := by decide +kernel
theorem dT_listNames_12 : decode cT_listNames 12 = .ok (.iload_n 1, 1) := by decide +kernel
theorem dT_listNames_13 : decode cT_listNames 13 = .ok (.iaload, 1) := by decide +kernel
theorem dT_listNames_14 : decode cT_listNames 14 = .ok (.if_icmp .ge 33, 3) := by decide +kernel
theorem dT_listNames_17 : decode cT_listNames 17 = .ok (.aload_n 0, 1) := by decide +kernel
theorem dT_listNames_18 : decode cT_listNames 18 = .ok (.iload_n 1, 1) := by decide +kernel
theorem dT_listNames_19 : decode cT_listNames 19 = .ok (.iload 5, 2) := by decide +kernel
theorem dT_listNames_21 : decode cT_listNames 21 = .ok (.invokevirtual 46, 3) := by decide +kernel
theorem dT_listNames_24 : decode cT_listNames 24 = .ok (.istore 6, 2) := by decide +kernel
theorem dT_listNames_26 : decode cT_listNames 26 = .ok (.iload 6, 2) := by decide +kernel
theorem dT_listNames_28 : decode cT_listNames 28 = .ok (.iload_n 2, 1) := by decide +kernel
theorem dT_listNames_29 : decode cT_listNames 29 = .ok (.if_icmp .eq 12, 3) := by decide +kernel
theorem dT_listNames_32 : decode cT_listNames 32 = .ok (.aload_n 3, 1) := by decide +kernel
theorem dT_listNames_33 : decode cT_listNames 33 = .ok (.iload 4, 2) := by decide +kernel
theorem dT_listNames_35 : decode cT_listNames 35 = .ok (.iload 6, 2) := by decide +kernel
theorem dT_listNames_37 : decode cT_listNames 37 = .ok (.iastore, 1) := by decide +kernel
theorem dT_listNames_38 : decode cT_listNames 38 = .ok (.iinc 4 1, 3) := by decide +kernel
theorem dT_listNames_41 : decode cT_listNames 41 = .ok (.iinc 5 1, 3) := by decide +kernel
theorem dT_listNames_44 : decode cT_listNames 44 = .ok (.goto (-38), 3) := by decide +kernel
theorem dT_listNames_47 : decode cT_listNames 47 = .ok (.iload 4, 2) := by decide +kernel
theorem dT_listNames_49 : decode cT_listNames 49 = .ok (.ireturn, 1) := by decide +kernel

theorem dM_placeOf_12 : decode cM_placeOf 12 = .ok (.aload_n 0, 1) := by decide +kernel
theorem dM_placeOf_13 : decode cM_placeOf 13 = .ok (.getfield 32, 3) := by decide +kernel
theorem dM_placeOf_16 : decode cM_placeOf 16 = .ok (.bipush 12, 2) := by decide +kernel
theorem dM_placeOf_18 : decode cM_placeOf 18 = .ok (.iload_n 1, 1) := by decide +kernel
theorem dM_placeOf_19 : decode cM_placeOf 19 = .ok (.imul, 1) := by decide +kernel
theorem dM_placeOf_20 : decode cM_placeOf 20 = .ok (.iload_n 3, 1) := by decide +kernel
theorem dM_placeOf_21 : decode cM_placeOf 21 = .ok (.iadd, 1) := by decide +kernel
theorem dM_placeOf_22 : decode cM_placeOf 22 = .ok (.iaload, 1) := by decide +kernel
theorem dM_placeOf_23 : decode cM_placeOf 23 = .ok (.iload_n 2, 1) := by decide +kernel
theorem dM_placeOf_24 : decode cM_placeOf 24 = .ok (.if_icmp .ne 5, 3) := by decide +kernel
theorem dM_placeOf_27 : decode cM_placeOf 27 = .ok (.iload_n 3, 1) := by decide +kernel
theorem dM_placeOf_28 : decode cM_placeOf 28 = .ok (.ireturn, 1) := by decide +kernel
theorem dM_placeOf_29 : decode cM_placeOf 29 = .ok (.iinc 3 1, 3) := by decide +kernel
theorem dM_placeOf_32 : decode cM_placeOf 32 = .ok (.goto (-30), 3) := by decide +kernel
theorem dM_placeOf_35 : decode cM_placeOf 35 = .ok (.iconst (-1), 1) := by decide +kernel
theorem dM_placeOf_36 : decode cM_placeOf 36 = .ok (.ireturn, 1) := by decide +kernel
theorem dM_isName_0 : decode cM_isName 0 = .ok (.iload_n 0, 1) := by decide +kernel
theorem dM_isName_1 : decode cM_isName 1 = .ok (.ifCond .lt 13, 3) := by decide +kernel
theorem dM_isName_4 : decode cM_isName 4 = .ok (.iload_n 0, 1) := by decide +kernel
theorem dM_isName_5 : decode cM_isName 5 = .ok (.bipush 12, 2) := by decide +kernel
theorem dM_isName_7 : decode cM_isName 7 = .ok (.if_icmp .ge 7, 3) := by decide +kernel
theorem dM_isName_10 : decode cM_isName 10 = .ok (.iconst 1, 1) := by decide +kernel
theorem dM_isName_11 : decode cM_isName 11 = .ok (.goto 4, 3) := by decide +kernel
theorem dM_isName_14 : decode cM_isName 14 = .ok (.iconst 0, 1) := by decide +kernel
theorem dM_isName_15 : decode cM_isName 15 = .ok (.ireturn, 1) := by decide +kernel
theorem dM_object_0 : decode cM_object 0 = .ok (.aload_n 0, 1) := by decide +kernel
theorem dM_object_1 : decode cM_object 1 = .ok (.iload_n 1, 1) := by decide +kernel
theorem dM_object_2 : decode cM_object 2 = .ok (.iconst (-1), 1) := by decide +kernel
theorem dM_object_3 : decode cM_object 3 = .ok (.if_icmp .eq 15, 3) := by decide +kernel
theorem dM_object_6 : decode cM_object 6 = .ok (.aload_n 0, 1) := by decide +kernel
theorem dM_object_7 : decode cM_object 7 = .ok (.iload_n 1, 1) := by decide +kernel
theorem dM_object_8 : decode cM_object 8 = .ok (.invokevirtual 82, 3) := by decide +kernel
theorem dM_object_11 : decode cM_object 11 = .ok (.ifCond .ne 7, 3) := by decide +kernel
theorem dM_object_14 : decode cM_object 14 = .ok (.iconst 1, 1) := by decide +kernel
theorem dM_object_15 : decode cM_object 15 = .ok (.goto 17, 3) := by decide +kernel
theorem dM_object_18 : decode cM_object 18 = .ok (.aload_n 0, 1) := by decide +kernel
theorem dM_object_19 : decode cM_object 19 = .ok (.getfield 65, 3) := by decide +kernel
theorem dM_object_22 : decode cM_object 22 = .ok (.bipush 60, 2) := by decide +kernel
theorem dM_object_24 : decode cM_object 24 = .ok (.if_icmp .ne 7, 3) := by decide +kernel
theorem dM_object_27 : decode cM_object 27 = .ok (.iconst 2, 1) := by decide +kernel
theorem dM_object_28 : decode cM_object 28 = .ok (.goto 4, 3) := by decide +kernel
theorem dM_object_31 : decode cM_object 31 = .ok (.iconst 0, 1) := by decide +kernel
theorem dM_object_32 : decode cM_object 32 = .ok (.putfield 62, 3) := by decide +kernel
theorem dM_object_35 : decode cM_object 35 = .ok (.aload_n 0, 1) := by decide +kernel
theorem dM_object_36 : decode cM_object 36 = .ok (.getfield 62, 3) := by decide +kernel
theorem dM_object_39 : decode cM_object 39 = .ok (.ifCond .le 5, 3) := by decide +kernel
theorem dM_object_42 : decode cM_object 42 = .ok (.iconst 0, 1) := by decide +kernel
theorem dM_object_43 : decode cM_object 43 = .ok (.ireturn, 1) := by decide +kernel
theorem dM_object_44 : decode cM_object 44 = .ok (.aload_n 0, 1) := by decide +kernel
theorem dM_object_45 : decode cM_object 45 = .ok (.iload_n 1, 1) := by decide +kernel
theorem dM_object_46 : decode cM_object 46 = .ok (.iconst 0, 1) := by decide +kernel
theorem dM_object_47 : decode cM_object 47 = .ok (.invokevirtual 86, 3) := by decide +kernel
theorem dM_object_50 : decode cM_object 50 = .ok (.istore_n 2, 1) := by decide +kernel
theorem dM_object_51 : decode cM_object 51 = .ok (.aload_n 0, 1) := by decide +kernel
theorem dM_object_52 : decode cM_object 52 = .ok (.iload_n 2, 1) := by decide +kernel
theorem dM_object_53 : decode cM_object 53 = .ok (.ifCond .ge 7, 3) := by decide +kernel
theorem dM_object_56 : decode cM_object 56 = .ok (.iconst 2, 1) := by decide +kernel
theorem dM_object_57 : decode cM_object 57 = .ok (.goto 4, 3) := by decide +kernel
theorem dM_object_60 : decode cM_object 60 = .ok (.iconst 0, 1) := by decide +kernel
theorem dM_object_61 : decode cM_object 61 = .ok (.putfield 62, 3) := by decide +kernel
theorem dM_object_64 : decode cM_object 64 = .ok (.aload_n 0, 1) := by decide +kernel
theorem dM_object_65 : decode cM_object 65 = .ok (.getfield 62, 3) := by decide +kernel
theorem dM_object_68 : decode cM_object 68 = .ok (.ifCond .le 5, 3) := by decide +kernel
theorem dM_object_71 : decode cM_object 71 = .ok (.iconst 0, 1) := by decide +kernel
theorem dM_object_72 : decode cM_object 72 = .ok (.ireturn, 1) := by decide +kernel
theorem dM_object_73 : decode cM_object 73 = .ok (.aload_n 0, 1) := by decide +kernel
theorem dM_object_74 : decode cM_object 74 = .ok (.getfield 7, 3) := by decide +kernel
theorem dM_object_77 : decode cM_object 77 = .ok (.aload_n 0, 1) := by decide +kernel
theorem dM_object_78 : decode cM_object 78 = .ok (.getfield 65, 3) := by decide +kernel
theorem dM_object_81 : decode cM_object 81 = .ok (.iload_n 2, 1) := by decide +kernel
theorem dM_object_82 : decode cM_object 82 = .ok (.iastore, 1) := by decide +kernel
theorem dM_object_83 : decode cM_object 83 = .ok (.aload_n 0, 1) := by decide +kernel
theorem dM_object_84 : decode cM_object 84 = .ok (.getfield 13, 3) := by decide +kernel
theorem dM_object_87 : decode cM_object 87 = .ok (.aload_n 0, 1) := by decide +kernel
theorem dM_object_88 : decode cM_object 88 = .ok (.getfield 65, 3) := by decide +kernel
theorem dM_object_91 : decode cM_object 91 = .ok (.iconst 0, 1) := by decide +kernel
theorem dM_object_92 : decode cM_object 92 = .ok (.iastore, 1) := by decide +kernel
theorem dM_object_93 : decode cM_object 93 = .ok (.aload_n 0, 1) := by decide +kernel
theorem dM_object_94 : decode cM_object 94 = .ok (.dup, 1) := by decide +kernel
theorem dM_object_95 : decode cM_object 95 = .ok (.getfield 65, 3) := by decide +kernel
theorem dM_object_98 : decode cM_object 98 = .ok (.iconst 1, 1) := by decide +kernel
theorem dM_object_99 : decode cM_object 99 = .ok (.iadd, 1) := by decide +kernel
theorem dM_object_100 : decode cM_object 100 = .ok (.putfield 65, 3) := by decide +kernel
theorem dM_object_103 : decode cM_object 103 = .ok (.aload_n 0, 1) := by decide +kernel
theorem dM_object_104 : decode cM_object 104 = .ok (.getfield 65, 3) := by decide +kernel
theorem dM_object_107 : decode cM_object 107 = .ok (.iconst 1, 1) := by decide +kernel
theorem dM_object_108 : decode cM_object 108 = .ok (.isub, 1) := by decide +kernel
theorem dM_object_109 : decode cM_object 109 = .ok (.ireturn, 1) := by decide +kernel
theorem dM_set_0 : decode cM_set 0 = .ok (.aload_n 0, 1) := by decide +kernel
theorem dM_set_1 : decode cM_set 1 = .ok (.iconst 0, 1) := by decide +kernel
theorem dM_set_2 : decode cM_set 2 = .ok (.putfield 62, 3) := by decide +kernel
theorem dM_set_5 : decode cM_set 5 = .ok (.aload_n 0, 1) := by decide +kernel
theorem dM_set_6 : decode cM_set 6 = .ok (.iload_n 1, 1) := by decide +kernel
theorem dM_set_7 : decode cM_set 7 = .ok (.invokevirtual 82, 3) := by decide +kernel
theorem dM_set_10 : decode cM_set 10 = .ok (.ifCond .eq 10, 3) := by decide +kernel
theorem dM_set_13 : decode cM_set 13 = .ok (.iload_n 2, 1) := by decide +kernel
theorem dM_set_14 : decode cM_set 14 = .ok (.invokestatic 89, 3) := by decide +kernel
theorem dM_set_17 : decode cM_set 17 = .ok (.ifCond .ne 5, 3) := by decide +kernel
theorem dM_set_20 : decode cM_set 20 = .ok (.iconst 0, 1) := by decide +kernel
theorem dM_set_21 : decode cM_set 21 = .ok (.ireturn, 1) := by decide +kernel
theorem dM_set_22 : decode cM_set 22 = .ok (.aload_n 0, 1) := by decide +kernel
theorem dM_set_23 : decode cM_set 23 = .ok (.getfield 7, 3) := by decide +kernel
theorem dM_set_26 : decode cM_set 26 = .ok (.iload_n 1, 1) := by decide +kernel
theorem dM_set_27 : decode cM_set 27 = .ok (.iaload, 1) := by decide +kernel
theorem dM_set_28 : decode cM_set 28 = .ok (.istore 4, 2) := by decide +kernel
theorem dM_set_30 : decode cM_set 30 = .ok (.aload_n 0, 1) := by decide +kernel
theorem dM_set_31 : decode cM_set 31 = .ok (.iload 4, 2) := by decide +kernel
theorem dM_set_33 : decode cM_set 33 = .ok (.iload_n 2, 1) := by decide +kernel
theorem dM_set_34 : decode cM_set 34 = .ok (.invokevirtual 92, 3) := by decide +kernel
theorem dM_set_37 : decode cM_set 37 = .ok (.istore 5, 2) := by decide +kernel
theorem dM_set_39 : decode cM_set 39 = .ok (.iload 5, 2) := by decide +kernel
theorem dM_set_41 : decode cM_set 41 = .ok (.ifCond .ge 75, 3) := by decide +kernel
theorem dM_set_44 : decode cM_set 44 = .ok (.aload_n 0, 1) := by decide +kernel
theorem dM_set_45 : decode cM_set 45 = .ok (.iload 4, 2) := by decide +kernel
theorem dM_set_47 : decode cM_set 47 = .ok (.iload_n 2, 1) := by decide +kernel
theorem dM_set_48 : decode cM_set 48 = .ok (.invokevirtual 72, 3) := by decide +kernel
theorem dM_set_51 : decode cM_set 51 = .ok (.istore 6, 2) := by decide +kernel
theorem dM_set_53 : decode cM_set 53 = .ok (.iload 6, 2) := by decide +kernel
theorem dM_set_55 : decode cM_set 55 = .ok (.ifCond .ge 15, 3) := by decide +kernel
theorem dM_set_58 : decode cM_set 58 = .ok (.aload_n 0, 1) := by decide +kernel
theorem dM_set_59 : decode cM_set 59 = .ok (.getfield 19, 3) := by decide +kernel
theorem dM_set_62 : decode cM_set 62 = .ok (.sipush 200, 3) := by decide +kernel
theorem dM_set_65 : decode cM_set 65 = .ok (.if_icmp .ne 5, 3) := by decide +kernel
theorem dM_set_68 : decode cM_set 68 = .ok (.iconst 0, 1) := by decide +kernel
theorem dM_set_69 : decode cM_set 69 = .ok (.ireturn, 1) := by decide +kernel
theorem dM_set_70 : decode cM_set 70 = .ok (.iload 6, 2) := by decide +kernel
theorem dM_set_72 : decode cM_set 72 = .ok (.ifCond .ge 13, 3) := by decide +kernel
theorem dM_set_75 : decode cM_set 75 = .ok (.aload_n 0, 1) := by decide +kernel
theorem dM_set_76 : decode cM_set 76 = .ok (.iload 4, 2) := by decide +kernel
theorem dM_set_78 : decode cM_set 78 = .ok (.iload_n 2, 1) := by decide +kernel
theorem dM_set_79 : decode cM_set 79 = .ok (.invokevirtual 79, 3) := by decide +kernel
theorem dM_set_82 : decode cM_set 82 = .ok (.goto 5, 3) := by decide +kernel
theorem dM_set_85 : decode cM_set 85 = .ok (.iload 6, 2) := by decide +kernel
theorem dM_set_87 : decode cM_set 87 = .ok (.istore 6, 2) := by decide +kernel
theorem dM_set_89 : decode cM_set 89 = .ok (.aload_n 0, 1) := by decide +kernel
theorem dM_set_90 : decode cM_set 90 = .ok (.getfield 29, 3) := by decide +kernel
theorem dM_set_93 : decode cM_set 93 = .ok (.iload 4, 2) := by decide +kernel
theorem dM_set_95 : decode cM_set 95 = .ok (.iaload, 1) := by decide +kernel
theorem dM_set_96 : decode cM_set 96 = .ok (.istore 5, 2) := by decide +kernel
theorem dM_set_98 : decode cM_set 98 = .ok (.aload_n 0, 1) := by decide +kernel
theorem dM_set_99 : decode cM_set 99 = .ok (.getfield 7, 3) := by decide +kernel
theorem dM_set_102 : decode cM_set 102 = .ok (.iload_n 1, 1) := by decide +kernel
theorem dM_set_103 : decode cM_set 103 = .ok (.iload 6, 2) := by decide +kernel
theorem dM_set_105 : decode cM_set 105 = .ok (.iastore, 1) := by decide +kernel
theorem dM_set_106 : decode cM_set 106 = .ok (.aload_n 0, 1) := by decide +kernel
theorem dM_set_107 : decode cM_set 107 = .ok (.getfield 13, 3) := by decide +kernel
theorem dM_set_110 : decode cM_set 110 = .ok (.iload_n 1, 1) := by decide +kernel
theorem dM_set_111 : decode cM_set 111 = .ok (.dup2, 1) := by decide +kernel
theorem dM_set_112 : decode cM_set 112 = .ok (.iaload, 1) := by decide +kernel
theorem dM_set_113 : decode cM_set 113 = .ok (.iconst 1, 1) := by decide +kernel
theorem dM_set_114 : decode cM_set 114 = .ok (.iadd, 1) := by decide +kernel
theorem dM_set_115 : decode cM_set 115 = .ok (.iastore, 1) := by decide +kernel
theorem dM_set_116 : decode cM_set 116 = .ok (.aload_n 0, 1) := by decide +kernel
theorem dM_set_117 : decode cM_set 117 = .ok (.getfield 16, 3) := by decide +kernel
theorem dM_set_120 : decode cM_set 120 = .ok (.bipush 12, 2) := by decide +kernel
theorem dM_set_122 : decode cM_set 122 = .ok (.iload_n 1, 1) := by decide +kernel
theorem dM_set_123 : decode cM_set 123 = .ok (.imul, 1) := by decide +kernel
theorem dM_set_124 : decode cM_set 124 = .ok (.iload 5, 2) := by decide +kernel
theorem dM_set_126 : decode cM_set 126 = .ok (.iadd, 1) := by decide +kernel
theorem dM_set_127 : decode cM_set 127 = .ok (.iload_n 3, 1) := by decide +kernel
theorem dM_set_128 : decode cM_set 128 = .ok (.iastore, 1) := by decide +kernel
theorem dM_set_129 : decode cM_set 129 = .ok (.iconst 1, 1) := by decide +kernel
theorem dM_set_130 : decode cM_set 130 = .ok (.ireturn, 1) := by decide +kernel
theorem dM_drop_0 : decode cM_drop 0 = .ok (.aload_n 0, 1) := by decide +kernel
theorem dM_drop_1 : decode cM_drop 1 = .ok (.iconst 0, 1) := by decide +kernel
theorem dM_drop_2 : decode cM_drop 2 = .ok (.putfield 62, 3) := by decide +kernel
theorem dM_drop_5 : decode cM_drop 5 = .ok (.aload_n 0, 1) := by decide +kernel
theorem dM_drop_6 : decode cM_drop 6 = .ok (.iload_n 1, 1) := by decide +kernel
theorem dM_drop_7 : decode cM_drop 7 = .ok (.invokevirtual 82, 3) := by decide +kernel
theorem dM_drop_10 : decode cM_drop 10 = .ok (.ifCond .ne 5, 3) := by decide +kernel
theorem dM_drop_13 : decode cM_drop 13 = .ok (.iconst 0, 1) := by decide +kernel
theorem dM_drop_14 : decode cM_drop 14 = .ok (.ireturn, 1) := by decide +kernel
theorem dM_drop_15 : decode cM_drop 15 = .ok (.aload_n 0, 1) := by decide +kernel
theorem dM_drop_16 : decode cM_drop 16 = .ok (.getfield 7, 3) := by decide +kernel
theorem dM_drop_19 : decode cM_drop 19 = .ok (.iload_n 1, 1) := by decide +kernel
theorem dM_drop_20 : decode cM_drop 20 = .ok (.iaload, 1) := by decide +kernel
theorem dM_drop_21 : decode cM_drop 21 = .ok (.istore_n 3, 1) := by decide +kernel
theorem dM_drop_22 : decode cM_drop 22 = .ok (.aload_n 0, 1) := by decide +kernel
theorem dM_drop_23 : decode cM_drop 23 = .ok (.iload_n 3, 1) := by decide +kernel
theorem dM_drop_24 : decode cM_drop 24 = .ok (.iload_n 2, 1) := by decide +kernel
theorem dM_drop_25 : decode cM_drop 25 = .ok (.invokevirtual 92, 3) := by decide +kernel
theorem dM_drop_28 : decode cM_drop 28 = .ok (.istore 4, 2) := by decide +kernel
theorem dM_drop_30 : decode cM_drop 30 = .ok (.iload 4, 2) := by decide +kernel
theorem dM_drop_32 : decode cM_drop 32 = .ok (.ifCond .ge 5, 3) := by decide +kernel
theorem dM_drop_35 : decode cM_drop 35 = .ok (.iconst 0, 1) := by decide +kernel
theorem dM_drop_36 : decode cM_drop 36 = .ok (.ireturn, 1) := by decide +kernel
theorem dM_drop_37 : decode cM_drop 37 = .ok (.iconst 0, 1) := by decide +kernel
theorem dM_drop_38 : decode cM_drop 38 = .ok (.istore 5, 2) := by decide +kernel
theorem dM_drop_40 : decode cM_drop 40 = .ok (.iconst 0, 1) := by decide +kernel
theorem dM_drop_41 : decode cM_drop 41 = .ok (.istore 6, 2) := by decide +kernel
theorem dM_drop_43 : decode cM_drop 43 = .ok (.iload 6, 2) := by decide +kernel
theorem dM_drop_45 : decode cM_drop 45 = .ok (.aload_n 0, 1) := by decide +kernel
theorem dM_drop_46 : decode cM_drop 46 = .ok (.getfield 29, 3) := by decide +kernel
theorem dM_drop_49 : decode cM_drop 49 = .ok (.iload_n 3, 1) := by decide +kernel
theorem dM_drop_50 : decode cM_drop 50 = .ok (.iaload, 1) := by decide +kernel
theorem dM_drop_51 : decode cM_drop 51 = .ok (.if_icmp .ge 41, 3) := by decide +kernel
theorem dM_drop_54 : decode cM_drop 54 = .ok (.iload 6, 2) := by decide +kernel
theorem dM_drop_56 : decode cM_drop 56 = .ok (.iload 4, 2) := by decide +kernel
theorem dM_drop_58 : decode cM_drop 58 = .ok (.if_icmp .ne 6, 3) := by decide +kernel
theorem dM_drop_61 : decode cM_drop 61 = .ok (.goto 25, 3) := by decide +kernel
theorem dM_drop_64 : decode cM_drop 64 = .ok (.aload_n 0, 1) := by decide +kernel
theorem dM_drop_65 : decode cM_drop 65 = .ok (.getfield 59, 3) := by decide +kernel
theorem dM_drop_68 : decode cM_drop 68 = .ok (.iload 5, 2) := by decide +kernel
theorem dM_drop_70 : decode cM_drop 70 = .ok (.aload_n 0, 1) := by decide +kernel
theorem dM_drop_71 : decode cM_drop 71 = .ok (.getfield 32, 3) := by decide +kernel
theorem dM_drop_74 : decode cM_drop 74 = .ok (.bipush 12, 2) := by decide +kernel
theorem dM_drop_76 : decode cM_drop 76 = .ok (.iload_n 3, 1) := by decide +kernel
theorem dM_drop_77 : decode cM_drop 77 = .ok (.imul, 1) := by decide +kernel
theorem dM_drop_78 : decode cM_drop 78 = .ok (.iload 6, 2) := by decide +kernel
theorem dM_drop_80 : decode cM_drop 80 = .ok (.iadd, 1) := by decide +kernel
theorem dM_drop_81 : decode cM_drop 81 = .ok (.iaload, 1) := by decide +kernel
theorem dM_drop_82 : decode cM_drop 82 = .ok (.iastore, 1) := by decide +kernel
theorem dM_drop_83 : decode cM_drop 83 = .ok (.iinc 5 1, 3) := by decide +kernel
theorem dM_drop_86 : decode cM_drop 86 = .ok (.iinc 6 1, 3) := by decide +kernel
theorem dM_drop_89 : decode cM_drop 89 = .ok (.goto (-46), 3) := by decide +kernel
theorem dM_drop_92 : decode cM_drop 92 = .ok (.aload_n 0, 1) := by decide +kernel
theorem dM_drop_93 : decode cM_drop 93 = .ok (.aload_n 0, 1) := by decide +kernel
theorem dM_drop_94 : decode cM_drop 94 = .ok (.getfield 23, 3) := by decide +kernel
theorem dM_drop_97 : decode cM_drop 97 = .ok (.iload_n 3, 1) := by decide +kernel
theorem dM_drop_98 : decode cM_drop 98 = .ok (.iaload, 1) := by decide +kernel
theorem dM_drop_99 : decode cM_drop 99 = .ok (.iload 5, 2) := by decide +kernel
theorem dM_drop_101 : decode cM_drop 101 = .ok (.invokevirtual 86, 3) := by decide +kernel
theorem dM_drop_104 : decode cM_drop 104 = .ok (.istore 6, 2) := by decide +kernel
theorem dM_drop_106 : decode cM_drop 106 = .ok (.iload 6, 2) := by decide +kernel
theorem dM_drop_108 : decode cM_drop 108 = .ok (.ifCond .ge 5, 3) := by decide +kernel
theorem dM_drop_111 : decode cM_drop 111 = .ok (.iconst 0, 1) := by decide +kernel
theorem dM_drop_112 : decode cM_drop 112 = .ok (.ireturn, 1) := by decide +kernel
theorem dM_drop_113 : decode cM_drop 113 = .ok (.iload 4, 2) := by decide +kernel
theorem dM_drop_115 : decode cM_drop 115 = .ok (.istore 7, 2) := by decide +kernel
theorem dM_drop_117 : decode cM_drop 117 = .ok (.iload 7, 2) := by decide +kernel
theorem dM_drop_119 : decode cM_drop 119 = .ok (.iload 5, 2) := by decide +kernel
theorem dM_drop_121 : decode cM_drop 121 = .ok (.if_icmp .ge 35, 3) := by decide +kernel
theorem dM_drop_124 : decode cM_drop 124 = .ok (.aload_n 0, 1) := by decide +kernel
theorem dM_drop_125 : decode cM_drop 125 = .ok (.getfield 16, 3) := by decide +kernel
theorem dM_drop_128 : decode cM_drop 128 = .ok (.bipush 12, 2) := by decide +kernel
theorem dM_drop_130 : decode cM_drop 130 = .ok (.iload_n 1, 1) := by decide +kernel
theorem dM_drop_131 : decode cM_drop 131 = .ok (.imul, 1) := by decide +kernel
theorem dM_drop_132 : decode cM_drop 132 = .ok (.iload 7, 2) := by decide +kernel
theorem dM_drop_134 : decode cM_drop 134 = .ok (.iadd, 1) := by decide +kernel
theorem dM_drop_135 : decode cM_drop 135 = .ok (.aload_n 0, 1) := by decide +kernel
theorem dM_drop_136 : decode cM_drop 136 = .ok (.getfield 16, 3) := by decide +kernel
theorem dM_drop_139 : decode cM_drop 139 = .ok (.bipush 12, 2) := by decide +kernel
theorem dM_drop_141 : decode cM_drop 141 = .ok (.iload_n 1, 1) := by decide +kernel
theorem dM_drop_142 : decode cM_drop 142 = .ok (.imul, 1) := by decide +kernel
theorem dM_drop_143 : decode cM_drop 143 = .ok (.iload 7, 2) := by decide +kernel
theorem dM_drop_145 : decode cM_drop 145 = .ok (.iadd, 1) := by decide +kernel
theorem dM_drop_146 : decode cM_drop 146 = .ok (.iconst 1, 1) := by decide +kernel
theorem dM_drop_147 : decode cM_drop 147 = .ok (.iadd, 1) := by decide +kernel
theorem dM_drop_148 : decode cM_drop 148 = .ok (.iaload, 1) := by decide +kernel
theorem dM_drop_149 : decode cM_drop 149 = .ok (.iastore, 1) := by decide +kernel
theorem dM_drop_150 : decode cM_drop 150 = .ok (.iinc 7 1, 3) := by decide +kernel
theorem dM_drop_153 : decode cM_drop 153 = .ok (.goto (-36), 3) := by decide +kernel
theorem dM_drop_156 : decode cM_drop 156 = .ok (.aload_n 0, 1) := by decide +kernel
theorem dM_drop_157 : decode cM_drop 157 = .ok (.getfield 7, 3) := by decide +kernel
theorem dM_drop_160 : decode cM_drop 160 = .ok (.iload_n 1, 1) := by decide +kernel
theorem dM_drop_161 : decode cM_drop 161 = .ok (.iload 6, 2) := by decide +kernel
theorem dM_drop_163 : decode cM_drop 163 = .ok (.iastore, 1) := by decide +kernel
theorem dM_drop_164 : decode cM_drop 164 = .ok (.aload_n 0, 1) := by decide +kernel
theorem dM_drop_165 : decode cM_drop 165 = .ok (.getfield 13, 3) := by decide +kernel
theorem dM_drop_168 : decode cM_drop 168 = .ok (.iload_n 1, 1) := by decide +kernel
theorem dM_drop_169 : decode cM_drop 169 = .ok (.dup2, 1) := by decide +kernel
theorem dM_drop_170 : decode cM_drop 170 = .ok (.iaload, 1) := by decide +kernel
theorem dM_drop_171 : decode cM_drop 171 = .ok (.iconst 1, 1) := by decide +kernel
theorem dM_drop_172 : decode cM_drop 172 = .ok (.iadd, 1) := by decide +kernel
theorem dM_drop_173 : decode cM_drop 173 = .ok (.iastore, 1) := by decide +kernel
theorem dM_drop_174 : decode cM_drop 174 = .ok (.iconst 1, 1) := by decide +kernel
theorem dM_drop_175 : decode cM_drop 175 = .ok (.ireturn, 1) := by decide +kernel
theorem dM_turn_0 : decode cM_turn 0 = .ok (.aload_n 0, 1) := by decide +kernel
theorem dM_turn_1 : decode cM_turn 1 = .ok (.iconst 0, 1) := by decide +kernel
theorem dM_turn_2 : decode cM_turn 2 = .ok (.putfield 62, 3) := by decide +kernel
theorem dM_turn_5 : decode cM_turn 5 = .ok (.aload_n 0, 1) := by decide +kernel
theorem dM_turn_6 : decode cM_turn 6 = .ok (.iload_n 1, 1) := by decide +kernel
theorem dM_turn_7 : decode cM_turn 7 = .ok (.invokevirtual 82, 3) := by decide +kernel
theorem dM_turn_10 : decode cM_turn 10 = .ok (.ifCond .eq 16, 3) := by decide +kernel
theorem dM_turn_13 : decode cM_turn 13 = .ok (.iload_n 2, 1) := by decide +kernel
theorem dM_turn_14 : decode cM_turn 14 = .ok (.iconst (-1), 1) := by decide +kernel
theorem dM_turn_15 : decode cM_turn 15 = .ok (.if_icmp .eq 13, 3) := by decide +kernel
theorem dM_turn_18 : decode cM_turn 18 = .ok (.aload_n 0, 1) := by decide +kernel
theorem dM_turn_19 : decode cM_turn 19 = .ok (.iload_n 2, 1) := by decide +kernel
theorem dM_turn_20 : decode cM_turn 20 = .ok (.invokevirtual 82, 3) := by decide +kernel
theorem dM_turn_23 : decode cM_turn 23 = .ok (.ifCond .ne 5, 3) := by decide +kernel
theorem dM_turn_26 : decode cM_turn 26 = .ok (.iconst 0, 1) := by decide +kernel
theorem dM_turn_27 : decode cM_turn 27 = .ok (.ireturn, 1) := by decide +kernel
theorem dM_turn_28 : decode cM_turn 28 = .ok (.iload_n 2, 1) := by decide +kernel
theorem dM_turn_29 : decode cM_turn 29 = .ok (.istore_n 3, 1) := by decide +kernel
theorem dM_turn_30 : decode cM_turn 30 = .ok (.iload_n 3, 1) := by decide +kernel
theorem dM_turn_31 : decode cM_turn 31 = .ok (.ifCond .lt 19, 3) := by decide +kernel
theorem dM_turn_34 : decode cM_turn 34 = .ok (.iload_n 3, 1) := by decide +kernel
theorem dM_turn_35 : decode cM_turn 35 = .ok (.iload_n 1, 1) := by decide +kernel
theorem dM_turn_36 : decode cM_turn 36 = .ok (.if_icmp .ne 5, 3) := by decide +kernel
theorem dM_turn_39 : decode cM_turn 39 = .ok (.iconst 0, 1) := by decide +kernel
theorem dM_turn_40 : decode cM_turn 40 = .ok (.ireturn, 1) := by decide +kernel
theorem dM_turn_41 : decode cM_turn 41 = .ok (.aload_n 0, 1) := by decide +kernel
theorem dM_turn_42 : decode cM_turn 42 = .ok (.iload_n 3, 1) := by decide +kernel
theorem dM_turn_43 : decode cM_turn 43 = .ok (.invokevirtual 95, 3) := by decide +kernel
theorem dM_turn_46 : decode cM_turn 46 = .ok (.istore_n 3, 1) := by decide +kernel
theorem dM_turn_47 : decode cM_turn 47 = .ok (.goto (-17), 3) := by decide +kernel
theorem dM_turn_50 : decode cM_turn 50 = .ok (.aload_n 0, 1) := by decide +kernel
theorem dM_turn_51 : decode cM_turn 51 = .ok (.getfield 7, 3) := by decide +kernel
theorem dM_turn_54 : decode cM_turn 54 = .ok (.iload_n 1, 1) := by decide +kernel
theorem dM_turn_55 : decode cM_turn 55 = .ok (.iaload, 1) := by decide +kernel
theorem dM_turn_56 : decode cM_turn 56 = .ok (.istore_n 3, 1) := by decide +kernel
theorem dM_turn_57 : decode cM_turn 57 = .ok (.iconst 0, 1) := by decide +kernel
theorem dM_turn_58 : decode cM_turn 58 = .ok (.istore 4, 2) := by decide +kernel
theorem dM_turn_60 : decode cM_turn 60 = .ok (.iload 4, 2) := by decide +kernel
theorem dM_turn_62 : decode cM_turn 62 = .ok (.aload_n 0, 1) := by decide +kernel
theorem dM_turn_63 : decode cM_turn 63 = .ok (.getfield 29, 3) := by decide +kernel
theorem dM_turn_66 : decode cM_turn 66 = .ok (.iload_n 3, 1) := by decide +kernel
theorem dM_turn_67 : decode cM_turn 67 = .ok (.iaload, 1) := by decide +kernel
theorem dM_turn_68 : decode cM_turn 68 = .ok (.if_icmp .ge 28, 3) := by decide +kernel
theorem dM_turn_71 : decode cM_turn 71 = .ok (.aload_n 0, 1) := by decide +kernel
theorem dM_turn_72 : decode cM_turn 72 = .ok (.getfield 59, 3) := by decide +kernel
theorem dM_turn_75 : decode cM_turn 75 = .ok (.iload 4, 2) := by decide +kernel
theorem dM_turn_77 : decode cM_turn 77 = .ok (.aload_n 0, 1) := by decide +kernel
theorem dM_turn_78 : decode cM_turn 78 = .ok (.getfield 32, 3) := by decide +kernel
theorem dM_turn_81 : decode cM_turn 81 = .ok (.bipush 12, 2) := by decide +kernel
theorem dM_turn_83 : decode cM_turn 83 = .ok (.iload_n 3, 1) := by decide +kernel
theorem dM_turn_84 : decode cM_turn 84 = .ok (.imul, 1) := by decide +kernel
theorem dM_turn_85 : decode cM_turn 85 = .ok (.iload 4, 2) := by decide +kernel
theorem dM_turn_87 : decode cM_turn 87 = .ok (.iadd, 1) := by decide +kernel
theorem dM_turn_88 : decode cM_turn 88 = .ok (.iaload, 1) := by decide +kernel
theorem dM_turn_89 : decode cM_turn 89 = .ok (.iastore, 1) := by decide +kernel
theorem dM_turn_90 : decode cM_turn 90 = .ok (.iinc 4 1, 3) := by decide +kernel
theorem dM_turn_93 : decode cM_turn 93 = .ok (.goto (-33), 3) := by decide +kernel
theorem dM_turn_96 : decode cM_turn 96 = .ok (.aload_n 0, 1) := by decide +kernel
theorem dM_turn_97 : decode cM_turn 97 = .ok (.iload_n 2, 1) := by decide +kernel
theorem dM_turn_98 : decode cM_turn 98 = .ok (.aload_n 0, 1) := by decide +kernel
theorem dM_turn_99 : decode cM_turn 99 = .ok (.getfield 29, 3) := by decide +kernel
theorem dM_turn_102 : decode cM_turn 102 = .ok (.iload_n 3, 1) := by decide +kernel
theorem dM_turn_103 : decode cM_turn 103 = .ok (.iaload, 1) := by decide +kernel

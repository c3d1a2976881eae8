theorem dK_find_103 : decode cK_find 103 = .ok (.iload 6, 2) := by decide +kernel
theorem dK_find_105 : decode cK_find 105 = .ok (.iload_n 2, 1) := by decide +kernel
theorem dK_find_106 : decode cK_find 106 = .ok (.invokevirtual 108, 3) := by decide +kernel
theorem dK_find_109 : decode cK_find 109 = .ok (.lload 7, 2) := by decide +kernel
theorem dK_find_111 : decode cK_find 111 = .ok (.invokevirtual 116, 3) := by decide +kernel
theorem dK_find_114 : decode cK_find 114 = .ok (.ireturn, 1) := by decide +kernel
theorem dK_holds_0 : decode cK_holds 0 = .ok (.aload_n 0, 1) := by decide +kernel
theorem dK_holds_1 : decode cK_holds 1 = .ok (.getfield 26, 3) := by decide +kernel
theorem dK_holds_4 : decode cK_holds 4 = .ok (.iload_n 1, 1) := by decide +kernel
theorem dK_holds_5 : decode cK_holds 5 = .ok (.invokevirtual 123, 3) := by decide +kernel
theorem dK_holds_8 : decode cK_holds 8 = .ok (.ifCond .eq 51, 3) := by decide +kernel
theorem dK_holds_11 : decode cK_holds 11 = .ok (.aload_n 0, 1) := by decide +kernel
theorem dK_holds_12 : decode cK_holds 12 = .ok (.getfield 10, 3) := by decide +kernel
theorem dK_holds_15 : decode cK_holds 15 = .ok (.iload_n 2, 1) := by decide +kernel
theorem dK_holds_16 : decode cK_holds 16 = .ok (.invokevirtual 64, 3) := by decide +kernel
theorem dK_holds_19 : decode cK_holds 19 = .ok (.ifCond .eq 40, 3) := by decide +kernel
theorem dK_holds_22 : decode cK_holds 22 = .ok (.aload_n 0, 1) := by decide +kernel
theorem dK_holds_23 : decode cK_holds 23 = .ok (.getfield 26, 3) := by decide +kernel
theorem dK_holds_26 : decode cK_holds 26 = .ok (.getfield 124, 3) := by decide +kernel
theorem dK_holds_29 : decode cK_holds 29 = .ok (.iload_n 1, 1) := by decide +kernel
theorem dK_holds_30 : decode cK_holds 30 = .ok (.baload, 1) := by decide +kernel
theorem dK_holds_31 : decode cK_holds 31 = .ok (.ifCond .eq 28, 3) := by decide +kernel
theorem dK_holds_34 : decode cK_holds 34 = .ok (.aload_n 0, 1) := by decide +kernel
theorem dK_holds_35 : decode cK_holds 35 = .ok (.getfield 26, 3) := by decide +kernel
theorem dK_holds_38 : decode cK_holds 38 = .ok (.getfield 128, 3) := by decide +kernel
theorem dK_holds_41 : decode cK_holds 41 = .ok (.iload_n 1, 1) := by decide +kernel
theorem dK_holds_42 : decode cK_holds 42 = .ok (.iaload, 1) := by decide +kernel
theorem dK_holds_43 : decode cK_holds 43 = .ok (.aload_n 0, 1) := by decide +kernel
theorem dK_holds_44 : decode cK_holds 44 = .ok (.getfield 10, 3) := by decide +kernel
theorem dK_holds_47 : decode cK_holds 47 = .ok (.getfield 70, 3) := by decide +kernel
theorem dK_holds_50 : decode cK_holds 50 = .ok (.iload_n 2, 1) := by decide +kernel
theorem dK_holds_51 : decode cK_holds 51 = .ok (.iaload, 1) := by decide +kernel
theorem dK_holds_52 : decode cK_holds 52 = .ok (.if_icmp .ne 7, 3) := by decide +kernel
theorem dK_holds_55 : decode cK_holds 55 = .ok (.iconst 1, 1) := by decide +kernel
theorem dK_holds_56 : decode cK_holds 56 = .ok (.goto 4, 3) := by decide +kernel
theorem dK_holds_59 : decode cK_holds 59 = .ok (.iconst 0, 1) := by decide +kernel
theorem dK_holds_60 : decode cK_holds 60 = .ok (.ireturn, 1) := by decide +kernel
theorem dK_get_0 : decode cK_get 0 = .ok (.aload_n 0, 1) := by decide +kernel
theorem dK_get_1 : decode cK_get 1 = .ok (.getfield 26, 3) := by decide +kernel
theorem dK_get_4 : decode cK_get 4 = .ok (.iload_n 1, 1) := by decide +kernel
theorem dK_get_5 : decode cK_get 5 = .ok (.invokevirtual 123, 3) := by decide +kernel
theorem dK_get_8 : decode cK_get 8 = .ok (.ifCond .ne 13, 3) := by decide +kernel
theorem dK_get_11 : decode cK_get 11 = .ok (.new 38, 3) := by decide +kernel
theorem dK_get_14 : decode cK_get 14 = .ok (.dup, 1) := by decide +kernel
theorem dK_get_15 : decode cK_get 15 = .ok (.ldc 129, 2) := by decide +kernel
theorem dK_get_17 : decode cK_get 17 = .ok (.invokespecial 42, 3) := by decide +kernel
theorem dK_get_20 : decode cK_get 20 = .ok (.athrow, 1) := by decide +kernel
theorem dK_get_21 : decode cK_get 21 = .ok (.aload_n 0, 1) := by decide +kernel
theorem dK_get_22 : decode cK_get 22 = .ok (.iload_n 1, 1) := by decide +kernel
theorem dK_get_23 : decode cK_get 23 = .ok (.iload_n 2, 1) := by decide +kernel
theorem dK_get_24 : decode cK_get 24 = .ok (.invokevirtual 131, 3) := by decide +kernel
theorem dK_get_27 : decode cK_get 27 = .ok (.ifCond .ne 13, 3) := by decide +kernel
theorem dK_get_30 : decode cK_get 30 = .ok (.new 49, 3) := by decide +kernel
theorem dK_get_33 : decode cK_get 33 = .ok (.dup, 1) := by decide +kernel
theorem dK_get_34 : decode cK_get 34 = .ok (.ldc 134, 2) := by decide +kernel
theorem dK_get_36 : decode cK_get 36 = .ok (.invokespecial 53, 3) := by decide +kernel
theorem dK_get_39 : decode cK_get 39 = .ok (.athrow, 1) := by decide +kernel
theorem dK_get_40 : decode cK_get 40 = .ok (.aload_n 0, 1) := by decide +kernel
theorem dK_get_41 : decode cK_get 41 = .ok (.getfield 26, 3) := by decide +kernel
theorem dK_get_44 : decode cK_get 44 = .ok (.getfield 136, 3) := by decide +kernel
theorem dK_get_47 : decode cK_get 47 = .ok (.iload_n 1, 1) := by decide +kernel
theorem dK_get_48 : decode cK_get 48 = .ok (.iaload, 1) := by decide +kernel
theorem dK_get_49 : decode cK_get 49 = .ok (.istore_n 3, 1) := by decide +kernel
theorem dK_get_50 : decode cK_get 50 = .ok (.iload_n 3, 1) := by decide +kernel
theorem dK_get_51 : decode cK_get 51 = .ok (.iconst (-1), 1) := by decide +kernel
theorem dK_get_52 : decode cK_get 52 = .ok (.if_icmp .ne 13, 3) := by decide +kernel
theorem dK_get_55 : decode cK_get 55 = .ok (.new 111, 3) := by decide +kernel
theorem dK_get_58 : decode cK_get 58 = .ok (.dup, 1) := by decide +kernel
theorem dK_get_59 : decode cK_get 59 = .ok (.ldc 113, 2) := by decide +kernel
theorem dK_get_61 : decode cK_get 61 = .ok (.invokespecial 115, 3) := by decide +kernel
theorem dK_get_64 : decode cK_get 64 = .ok (.athrow, 1) := by decide +kernel
theorem dK_get_65 : decode cK_get 65 = .ok (.aload_n 0, 1) := by decide +kernel
theorem dK_get_66 : decode cK_get 66 = .ok (.getfield 26, 3) := by decide +kernel
theorem dK_get_69 : decode cK_get 69 = .ok (.getfield 139, 3) := by decide +kernel
theorem dK_get_72 : decode cK_get 72 = .ok (.iload_n 1, 1) := by decide +kernel
theorem dK_get_73 : decode cK_get 73 = .ok (.iaload, 1) := by decide +kernel
theorem dK_get_74 : decode cK_get 74 = .ok (.istore 4, 2) := by decide +kernel
theorem dK_get_76 : decode cK_get 76 = .ok (.aload_n 0, 1) := by decide +kernel
theorem dK_get_77 : decode cK_get 77 = .ok (.getfield 10, 3) := by decide +kernel
theorem dK_get_80 : decode cK_get 80 = .ok (.getfield 85, 3) := by decide +kernel
theorem dK_get_83 : decode cK_get 83 = .ok (.iload 4, 2) := by decide +kernel
theorem dK_get_85 : decode cK_get 85 = .ok (.iconst (-1), 1) := by decide +kernel
theorem dK_get_86 : decode cK_get 86 = .ok (.if_icmp .ne 7, 3) := by decide +kernel
theorem dK_get_89 : decode cK_get 89 = .ok (.iload_n 2, 1) := by decide +kernel
theorem dK_get_90 : decode cK_get 90 = .ok (.goto 5, 3) := by decide +kernel
theorem dK_get_93 : decode cK_get 93 = .ok (.iload 4, 2) := by decide +kernel
theorem dK_get_95 : decode cK_get 95 = .ok (.aaload, 1) := by decide +kernel
theorem dK_get_96 : decode cK_get 96 = .ok (.iload_n 3, 1) := by decide +kernel
theorem dK_get_97 : decode cK_get 97 = .ok (.iaload, 1) := by decide +kernel
theorem dK_get_98 : decode cK_get 98 = .ok (.ireturn, 1) := by decide +kernel
theorem dK_look_0 : decode cK_look 0 = .ok (.aload_n 0, 1) := by decide +kernel
theorem dK_look_1 : decode cK_look 1 = .ok (.getfield 10, 3) := by decide +kernel
theorem dK_look_4 : decode cK_look 4 = .ok (.iload_n 1, 1) := by decide +kernel
theorem dK_look_5 : decode cK_look 5 = .ok (.invokevirtual 64, 3) := by decide +kernel
theorem dK_look_8 : decode cK_look 8 = .ok (.ifCond .ne 5, 3) := by decide +kernel
theorem dK_look_11 : decode cK_look 11 = .ok (.iconst (-1), 1) := by decide +kernel
theorem dK_look_12 : decode cK_look 12 = .ok (.ireturn, 1) := by decide +kernel
theorem dK_look_13 : decode cK_look 13 = .ok (.iload_n 2, 1) := by decide +kernel
theorem dK_look_14 : decode cK_look 14 = .ok (.tableswitch 104 0 5 #[38, 48, 58, 76, 86, 95], 38) := by decide +kernel
theorem dK_look_52 : decode cK_look 52 = .ok (.aload_n 0, 1) := by decide +kernel
theorem dK_look_53 : decode cK_look 53 = .ok (.getfield 10, 3) := by decide +kernel
theorem dK_look_56 : decode cK_look 56 = .ok (.getfield 70, 3) := by decide +kernel
theorem dK_look_59 : decode cK_look 59 = .ok (.iload_n 1, 1) := by decide +kernel
theorem dK_look_60 : decode cK_look 60 = .ok (.iaload, 1) := by decide +kernel
theorem dK_look_61 : decode cK_look 61 = .ok (.ireturn, 1) := by decide +kernel
theorem dK_look_62 : decode cK_look 62 = .ok (.aload_n 0, 1) := by decide +kernel
theorem dK_look_63 : decode cK_look 63 = .ok (.getfield 10, 3) := by decide +kernel
theorem dK_look_66 : decode cK_look 66 = .ok (.getfield 93, 3) := by decide +kernel
theorem dK_look_69 : decode cK_look 69 = .ok (.iload_n 1, 1) := by decide +kernel
theorem dK_look_70 : decode cK_look 70 = .ok (.iaload, 1) := by decide +kernel
theorem dK_look_71 : decode cK_look 71 = .ok (.ireturn, 1) := by decide +kernel
theorem dK_look_72 : decode cK_look 72 = .ok (.aload_n 0, 1) := by decide +kernel
theorem dK_look_73 : decode cK_look 73 = .ok (.getfield 19, 3) := by decide +kernel
theorem dK_look_76 : decode cK_look 76 = .ok (.getfield 78, 3) := by decide +kernel
theorem dK_look_79 : decode cK_look 79 = .ok (.aload_n 0, 1) := by decide +kernel
theorem dK_look_80 : decode cK_look 80 = .ok (.getfield 10, 3) := by decide +kernel
theorem dK_look_83 : decode cK_look 83 = .ok (.getfield 70, 3) := by decide +kernel
theorem dK_look_86 : decode cK_look 86 = .ok (.iload_n 1, 1) := by decide +kernel
theorem dK_look_87 : decode cK_look 87 = .ok (.iaload, 1) := by decide +kernel
theorem dK_look_88 : decode cK_look 88 = .ok (.iaload, 1) := by decide +kernel
theorem dK_look_89 : decode cK_look 89 = .ok (.ireturn, 1) := by decide +kernel
theorem dK_look_90 : decode cK_look 90 = .ok (.aload_n 0, 1) := by decide +kernel
theorem dK_look_91 : decode cK_look 91 = .ok (.getfield 10, 3) := by decide +kernel
theorem dK_look_94 : decode cK_look 94 = .ok (.getfield 142, 3) := by decide +kernel
theorem dK_look_97 : decode cK_look 97 = .ok (.iload_n 1, 1) := by decide +kernel
theorem dK_look_98 : decode cK_look 98 = .ok (.iaload, 1) := by decide +kernel
theorem dK_look_99 : decode cK_look 99 = .ok (.ireturn, 1) := by decide +kernel
theorem dK_look_100 : decode cK_look 100 = .ok (.aload_n 0, 1) := by decide +kernel
theorem dK_look_101 : decode cK_look 101 = .ok (.getfield 10, 3) := by decide +kernel
theorem dK_look_104 : decode cK_look 104 = .ok (.iload_n 1, 1) := by decide +kernel
theorem dK_look_105 : decode cK_look 105 = .ok (.invokevirtual 145, 3) := by decide +kernel
theorem dK_look_108 : decode cK_look 108 = .ok (.ireturn, 1) := by decide +kernel
theorem dK_look_109 : decode cK_look 109 = .ok (.aload_n 0, 1) := by decide +kernel
theorem dK_look_110 : decode cK_look 110 = .ok (.getfield 10, 3) := by decide +kernel
theorem dK_look_113 : decode cK_look 113 = .ok (.iload_n 1, 1) := by decide +kernel
theorem dK_look_114 : decode cK_look 114 = .ok (.invokevirtual 149, 3) := by decide +kernel
theorem dK_look_117 : decode cK_look 117 = .ok (.ireturn, 1) := by decide +kernel
theorem dK_look_118 : decode cK_look 118 = .ok (.iconst (-1), 1) := by decide +kernel
theorem dK_look_119 : decode cK_look 119 = .ok (.ireturn, 1) := by decide +kernel
theorem dK_shape_0 : decode cK_shape 0 = .ok (.aload_n 0, 1) := by decide +kernel
theorem dK_shape_1 : decode cK_shape 1 = .ok (.getfield 19, 3) := by decide +kernel
theorem dK_shape_4 : decode cK_shape 4 = .ok (.iload_n 1, 1) := by decide +kernel
theorem dK_shape_5 : decode cK_shape 5 = .ok (.invokevirtual 152, 3) := by decide +kernel
theorem dK_shape_8 : decode cK_shape 8 = .ok (.ifCond .ne 5, 3) := by decide +kernel
theorem dK_shape_11 : decode cK_shape 11 = .ok (.iconst (-1), 1) := by decide +kernel
theorem dK_shape_12 : decode cK_shape 12 = .ok (.ireturn, 1) := by decide +kernel
theorem dK_shape_13 : decode cK_shape 13 = .ok (.iload_n 2, 1) := by decide +kernel
theorem dK_shape_14 : decode cK_shape 14 = .ok (.tableswitch 69 0 3 #[30, 40, 50, 59], 30) := by decide +kernel
theorem dK_shape_44 : decode cK_shape 44 = .ok (.aload_n 0, 1) := by decide +kernel
theorem dK_shape_45 : decode cK_shape 45 = .ok (.getfield 19, 3) := by decide +kernel
theorem dK_shape_48 : decode cK_shape 48 = .ok (.getfield 153, 3) := by decide +kernel
theorem dK_shape_51 : decode cK_shape 51 = .ok (.iload_n 1, 1) := by decide +kernel
theorem dK_shape_52 : decode cK_shape 52 = .ok (.iaload, 1) := by decide +kernel
theorem dK_shape_53 : decode cK_shape 53 = .ok (.ireturn, 1) := by decide +kernel
theorem dK_shape_54 : decode cK_shape 54 = .ok (.aload_n 0, 1) := by decide +kernel
theorem dK_shape_55 : decode cK_shape 55 = .ok (.getfield 19, 3) := by decide +kernel
theorem dK_shape_58 : decode cK_shape 58 = .ok (.getfield 78, 3) := by decide +kernel
theorem dK_shape_61 : decode cK_shape 61 = .ok (.iload_n 1, 1) := by decide +kernel
theorem dK_shape_62 : decode cK_shape 62 = .ok (.iaload, 1) := by decide +kernel
theorem dK_shape_63 : decode cK_shape 63 = .ok (.ireturn, 1) := by decide +kernel
theorem dK_shape_64 : decode cK_shape 64 = .ok (.aload_n 0, 1) := by decide +kernel
theorem dK_shape_65 : decode cK_shape 65 = .ok (.getfield 10, 3) := by decide +kernel
theorem dK_shape_68 : decode cK_shape 68 = .ok (.iload_n 1, 1) := by decide +kernel
theorem dK_shape_69 : decode cK_shape 69 = .ok (.invokevirtual 154, 3) := by decide +kernel
theorem dK_shape_72 : decode cK_shape 72 = .ok (.ireturn, 1) := by decide +kernel
theorem dK_shape_73 : decode cK_shape 73 = .ok (.aload_n 0, 1) := by decide +kernel
theorem dK_shape_74 : decode cK_shape 74 = .ok (.getfield 19, 3) := by decide +kernel
theorem dK_shape_77 : decode cK_shape 77 = .ok (.getfield 157, 3) := by decide +kernel
theorem dK_shape_80 : decode cK_shape 80 = .ok (.iload_n 1, 1) := by decide +kernel
theorem dK_shape_81 : decode cK_shape 81 = .ok (.iaload, 1) := by decide +kernel
theorem dK_shape_82 : decode cK_shape 82 = .ok (.ireturn, 1) := by decide +kernel
theorem dK_shape_83 : decode cK_shape 83 = .ok (.iload_n 2, 1) := by decide +kernel
theorem dK_shape_84 : decode cK_shape 84 = .ok (.iconst 4, 1) := by decide +kernel
theorem dK_shape_85 : decode cK_shape 85 = .ok (.if_icmp .ge 7, 3) := by decide +kernel
theorem dK_shape_88 : decode cK_shape 88 = .ok (.iconst (-1), 1) := by decide +kernel
theorem dK_shape_89 : decode cK_shape 89 = .ok (.goto 14, 3) := by decide +kernel
theorem dK_shape_92 : decode cK_shape 92 = .ok (.aload_n 0, 1) := by decide +kernel
theorem dK_shape_93 : decode cK_shape 93 = .ok (.getfield 19, 3) := by decide +kernel
theorem dK_shape_96 : decode cK_shape 96 = .ok (.iload_n 1, 1) := by decide +kernel
theorem dK_shape_97 : decode cK_shape 97 = .ok (.iload_n 2, 1) := by decide +kernel
theorem dK_shape_98 : decode cK_shape 98 = .ok (.iconst 4, 1) := by decide +kernel
theorem dK_shape_99 : decode cK_shape 99 = .ok (.isub, 1) := by decide +kernel
theorem dK_shape_100 : decode cK_shape 100 = .ok (.invokevirtual 160, 3) := by decide +kernel
theorem dK_shape_103 : decode cK_shape 103 = .ok (.ireturn, 1) := by decide +kernel
theorem dK_finding_0 : decode cK_finding 0 = .ok (.aload_n 0, 1) := by decide +kernel
theorem dK_finding_1 : decode cK_finding 1 = .ok (.getfield 26, 3) := by decide +kernel
theorem dK_finding_4 : decode cK_finding 4 = .ok (.iload_n 1, 1) := by decide +kernel
theorem dK_finding_5 : decode cK_finding 5 = .ok (.invokevirtual 123, 3) := by decide +kernel
theorem dK_finding_8 : decode cK_finding 8 = .ok (.ifCond .ne 5, 3) := by decide +kernel
theorem dK_finding_11 : decode cK_finding 11 = .ok (.iconst (-1), 1) := by decide +kernel
theorem dK_finding_12 : decode cK_finding 12 = .ok (.ireturn, 1) := by decide +kernel
theorem dK_finding_13 : decode cK_finding 13 = .ok (.iload_n 2, 1) := by decide +kernel
theorem dK_finding_14 : decode cK_finding 14 = .ok (.tableswitch 105 0 5 #[38, 48, 58, 67, 77, 87], 38) := by decide +kernel
theorem dK_finding_52 : decode cK_finding 52 = .ok (.aload_n 0, 1) := by decide +kernel
theorem dK_finding_53 : decode cK_finding 53 = .ok (.getfield 26, 3) := by decide +kernel
theorem dK_finding_56 : decode cK_finding 56 = .ok (.getfield 128, 3) := by decide +kernel
theorem dK_finding_59 : decode cK_finding 59 = .ok (.iload_n 1, 1) := by decide +kernel
theorem dK_finding_60 : decode cK_finding 60 = .ok (.iaload, 1) := by decide +kernel
theorem dK_finding_61 : decode cK_finding 61 = .ok (.ireturn, 1) := by decide +kernel
theorem dK_finding_62 : decode cK_finding 62 = .ok (.aload_n 0, 1) := by decide +kernel
theorem dK_finding_63 : decode cK_finding 63 = .ok (.getfield 26, 3) := by decide +kernel
theorem dK_finding_66 : decode cK_finding 66 = .ok (.getfield 163, 3) := by decide +kernel
theorem dK_finding_69 : decode cK_finding 69 = .ok (.iload_n 1, 1) := by decide +kernel
theorem dK_finding_70 : decode cK_finding 70 = .ok (.iaload, 1) := by decide +kernel
theorem dK_finding_71 : decode cK_finding 71 = .ok (.ireturn, 1) := by decide +kernel
theorem dK_finding_72 : decode cK_finding 72 = .ok (.aload_n 0, 1) := by decide +kernel
theorem dK_finding_73 : decode cK_finding 73 = .ok (.getfield 26, 3) := by decide +kernel
theorem dK_finding_76 : decode cK_finding 76 = .ok (.iload_n 1, 1) := by decide +kernel
theorem dK_finding_77 : decode cK_finding 77 = .ok (.invokevirtual 166, 3) := by decide +kernel
theorem dK_finding_80 : decode cK_finding 80 = .ok (.ireturn, 1) := by decide +kernel
theorem dK_finding_81 : decode cK_finding 81 = .ok (.aload_n 0, 1) := by decide +kernel
theorem dK_finding_82 : decode cK_finding 82 = .ok (.getfield 26, 3) := by decide +kernel
theorem dK_finding_85 : decode cK_finding 85 = .ok (.getfield 139, 3) := by decide +kernel
theorem dK_finding_88 : decode cK_finding 88 = .ok (.iload_n 1, 1) := by decide +kernel
theorem dK_finding_89 : decode cK_finding 89 = .ok (.iaload, 1) := by decide +kernel
theorem dK_finding_90 : decode cK_finding 90 = .ok (.ireturn, 1) := by decide +kernel
theorem dK_finding_91 : decode cK_finding 91 = .ok (.aload_n 0, 1) := by decide +kernel
theorem dK_finding_92 : decode cK_finding 92 = .ok (.getfield 26, 3) := by decide +kernel
theorem dK_finding_95 : decode cK_finding 95 = .ok (.getfield 136, 3) := by decide +kernel
theorem dK_finding_98 : decode cK_finding 98 = .ok (.iload_n 1, 1) := by decide +kernel
theorem dK_finding_99 : decode cK_finding 99 = .ok (.iaload, 1) := by decide +kernel
theorem dK_finding_100 : decode cK_finding 100 = .ok (.ireturn, 1) := by decide +kernel
theorem dK_finding_101 : decode cK_finding 101 = .ok (.aload_n 0, 1) := by decide +kernel
theorem dK_finding_102 : decode cK_finding 102 = .ok (.getfield 26, 3) := by decide +kernel
theorem dK_finding_105 : decode cK_finding 105 = .ok (.getfield 124, 3) := by decide +kernel
theorem dK_finding_108 : decode cK_finding 108 = .ok (.iload_n 1, 1) := by decide +kernel
theorem dK_finding_109 : decode cK_finding 109 = .ok (.baload, 1) := by decide +kernel
theorem dK_finding_110 : decode cK_finding 110 = .ok (.ifCond .eq 7, 3) := by decide +kernel
theorem dK_finding_113 : decode cK_finding 113 = .ok (.iconst 1, 1) := by decide +kernel
theorem dK_finding_114 : decode cK_finding 114 = .ok (.goto 4, 3) := by decide +kernel
theorem dK_finding_117 : decode cK_finding 117 = .ok (.iconst 0, 1) := by decide +kernel
theorem dK_finding_118 : decode cK_finding 118 = .ok (.ireturn, 1) := by decide +kernel
theorem dK_finding_119 : decode cK_finding 119 = .ok (.iconst (-1), 1) := by decide +kernel
theorem dK_finding_120 : decode cK_finding 120 = .ok (.ireturn, 1) := by decide +kernel
theorem dK_count_0 : decode cK_count 0 = .ok (.iload_n 1, 1) := by decide +kernel
theorem dK_count_1 : decode cK_count 1 = .ok (.tableswitch 63 0 3 #[31, 39, 47, 55], 31) := by decide +kernel
theorem dK_count_32 : decode cK_count 32 = .ok (.aload_n 0, 1) := by decide +kernel
theorem dK_count_33 : decode cK_count 33 = .ok (.getfield 10, 3) := by decide +kernel
theorem dK_count_36 : decode cK_count 36 = .ok (.getfield 45, 3) := by decide +kernel
theorem dK_count_39 : decode cK_count 39 = .ok (.ireturn, 1) := by decide +kernel
theorem dK_count_40 : decode cK_count 40 = .ok (.aload_n 0, 1) := by decide +kernel
theorem dK_count_41 : decode cK_count 41 = .ok (.getfield 19, 3) := by decide +kernel
theorem dK_count_44 : decode cK_count 44 = .ok (.getfield 169, 3) := by decide +kernel
theorem dK_count_47 : decode cK_count 47 = .ok (.ireturn, 1) := by decide +kernel
theorem dK_count_48 : decode cK_count 48 = .ok (.aload_n 0, 1) := by decide +kernel
theorem dK_count_49 : decode cK_count 49 = .ok (.getfield 26, 3) := by decide +kernel
theorem dK_count_52 : decode cK_count 52 = .ok (.getfield 170, 3) := by decide +kernel
theorem dK_count_55 : decode cK_count 55 = .ok (.ireturn, 1) := by decide +kernel
theorem dK_count_56 : decode cK_count 56 = .ok (.aload_n 0, 1) := by decide +kernel
theorem dK_count_57 : decode cK_count 57 = .ok (.getfield 26, 3) := by decide +kernel
theorem dK_count_60 : decode cK_count 60 = .ok (.invokevirtual 173, 3) := by decide +kernel
theorem dK_count_63 : decode cK_count 63 = .ok (.ireturn, 1) := by decide +kernel
theorem dK_count_64 : decode cK_count 64 = .ok (.iconst (-1), 1) := by decide +kernel
theorem dK_count_65 : decode cK_count 65 = .ok (.ireturn, 1) := by decide +kernel
theorem dK_isName_0 : decode cK_isName 0 = .ok (.iload_n 0, 1) := by decide +kernel
theorem dK_isName_1 : decode cK_isName 1 = .ok (.ifCond .lt 13, 3) := by decide +kernel
theorem dK_isName_4 : decode cK_isName 4 = .ok (.iload_n 0, 1) := by decide +kernel
theorem dK_isName_5 : decode cK_isName 5 = .ok (.bipush 12, 2) := by decide +kernel
theorem dK_isName_7 : decode cK_isName 7 = .ok (.if_icmp .ge 7, 3) := by decide +kernel
theorem dK_isName_10 : decode cK_isName 10 = .ok (.iconst 1, 1) := by decide +kernel
theorem dK_isName_11 : decode cK_isName 11 = .ok (.goto 4, 3) := by decide +kernel
theorem dK_isName_14 : decode cK_isName 14 = .ok (.iconst 0, 1) := by decide +kernel
theorem dK_isName_15 : decode cK_isName 15 = .ok (.ireturn, 1) := by decide +kernel
theorem dK_change_0 : decode cK_change 0 = .ok (.aload_n 0, 1) := by decide +kernel
theorem dK_change_1 : decode cK_change 1 = .ok (.getfield 10, 3) := by decide +kernel
theorem dK_change_4 : decode cK_change 4 = .ok (.getfield 70, 3) := by decide +kernel
theorem dK_change_7 : decode cK_change 7 = .ok (.iload_n 1, 1) := by decide +kernel
theorem dK_change_8 : decode cK_change 8 = .ok (.iload_n 2, 1) := by decide +kernel
theorem dK_change_9 : decode cK_change 9 = .ok (.iastore, 1) := by decide +kernel
theorem dK_change_10 : decode cK_change 10 = .ok (.aload_n 0, 1) := by decide +kernel
theorem dK_change_11 : decode cK_change 11 = .ok (.getfield 10, 3) := by decide +kernel
theorem dK_change_14 : decode cK_change 14 = .ok (.getfield 142, 3) := by decide +kernel
theorem dK_change_17 : decode cK_change 17 = .ok (.iload_n 1, 1) := by decide +kernel
theorem dK_change_18 : decode cK_change 18 = .ok (.dup2, 1) := by decide +kernel
theorem dK_change_19 : decode cK_change 19 = .ok (.iaload, 1) := by decide +kernel
theorem dK_change_20 : decode cK_change 20 = .ok (.iconst 1, 1) := by decide +kernel
theorem dK_change_21 : decode cK_change 21 = .ok (.iadd, 1) := by decide +kernel
theorem dK_change_22 : decode cK_change 22 = .ok (.iastore, 1) := by decide +kernel
theorem dK_change_23 : decode cK_change 23 = .ok (.aload_n 0, 1) := by decide +kernel
theorem dK_change_24 : decode cK_change 24 = .ok (.getfield 26, 3) := by decide +kernel
theorem dK_change_27 : decode cK_change 27 = .ok (.iload_n 1, 1) := by decide +kernel
theorem dK_change_28 : decode cK_change 28 = .ok (.invokevirtual 177, 3) := by decide +kernel
theorem dK_change_31 : decode cK_change 31 = .ok (.return_, 1) := by decide +kernel
theorem dK_ownPlace_0 : decode cK_ownPlace 0 = .ok (.iload_n 1, 1) := by decide +kernel
theorem dK_ownPlace_1 : decode cK_ownPlace 1 = .ok (.iconst (-1), 1) := by decide +kernel
theorem dK_ownPlace_2 : decode cK_ownPlace 2 = .ok (.if_icmp .ne 7, 3) := by decide +kernel
theorem dK_ownPlace_5 : decode cK_ownPlace 5 = .ok (.iconst (-1), 1) := by decide +kernel
theorem dK_ownPlace_6 : decode cK_ownPlace 6 = .ok (.goto 20, 3) := by decide +kernel
theorem dK_ownPlace_9 : decode cK_ownPlace 9 = .ok (.aload_n 0, 1) := by decide +kernel
theorem dK_ownPlace_10 : decode cK_ownPlace 10 = .ok (.getfield 19, 3) := by decide +kernel
theorem dK_ownPlace_13 : decode cK_ownPlace 13 = .ok (.aload_n 0, 1) := by decide +kernel
theorem dK_ownPlace_14 : decode cK_ownPlace 14 = .ok (.getfield 10, 3) := by decide +kernel
theorem dK_ownPlace_17 : decode cK_ownPlace 17 = .ok (.getfield 70, 3) := by decide +kernel
theorem dK_ownPlace_20 : decode cK_ownPlace 20 = .ok (.iload_n 1, 1) := by decide +kernel
theorem dK_ownPlace_21 : decode cK_ownPlace 21 = .ok (.iaload, 1) := by decide +kernel
theorem dK_ownPlace_22 : decode cK_ownPlace 22 = .ok (.iload_n 2, 1) := by decide +kernel
theorem dK_ownPlace_23 : decode cK_ownPlace 23 = .ok (.invokevirtual 72, 3) := by decide +kernel
theorem dK_ownPlace_26 : decode cK_ownPlace 26 = .ok (.ireturn, 1) := by decide +kernel
theorem dK_nearestWith_0 : decode cK_nearestWith 0 = .ok (.iload_n 1, 1) := by decide +kernel
theorem dK_nearestWith_1 : decode cK_nearestWith 1 = .ok (.istore_n 3, 1) := by decide +kernel
theorem dK_nearestWith_2 : decode cK_nearestWith 2 = .ok (.iconst 0, 1) := by decide +kernel
theorem dK_nearestWith_3 : decode cK_nearestWith 3 = .ok (.istore 4, 2) := by decide +kernel
theorem dK_nearestWith_5 : decode cK_nearestWith 5 = .ok (.iload_n 3, 1) := by decide +kernel
theorem dK_nearestWith_6 : decode cK_nearestWith 6 = .ok (.iconst (-1), 1) := by decide +kernel
theorem dK_nearestWith_7 : decode cK_nearestWith 7 = .ok (.if_icmp .eq 38, 3) := by decide +kernel
theorem dK_nearestWith_10 : decode cK_nearestWith 10 = .ok (.iload 4, 2) := by decide +kernel
theorem dK_nearestWith_12 : decode cK_nearestWith 12 = .ok (.bipush 60, 2) := by decide +kernel
theorem dK_nearestWith_14 : decode cK_nearestWith 14 = .ok (.if_icmp .ge 31, 3) := by decide +kernel
theorem dK_nearestWith_17 : decode cK_nearestWith 17 = .ok (.aload_n 0, 1) := by decide +kernel
theorem dK_nearestWith_18 : decode cK_nearestWith 18 = .ok (.iload_n 3, 1) := by decide +kernel
theorem dK_nearestWith_19 : decode cK_nearestWith 19 = .ok (.iload_n 2, 1) := by decide +kernel
theorem dK_nearestWith_20 : decode cK_nearestWith 20 = .ok (.invokevirtual 108, 3) := by decide +kernel
theorem dK_nearestWith_23 : decode cK_nearestWith 23 = .ok (.iconst (-1), 1) := by decide +kernel
theorem dK_nearestWith_24 : decode cK_nearestWith 24 = .ok (.if_icmp .eq 5, 3) := by decide +kernel
theorem dK_nearestWith_27 : decode cK_nearestWith 27 = .ok (.iload_n 3, 1) := by decide +kernel
theorem dK_nearestWith_28 : decode cK_nearestWith 28 = .ok (.ireturn, 1) := by decide +kernel
theorem dK_nearestWith_29 : decode cK_nearestWith 29 = .ok (.aload_n 0, 1) := by decide +kernel
theorem dK_nearestWith_30 : decode cK_nearestWith 30 = .ok (.getfield 10, 3) := by decide +kernel
theorem dK_nearestWith_33 : decode cK_nearestWith 33 = .ok (.getfield 93, 3) := by decide +kernel
theorem dK_nearestWith_36 : decode cK_nearestWith 36 = .ok (.iload_n 3, 1) := by decide +kernel
theorem dK_nearestWith_37 : decode cK_nearestWith 37 = .ok (.iaload, 1) := by decide +kernel
theorem dK_nearestWith_38 : decode cK_nearestWith 38 = .ok (.istore_n 3, 1) := by decide +kernel
theorem dK_nearestWith_39 : decode cK_nearestWith 39 = .ok (.iinc 4 1, 3) := by decide +kernel
theorem dK_nearestWith_42 : decode cK_nearestWith 42 = .ok (.goto (-37), 3) := by decide +kernel
theorem dK_nearestWith_45 : decode cK_nearestWith 45 = .ok (.iconst (-1), 1) := by decide +kernel
theorem dK_nearestWith_46 : decode cK_nearestWith 46 = .ok (.ireturn, 1) := by decide +kernel

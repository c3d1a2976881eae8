theorem dK_init_0 : decode cK_init 0 = .ok (.aload_n 0, 1) := by decide +kernel
theorem dK_init_1 : decode cK_init 1 = .ok (.invokespecial 1, 3) := by decide +kernel
theorem dK_init_4 : decode cK_init 4 = .ok (.aload_n 0, 1) := by decide +kernel
theorem dK_init_5 : decode cK_init 5 = .ok (.new 7, 3) := by decide +kernel
theorem dK_init_8 : decode cK_init 8 = .ok (.dup, 1) := by decide +kernel
theorem dK_init_9 : decode cK_init 9 = .ok (.invokespecial 9, 3) := by decide +kernel
theorem dK_init_12 : decode cK_init 12 = .ok (.putfield 10, 3) := by decide +kernel
theorem dK_init_15 : decode cK_init 15 = .ok (.aload_n 0, 1) := by decide +kernel
theorem dK_init_16 : decode cK_init 16 = .ok (.new 16, 3) := by decide +kernel
theorem dK_init_19 : decode cK_init 19 = .ok (.dup, 1) := by decide +kernel
theorem dK_init_20 : decode cK_init 20 = .ok (.invokespecial 18, 3) := by decide +kernel
theorem dK_init_23 : decode cK_init 23 = .ok (.putfield 19, 3) := by decide +kernel
theorem dK_init_26 : decode cK_init 26 = .ok (.aload_n 0, 1) := by decide +kernel
theorem dK_init_27 : decode cK_init 27 = .ok (.new 23, 3) := by decide +kernel
theorem dK_init_30 : decode cK_init 30 = .ok (.dup, 1) := by decide +kernel
theorem dK_init_31 : decode cK_init 31 = .ok (.invokespecial 25, 3) := by decide +kernel
theorem dK_init_34 : decode cK_init 34 = .ok (.putfield 26, 3) := by decide +kernel
theorem dK_init_37 : decode cK_init 37 = .ok (.aload_n 0, 1) := by decide +kernel
theorem dK_init_38 : decode cK_init 38 = .ok (.bipush 12, 2) := by decide +kernel
theorem dK_init_40 : decode cK_init 40 = .ok (.newarray .int, 2) := by decide +kernel
theorem dK_init_42 : decode cK_init 42 = .ok (.putfield 30, 3) := by decide +kernel
theorem dK_init_45 : decode cK_init 45 = .ok (.return_, 1) := by decide +kernel
theorem dK_object_0 : decode cK_object 0 = .ok (.aload_n 0, 1) := by decide +kernel
theorem dK_object_1 : decode cK_object 1 = .ok (.getfield 10, 3) := by decide +kernel
theorem dK_object_4 : decode cK_object 4 = .ok (.iload_n 1, 1) := by decide +kernel
theorem dK_object_5 : decode cK_object 5 = .ok (.invokevirtual 34, 3) := by decide +kernel
theorem dK_object_8 : decode cK_object 8 = .ok (.ifCond .ne 13, 3) := by decide +kernel
theorem dK_object_11 : decode cK_object 11 = .ok (.new 38, 3) := by decide +kernel
theorem dK_object_14 : decode cK_object 14 = .ok (.dup, 1) := by decide +kernel
theorem dK_object_15 : decode cK_object 15 = .ok (.ldc 40, 2) := by decide +kernel
theorem dK_object_17 : decode cK_object 17 = .ok (.invokespecial 42, 3) := by decide +kernel
theorem dK_object_20 : decode cK_object 20 = .ok (.athrow, 1) := by decide +kernel
theorem dK_object_21 : decode cK_object 21 = .ok (.aload_n 0, 1) := by decide +kernel
theorem dK_object_22 : decode cK_object 22 = .ok (.getfield 10, 3) := by decide +kernel
theorem dK_object_25 : decode cK_object 25 = .ok (.getfield 45, 3) := by decide +kernel
theorem dK_object_28 : decode cK_object 28 = .ok (.bipush 60, 2) := by decide +kernel
theorem dK_object_30 : decode cK_object 30 = .ok (.if_icmp .lt 13, 3) := by decide +kernel
theorem dK_object_33 : decode cK_object 33 = .ok (.new 49, 3) := by decide +kernel
theorem dK_object_36 : decode cK_object 36 = .ok (.dup, 1) := by decide +kernel
theorem dK_object_37 : decode cK_object 37 = .ok (.ldc 51, 2) := by decide +kernel
theorem dK_object_39 : decode cK_object 39 = .ok (.invokespecial 53, 3) := by decide +kernel
theorem dK_object_42 : decode cK_object 42 = .ok (.athrow, 1) := by decide +kernel
theorem dK_object_43 : decode cK_object 43 = .ok (.aload_n 0, 1) := by decide +kernel
theorem dK_object_44 : decode cK_object 44 = .ok (.getfield 19, 3) := by decide +kernel
theorem dK_object_47 : decode cK_object 47 = .ok (.iload_n 1, 1) := by decide +kernel
theorem dK_object_48 : decode cK_object 48 = .ok (.aload_n 0, 1) := by decide +kernel
theorem dK_object_49 : decode cK_object 49 = .ok (.getfield 30, 3) := by decide +kernel
theorem dK_object_52 : decode cK_object 52 = .ok (.iconst 0, 1) := by decide +kernel
theorem dK_object_53 : decode cK_object 53 = .ok (.invokevirtual 54, 3) := by decide +kernel
theorem dK_object_56 : decode cK_object 56 = .ok (.istore_n 2, 1) := by decide +kernel
theorem dK_object_57 : decode cK_object 57 = .ok (.iload_n 2, 1) := by decide +kernel
theorem dK_object_58 : decode cK_object 58 = .ok (.iconst (-1), 1) := by decide +kernel
theorem dK_object_59 : decode cK_object 59 = .ok (.if_icmp .ne 13, 3) := by decide +kernel
theorem dK_object_62 : decode cK_object 62 = .ok (.new 49, 3) := by decide +kernel
theorem dK_object_65 : decode cK_object 65 = .ok (.dup, 1) := by decide +kernel
theorem dK_object_66 : decode cK_object 66 = .ok (.ldc 58, 2) := by decide +kernel
theorem dK_object_68 : decode cK_object 68 = .ok (.invokespecial 53, 3) := by decide +kernel
theorem dK_object_71 : decode cK_object 71 = .ok (.athrow, 1) := by decide +kernel
theorem dK_object_72 : decode cK_object 72 = .ok (.aload_n 0, 1) := by decide +kernel
theorem dK_object_73 : decode cK_object 73 = .ok (.getfield 10, 3) := by decide +kernel
theorem dK_object_76 : decode cK_object 76 = .ok (.iload_n 1, 1) := by decide +kernel
theorem dK_object_77 : decode cK_object 77 = .ok (.iload_n 2, 1) := by decide +kernel
theorem dK_object_78 : decode cK_object 78 = .ok (.invokevirtual 60, 3) := by decide +kernel
theorem dK_object_81 : decode cK_object 81 = .ok (.ireturn, 1) := by decide +kernel
theorem dK_set_0 : decode cK_set 0 = .ok (.aload_n 0, 1) := by decide +kernel
theorem dK_set_1 : decode cK_set 1 = .ok (.getfield 10, 3) := by decide +kernel
theorem dK_set_4 : decode cK_set 4 = .ok (.iload_n 1, 1) := by decide +kernel
theorem dK_set_5 : decode cK_set 5 = .ok (.invokevirtual 64, 3) := by decide +kernel
theorem dK_set_8 : decode cK_set 8 = .ok (.ifCond .eq 10, 3) := by decide +kernel
theorem dK_set_11 : decode cK_set 11 = .ok (.iload_n 2, 1) := by decide +kernel
theorem dK_set_12 : decode cK_set 12 = .ok (.invokestatic 67, 3) := by decide +kernel
theorem dK_set_15 : decode cK_set 15 = .ok (.ifCond .ne 5, 3) := by decide +kernel
theorem dK_set_18 : decode cK_set 18 = .ok (.iconst 0, 1) := by decide +kernel
theorem dK_set_19 : decode cK_set 19 = .ok (.ireturn, 1) := by decide +kernel
theorem dK_set_20 : decode cK_set 20 = .ok (.aload_n 0, 1) := by decide +kernel
theorem dK_set_21 : decode cK_set 21 = .ok (.getfield 10, 3) := by decide +kernel
theorem dK_set_24 : decode cK_set 24 = .ok (.getfield 70, 3) := by decide +kernel
theorem dK_set_27 : decode cK_set 27 = .ok (.iload_n 1, 1) := by decide +kernel
theorem dK_set_28 : decode cK_set 28 = .ok (.iaload, 1) := by decide +kernel
theorem dK_set_29 : decode cK_set 29 = .ok (.istore 4, 2) := by decide +kernel
theorem dK_set_31 : decode cK_set 31 = .ok (.aload_n 0, 1) := by decide +kernel
theorem dK_set_32 : decode cK_set 32 = .ok (.getfield 19, 3) := by decide +kernel
theorem dK_set_35 : decode cK_set 35 = .ok (.iload 4, 2) := by decide +kernel
theorem dK_set_37 : decode cK_set 37 = .ok (.iload_n 2, 1) := by decide +kernel
theorem dK_set_38 : decode cK_set 38 = .ok (.invokevirtual 72, 3) := by decide +kernel
theorem dK_set_41 : decode cK_set 41 = .ok (.istore 5, 2) := by decide +kernel
theorem dK_set_43 : decode cK_set 43 = .ok (.iload 5, 2) := by decide +kernel
theorem dK_set_45 : decode cK_set 45 = .ok (.iconst (-1), 1) := by decide +kernel
theorem dK_set_46 : decode cK_set 46 = .ok (.if_icmp .ne 42, 3) := by decide +kernel
theorem dK_set_49 : decode cK_set 49 = .ok (.aload_n 0, 1) := by decide +kernel
theorem dK_set_50 : decode cK_set 50 = .ok (.getfield 19, 3) := by decide +kernel
theorem dK_set_53 : decode cK_set 53 = .ok (.iload 4, 2) := by decide +kernel
theorem dK_set_55 : decode cK_set 55 = .ok (.iload_n 2, 1) := by decide +kernel
theorem dK_set_56 : decode cK_set 56 = .ok (.invokevirtual 75, 3) := by decide +kernel
theorem dK_set_59 : decode cK_set 59 = .ok (.istore 6, 2) := by decide +kernel
theorem dK_set_61 : decode cK_set 61 = .ok (.iload 6, 2) := by decide +kernel
theorem dK_set_63 : decode cK_set 63 = .ok (.iconst (-1), 1) := by decide +kernel
theorem dK_set_64 : decode cK_set 64 = .ok (.if_icmp .ne 5, 3) := by decide +kernel
theorem dK_set_67 : decode cK_set 67 = .ok (.iconst 0, 1) := by decide +kernel
theorem dK_set_68 : decode cK_set 68 = .ok (.ireturn, 1) := by decide +kernel
theorem dK_set_69 : decode cK_set 69 = .ok (.aload_n 0, 1) := by decide +kernel
theorem dK_set_70 : decode cK_set 70 = .ok (.getfield 19, 3) := by decide +kernel
theorem dK_set_73 : decode cK_set 73 = .ok (.getfield 78, 3) := by decide +kernel
theorem dK_set_76 : decode cK_set 76 = .ok (.iload 4, 2) := by decide +kernel
theorem dK_set_78 : decode cK_set 78 = .ok (.iaload, 1) := by decide +kernel
theorem dK_set_79 : decode cK_set 79 = .ok (.istore 5, 2) := by decide +kernel
theorem dK_set_81 : decode cK_set 81 = .ok (.aload_n 0, 1) := by decide +kernel
theorem dK_set_82 : decode cK_set 82 = .ok (.iload_n 1, 1) := by decide +kernel
theorem dK_set_83 : decode cK_set 83 = .ok (.iload 6, 2) := by decide +kernel
theorem dK_set_85 : decode cK_set 85 = .ok (.invokevirtual 81, 3) := by decide +kernel
theorem dK_set_88 : decode cK_set 88 = .ok (.aload_n 0, 1) := by decide +kernel
theorem dK_set_89 : decode cK_set 89 = .ok (.getfield 10, 3) := by decide +kernel
theorem dK_set_92 : decode cK_set 92 = .ok (.getfield 85, 3) := by decide +kernel
theorem dK_set_95 : decode cK_set 95 = .ok (.iload_n 1, 1) := by decide +kernel
theorem dK_set_96 : decode cK_set 96 = .ok (.aaload, 1) := by decide +kernel
theorem dK_set_97 : decode cK_set 97 = .ok (.iload 5, 2) := by decide +kernel
theorem dK_set_99 : decode cK_set 99 = .ok (.iload_n 3, 1) := by decide +kernel
theorem dK_set_100 : decode cK_set 100 = .ok (.iastore, 1) := by decide +kernel
theorem dK_set_101 : decode cK_set 101 = .ok (.iconst 1, 1) := by decide +kernel
theorem dK_set_102 : decode cK_set 102 = .ok (.ireturn, 1) := by decide +kernel
theorem dK_drop_0 : decode cK_drop 0 = .ok (.aload_n 0, 1) := by decide +kernel
theorem dK_drop_1 : decode cK_drop 1 = .ok (.getfield 10, 3) := by decide +kernel
theorem dK_drop_4 : decode cK_drop 4 = .ok (.iload_n 1, 1) := by decide +kernel
theorem dK_drop_5 : decode cK_drop 5 = .ok (.invokevirtual 64, 3) := by decide +kernel
theorem dK_drop_8 : decode cK_drop 8 = .ok (.ifCond .ne 5, 3) := by decide +kernel
theorem dK_drop_11 : decode cK_drop 11 = .ok (.iconst 0, 1) := by decide +kernel
theorem dK_drop_12 : decode cK_drop 12 = .ok (.ireturn, 1) := by decide +kernel
theorem dK_drop_13 : decode cK_drop 13 = .ok (.aload_n 0, 1) := by decide +kernel
theorem dK_drop_14 : decode cK_drop 14 = .ok (.getfield 10, 3) := by decide +kernel
theorem dK_drop_17 : decode cK_drop 17 = .ok (.getfield 70, 3) := by decide +kernel
theorem dK_drop_20 : decode cK_drop 20 = .ok (.iload_n 1, 1) := by decide +kernel
theorem dK_drop_21 : decode cK_drop 21 = .ok (.iaload, 1) := by decide +kernel
theorem dK_drop_22 : decode cK_drop 22 = .ok (.istore_n 3, 1) := by decide +kernel
theorem dK_drop_23 : decode cK_drop 23 = .ok (.aload_n 0, 1) := by decide +kernel
theorem dK_drop_24 : decode cK_drop 24 = .ok (.getfield 19, 3) := by decide +kernel
theorem dK_drop_27 : decode cK_drop 27 = .ok (.iload_n 3, 1) := by decide +kernel
theorem dK_drop_28 : decode cK_drop 28 = .ok (.iload_n 2, 1) := by decide +kernel
theorem dK_drop_29 : decode cK_drop 29 = .ok (.invokevirtual 72, 3) := by decide +kernel
theorem dK_drop_32 : decode cK_drop 32 = .ok (.istore 4, 2) := by decide +kernel
theorem dK_drop_34 : decode cK_drop 34 = .ok (.iload 4, 2) := by decide +kernel
theorem dK_drop_36 : decode cK_drop 36 = .ok (.iconst (-1), 1) := by decide +kernel
theorem dK_drop_37 : decode cK_drop 37 = .ok (.if_icmp .ne 5, 3) := by decide +kernel
theorem dK_drop_40 : decode cK_drop 40 = .ok (.iconst 0, 1) := by decide +kernel
theorem dK_drop_41 : decode cK_drop 41 = .ok (.ireturn, 1) := by decide +kernel
theorem dK_drop_42 : decode cK_drop 42 = .ok (.aload_n 0, 1) := by decide +kernel
theorem dK_drop_43 : decode cK_drop 43 = .ok (.getfield 19, 3) := by decide +kernel
theorem dK_drop_46 : decode cK_drop 46 = .ok (.iload_n 3, 1) := by decide +kernel
theorem dK_drop_47 : decode cK_drop 47 = .ok (.iload_n 2, 1) := by decide +kernel
theorem dK_drop_48 : decode cK_drop 48 = .ok (.aload_n 0, 1) := by decide +kernel
theorem dK_drop_49 : decode cK_drop 49 = .ok (.getfield 30, 3) := by decide +kernel
theorem dK_drop_52 : decode cK_drop 52 = .ok (.invokevirtual 89, 3) := by decide +kernel
theorem dK_drop_55 : decode cK_drop 55 = .ok (.istore 5, 2) := by decide +kernel
theorem dK_drop_57 : decode cK_drop 57 = .ok (.aload_n 0, 1) := by decide +kernel
theorem dK_drop_58 : decode cK_drop 58 = .ok (.getfield 19, 3) := by decide +kernel
theorem dK_drop_61 : decode cK_drop 61 = .ok (.aload_n 0, 1) := by decide +kernel
theorem dK_drop_62 : decode cK_drop 62 = .ok (.getfield 10, 3) := by decide +kernel
theorem dK_drop_65 : decode cK_drop 65 = .ok (.getfield 93, 3) := by decide +kernel
theorem dK_drop_68 : decode cK_drop 68 = .ok (.iload_n 1, 1) := by decide +kernel
theorem dK_drop_69 : decode cK_drop 69 = .ok (.iaload, 1) := by decide +kernel
theorem dK_drop_70 : decode cK_drop 70 = .ok (.aload_n 0, 1) := by decide +kernel
theorem dK_drop_71 : decode cK_drop 71 = .ok (.getfield 30, 3) := by decide +kernel
theorem dK_drop_74 : decode cK_drop 74 = .ok (.iload 5, 2) := by decide +kernel
theorem dK_drop_76 : decode cK_drop 76 = .ok (.invokevirtual 54, 3) := by decide +kernel
theorem dK_drop_79 : decode cK_drop 79 = .ok (.istore 6, 2) := by decide +kernel
theorem dK_drop_81 : decode cK_drop 81 = .ok (.iload 6, 2) := by decide +kernel
theorem dK_drop_83 : decode cK_drop 83 = .ok (.iconst (-1), 1) := by decide +kernel
theorem dK_drop_84 : decode cK_drop 84 = .ok (.if_icmp .ne 5, 3) := by decide +kernel
theorem dK_drop_87 : decode cK_drop 87 = .ok (.iconst 0, 1) := by decide +kernel
theorem dK_drop_88 : decode cK_drop 88 = .ok (.ireturn, 1) := by decide +kernel
theorem dK_drop_89 : decode cK_drop 89 = .ok (.aload_n 0, 1) := by decide +kernel
theorem dK_drop_90 : decode cK_drop 90 = .ok (.getfield 10, 3) := by decide +kernel
theorem dK_drop_93 : decode cK_drop 93 = .ok (.iload_n 1, 1) := by decide +kernel
theorem dK_drop_94 : decode cK_drop 94 = .ok (.iload 4, 2) := by decide +kernel
theorem dK_drop_96 : decode cK_drop 96 = .ok (.invokevirtual 96, 3) := by decide +kernel
theorem dK_drop_99 : decode cK_drop 99 = .ok (.aload_n 0, 1) := by decide +kernel
theorem dK_drop_100 : decode cK_drop 100 = .ok (.iload_n 1, 1) := by decide +kernel
theorem dK_drop_101 : decode cK_drop 101 = .ok (.iload 6, 2) := by decide +kernel
theorem dK_drop_103 : decode cK_drop 103 = .ok (.invokevirtual 81, 3) := by decide +kernel
theorem dK_drop_106 : decode cK_drop 106 = .ok (.iconst 1, 1) := by decide +kernel
theorem dK_drop_107 : decode cK_drop 107 = .ok (.ireturn, 1) := by decide +kernel
theorem dK_turn_0 : decode cK_turn 0 = .ok (.aload_n 0, 1) := by decide +kernel
theorem dK_turn_1 : decode cK_turn 1 = .ok (.getfield 10, 3) := by decide +kernel
theorem dK_turn_4 : decode cK_turn 4 = .ok (.iload_n 1, 1) := by decide +kernel
theorem dK_turn_5 : decode cK_turn 5 = .ok (.invokevirtual 64, 3) := by decide +kernel
theorem dK_turn_8 : decode cK_turn 8 = .ok (.ifCond .eq 14, 3) := by decide +kernel
theorem dK_turn_11 : decode cK_turn 11 = .ok (.aload_n 0, 1) := by decide +kernel
theorem dK_turn_12 : decode cK_turn 12 = .ok (.getfield 10, 3) := by decide +kernel
theorem dK_turn_15 : decode cK_turn 15 = .ok (.iload_n 2, 1) := by decide +kernel
theorem dK_turn_16 : decode cK_turn 16 = .ok (.invokevirtual 34, 3) := by decide +kernel
theorem dK_turn_19 : decode cK_turn 19 = .ok (.ifCond .ne 5, 3) := by decide +kernel
theorem dK_turn_22 : decode cK_turn 22 = .ok (.iconst 0, 1) := by decide +kernel
theorem dK_turn_23 : decode cK_turn 23 = .ok (.ireturn, 1) := by decide +kernel
theorem dK_turn_24 : decode cK_turn 24 = .ok (.aload_n 0, 1) := by decide +kernel
theorem dK_turn_25 : decode cK_turn 25 = .ok (.getfield 10, 3) := by decide +kernel
theorem dK_turn_28 : decode cK_turn 28 = .ok (.iload_n 2, 1) := by decide +kernel
theorem dK_turn_29 : decode cK_turn 29 = .ok (.iload_n 1, 1) := by decide +kernel
theorem dK_turn_30 : decode cK_turn 30 = .ok (.invokevirtual 99, 3) := by decide +kernel
theorem dK_turn_33 : decode cK_turn 33 = .ok (.ifCond .eq 5, 3) := by decide +kernel
theorem dK_turn_36 : decode cK_turn 36 = .ok (.iconst 0, 1) := by decide +kernel
theorem dK_turn_37 : decode cK_turn 37 = .ok (.ireturn, 1) := by decide +kernel
theorem dK_turn_38 : decode cK_turn 38 = .ok (.aload_n 0, 1) := by decide +kernel
theorem dK_turn_39 : decode cK_turn 39 = .ok (.getfield 19, 3) := by decide +kernel
theorem dK_turn_42 : decode cK_turn 42 = .ok (.aload_n 0, 1) := by decide +kernel
theorem dK_turn_43 : decode cK_turn 43 = .ok (.getfield 10, 3) := by decide +kernel
theorem dK_turn_46 : decode cK_turn 46 = .ok (.getfield 70, 3) := by decide +kernel
theorem dK_turn_49 : decode cK_turn 49 = .ok (.iload_n 1, 1) := by decide +kernel
theorem dK_turn_50 : decode cK_turn 50 = .ok (.iaload, 1) := by decide +kernel
theorem dK_turn_51 : decode cK_turn 51 = .ok (.iconst (-1), 1) := by decide +kernel
theorem dK_turn_52 : decode cK_turn 52 = .ok (.aload_n 0, 1) := by decide +kernel
theorem dK_turn_53 : decode cK_turn 53 = .ok (.getfield 30, 3) := by decide +kernel
theorem dK_turn_56 : decode cK_turn 56 = .ok (.invokevirtual 89, 3) := by decide +kernel
theorem dK_turn_59 : decode cK_turn 59 = .ok (.istore_n 3, 1) := by decide +kernel
theorem dK_turn_60 : decode cK_turn 60 = .ok (.aload_n 0, 1) := by decide +kernel
theorem dK_turn_61 : decode cK_turn 61 = .ok (.getfield 19, 3) := by decide +kernel
theorem dK_turn_64 : decode cK_turn 64 = .ok (.iload_n 2, 1) := by decide +kernel
theorem dK_turn_65 : decode cK_turn 65 = .ok (.aload_n 0, 1) := by decide +kernel
theorem dK_turn_66 : decode cK_turn 66 = .ok (.getfield 30, 3) := by decide +kernel
theorem dK_turn_69 : decode cK_turn 69 = .ok (.iload_n 3, 1) := by decide +kernel
theorem dK_turn_70 : decode cK_turn 70 = .ok (.invokevirtual 54, 3) := by decide +kernel
theorem dK_turn_73 : decode cK_turn 73 = .ok (.istore 4, 2) := by decide +kernel
theorem dK_turn_75 : decode cK_turn 75 = .ok (.iload 4, 2) := by decide +kernel
theorem dK_turn_77 : decode cK_turn 77 = .ok (.iconst (-1), 1) := by decide +kernel
theorem dK_turn_78 : decode cK_turn 78 = .ok (.if_icmp .ne 5, 3) := by decide +kernel
theorem dK_turn_81 : decode cK_turn 81 = .ok (.iconst 0, 1) := by decide +kernel
theorem dK_turn_82 : decode cK_turn 82 = .ok (.ireturn, 1) := by decide +kernel
theorem dK_turn_83 : decode cK_turn 83 = .ok (.aload_n 0, 1) := by decide +kernel
theorem dK_turn_84 : decode cK_turn 84 = .ok (.getfield 10, 3) := by decide +kernel
theorem dK_turn_87 : decode cK_turn 87 = .ok (.getfield 93, 3) := by decide +kernel
theorem dK_turn_90 : decode cK_turn 90 = .ok (.iload_n 1, 1) := by decide +kernel
theorem dK_turn_91 : decode cK_turn 91 = .ok (.iload_n 2, 1) := by decide +kernel
theorem dK_turn_92 : decode cK_turn 92 = .ok (.iastore, 1) := by decide +kernel
theorem dK_turn_93 : decode cK_turn 93 = .ok (.aload_n 0, 1) := by decide +kernel
theorem dK_turn_94 : decode cK_turn 94 = .ok (.iload_n 1, 1) := by decide +kernel
theorem dK_turn_95 : decode cK_turn 95 = .ok (.iload 4, 2) := by decide +kernel
theorem dK_turn_97 : decode cK_turn 97 = .ok (.invokevirtual 81, 3) := by decide +kernel
theorem dK_turn_100 : decode cK_turn 100 = .ok (.iconst 1, 1) := by decide +kernel
theorem dK_turn_101 : decode cK_turn 101 = .ok (.ireturn, 1) := by decide +kernel
theorem dK_read_0 : decode cK_read 0 = .ok (.aload_n 0, 1) := by decide +kernel
theorem dK_read_1 : decode cK_read 1 = .ok (.getfield 10, 3) := by decide +kernel
theorem dK_read_4 : decode cK_read 4 = .ok (.iload_n 1, 1) := by decide +kernel
theorem dK_read_5 : decode cK_read 5 = .ok (.invokevirtual 64, 3) := by decide +kernel
theorem dK_read_8 : decode cK_read 8 = .ok (.ifCond .ne 13, 3) := by decide +kernel
theorem dK_read_11 : decode cK_read 11 = .ok (.new 38, 3) := by decide +kernel
theorem dK_read_14 : decode cK_read 14 = .ok (.dup, 1) := by decide +kernel
theorem dK_read_15 : decode cK_read 15 = .ok (.ldc 103, 2) := by decide +kernel
theorem dK_read_17 : decode cK_read 17 = .ok (.invokespecial 42, 3) := by decide +kernel
theorem dK_read_20 : decode cK_read 20 = .ok (.athrow, 1) := by decide +kernel
theorem dK_read_21 : decode cK_read 21 = .ok (.aload_n 0, 1) := by decide +kernel
theorem dK_read_22 : decode cK_read 22 = .ok (.iload_n 1, 1) := by decide +kernel
theorem dK_read_23 : decode cK_read 23 = .ok (.iload_n 2, 1) := by decide +kernel
theorem dK_read_24 : decode cK_read 24 = .ok (.invokevirtual 105, 3) := by decide +kernel
theorem dK_read_27 : decode cK_read 27 = .ok (.istore_n 3, 1) := by decide +kernel
theorem dK_read_28 : decode cK_read 28 = .ok (.aload_n 0, 1) := by decide +kernel
theorem dK_read_29 : decode cK_read 29 = .ok (.iload_n 3, 1) := by decide +kernel
theorem dK_read_30 : decode cK_read 30 = .ok (.iload_n 2, 1) := by decide +kernel
theorem dK_read_31 : decode cK_read 31 = .ok (.invokevirtual 108, 3) := by decide +kernel
theorem dK_read_34 : decode cK_read 34 = .ok (.istore 4, 2) := by decide +kernel
theorem dK_read_36 : decode cK_read 36 = .ok (.iload 4, 2) := by decide +kernel
theorem dK_read_38 : decode cK_read 38 = .ok (.iconst (-1), 1) := by decide +kernel
theorem dK_read_39 : decode cK_read 39 = .ok (.if_icmp .ne 13, 3) := by decide +kernel
theorem dK_read_42 : decode cK_read 42 = .ok (.new 111, 3) := by decide +kernel
theorem dK_read_45 : decode cK_read 45 = .ok (.dup, 1) := by decide +kernel
theorem dK_read_46 : decode cK_read 46 = .ok (.ldc 113, 2) := by decide +kernel
theorem dK_read_48 : decode cK_read 48 = .ok (.invokespecial 115, 3) := by decide +kernel
theorem dK_read_51 : decode cK_read 51 = .ok (.athrow, 1) := by decide +kernel
theorem dK_read_52 : decode cK_read 52 = .ok (.aload_n 0, 1) := by decide +kernel
theorem dK_read_53 : decode cK_read 53 = .ok (.getfield 10, 3) := by decide +kernel
theorem dK_read_56 : decode cK_read 56 = .ok (.getfield 85, 3) := by decide +kernel
theorem dK_read_59 : decode cK_read 59 = .ok (.iload_n 3, 1) := by decide +kernel
theorem dK_read_60 : decode cK_read 60 = .ok (.aaload, 1) := by decide +kernel
theorem dK_read_61 : decode cK_read 61 = .ok (.iload 4, 2) := by decide +kernel
theorem dK_read_63 : decode cK_read 63 = .ok (.iaload, 1) := by decide +kernel
theorem dK_read_64 : decode cK_read 64 = .ok (.ireturn, 1) := by decide +kernel
theorem dK_find_0 : decode cK_find 0 = .ok (.aload_n 0, 1) := by decide +kernel
theorem dK_find_1 : decode cK_find 1 = .ok (.getfield 10, 3) := by decide +kernel
theorem dK_find_4 : decode cK_find 4 = .ok (.iload_n 1, 1) := by decide +kernel
theorem dK_find_5 : decode cK_find 5 = .ok (.invokevirtual 64, 3) := by decide +kernel
theorem dK_find_8 : decode cK_find 8 = .ok (.ifCond .eq 10, 3) := by decide +kernel
theorem dK_find_11 : decode cK_find 11 = .ok (.iload_n 2, 1) := by decide +kernel
theorem dK_find_12 : decode cK_find 12 = .ok (.invokestatic 67, 3) := by decide +kernel
theorem dK_find_15 : decode cK_find 15 = .ok (.ifCond .ne 5, 3) := by decide +kernel
theorem dK_find_18 : decode cK_find 18 = .ok (.iconst (-1), 1) := by decide +kernel
theorem dK_find_19 : decode cK_find 19 = .ok (.ireturn, 1) := by decide +kernel
theorem dK_find_20 : decode cK_find 20 = .ok (.aload_n 0, 1) := by decide +kernel
theorem dK_find_21 : decode cK_find 21 = .ok (.getfield 10, 3) := by decide +kernel
theorem dK_find_24 : decode cK_find 24 = .ok (.getfield 70, 3) := by decide +kernel
theorem dK_find_27 : decode cK_find 27 = .ok (.iload_n 1, 1) := by decide +kernel
theorem dK_find_28 : decode cK_find 28 = .ok (.iaload, 1) := by decide +kernel
theorem dK_find_29 : decode cK_find 29 = .ok (.istore_n 3, 1) := by decide +kernel
theorem dK_find_30 : decode cK_find 30 = .ok (.aload_n 0, 1) := by decide +kernel
theorem dK_find_31 : decode cK_find 31 = .ok (.getfield 19, 3) := by decide +kernel
theorem dK_find_34 : decode cK_find 34 = .ok (.iload_n 3, 1) := by decide +kernel
theorem dK_find_35 : decode cK_find 35 = .ok (.iload_n 2, 1) := by decide +kernel
theorem dK_find_36 : decode cK_find 36 = .ok (.invokevirtual 72, 3) := by decide +kernel
theorem dK_find_39 : decode cK_find 39 = .ok (.istore 4, 2) := by decide +kernel
theorem dK_find_41 : decode cK_find 41 = .ok (.iload 4, 2) := by decide +kernel
theorem dK_find_43 : decode cK_find 43 = .ok (.iconst (-1), 1) := by decide +kernel
theorem dK_find_44 : decode cK_find 44 = .ok (.if_icmp .eq 17, 3) := by decide +kernel
theorem dK_find_47 : decode cK_find 47 = .ok (.aload_n 0, 1) := by decide +kernel
theorem dK_find_48 : decode cK_find 48 = .ok (.getfield 26, 3) := by decide +kernel
theorem dK_find_51 : decode cK_find 51 = .ok (.iload_n 3, 1) := by decide +kernel
theorem dK_find_52 : decode cK_find 52 = .ok (.iload_n 2, 1) := by decide +kernel
theorem dK_find_53 : decode cK_find 53 = .ok (.iconst (-1), 1) := by decide +kernel
theorem dK_find_54 : decode cK_find 54 = .ok (.iload 4, 2) := by decide +kernel
theorem dK_find_56 : decode cK_find 56 = .ok (.lconst 0, 1) := by decide +kernel
theorem dK_find_57 : decode cK_find 57 = .ok (.invokevirtual 116, 3) := by decide +kernel
theorem dK_find_60 : decode cK_find 60 = .ok (.ireturn, 1) := by decide +kernel
theorem dK_find_61 : decode cK_find 61 = .ok (.aload_n 0, 1) := by decide +kernel
theorem dK_find_62 : decode cK_find 62 = .ok (.getfield 10, 3) := by decide +kernel
theorem dK_find_65 : decode cK_find 65 = .ok (.getfield 93, 3) := by decide +kernel
theorem dK_find_68 : decode cK_find 68 = .ok (.iload_n 1, 1) := by decide +kernel
theorem dK_find_69 : decode cK_find 69 = .ok (.iaload, 1) := by decide +kernel
theorem dK_find_70 : decode cK_find 70 = .ok (.istore 5, 2) := by decide +kernel
theorem dK_find_72 : decode cK_find 72 = .ok (.aload_n 0, 1) := by decide +kernel
theorem dK_find_73 : decode cK_find 73 = .ok (.iload 5, 2) := by decide +kernel
theorem dK_find_75 : decode cK_find 75 = .ok (.iload_n 2, 1) := by decide +kernel
theorem dK_find_76 : decode cK_find 76 = .ok (.invokevirtual 105, 3) := by decide +kernel
theorem dK_find_79 : decode cK_find 79 = .ok (.istore 6, 2) := by decide +kernel
theorem dK_find_81 : decode cK_find 81 = .ok (.aload_n 0, 1) := by decide +kernel
theorem dK_find_82 : decode cK_find 82 = .ok (.getfield 10, 3) := by decide +kernel
theorem dK_find_85 : decode cK_find 85 = .ok (.iload 5, 2) := by decide +kernel
theorem dK_find_87 : decode cK_find 87 = .ok (.iload 6, 2) := by decide +kernel
theorem dK_find_89 : decode cK_find 89 = .ok (.invokevirtual 119, 3) := by decide +kernel
theorem dK_find_92 : decode cK_find 92 = .ok (.lstore 7, 2) := by decide +kernel
theorem dK_find_94 : decode cK_find 94 = .ok (.aload_n 0, 1) := by decide +kernel
theorem dK_find_95 : decode cK_find 95 = .ok (.getfield 26, 3) := by decide +kernel
theorem dK_find_98 : decode cK_find 98 = .ok (.iload_n 3, 1) := by decide +kernel
theorem dK_find_99 : decode cK_find 99 = .ok (.iload_n 2, 1) := by decide +kernel
theorem dK_find_100 : decode cK_find 100 = .ok (.iload 6, 2) := by decide +kernel
theorem dK_find_102 : decode cK_find 102 = .ok (.aload_n 0, 1) := by decide +kernel

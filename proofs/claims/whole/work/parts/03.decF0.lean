theorem dF_init_0 : decode cF_init 0 = .ok (.aload_n 0, 1) := by decide +kernel
theorem dF_init_1 : decode cF_init 1 = .ok (.invokespecial 3, 3) := by decide +kernel
theorem dF_init_4 : decode cF_init 4 = .ok (.aload_n 0, 1) := by decide +kernel
theorem dF_init_5 : decode cF_init 5 = .ok (.bipush 100, 2) := by decide +kernel
theorem dF_init_7 : decode cF_init 7 = .ok (.newarray .int, 2) := by decide +kernel
theorem dF_init_9 : decode cF_init 9 = .ok (.putfield 9, 3) := by decide +kernel
theorem dF_init_12 : decode cF_init 12 = .ok (.aload_n 0, 1) := by decide +kernel
theorem dF_init_13 : decode cF_init 13 = .ok (.bipush 100, 2) := by decide +kernel
theorem dF_init_15 : decode cF_init 15 = .ok (.newarray .int, 2) := by decide +kernel
theorem dF_init_17 : decode cF_init 17 = .ok (.putfield 15, 3) := by decide +kernel
theorem dF_init_20 : decode cF_init 20 = .ok (.aload_n 0, 1) := by decide +kernel
theorem dF_init_21 : decode cF_init 21 = .ok (.bipush 100, 2) := by decide +kernel
theorem dF_init_23 : decode cF_init 23 = .ok (.newarray .int, 2) := by decide +kernel
theorem dF_init_25 : decode cF_init 25 = .ok (.putfield 18, 3) := by decide +kernel
theorem dF_init_28 : decode cF_init 28 = .ok (.aload_n 0, 1) := by decide +kernel
theorem dF_init_29 : decode cF_init 29 = .ok (.bipush 100, 2) := by decide +kernel
theorem dF_init_31 : decode cF_init 31 = .ok (.newarray .int, 2) := by decide +kernel
theorem dF_init_33 : decode cF_init 33 = .ok (.putfield 21, 3) := by decide +kernel
theorem dF_init_36 : decode cF_init 36 = .ok (.aload_n 0, 1) := by decide +kernel
theorem dF_init_37 : decode cF_init 37 = .ok (.bipush 100, 2) := by decide +kernel
theorem dF_init_39 : decode cF_init 39 = .ok (.newarray .long, 2) := by decide +kernel
theorem dF_init_41 : decode cF_init 41 = .ok (.putfield 24, 3) := by decide +kernel
theorem dF_init_44 : decode cF_init 44 = .ok (.aload_n 0, 1) := by decide +kernel
theorem dF_init_45 : decode cF_init 45 = .ok (.bipush 100, 2) := by decide +kernel
theorem dF_init_47 : decode cF_init 47 = .ok (.newarray .boolean, 2) := by decide +kernel
theorem dF_init_49 : decode cF_init 49 = .ok (.putfield 28, 3) := by decide +kernel
theorem dF_init_52 : decode cF_init 52 = .ok (.aload_n 0, 1) := by decide +kernel
theorem dF_init_53 : decode cF_init 53 = .ok (.iconst 0, 1) := by decide +kernel
theorem dF_init_54 : decode cF_init 54 = .ok (.putfield 32, 3) := by decide +kernel
theorem dF_init_57 : decode cF_init 57 = .ok (.aload_n 0, 1) := by decide +kernel
theorem dF_init_58 : decode cF_init 58 = .ok (.iconst 0, 1) := by decide +kernel
theorem dF_init_59 : decode cF_init 59 = .ok (.putfield 36, 3) := by decide +kernel
theorem dF_init_62 : decode cF_init 62 = .ok (.aload_n 0, 1) := by decide +kernel
theorem dF_init_63 : decode cF_init 63 = .ok (.iconst 0, 1) := by decide +kernel
theorem dF_init_64 : decode cF_init 64 = .ok (.putfield 39, 3) := by decide +kernel
theorem dF_init_67 : decode cF_init 67 = .ok (.return_, 1) := by decide +kernel
theorem dF_has_0 : decode cF_has 0 = .ok (.iload_n 1, 1) := by decide +kernel
theorem dF_has_1 : decode cF_has 1 = .ok (.ifCond .lt 15, 3) := by decide +kernel
theorem dF_has_4 : decode cF_has 4 = .ok (.iload_n 1, 1) := by decide +kernel
theorem dF_has_5 : decode cF_has 5 = .ok (.aload_n 0, 1) := by decide +kernel
theorem dF_has_6 : decode cF_has 6 = .ok (.getfield 36, 3) := by decide +kernel
theorem dF_has_9 : decode cF_has 9 = .ok (.if_icmp .ge 7, 3) := by decide +kernel
theorem dF_has_12 : decode cF_has 12 = .ok (.iconst 1, 1) := by decide +kernel
theorem dF_has_13 : decode cF_has 13 = .ok (.goto 4, 3) := by decide +kernel
theorem dF_has_16 : decode cF_has 16 = .ok (.iconst 0, 1) := by decide +kernel
theorem dF_has_17 : decode cF_has 17 = .ok (.ireturn, 1) := by decide +kernel
theorem dF_add_0 : decode cF_add 0 = .ok (.aload_n 0, 1) := by decide +kernel
theorem dF_add_1 : decode cF_add 1 = .ok (.getfield 39, 3) := by decide +kernel
theorem dF_add_4 : decode cF_add 4 = .ok (.istore 7, 2) := by decide +kernel
theorem dF_add_6 : decode cF_add 6 = .ok (.aload_n 0, 1) := by decide +kernel
theorem dF_add_7 : decode cF_add 7 = .ok (.getfield 9, 3) := by decide +kernel
theorem dF_add_10 : decode cF_add 10 = .ok (.iload 7, 2) := by decide +kernel
theorem dF_add_12 : decode cF_add 12 = .ok (.iload_n 1, 1) := by decide +kernel
theorem dF_add_13 : decode cF_add 13 = .ok (.iastore, 1) := by decide +kernel
theorem dF_add_14 : decode cF_add 14 = .ok (.aload_n 0, 1) := by decide +kernel
theorem dF_add_15 : decode cF_add 15 = .ok (.getfield 15, 3) := by decide +kernel
theorem dF_add_18 : decode cF_add 18 = .ok (.iload 7, 2) := by decide +kernel
theorem dF_add_20 : decode cF_add 20 = .ok (.iload_n 2, 1) := by decide +kernel
theorem dF_add_21 : decode cF_add 21 = .ok (.iastore, 1) := by decide +kernel
theorem dF_add_22 : decode cF_add 22 = .ok (.aload_n 0, 1) := by decide +kernel
theorem dF_add_23 : decode cF_add 23 = .ok (.getfield 18, 3) := by decide +kernel
theorem dF_add_26 : decode cF_add 26 = .ok (.iload 7, 2) := by decide +kernel
theorem dF_add_28 : decode cF_add 28 = .ok (.iload_n 3, 1) := by decide +kernel
theorem dF_add_29 : decode cF_add 29 = .ok (.iastore, 1) := by decide +kernel
theorem dF_add_30 : decode cF_add 30 = .ok (.aload_n 0, 1) := by decide +kernel
theorem dF_add_31 : decode cF_add 31 = .ok (.getfield 21, 3) := by decide +kernel
theorem dF_add_34 : decode cF_add 34 = .ok (.iload 7, 2) := by decide +kernel
theorem dF_add_36 : decode cF_add 36 = .ok (.iload 4, 2) := by decide +kernel
theorem dF_add_38 : decode cF_add 38 = .ok (.iastore, 1) := by decide +kernel
theorem dF_add_39 : decode cF_add 39 = .ok (.aload_n 0, 1) := by decide +kernel
theorem dF_add_40 : decode cF_add 40 = .ok (.getfield 24, 3) := by decide +kernel
theorem dF_add_43 : decode cF_add 43 = .ok (.iload 7, 2) := by decide +kernel
theorem dF_add_45 : decode cF_add 45 = .ok (.lload 5, 2) := by decide +kernel
theorem dF_add_47 : decode cF_add 47 = .ok (.lastore, 1) := by decide +kernel
theorem dF_add_48 : decode cF_add 48 = .ok (.aload_n 0, 1) := by decide +kernel
theorem dF_add_49 : decode cF_add 49 = .ok (.getfield 28, 3) := by decide +kernel
theorem dF_add_52 : decode cF_add 52 = .ok (.iload 7, 2) := by decide +kernel
theorem dF_add_54 : decode cF_add 54 = .ok (.iconst 1, 1) := by decide +kernel
theorem dF_add_55 : decode cF_add 55 = .ok (.bastore, 1) := by decide +kernel
theorem dF_add_56 : decode cF_add 56 = .ok (.aload_n 0, 1) := by decide +kernel
theorem dF_add_57 : decode cF_add 57 = .ok (.dup, 1) := by decide +kernel
theorem dF_add_58 : decode cF_add 58 = .ok (.getfield 32, 3) := by decide +kernel
theorem dF_add_61 : decode cF_add 61 = .ok (.iconst 1, 1) := by decide +kernel
theorem dF_add_62 : decode cF_add 62 = .ok (.iadd, 1) := by decide +kernel
theorem dF_add_63 : decode cF_add 63 = .ok (.putfield 32, 3) := by decide +kernel
theorem dF_add_66 : decode cF_add 66 = .ok (.aload_n 0, 1) := by decide +kernel
theorem dF_add_67 : decode cF_add 67 = .ok (.aload_n 0, 1) := by decide +kernel
theorem dF_add_68 : decode cF_add 68 = .ok (.getfield 36, 3) := by decide +kernel
theorem dF_add_71 : decode cF_add 71 = .ok (.iload 7, 2) := by decide +kernel
theorem dF_add_73 : decode cF_add 73 = .ok (.iconst 1, 1) := by decide +kernel
theorem dF_add_74 : decode cF_add 74 = .ok (.iadd, 1) := by decide +kernel
theorem dF_add_75 : decode cF_add 75 = .ok (.invokestatic 42, 3) := by decide +kernel
theorem dF_add_78 : decode cF_add 78 = .ok (.putfield 36, 3) := by decide +kernel
theorem dF_add_81 : decode cF_add 81 = .ok (.aload_n 0, 1) := by decide +kernel
theorem dF_add_82 : decode cF_add 82 = .ok (.iload 7, 2) := by decide +kernel
theorem dF_add_84 : decode cF_add 84 = .ok (.iconst 1, 1) := by decide +kernel
theorem dF_add_85 : decode cF_add 85 = .ok (.iadd, 1) := by decide +kernel
theorem dF_add_86 : decode cF_add 86 = .ok (.bipush 100, 2) := by decide +kernel
theorem dF_add_88 : decode cF_add 88 = .ok (.if_icmp .ge 10, 3) := by decide +kernel
theorem dF_add_91 : decode cF_add 91 = .ok (.iload 7, 2) := by decide +kernel
theorem dF_add_93 : decode cF_add 93 = .ok (.iconst 1, 1) := by decide +kernel
theorem dF_add_94 : decode cF_add 94 = .ok (.iadd, 1) := by decide +kernel
theorem dF_add_95 : decode cF_add 95 = .ok (.goto 4, 3) := by decide +kernel
theorem dF_add_98 : decode cF_add 98 = .ok (.iconst 0, 1) := by decide +kernel
theorem dF_add_99 : decode cF_add 99 = .ok (.putfield 39, 3) := by decide +kernel
theorem dF_add_102 : decode cF_add 102 = .ok (.iload 7, 2) := by decide +kernel
theorem dF_add_104 : decode cF_add 104 = .ok (.ireturn, 1) := by decide +kernel
theorem dF_breakThrough_0 : decode cF_breakThrough 0 = .ok (.lconst 1, 1) := by decide +kernel
theorem dF_breakThrough_1 : decode cF_breakThrough 1 = .ok (.iload_n 1, 1) := by decide +kernel
theorem dF_breakThrough_2 : decode cF_breakThrough 2 = .ok (.lshl, 1) := by decide +kernel
theorem dF_breakThrough_3 : decode cF_breakThrough 3 = .ok (.lstore_n 2, 1) := by decide +kernel
theorem dF_breakThrough_4 : decode cF_breakThrough 4 = .ok (.iconst 0, 1) := by decide +kernel
theorem dF_breakThrough_5 : decode cF_breakThrough 5 = .ok (.istore 4, 2) := by decide +kernel
theorem dF_breakThrough_7 : decode cF_breakThrough 7 = .ok (.iload 4, 2) := by decide +kernel
theorem dF_breakThrough_9 : decode cF_breakThrough 9 = .ok (.aload_n 0, 1) := by decide +kernel
theorem dF_breakThrough_10 : decode cF_breakThrough 10 = .ok (.getfield 36, 3) := by decide +kernel
theorem dF_breakThrough_13 : decode cF_breakThrough 13 = .ok (.if_icmp .ge 31, 3) := by decide +kernel
theorem dF_breakThrough_16 : decode cF_breakThrough 16 = .ok (.aload_n 0, 1) := by decide +kernel
theorem dF_breakThrough_17 : decode cF_breakThrough 17 = .ok (.getfield 24, 3) := by decide +kernel
theorem dF_breakThrough_20 : decode cF_breakThrough 20 = .ok (.iload 4, 2) := by decide +kernel
theorem dF_breakThrough_22 : decode cF_breakThrough 22 = .ok (.laload, 1) := by decide +kernel
theorem dF_breakThrough_23 : decode cF_breakThrough 23 = .ok (.lload_n 2, 1) := by decide +kernel
theorem dF_breakThrough_24 : decode cF_breakThrough 24 = .ok (.land, 1) := by decide +kernel
theorem dF_breakThrough_25 : decode cF_breakThrough 25 = .ok (.lconst 0, 1) := by decide +kernel
theorem dF_breakThrough_26 : decode cF_breakThrough 26 = .ok (.lcmp, 1) := by decide +kernel
theorem dF_breakThrough_27 : decode cF_breakThrough 27 = .ok (.ifCond .eq 11, 3) := by decide +kernel
theorem dF_breakThrough_30 : decode cF_breakThrough 30 = .ok (.aload_n 0, 1) := by decide +kernel
theorem dF_breakThrough_31 : decode cF_breakThrough 31 = .ok (.getfield 28, 3) := by decide +kernel
theorem dF_breakThrough_34 : decode cF_breakThrough 34 = .ok (.iload 4, 2) := by decide +kernel
theorem dF_breakThrough_36 : decode cF_breakThrough 36 = .ok (.iconst 0, 1) := by decide +kernel
theorem dF_breakThrough_37 : decode cF_breakThrough 37 = .ok (.bastore, 1) := by decide +kernel
theorem dF_breakThrough_38 : decode cF_breakThrough 38 = .ok (.iinc 4 1, 3) := by decide +kernel
theorem dF_breakThrough_41 : decode cF_breakThrough 41 = .ok (.goto (-34), 3) := by decide +kernel
theorem dF_breakThrough_44 : decode cF_breakThrough 44 = .ok (.return_, 1) := by decide +kernel
theorem dF_whereOf_0 : decode cF_whereOf 0 = .ok (.aload_n 0, 1) := by decide +kernel
theorem dF_whereOf_1 : decode cF_whereOf 1 = .ok (.getfield 21, 3) := by decide +kernel
theorem dF_whereOf_4 : decode cF_whereOf 4 = .ok (.iload_n 1, 1) := by decide +kernel
theorem dF_whereOf_5 : decode cF_whereOf 5 = .ok (.iaload, 1) := by decide +kernel
theorem dF_whereOf_6 : decode cF_whereOf 6 = .ok (.iconst (-1), 1) := by decide +kernel
theorem dF_whereOf_7 : decode cF_whereOf 7 = .ok (.if_icmp .ne 5, 3) := by decide +kernel
theorem dF_whereOf_10 : decode cF_whereOf 10 = .ok (.iconst 0, 1) := by decide +kernel
theorem dF_whereOf_11 : decode cF_whereOf 11 = .ok (.ireturn, 1) := by decide +kernel
theorem dF_whereOf_12 : decode cF_whereOf 12 = .ok (.aload_n 0, 1) := by decide +kernel
theorem dF_whereOf_13 : decode cF_whereOf 13 = .ok (.getfield 18, 3) := by decide +kernel
theorem dF_whereOf_16 : decode cF_whereOf 16 = .ok (.iload_n 1, 1) := by decide +kernel
theorem dF_whereOf_17 : decode cF_whereOf 17 = .ok (.iaload, 1) := by decide +kernel
theorem dF_whereOf_18 : decode cF_whereOf 18 = .ok (.iconst (-1), 1) := by decide +kernel
theorem dF_whereOf_19 : decode cF_whereOf 19 = .ok (.if_icmp .ne 7, 3) := by decide +kernel
theorem dF_whereOf_22 : decode cF_whereOf 22 = .ok (.iconst 1, 1) := by decide +kernel
theorem dF_whereOf_23 : decode cF_whereOf 23 = .ok (.goto 4, 3) := by decide +kernel
theorem dF_whereOf_26 : decode cF_whereOf 26 = .ok (.iconst 2, 1) := by decide +kernel
theorem dF_whereOf_27 : decode cF_whereOf 27 = .ok (.ireturn, 1) := by decide +kernel
theorem dF_countHolding_0 : decode cF_countHolding 0 = .ok (.iconst 0, 1) := by decide +kernel
theorem dF_countHolding_1 : decode cF_countHolding 1 = .ok (.istore_n 1, 1) := by decide +kernel
theorem dF_countHolding_2 : decode cF_countHolding 2 = .ok (.iconst 0, 1) := by decide +kernel
theorem dF_countHolding_3 : decode cF_countHolding 3 = .ok (.istore_n 2, 1) := by decide +kernel
theorem dF_countHolding_4 : decode cF_countHolding 4 = .ok (.iload_n 2, 1) := by decide +kernel
theorem dF_countHolding_5 : decode cF_countHolding 5 = .ok (.aload_n 0, 1) := by decide +kernel
theorem dF_countHolding_6 : decode cF_countHolding 6 = .ok (.getfield 36, 3) := by decide +kernel
theorem dF_countHolding_9 : decode cF_countHolding 9 = .ok (.if_icmp .ge 21, 3) := by decide +kernel
theorem dF_countHolding_12 : decode cF_countHolding 12 = .ok (.aload_n 0, 1) := by decide +kernel
theorem dF_countHolding_13 : decode cF_countHolding 13 = .ok (.getfield 28, 3) := by decide +kernel
theorem dF_countHolding_16 : decode cF_countHolding 16 = .ok (.iload_n 2, 1) := by decide +kernel
theorem dF_countHolding_17 : decode cF_countHolding 17 = .ok (.baload, 1) := by decide +kernel
theorem dF_countHolding_18 : decode cF_countHolding 18 = .ok (.ifCond .eq 6, 3) := by decide +kernel
theorem dF_countHolding_21 : decode cF_countHolding 21 = .ok (.iinc 1 1, 3) := by decide +kernel
theorem dF_countHolding_24 : decode cF_countHolding 24 = .ok (.iinc 2 1, 3) := by decide +kernel
theorem dF_countHolding_27 : decode cF_countHolding 27 = .ok (.goto (-23), 3) := by decide +kernel
theorem dF_countHolding_30 : decode cF_countHolding 30 = .ok (.iload_n 1, 1) := by decide +kernel
theorem dF_countHolding_31 : decode cF_countHolding 31 = .ok (.ireturn, 1) := by decide +kernel

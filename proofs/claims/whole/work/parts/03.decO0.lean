theorem dO_init_0 : decode cO_init 0 = .ok (.aload_n 0, 1) := by decide +kernel
theorem dO_init_1 : decode cO_init 1 = .ok (.invokespecial 3, 3) := by decide +kernel
theorem dO_init_4 : decode cO_init 4 = .ok (.aload_n 0, 1) := by decide +kernel
theorem dO_init_5 : decode cO_init 5 = .ok (.bipush 60, 2) := by decide +kernel
theorem dO_init_7 : decode cO_init 7 = .ok (.newarray .int, 2) := by decide +kernel
theorem dO_init_9 : decode cO_init 9 = .ok (.putfield 9, 3) := by decide +kernel
theorem dO_init_12 : decode cO_init 12 = .ok (.aload_n 0, 1) := by decide +kernel
theorem dO_init_13 : decode cO_init 13 = .ok (.bipush 60, 2) := by decide +kernel
theorem dO_init_15 : decode cO_init 15 = .ok (.newarray .int, 2) := by decide +kernel
theorem dO_init_17 : decode cO_init 17 = .ok (.putfield 15, 3) := by decide +kernel
theorem dO_init_20 : decode cO_init 20 = .ok (.aload_n 0, 1) := by decide +kernel
theorem dO_init_21 : decode cO_init 21 = .ok (.bipush 60, 2) := by decide +kernel
theorem dO_init_23 : decode cO_init 23 = .ok (.newarray .int, 2) := by decide +kernel
theorem dO_init_25 : decode cO_init 25 = .ok (.putfield 18, 3) := by decide +kernel
theorem dO_init_28 : decode cO_init 28 = .ok (.aload_n 0, 1) := by decide +kernel
theorem dO_init_29 : decode cO_init 29 = .ok (.bipush 60, 2) := by decide +kernel
theorem dO_init_31 : decode cO_init 31 = .ok (.bipush 12, 2) := by decide +kernel
theorem dO_init_33 : decode cO_init 33 = .ok (.multianewarray 21 2, 4) := by decide +kernel
theorem dO_init_37 : decode cO_init 37 = .ok (.putfield 23, 3) := by decide +kernel
theorem dO_init_40 : decode cO_init 40 = .ok (.aload_n 0, 1) := by decide +kernel
theorem dO_init_41 : decode cO_init 41 = .ok (.iconst 0, 1) := by decide +kernel
theorem dO_init_42 : decode cO_init 42 = .ok (.putfield 26, 3) := by decide +kernel
theorem dO_init_45 : decode cO_init 45 = .ok (.return_, 1) := by decide +kernel
theorem dO_has_0 : decode cO_has 0 = .ok (.iload_n 1, 1) := by decide +kernel
theorem dO_has_1 : decode cO_has 1 = .ok (.ifCond .lt 15, 3) := by decide +kernel
theorem dO_has_4 : decode cO_has 4 = .ok (.iload_n 1, 1) := by decide +kernel
theorem dO_has_5 : decode cO_has 5 = .ok (.aload_n 0, 1) := by decide +kernel
theorem dO_has_6 : decode cO_has 6 = .ok (.getfield 26, 3) := by decide +kernel
theorem dO_has_9 : decode cO_has 9 = .ok (.if_icmp .ge 7, 3) := by decide +kernel
theorem dO_has_12 : decode cO_has 12 = .ok (.iconst 1, 1) := by decide +kernel
theorem dO_has_13 : decode cO_has 13 = .ok (.goto 4, 3) := by decide +kernel
theorem dO_has_16 : decode cO_has 16 = .ok (.iconst 0, 1) := by decide +kernel
theorem dO_has_17 : decode cO_has 17 = .ok (.ireturn, 1) := by decide +kernel
theorem dO_canBePrototype_0 : decode cO_canBePrototype 0 = .ok (.iload_n 1, 1) := by decide +kernel
theorem dO_canBePrototype_1 : decode cO_canBePrototype 1 = .ok (.iconst (-1), 1) := by decide +kernel
theorem dO_canBePrototype_2 : decode cO_canBePrototype 2 = .ok (.if_icmp .eq 11, 3) := by decide +kernel
theorem dO_canBePrototype_5 : decode cO_canBePrototype 5 = .ok (.aload_n 0, 1) := by decide +kernel
theorem dO_canBePrototype_6 : decode cO_canBePrototype 6 = .ok (.iload_n 1, 1) := by decide +kernel
theorem dO_canBePrototype_7 : decode cO_canBePrototype 7 = .ok (.invokevirtual 30, 3) := by decide +kernel
theorem dO_canBePrototype_10 : decode cO_canBePrototype 10 = .ok (.ifCond .eq 7, 3) := by decide +kernel
theorem dO_canBePrototype_13 : decode cO_canBePrototype 13 = .ok (.iconst 1, 1) := by decide +kernel
theorem dO_canBePrototype_14 : decode cO_canBePrototype 14 = .ok (.goto 4, 3) := by decide +kernel
theorem dO_canBePrototype_17 : decode cO_canBePrototype 17 = .ok (.iconst 0, 1) := by decide +kernel
theorem dO_canBePrototype_18 : decode cO_canBePrototype 18 = .ok (.ireturn, 1) := by decide +kernel
theorem dO_add_0 : decode cO_add 0 = .ok (.aload_n 0, 1) := by decide +kernel
theorem dO_add_1 : decode cO_add 1 = .ok (.getfield 26, 3) := by decide +kernel
theorem dO_add_4 : decode cO_add 4 = .ok (.istore_n 3, 1) := by decide +kernel
theorem dO_add_5 : decode cO_add 5 = .ok (.aload_n 0, 1) := by decide +kernel
theorem dO_add_6 : decode cO_add 6 = .ok (.getfield 9, 3) := by decide +kernel
theorem dO_add_9 : decode cO_add 9 = .ok (.iload_n 3, 1) := by decide +kernel
theorem dO_add_10 : decode cO_add 10 = .ok (.iload_n 1, 1) := by decide +kernel
theorem dO_add_11 : decode cO_add 11 = .ok (.iastore, 1) := by decide +kernel
theorem dO_add_12 : decode cO_add 12 = .ok (.aload_n 0, 1) := by decide +kernel
theorem dO_add_13 : decode cO_add 13 = .ok (.getfield 15, 3) := by decide +kernel
theorem dO_add_16 : decode cO_add 16 = .ok (.iload_n 3, 1) := by decide +kernel
theorem dO_add_17 : decode cO_add 17 = .ok (.iload_n 2, 1) := by decide +kernel
theorem dO_add_18 : decode cO_add 18 = .ok (.iastore, 1) := by decide +kernel
theorem dO_add_19 : decode cO_add 19 = .ok (.aload_n 0, 1) := by decide +kernel
theorem dO_add_20 : decode cO_add 20 = .ok (.dup, 1) := by decide +kernel
theorem dO_add_21 : decode cO_add 21 = .ok (.getfield 26, 3) := by decide +kernel
theorem dO_add_24 : decode cO_add 24 = .ok (.iconst 1, 1) := by decide +kernel
theorem dO_add_25 : decode cO_add 25 = .ok (.iadd, 1) := by decide +kernel
theorem dO_add_26 : decode cO_add 26 = .ok (.putfield 26, 3) := by decide +kernel
theorem dO_add_29 : decode cO_add 29 = .ok (.iload_n 3, 1) := by decide +kernel
theorem dO_add_30 : decode cO_add 30 = .ok (.ireturn, 1) := by decide +kernel
theorem dO_closeGap_0 : decode cO_closeGap 0 = .ok (.iload_n 2, 1) := by decide +kernel
theorem dO_closeGap_1 : decode cO_closeGap 1 = .ok (.istore_n 3, 1) := by decide +kernel
theorem dO_closeGap_2 : decode cO_closeGap 2 = .ok (.iload_n 3, 1) := by decide +kernel
theorem dO_closeGap_3 : decode cO_closeGap 3 = .ok (.iconst 1, 1) := by decide +kernel
theorem dO_closeGap_4 : decode cO_closeGap 4 = .ok (.iadd, 1) := by decide +kernel
theorem dO_closeGap_5 : decode cO_closeGap 5 = .ok (.bipush 12, 2) := by decide +kernel
theorem dO_closeGap_7 : decode cO_closeGap 7 = .ok (.if_icmp .ge 27, 3) := by decide +kernel
theorem dO_closeGap_10 : decode cO_closeGap 10 = .ok (.aload_n 0, 1) := by decide +kernel
theorem dO_closeGap_11 : decode cO_closeGap 11 = .ok (.getfield 23, 3) := by decide +kernel
theorem dO_closeGap_14 : decode cO_closeGap 14 = .ok (.iload_n 1, 1) := by decide +kernel
theorem dO_closeGap_15 : decode cO_closeGap 15 = .ok (.aaload, 1) := by decide +kernel
theorem dO_closeGap_16 : decode cO_closeGap 16 = .ok (.iload_n 3, 1) := by decide +kernel
theorem dO_closeGap_17 : decode cO_closeGap 17 = .ok (.aload_n 0, 1) := by decide +kernel
theorem dO_closeGap_18 : decode cO_closeGap 18 = .ok (.getfield 23, 3) := by decide +kernel
theorem dO_closeGap_21 : decode cO_closeGap 21 = .ok (.iload_n 1, 1) := by decide +kernel
theorem dO_closeGap_22 : decode cO_closeGap 22 = .ok (.aaload, 1) := by decide +kernel
theorem dO_closeGap_23 : decode cO_closeGap 23 = .ok (.iload_n 3, 1) := by decide +kernel
theorem dO_closeGap_24 : decode cO_closeGap 24 = .ok (.iconst 1, 1) := by decide +kernel
theorem dO_closeGap_25 : decode cO_closeGap 25 = .ok (.iadd, 1) := by decide +kernel
theorem dO_closeGap_26 : decode cO_closeGap 26 = .ok (.iaload, 1) := by decide +kernel
theorem dO_closeGap_27 : decode cO_closeGap 27 = .ok (.iastore, 1) := by decide +kernel
theorem dO_closeGap_28 : decode cO_closeGap 28 = .ok (.iinc 3 1, 3) := by decide +kernel
theorem dO_closeGap_31 : decode cO_closeGap 31 = .ok (.goto (-29), 3) := by decide +kernel
theorem dO_closeGap_34 : decode cO_closeGap 34 = .ok (.return_, 1) := by decide +kernel
theorem dO_leadsTo_0 : decode cO_leadsTo 0 = .ok (.iload_n 1, 1) := by decide +kernel
theorem dO_leadsTo_1 : decode cO_leadsTo 1 = .ok (.istore_n 3, 1) := by decide +kernel
theorem dO_leadsTo_2 : decode cO_leadsTo 2 = .ok (.iconst 0, 1) := by decide +kernel
theorem dO_leadsTo_3 : decode cO_leadsTo 3 = .ok (.istore 4, 2) := by decide +kernel
theorem dO_leadsTo_5 : decode cO_leadsTo 5 = .ok (.iload_n 3, 1) := by decide +kernel
theorem dO_leadsTo_6 : decode cO_leadsTo 6 = .ok (.iconst (-1), 1) := by decide +kernel
theorem dO_leadsTo_7 : decode cO_leadsTo 7 = .ok (.if_icmp .eq 30, 3) := by decide +kernel
theorem dO_leadsTo_10 : decode cO_leadsTo 10 = .ok (.iload 4, 2) := by decide +kernel
theorem dO_leadsTo_12 : decode cO_leadsTo 12 = .ok (.bipush 60, 2) := by decide +kernel
theorem dO_leadsTo_14 : decode cO_leadsTo 14 = .ok (.if_icmp .ge 23, 3) := by decide +kernel
theorem dO_leadsTo_17 : decode cO_leadsTo 17 = .ok (.iload_n 3, 1) := by decide +kernel
theorem dO_leadsTo_18 : decode cO_leadsTo 18 = .ok (.iload_n 2, 1) := by decide +kernel
theorem dO_leadsTo_19 : decode cO_leadsTo 19 = .ok (.if_icmp .ne 5, 3) := by decide +kernel
theorem dO_leadsTo_22 : decode cO_leadsTo 22 = .ok (.iconst 1, 1) := by decide +kernel
theorem dO_leadsTo_23 : decode cO_leadsTo 23 = .ok (.ireturn, 1) := by decide +kernel
theorem dO_leadsTo_24 : decode cO_leadsTo 24 = .ok (.aload_n 0, 1) := by decide +kernel
theorem dO_leadsTo_25 : decode cO_leadsTo 25 = .ok (.getfield 9, 3) := by decide +kernel
theorem dO_leadsTo_28 : decode cO_leadsTo 28 = .ok (.iload_n 3, 1) := by decide +kernel
theorem dO_leadsTo_29 : decode cO_leadsTo 29 = .ok (.iaload, 1) := by decide +kernel
theorem dO_leadsTo_30 : decode cO_leadsTo 30 = .ok (.istore_n 3, 1) := by decide +kernel
theorem dO_leadsTo_31 : decode cO_leadsTo 31 = .ok (.iinc 4 1, 3) := by decide +kernel
theorem dO_leadsTo_34 : decode cO_leadsTo 34 = .ok (.goto (-29), 3) := by decide +kernel
theorem dO_leadsTo_37 : decode cO_leadsTo 37 = .ok (.iconst 0, 1) := by decide +kernel
theorem dO_leadsTo_38 : decode cO_leadsTo 38 = .ok (.ireturn, 1) := by decide +kernel
theorem dO_way_0 : decode cO_way 0 = .ok (.lconst 0, 1) := by decide +kernel
theorem dO_way_1 : decode cO_way 1 = .ok (.lstore_n 3, 1) := by decide +kernel
theorem dO_way_2 : decode cO_way 2 = .ok (.iload_n 1, 1) := by decide +kernel
theorem dO_way_3 : decode cO_way 3 = .ok (.istore 5, 2) := by decide +kernel
theorem dO_way_5 : decode cO_way 5 = .ok (.iconst 0, 1) := by decide +kernel
theorem dO_way_6 : decode cO_way 6 = .ok (.istore 6, 2) := by decide +kernel
theorem dO_way_8 : decode cO_way 8 = .ok (.iload 5, 2) := by decide +kernel
theorem dO_way_10 : decode cO_way 10 = .ok (.iconst (-1), 1) := by decide +kernel
theorem dO_way_11 : decode cO_way 11 = .ok (.if_icmp .eq 40, 3) := by decide +kernel
theorem dO_way_14 : decode cO_way 14 = .ok (.iload 6, 2) := by decide +kernel
theorem dO_way_16 : decode cO_way 16 = .ok (.bipush 60, 2) := by decide +kernel
theorem dO_way_18 : decode cO_way 18 = .ok (.if_icmp .ge 33, 3) := by decide +kernel
theorem dO_way_21 : decode cO_way 21 = .ok (.lload_n 3, 1) := by decide +kernel
theorem dO_way_22 : decode cO_way 22 = .ok (.lconst 1, 1) := by decide +kernel
theorem dO_way_23 : decode cO_way 23 = .ok (.iload 5, 2) := by decide +kernel
theorem dO_way_25 : decode cO_way 25 = .ok (.lshl, 1) := by decide +kernel
theorem dO_way_26 : decode cO_way 26 = .ok (.lor, 1) := by decide +kernel
theorem dO_way_27 : decode cO_way 27 = .ok (.lstore_n 3, 1) := by decide +kernel
theorem dO_way_28 : decode cO_way 28 = .ok (.iload 5, 2) := by decide +kernel
theorem dO_way_30 : decode cO_way 30 = .ok (.iload_n 2, 1) := by decide +kernel
theorem dO_way_31 : decode cO_way 31 = .ok (.if_icmp .ne 5, 3) := by decide +kernel
theorem dO_way_34 : decode cO_way 34 = .ok (.lload_n 3, 1) := by decide +kernel
theorem dO_way_35 : decode cO_way 35 = .ok (.lreturn, 1) := by decide +kernel
theorem dO_way_36 : decode cO_way 36 = .ok (.aload_n 0, 1) := by decide +kernel
theorem dO_way_37 : decode cO_way 37 = .ok (.getfield 9, 3) := by decide +kernel
theorem dO_way_40 : decode cO_way 40 = .ok (.iload 5, 2) := by decide +kernel
theorem dO_way_42 : decode cO_way 42 = .ok (.iaload, 1) := by decide +kernel
theorem dO_way_43 : decode cO_way 43 = .ok (.istore 5, 2) := by decide +kernel
theorem dO_way_45 : decode cO_way 45 = .ok (.iinc 6 1, 3) := by decide +kernel
theorem dO_way_48 : decode cO_way 48 = .ok (.goto (-40), 3) := by decide +kernel
theorem dO_way_51 : decode cO_way 51 = .ok (.lload_n 3, 1) := by decide +kernel
theorem dO_way_52 : decode cO_way 52 = .ok (.lreturn, 1) := by decide +kernel
theorem dO_countAbove_0 : decode cO_countAbove 0 = .ok (.aload_n 0, 1) := by decide +kernel
theorem dO_countAbove_1 : decode cO_countAbove 1 = .ok (.aload_n 0, 1) := by decide +kernel
theorem dO_countAbove_2 : decode cO_countAbove 2 = .ok (.getfield 9, 3) := by decide +kernel
theorem dO_countAbove_5 : decode cO_countAbove 5 = .ok (.iload_n 1, 1) := by decide +kernel
theorem dO_countAbove_6 : decode cO_countAbove 6 = .ok (.iaload, 1) := by decide +kernel
theorem dO_countAbove_7 : decode cO_countAbove 7 = .ok (.iconst (-1), 1) := by decide +kernel
theorem dO_countAbove_8 : decode cO_countAbove 8 = .ok (.invokevirtual 34, 3) := by decide +kernel
theorem dO_countAbove_11 : decode cO_countAbove 11 = .ok (.invokestatic 38, 3) := by decide +kernel
theorem dO_countAbove_14 : decode cO_countAbove 14 = .ok (.ireturn, 1) := by decide +kernel
theorem dO_countBelow_0 : decode cO_countBelow 0 = .ok (.iconst 0, 1) := by decide +kernel
theorem dO_countBelow_1 : decode cO_countBelow 1 = .ok (.istore_n 2, 1) := by decide +kernel
theorem dO_countBelow_2 : decode cO_countBelow 2 = .ok (.iconst 0, 1) := by decide +kernel
theorem dO_countBelow_3 : decode cO_countBelow 3 = .ok (.istore_n 3, 1) := by decide +kernel
theorem dO_countBelow_4 : decode cO_countBelow 4 = .ok (.iload_n 3, 1) := by decide +kernel
theorem dO_countBelow_5 : decode cO_countBelow 5 = .ok (.aload_n 0, 1) := by decide +kernel
theorem dO_countBelow_6 : decode cO_countBelow 6 = .ok (.getfield 26, 3) := by decide +kernel
theorem dO_countBelow_9 : decode cO_countBelow 9 = .ok (.if_icmp .ge 26, 3) := by decide +kernel
theorem dO_countBelow_12 : decode cO_countBelow 12 = .ok (.aload_n 0, 1) := by decide +kernel
theorem dO_countBelow_13 : decode cO_countBelow 13 = .ok (.aload_n 0, 1) := by decide +kernel
theorem dO_countBelow_14 : decode cO_countBelow 14 = .ok (.getfield 9, 3) := by decide +kernel
theorem dO_countBelow_17 : decode cO_countBelow 17 = .ok (.iload_n 3, 1) := by decide +kernel
theorem dO_countBelow_18 : decode cO_countBelow 18 = .ok (.iaload, 1) := by decide +kernel
theorem dO_countBelow_19 : decode cO_countBelow 19 = .ok (.iload_n 1, 1) := by decide +kernel
theorem dO_countBelow_20 : decode cO_countBelow 20 = .ok (.invokevirtual 44, 3) := by decide +kernel
theorem dO_countBelow_23 : decode cO_countBelow 23 = .ok (.ifCond .eq 6, 3) := by decide +kernel
theorem dO_countBelow_26 : decode cO_countBelow 26 = .ok (.iinc 2 1, 3) := by decide +kernel
theorem dO_countBelow_29 : decode cO_countBelow 29 = .ok (.iinc 3 1, 3) := by decide +kernel
theorem dO_countBelow_32 : decode cO_countBelow 32 = .ok (.goto (-28), 3) := by decide +kernel
theorem dO_countBelow_35 : decode cO_countBelow 35 = .ok (.iload_n 2, 1) := by decide +kernel
theorem dO_countBelow_36 : decode cO_countBelow 36 = .ok (.ireturn, 1) := by decide +kernel
theorem dO_countOfShape_0 : decode cO_countOfShape 0 = .ok (.iconst 0, 1) := by decide +kernel
theorem dO_countOfShape_1 : decode cO_countOfShape 1 = .ok (.istore_n 2, 1) := by decide +kernel
theorem dO_countOfShape_2 : decode cO_countOfShape 2 = .ok (.iconst 0, 1) := by decide +kernel
theorem dO_countOfShape_3 : decode cO_countOfShape 3 = .ok (.istore_n 3, 1) := by decide +kernel
theorem dO_countOfShape_4 : decode cO_countOfShape 4 = .ok (.iload_n 3, 1) := by decide +kernel
theorem dO_countOfShape_5 : decode cO_countOfShape 5 = .ok (.aload_n 0, 1) := by decide +kernel
theorem dO_countOfShape_6 : decode cO_countOfShape 6 = .ok (.getfield 26, 3) := by decide +kernel
theorem dO_countOfShape_9 : decode cO_countOfShape 9 = .ok (.if_icmp .ge 22, 3) := by decide +kernel
theorem dO_countOfShape_12 : decode cO_countOfShape 12 = .ok (.aload_n 0, 1) := by decide +kernel
theorem dO_countOfShape_13 : decode cO_countOfShape 13 = .ok (.getfield 15, 3) := by decide +kernel
theorem dO_countOfShape_16 : decode cO_countOfShape 16 = .ok (.iload_n 3, 1) := by decide +kernel
theorem dO_countOfShape_17 : decode cO_countOfShape 17 = .ok (.iaload, 1) := by decide +kernel
theorem dO_countOfShape_18 : decode cO_countOfShape 18 = .ok (.iload_n 1, 1) := by decide +kernel
theorem dO_countOfShape_19 : decode cO_countOfShape 19 = .ok (.if_icmp .ne 6, 3) := by decide +kernel
theorem dO_countOfShape_22 : decode cO_countOfShape 22 = .ok (.iinc 2 1, 3) := by decide +kernel
theorem dO_countOfShape_25 : decode cO_countOfShape 25 = .ok (.iinc 3 1, 3) := by decide +kernel
theorem dO_countOfShape_28 : decode cO_countOfShape 28 = .ok (.goto (-24), 3) := by decide +kernel
theorem dO_countOfShape_31 : decode cO_countOfShape 31 = .ok (.iload_n 2, 1) := by decide +kernel
theorem dO_countOfShape_32 : decode cO_countOfShape 32 = .ok (.ireturn, 1) := by decide +kernel
